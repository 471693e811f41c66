theorem d_Rl_init_0 : decode b_Rl_init 0 = .ok (.aload_n 0, 1) := by decide +kernel
theorem d_Rl_init_1 : decode b_Rl_init 1 = .ok (.invokespecial 3, 3) := by decide +kernel
theorem d_Rl_init_4 : decode b_Rl_init 4 = .ok (.aload_n 0, 1) := by decide +kernel
theorem d_Rl_init_5 : decode b_Rl_init 5 = .ok (.bipush 120, 2) := by decide +kernel
theorem d_Rl_init_7 : decode b_Rl_init 7 = .ok (.newarray .int, 2) := by decide +kernel
theorem d_Rl_init_9 : decode b_Rl_init 9 = .ok (.putfield 9, 3) := by decide +kernel
theorem d_Rl_init_12 : decode b_Rl_init 12 = .ok (.aload_n 0, 1) := by decide +kernel
theorem d_Rl_init_13 : decode b_Rl_init 13 = .ok (.iconst 0, 1) := by decide +kernel
theorem d_Rl_init_14 : decode b_Rl_init 14 = .ok (.putfield 13, 3) := by decide +kernel
theorem d_Rl_init_17 : decode b_Rl_init 17 = .ok (.aload_n 0, 1) := by decide +kernel
theorem d_Rl_init_18 : decode b_Rl_init 18 = .ok (.ldc 17, 2) := by decide +kernel
theorem d_Rl_init_20 : decode b_Rl_init 20 = .ok (.putfield 18, 3) := by decide +kernel
theorem d_Rl_init_23 : decode b_Rl_init 23 = .ok (.aload_n 0, 1) := by decide +kernel
theorem d_Rl_init_24 : decode b_Rl_init 24 = .ok (.iconst 0, 1) := by decide +kernel
theorem d_Rl_init_25 : decode b_Rl_init 25 = .ok (.putfield 21, 3) := by decide +kernel
theorem d_Rl_init_28 : decode b_Rl_init 28 = .ok (.aload_n 0, 1) := by decide +kernel
theorem d_Rl_init_29 : decode b_Rl_init 29 = .ok (.new 25, 3) := by decide +kernel
theorem d_Rl_init_32 : decode b_Rl_init 32 = .ok (.dup, 1) := by decide +kernel
theorem d_Rl_init_33 : decode b_Rl_init 33 = .ok (.invokespecial 27, 3) := by decide +kernel
theorem d_Rl_init_36 : decode b_Rl_init 36 = .ok (.putfield 28, 3) := by decide +kernel
theorem d_Rl_init_39 : decode b_Rl_init 39 = .ok (.aload_n 0, 1) := by decide +kernel
theorem d_Rl_init_40 : decode b_Rl_init 40 = .ok (.new 32, 3) := by decide +kernel
theorem d_Rl_init_43 : decode b_Rl_init 43 = .ok (.dup, 1) := by decide +kernel
theorem d_Rl_init_44 : decode b_Rl_init 44 = .ok (.aload_n 0, 1) := by decide +kernel
theorem d_Rl_init_45 : decode b_Rl_init 45 = .ok (.getfield 28, 3) := by decide +kernel
theorem d_Rl_init_48 : decode b_Rl_init 48 = .ok (.invokespecial 34, 3) := by decide +kernel
theorem d_Rl_init_51 : decode b_Rl_init 51 = .ok (.putfield 37, 3) := by decide +kernel
theorem d_Rl_init_54 : decode b_Rl_init 54 = .ok (.aload_n 0, 1) := by decide +kernel
theorem d_Rl_init_55 : decode b_Rl_init 55 = .ok (.new 41, 3) := by decide +kernel
theorem d_Rl_init_58 : decode b_Rl_init 58 = .ok (.dup, 1) := by decide +kernel
theorem d_Rl_init_59 : decode b_Rl_init 59 = .ok (.aload_n 0, 1) := by decide +kernel
theorem d_Rl_init_60 : decode b_Rl_init 60 = .ok (.getfield 28, 3) := by decide +kernel
theorem d_Rl_init_63 : decode b_Rl_init 63 = .ok (.invokespecial 43, 3) := by decide +kernel
theorem d_Rl_init_66 : decode b_Rl_init 66 = .ok (.putfield 44, 3) := by decide +kernel
theorem d_Rl_init_69 : decode b_Rl_init 69 = .ok (.return_, 1) := by decide +kernel
theorem d_Rl_say_0 : decode b_Rl_say 0 = .ok (.iload_n 1, 1) := by decide +kernel
theorem d_Rl_say_1 : decode b_Rl_say 1 = .ok (.iload_n 2, 1) := by decide +kernel
theorem d_Rl_say_2 : decode b_Rl_say 2 = .ok (.iload_n 3, 1) := by decide +kernel
theorem d_Rl_say_3 : decode b_Rl_say 3 = .ok (.invokestatic 48, 3) := by decide +kernel
theorem d_Rl_say_6 : decode b_Rl_say 6 = .ok (.ifCond .ne 5, 3) := by decide +kernel
theorem d_Rl_say_9 : decode b_Rl_say 9 = .ok (.iconst (-1), 1) := by decide +kernel
theorem d_Rl_say_10 : decode b_Rl_say 10 = .ok (.ireturn, 1) := by decide +kernel
theorem d_Rl_say_11 : decode b_Rl_say 11 = .ok (.iload_n 1, 1) := by decide +kernel
theorem d_Rl_say_12 : decode b_Rl_say 12 = .ok (.iload_n 2, 1) := by decide +kernel
theorem d_Rl_say_13 : decode b_Rl_say 13 = .ok (.iload_n 3, 1) := by decide +kernel
theorem d_Rl_say_14 : decode b_Rl_say 14 = .ok (.invokestatic 52, 3) := by decide +kernel
theorem d_Rl_say_17 : decode b_Rl_say 17 = .ok (.istore 4, 2) := by decide +kernel
theorem d_Rl_say_19 : decode b_Rl_say 19 = .ok (.aload_n 0, 1) := by decide +kernel
theorem d_Rl_say_20 : decode b_Rl_say 20 = .ok (.iload 4, 2) := by decide +kernel
theorem d_Rl_say_22 : decode b_Rl_say 22 = .ok (.invokevirtual 56, 3) := by decide +kernel
theorem d_Rl_say_25 : decode b_Rl_say 25 = .ok (.iconst (-1), 1) := by decide +kernel
theorem d_Rl_say_26 : decode b_Rl_say 26 = .ok (.if_icmp .eq 5, 3) := by decide +kernel
theorem d_Rl_say_29 : decode b_Rl_say 29 = .ok (.iconst 0, 1) := by decide +kernel
theorem d_Rl_say_30 : decode b_Rl_say 30 = .ok (.ireturn, 1) := by decide +kernel
theorem d_Rl_say_31 : decode b_Rl_say 31 = .ok (.aload_n 0, 1) := by decide +kernel
theorem d_Rl_say_32 : decode b_Rl_say 32 = .ok (.getfield 13, 3) := by decide +kernel
theorem d_Rl_say_35 : decode b_Rl_say 35 = .ok (.bipush 120, 2) := by decide +kernel
theorem d_Rl_say_37 : decode b_Rl_say 37 = .ok (.if_icmp .lt 6, 3) := by decide +kernel
theorem d_Rl_say_40 : decode b_Rl_say 40 = .ok (.bipush (-3), 2) := by decide +kernel
theorem d_Rl_say_42 : decode b_Rl_say 42 = .ok (.ireturn, 1) := by decide +kernel
theorem d_Rl_say_43 : decode b_Rl_say 43 = .ok (.aload_n 0, 1) := by decide +kernel
theorem d_Rl_say_44 : decode b_Rl_say 44 = .ok (.getfield 9, 3) := by decide +kernel
theorem d_Rl_say_47 : decode b_Rl_say 47 = .ok (.aload_n 0, 1) := by decide +kernel
theorem d_Rl_say_48 : decode b_Rl_say 48 = .ok (.getfield 13, 3) := by decide +kernel
theorem d_Rl_say_51 : decode b_Rl_say 51 = .ok (.iload 4, 2) := by decide +kernel
theorem d_Rl_say_53 : decode b_Rl_say 53 = .ok (.iastore, 1) := by decide +kernel
theorem d_Rl_say_54 : decode b_Rl_say 54 = .ok (.aload_n 0, 1) := by decide +kernel
theorem d_Rl_say_55 : decode b_Rl_say 55 = .ok (.dup, 1) := by decide +kernel
theorem d_Rl_say_56 : decode b_Rl_say 56 = .ok (.getfield 13, 3) := by decide +kernel
theorem d_Rl_say_59 : decode b_Rl_say 59 = .ok (.iconst 1, 1) := by decide +kernel
theorem d_Rl_say_60 : decode b_Rl_say 60 = .ok (.iadd, 1) := by decide +kernel
theorem d_Rl_say_61 : decode b_Rl_say 61 = .ok (.putfield 13, 3) := by decide +kernel
theorem d_Rl_say_64 : decode b_Rl_say 64 = .ok (.aload_n 0, 1) := by decide +kernel
theorem d_Rl_say_65 : decode b_Rl_say 65 = .ok (.iconst 0, 1) := by decide +kernel
theorem d_Rl_say_66 : decode b_Rl_say 66 = .ok (.putfield 21, 3) := by decide +kernel
theorem d_Rl_say_69 : decode b_Rl_say 69 = .ok (.iconst 1, 1) := by decide +kernel
theorem d_Rl_say_70 : decode b_Rl_say 70 = .ok (.ireturn, 1) := by decide +kernel
theorem d_Rl_unsay_0 : decode b_Rl_unsay 0 = .ok (.iload_n 1, 1) := by decide +kernel
theorem d_Rl_unsay_1 : decode b_Rl_unsay 1 = .ok (.iload_n 2, 1) := by decide +kernel
theorem d_Rl_unsay_2 : decode b_Rl_unsay 2 = .ok (.iload_n 3, 1) := by decide +kernel
theorem d_Rl_unsay_3 : decode b_Rl_unsay 3 = .ok (.invokestatic 48, 3) := by decide +kernel
theorem d_Rl_unsay_6 : decode b_Rl_unsay 6 = .ok (.ifCond .ne 5, 3) := by decide +kernel
theorem d_Rl_unsay_9 : decode b_Rl_unsay 9 = .ok (.iconst (-1), 1) := by decide +kernel
theorem d_Rl_unsay_10 : decode b_Rl_unsay 10 = .ok (.ireturn, 1) := by decide +kernel
theorem d_Rl_unsay_11 : decode b_Rl_unsay 11 = .ok (.aload_n 0, 1) := by decide +kernel
theorem d_Rl_unsay_12 : decode b_Rl_unsay 12 = .ok (.iload_n 1, 1) := by decide +kernel
theorem d_Rl_unsay_13 : decode b_Rl_unsay 13 = .ok (.iload_n 2, 1) := by decide +kernel
theorem d_Rl_unsay_14 : decode b_Rl_unsay 14 = .ok (.iload_n 3, 1) := by decide +kernel
theorem d_Rl_unsay_15 : decode b_Rl_unsay 15 = .ok (.invokestatic 52, 3) := by decide +kernel
theorem d_Rl_unsay_18 : decode b_Rl_unsay 18 = .ok (.invokevirtual 56, 3) := by decide +kernel
theorem d_Rl_unsay_21 : decode b_Rl_unsay 21 = .ok (.istore 4, 2) := by decide +kernel
theorem d_Rl_unsay_23 : decode b_Rl_unsay 23 = .ok (.iload 4, 2) := by decide +kernel
theorem d_Rl_unsay_25 : decode b_Rl_unsay 25 = .ok (.iconst (-1), 1) := by decide +kernel
theorem d_Rl_unsay_26 : decode b_Rl_unsay 26 = .ok (.if_icmp .ne 5, 3) := by decide +kernel
theorem d_Rl_unsay_29 : decode b_Rl_unsay 29 = .ok (.iconst 0, 1) := by decide +kernel
theorem d_Rl_unsay_30 : decode b_Rl_unsay 30 = .ok (.ireturn, 1) := by decide +kernel
theorem d_Rl_unsay_31 : decode b_Rl_unsay 31 = .ok (.aload_n 0, 1) := by decide +kernel
theorem d_Rl_unsay_32 : decode b_Rl_unsay 32 = .ok (.dup, 1) := by decide +kernel
theorem d_Rl_unsay_33 : decode b_Rl_unsay 33 = .ok (.getfield 13, 3) := by decide +kernel
theorem d_Rl_unsay_36 : decode b_Rl_unsay 36 = .ok (.iconst 1, 1) := by decide +kernel
theorem d_Rl_unsay_37 : decode b_Rl_unsay 37 = .ok (.isub, 1) := by decide +kernel
theorem d_Rl_unsay_38 : decode b_Rl_unsay 38 = .ok (.putfield 13, 3) := by decide +kernel
theorem d_Rl_unsay_41 : decode b_Rl_unsay 41 = .ok (.aload_n 0, 1) := by decide +kernel
theorem d_Rl_unsay_42 : decode b_Rl_unsay 42 = .ok (.getfield 9, 3) := by decide +kernel
theorem d_Rl_unsay_45 : decode b_Rl_unsay 45 = .ok (.iload 4, 2) := by decide +kernel
theorem d_Rl_unsay_47 : decode b_Rl_unsay 47 = .ok (.aload_n 0, 1) := by decide +kernel
theorem d_Rl_unsay_48 : decode b_Rl_unsay 48 = .ok (.getfield 9, 3) := by decide +kernel
theorem d_Rl_unsay_51 : decode b_Rl_unsay 51 = .ok (.aload_n 0, 1) := by decide +kernel
theorem d_Rl_unsay_52 : decode b_Rl_unsay 52 = .ok (.getfield 13, 3) := by decide +kernel
theorem d_Rl_unsay_55 : decode b_Rl_unsay 55 = .ok (.iaload, 1) := by decide +kernel
theorem d_Rl_unsay_56 : decode b_Rl_unsay 56 = .ok (.iastore, 1) := by decide +kernel
theorem d_Rl_unsay_57 : decode b_Rl_unsay 57 = .ok (.aload_n 0, 1) := by decide +kernel
theorem d_Rl_unsay_58 : decode b_Rl_unsay 58 = .ok (.iconst 0, 1) := by decide +kernel
theorem d_Rl_unsay_59 : decode b_Rl_unsay 59 = .ok (.putfield 21, 3) := by decide +kernel
theorem d_Rl_unsay_62 : decode b_Rl_unsay 62 = .ok (.iconst 1, 1) := by decide +kernel
theorem d_Rl_unsay_63 : decode b_Rl_unsay 63 = .ok (.ireturn, 1) := by decide +kernel
theorem d_Rl_rule_0 : decode b_Rl_rule 0 = .ok (.iload_n 1, 1) := by decide +kernel
theorem d_Rl_rule_1 : decode b_Rl_rule 1 = .ok (.ifCond .lt 9, 3) := by decide +kernel
theorem d_Rl_rule_4 : decode b_Rl_rule 4 = .ok (.iload_n 1, 1) := by decide +kernel
theorem d_Rl_rule_5 : decode b_Rl_rule 5 = .ok (.bipush 21, 2) := by decide +kernel
theorem d_Rl_rule_7 : decode b_Rl_rule 7 = .ok (.if_icmp .lt 5, 3) := by decide +kernel
theorem d_Rl_rule_10 : decode b_Rl_rule 10 = .ok (.iconst (-1), 1) := by decide +kernel
theorem d_Rl_rule_11 : decode b_Rl_rule 11 = .ok (.ireturn, 1) := by decide +kernel
theorem d_Rl_rule_12 : decode b_Rl_rule 12 = .ok (.aload_n 0, 1) := by decide +kernel
theorem d_Rl_rule_13 : decode b_Rl_rule 13 = .ok (.getfield 18, 3) := by decide +kernel
theorem d_Rl_rule_16 : decode b_Rl_rule 16 = .ok (.iload_n 1, 1) := by decide +kernel
theorem d_Rl_rule_17 : decode b_Rl_rule 17 = .ok (.invokestatic 60, 3) := by decide +kernel
theorem d_Rl_rule_20 : decode b_Rl_rule 20 = .ok (.iload_n 2, 1) := by decide +kernel
theorem d_Rl_rule_21 : decode b_Rl_rule 21 = .ok (.if_icmp .ne 5, 3) := by decide +kernel
theorem d_Rl_rule_24 : decode b_Rl_rule 24 = .ok (.iconst 0, 1) := by decide +kernel
theorem d_Rl_rule_25 : decode b_Rl_rule 25 = .ok (.ireturn, 1) := by decide +kernel
theorem d_Rl_rule_26 : decode b_Rl_rule 26 = .ok (.aload_n 0, 1) := by decide +kernel
theorem d_Rl_rule_27 : decode b_Rl_rule 27 = .ok (.dup, 1) := by decide +kernel
theorem d_Rl_rule_28 : decode b_Rl_rule 28 = .ok (.getfield 18, 3) := by decide +kernel
theorem d_Rl_rule_31 : decode b_Rl_rule 31 = .ok (.iconst 1, 1) := by decide +kernel
theorem d_Rl_rule_32 : decode b_Rl_rule 32 = .ok (.iload_n 1, 1) := by decide +kernel
theorem d_Rl_rule_33 : decode b_Rl_rule 33 = .ok (.ishl, 1) := by decide +kernel
theorem d_Rl_rule_34 : decode b_Rl_rule 34 = .ok (.ixor, 1) := by decide +kernel
theorem d_Rl_rule_35 : decode b_Rl_rule 35 = .ok (.putfield 18, 3) := by decide +kernel
theorem d_Rl_rule_38 : decode b_Rl_rule 38 = .ok (.aload_n 0, 1) := by decide +kernel
theorem d_Rl_rule_39 : decode b_Rl_rule 39 = .ok (.iconst 0, 1) := by decide +kernel
theorem d_Rl_rule_40 : decode b_Rl_rule 40 = .ok (.putfield 21, 3) := by decide +kernel
theorem d_Rl_rule_43 : decode b_Rl_rule 43 = .ok (.iconst 1, 1) := by decide +kernel
theorem d_Rl_rule_44 : decode b_Rl_rule 44 = .ok (.ireturn, 1) := by decide +kernel
theorem d_Rl_run_0 : decode b_Rl_run 0 = .ok (.aload_n 0, 1) := by decide +kernel
theorem d_Rl_run_1 : decode b_Rl_run 1 = .ok (.invokevirtual 64, 3) := by decide +kernel
theorem d_Rl_run_4 : decode b_Rl_run 4 = .ok (.ifCond .eq 8, 3) := by decide +kernel
theorem d_Rl_run_7 : decode b_Rl_run 7 = .ok (.bipush (-4), 2) := by decide +kernel
theorem d_Rl_run_9 : decode b_Rl_run 9 = .ok (.goto 10, 3) := by decide +kernel
theorem d_Rl_run_12 : decode b_Rl_run 12 = .ok (.aload_n 0, 1) := by decide +kernel
theorem d_Rl_run_13 : decode b_Rl_run 13 = .ok (.getfield 37, 3) := by decide +kernel
theorem d_Rl_run_16 : decode b_Rl_run 16 = .ok (.invokevirtual 68, 3) := by decide +kernel
theorem d_Rl_run_19 : decode b_Rl_run 19 = .ok (.ireturn, 1) := by decide +kernel
theorem d_Rl_size_0 : decode b_Rl_size 0 = .ok (.aload_n 0, 1) := by decide +kernel
theorem d_Rl_size_1 : decode b_Rl_size 1 = .ok (.invokevirtual 64, 3) := by decide +kernel
theorem d_Rl_size_4 : decode b_Rl_size 4 = .ok (.ifCond .eq 8, 3) := by decide +kernel
theorem d_Rl_size_7 : decode b_Rl_size 7 = .ok (.bipush (-4), 2) := by decide +kernel
theorem d_Rl_size_9 : decode b_Rl_size 9 = .ok (.goto 10, 3) := by decide +kernel
theorem d_Rl_size_12 : decode b_Rl_size 12 = .ok (.aload_n 0, 1) := by decide +kernel
theorem d_Rl_size_13 : decode b_Rl_size 13 = .ok (.getfield 37, 3) := by decide +kernel
theorem d_Rl_size_16 : decode b_Rl_size 16 = .ok (.getfield 72, 3) := by decide +kernel
theorem d_Rl_size_19 : decode b_Rl_size 19 = .ok (.ireturn, 1) := by decide +kernel
theorem d_Rl_triple_0 : decode b_Rl_triple 0 = .ok (.aload_n 0, 1) := by decide +kernel
theorem d_Rl_triple_1 : decode b_Rl_triple 1 = .ok (.invokevirtual 64, 3) := by decide +kernel
theorem d_Rl_triple_4 : decode b_Rl_triple 4 = .ok (.ifCond .eq 6, 3) := by decide +kernel
theorem d_Rl_triple_7 : decode b_Rl_triple 7 = .ok (.bipush (-4), 2) := by decide +kernel
theorem d_Rl_triple_9 : decode b_Rl_triple 9 = .ok (.ireturn, 1) := by decide +kernel
theorem d_Rl_triple_10 : decode b_Rl_triple 10 = .ok (.iload_n 1, 1) := by decide +kernel
theorem d_Rl_triple_11 : decode b_Rl_triple 11 = .ok (.ifCond .lt 14, 3) := by decide +kernel
theorem d_Rl_triple_14 : decode b_Rl_triple 14 = .ok (.iload_n 1, 1) := by decide +kernel
theorem d_Rl_triple_15 : decode b_Rl_triple 15 = .ok (.aload_n 0, 1) := by decide +kernel
theorem d_Rl_triple_16 : decode b_Rl_triple 16 = .ok (.getfield 37, 3) := by decide +kernel
theorem d_Rl_triple_19 : decode b_Rl_triple 19 = .ok (.getfield 72, 3) := by decide +kernel
theorem d_Rl_triple_22 : decode b_Rl_triple 22 = .ok (.if_icmp .lt 6, 3) := by decide +kernel
theorem d_Rl_triple_25 : decode b_Rl_triple 25 = .ok (.bipush (-2), 2) := by decide +kernel
theorem d_Rl_triple_27 : decode b_Rl_triple 27 = .ok (.ireturn, 1) := by decide +kernel
theorem d_Rl_triple_28 : decode b_Rl_triple 28 = .ok (.aload_n 0, 1) := by decide +kernel
theorem d_Rl_triple_29 : decode b_Rl_triple 29 = .ok (.getfield 28, 3) := by decide +kernel
theorem d_Rl_triple_32 : decode b_Rl_triple 32 = .ok (.iload_n 1, 1) := by decide +kernel
theorem d_Rl_triple_33 : decode b_Rl_triple 33 = .ok (.invokevirtual 75, 3) := by decide +kernel
theorem d_Rl_triple_36 : decode b_Rl_triple 36 = .ok (.ireturn, 1) := by decide +kernel
theorem d_Rl_round_0 : decode b_Rl_round 0 = .ok (.iload_n 1, 1) := by decide +kernel
theorem d_Rl_round_1 : decode b_Rl_round 1 = .ok (.iload_n 2, 1) := by decide +kernel
theorem d_Rl_round_2 : decode b_Rl_round 2 = .ok (.iload_n 3, 1) := by decide +kernel
theorem d_Rl_round_3 : decode b_Rl_round 3 = .ok (.invokestatic 48, 3) := by decide +kernel
theorem d_Rl_round_6 : decode b_Rl_round 6 = .ok (.ifCond .ne 5, 3) := by decide +kernel
theorem d_Rl_round_9 : decode b_Rl_round 9 = .ok (.iconst (-1), 1) := by decide +kernel
theorem d_Rl_round_10 : decode b_Rl_round 10 = .ok (.ireturn, 1) := by decide +kernel
theorem d_Rl_round_11 : decode b_Rl_round 11 = .ok (.aload_n 0, 1) := by decide +kernel
theorem d_Rl_round_12 : decode b_Rl_round 12 = .ok (.invokevirtual 64, 3) := by decide +kernel
theorem d_Rl_round_15 : decode b_Rl_round 15 = .ok (.ifCond .eq 8, 3) := by decide +kernel
theorem d_Rl_round_18 : decode b_Rl_round 18 = .ok (.bipush (-4), 2) := by decide +kernel
theorem d_Rl_round_20 : decode b_Rl_round 20 = .ok (.goto 16, 3) := by decide +kernel
theorem d_Rl_round_23 : decode b_Rl_round 23 = .ok (.aload_n 0, 1) := by decide +kernel
theorem d_Rl_round_24 : decode b_Rl_round 24 = .ok (.getfield 37, 3) := by decide +kernel
theorem d_Rl_round_27 : decode b_Rl_round 27 = .ok (.iload_n 1, 1) := by decide +kernel
theorem d_Rl_round_28 : decode b_Rl_round 28 = .ok (.iload_n 2, 1) := by decide +kernel
theorem d_Rl_round_29 : decode b_Rl_round 29 = .ok (.iload_n 3, 1) := by decide +kernel
theorem d_Rl_round_30 : decode b_Rl_round 30 = .ok (.invokestatic 52, 3) := by decide +kernel
theorem d_Rl_round_33 : decode b_Rl_round 33 = .ok (.invokevirtual 78, 3) := by decide +kernel
theorem d_Rl_round_36 : decode b_Rl_round 36 = .ok (.ireturn, 1) := by decide +kernel
theorem d_Rl_ways_0 : decode b_Rl_ways 0 = .ok (.iload_n 1, 1) := by decide +kernel
theorem d_Rl_ways_1 : decode b_Rl_ways 1 = .ok (.iload_n 2, 1) := by decide +kernel
theorem d_Rl_ways_2 : decode b_Rl_ways 2 = .ok (.iload_n 3, 1) := by decide +kernel
theorem d_Rl_ways_3 : decode b_Rl_ways 3 = .ok (.invokestatic 48, 3) := by decide +kernel
theorem d_Rl_ways_6 : decode b_Rl_ways 6 = .ok (.ifCond .ne 5, 3) := by decide +kernel
theorem d_Rl_ways_9 : decode b_Rl_ways 9 = .ok (.iconst (-1), 1) := by decide +kernel
theorem d_Rl_ways_10 : decode b_Rl_ways 10 = .ok (.ireturn, 1) := by decide +kernel
theorem d_Rl_ways_11 : decode b_Rl_ways 11 = .ok (.aload_n 0, 1) := by decide +kernel
theorem d_Rl_ways_12 : decode b_Rl_ways 12 = .ok (.invokevirtual 64, 3) := by decide +kernel
theorem d_Rl_ways_15 : decode b_Rl_ways 15 = .ok (.ifCond .eq 8, 3) := by decide +kernel
theorem d_Rl_ways_18 : decode b_Rl_ways 18 = .ok (.bipush (-4), 2) := by decide +kernel
theorem d_Rl_ways_20 : decode b_Rl_ways 20 = .ok (.goto 20, 3) := by decide +kernel
theorem d_Rl_ways_23 : decode b_Rl_ways 23 = .ok (.aload_n 0, 1) := by decide +kernel
theorem d_Rl_ways_24 : decode b_Rl_ways 24 = .ok (.getfield 44, 3) := by decide +kernel
theorem d_Rl_ways_27 : decode b_Rl_ways 27 = .ok (.iload_n 1, 1) := by decide +kernel
theorem d_Rl_ways_28 : decode b_Rl_ways 28 = .ok (.iload_n 2, 1) := by decide +kernel
theorem d_Rl_ways_29 : decode b_Rl_ways 29 = .ok (.iload_n 3, 1) := by decide +kernel
theorem d_Rl_ways_30 : decode b_Rl_ways 30 = .ok (.invokestatic 52, 3) := by decide +kernel
theorem d_Rl_ways_33 : decode b_Rl_ways 33 = .ok (.aload_n 0, 1) := by decide +kernel
theorem d_Rl_ways_34 : decode b_Rl_ways 34 = .ok (.getfield 18, 3) := by decide +kernel
theorem d_Rl_ways_37 : decode b_Rl_ways 37 = .ok (.invokevirtual 81, 3) := by decide +kernel
theorem d_Rl_ways_40 : decode b_Rl_ways 40 = .ok (.ireturn, 1) := by decide +kernel
theorem d_Rl_way_0 : decode b_Rl_way 0 = .ok (.iload_n 1, 1) := by decide +kernel
theorem d_Rl_way_1 : decode b_Rl_way 1 = .ok (.iload_n 2, 1) := by decide +kernel
theorem d_Rl_way_2 : decode b_Rl_way 2 = .ok (.iload_n 3, 1) := by decide +kernel
theorem d_Rl_way_3 : decode b_Rl_way 3 = .ok (.invokestatic 48, 3) := by decide +kernel
theorem d_Rl_way_6 : decode b_Rl_way 6 = .ok (.ifCond .eq 14, 3) := by decide +kernel
theorem d_Rl_way_9 : decode b_Rl_way 9 = .ok (.iload 5, 2) := by decide +kernel
theorem d_Rl_way_11 : decode b_Rl_way 11 = .ok (.ifCond .lt 9, 3) := by decide +kernel
theorem d_Rl_way_14 : decode b_Rl_way 14 = .ok (.iload 5, 2) := by decide +kernel
theorem d_Rl_way_16 : decode b_Rl_way 16 = .ok (.iconst 4, 1) := by decide +kernel
theorem d_Rl_way_17 : decode b_Rl_way 17 = .ok (.if_icmp .le 5, 3) := by decide +kernel
theorem d_Rl_way_20 : decode b_Rl_way 20 = .ok (.iconst (-1), 1) := by decide +kernel
theorem d_Rl_way_21 : decode b_Rl_way 21 = .ok (.ireturn, 1) := by decide +kernel
theorem d_Rl_way_22 : decode b_Rl_way 22 = .ok (.aload_n 0, 1) := by decide +kernel
theorem d_Rl_way_23 : decode b_Rl_way 23 = .ok (.invokevirtual 64, 3) := by decide +kernel
theorem d_Rl_way_26 : decode b_Rl_way 26 = .ok (.ifCond .eq 6, 3) := by decide +kernel
theorem d_Rl_way_29 : decode b_Rl_way 29 = .ok (.bipush (-4), 2) := by decide +kernel
theorem d_Rl_way_31 : decode b_Rl_way 31 = .ok (.ireturn, 1) := by decide +kernel
theorem d_Rl_way_32 : decode b_Rl_way 32 = .ok (.iload 4, 2) := by decide +kernel
theorem d_Rl_way_34 : decode b_Rl_way 34 = .ok (.ifCond .lt 25, 3) := by decide +kernel
theorem d_Rl_way_37 : decode b_Rl_way 37 = .ok (.aload_n 0, 1) := by decide +kernel
theorem d_Rl_way_38 : decode b_Rl_way 38 = .ok (.getfield 44, 3) := by decide +kernel
theorem d_Rl_way_41 : decode b_Rl_way 41 = .ok (.iload_n 1, 1) := by decide +kernel
theorem d_Rl_way_42 : decode b_Rl_way 42 = .ok (.iload_n 2, 1) := by decide +kernel
theorem d_Rl_way_43 : decode b_Rl_way 43 = .ok (.iload_n 3, 1) := by decide +kernel
theorem d_Rl_way_44 : decode b_Rl_way 44 = .ok (.invokestatic 52, 3) := by decide +kernel
theorem d_Rl_way_47 : decode b_Rl_way 47 = .ok (.aload_n 0, 1) := by decide +kernel
theorem d_Rl_way_48 : decode b_Rl_way 48 = .ok (.getfield 18, 3) := by decide +kernel
theorem d_Rl_way_51 : decode b_Rl_way 51 = .ok (.iload 4, 2) := by decide +kernel
theorem d_Rl_way_53 : decode b_Rl_way 53 = .ok (.invokevirtual 85, 3) := by decide +kernel
theorem d_Rl_way_56 : decode b_Rl_way 56 = .ok (.ifCond .ne 6, 3) := by decide +kernel
theorem d_Rl_way_59 : decode b_Rl_way 59 = .ok (.bipush (-2), 2) := by decide +kernel
theorem d_Rl_way_61 : decode b_Rl_way 61 = .ok (.ireturn, 1) := by decide +kernel
theorem d_Rl_way_62 : decode b_Rl_way 62 = .ok (.iload 5, 2) := by decide +kernel
theorem d_Rl_way_64 : decode b_Rl_way 64 = .ok (.ifCond .ne 13, 3) := by decide +kernel
theorem d_Rl_way_67 : decode b_Rl_way 67 = .ok (.aload_n 0, 1) := by decide +kernel
theorem d_Rl_way_68 : decode b_Rl_way 68 = .ok (.getfield 44, 3) := by decide +kernel
theorem d_Rl_way_71 : decode b_Rl_way 71 = .ok (.getfield 88, 3) := by decide +kernel
theorem d_Rl_way_74 : decode b_Rl_way 74 = .ok (.goto 12, 3) := by decide +kernel
theorem d_Rl_way_77 : decode b_Rl_way 77 = .ok (.aload_n 0, 1) := by decide +kernel
theorem d_Rl_way_78 : decode b_Rl_way 78 = .ok (.getfield 44, 3) := by decide +kernel
theorem d_Rl_way_81 : decode b_Rl_way 81 = .ok (.iload 5, 2) := by decide +kernel
theorem d_Rl_way_83 : decode b_Rl_way 83 = .ok (.invokevirtual 91, 3) := by decide +kernel
theorem d_Rl_way_86 : decode b_Rl_way 86 = .ok (.ireturn, 1) := by decide +kernel
theorem d_Rl_clashes_0 : decode b_Rl_clashes 0 = .ok (.aload_n 0, 1) := by decide +kernel
theorem d_Rl_clashes_1 : decode b_Rl_clashes 1 = .ok (.invokevirtual 64, 3) := by decide +kernel
theorem d_Rl_clashes_4 : decode b_Rl_clashes 4 = .ok (.ifCond .eq 8, 3) := by decide +kernel
theorem d_Rl_clashes_7 : decode b_Rl_clashes 7 = .ok (.bipush (-4), 2) := by decide +kernel
theorem d_Rl_clashes_9 : decode b_Rl_clashes 9 = .ok (.goto 10, 3) := by decide +kernel
theorem d_Rl_clashes_12 : decode b_Rl_clashes 12 = .ok (.aload_n 0, 1) := by decide +kernel
theorem d_Rl_clashes_13 : decode b_Rl_clashes 13 = .ok (.getfield 44, 3) := by decide +kernel
theorem d_Rl_clashes_16 : decode b_Rl_clashes 16 = .ok (.invokevirtual 94, 3) := by decide +kernel
theorem d_Rl_clashes_19 : decode b_Rl_clashes 19 = .ok (.ireturn, 1) := by decide +kernel
theorem d_Rl_clash_0 : decode b_Rl_clash 0 = .ok (.iload_n 2, 1) := by decide +kernel
theorem d_Rl_clash_1 : decode b_Rl_clash 1 = .ok (.ifCond .lt 8, 3) := by decide +kernel
theorem d_Rl_clash_4 : decode b_Rl_clash 4 = .ok (.iload_n 2, 1) := by decide +kernel
theorem d_Rl_clash_5 : decode b_Rl_clash 5 = .ok (.iconst 3, 1) := by decide +kernel
theorem d_Rl_clash_6 : decode b_Rl_clash 6 = .ok (.if_icmp .le 5, 3) := by decide +kernel
theorem d_Rl_clash_9 : decode b_Rl_clash 9 = .ok (.iconst (-1), 1) := by decide +kernel
theorem d_Rl_clash_10 : decode b_Rl_clash 10 = .ok (.ireturn, 1) := by decide +kernel
theorem d_Rl_clash_11 : decode b_Rl_clash 11 = .ok (.aload_n 0, 1) := by decide +kernel
theorem d_Rl_clash_12 : decode b_Rl_clash 12 = .ok (.invokevirtual 64, 3) := by decide +kernel
theorem d_Rl_clash_15 : decode b_Rl_clash 15 = .ok (.ifCond .eq 6, 3) := by decide +kernel
theorem d_Rl_clash_18 : decode b_Rl_clash 18 = .ok (.bipush (-4), 2) := by decide +kernel
theorem d_Rl_clash_20 : decode b_Rl_clash 20 = .ok (.ireturn, 1) := by decide +kernel
theorem d_Rl_clash_21 : decode b_Rl_clash 21 = .ok (.iload_n 1, 1) := by decide +kernel
theorem d_Rl_clash_22 : decode b_Rl_clash 22 = .ok (.ifCond .lt 14, 3) := by decide +kernel
theorem d_Rl_clash_25 : decode b_Rl_clash 25 = .ok (.aload_n 0, 1) := by decide +kernel
theorem d_Rl_clash_26 : decode b_Rl_clash 26 = .ok (.getfield 44, 3) := by decide +kernel
theorem d_Rl_clash_29 : decode b_Rl_clash 29 = .ok (.iload_n 1, 1) := by decide +kernel
theorem d_Rl_clash_30 : decode b_Rl_clash 30 = .ok (.invokevirtual 97, 3) := by decide +kernel
theorem d_Rl_clash_33 : decode b_Rl_clash 33 = .ok (.ifCond .ne 6, 3) := by decide +kernel
theorem d_Rl_clash_36 : decode b_Rl_clash 36 = .ok (.bipush (-2), 2) := by decide +kernel
theorem d_Rl_clash_38 : decode b_Rl_clash 38 = .ok (.ireturn, 1) := by decide +kernel
theorem d_Rl_clash_39 : decode b_Rl_clash 39 = .ok (.iload_n 2, 1) := by decide +kernel
theorem d_Rl_clash_40 : decode b_Rl_clash 40 = .ok (.ifCond .ne 16, 3) := by decide +kernel
theorem d_Rl_clash_43 : decode b_Rl_clash 43 = .ok (.aload_n 0, 1) := by decide +kernel
theorem d_Rl_clash_44 : decode b_Rl_clash 44 = .ok (.getfield 44, 3) := by decide +kernel
theorem d_Rl_clash_47 : decode b_Rl_clash 47 = .ok (.getfield 88, 3) := by decide +kernel
theorem d_Rl_clash_50 : decode b_Rl_clash 50 = .ok (.bipush 21, 2) := by decide +kernel
theorem d_Rl_clash_52 : decode b_Rl_clash 52 = .ok (.isub, 1) := by decide +kernel
theorem d_Rl_clash_53 : decode b_Rl_clash 53 = .ok (.goto 11, 3) := by decide +kernel
theorem d_Rl_clash_56 : decode b_Rl_clash 56 = .ok (.aload_n 0, 1) := by decide +kernel
theorem d_Rl_clash_57 : decode b_Rl_clash 57 = .ok (.getfield 44, 3) := by decide +kernel
theorem d_Rl_clash_60 : decode b_Rl_clash 60 = .ok (.iload_n 2, 1) := by decide +kernel
theorem d_Rl_clash_61 : decode b_Rl_clash 61 = .ok (.invokevirtual 91, 3) := by decide +kernel
theorem d_Rl_clash_64 : decode b_Rl_clash 64 = .ok (.ireturn, 1) := by decide +kernel
theorem d_Rl_group_0 : decode b_Rl_group 0 = .ok (.iload_n 1, 1) := by decide +kernel
theorem d_Rl_group_1 : decode b_Rl_group 1 = .ok (.invokestatic 101, 3) := by decide +kernel
theorem d_Rl_group_4 : decode b_Rl_group 4 = .ok (.ifCond .ne 5, 3) := by decide +kernel
theorem d_Rl_group_7 : decode b_Rl_group 7 = .ok (.iconst (-1), 1) := by decide +kernel
theorem d_Rl_group_8 : decode b_Rl_group 8 = .ok (.ireturn, 1) := by decide +kernel
theorem d_Rl_group_9 : decode b_Rl_group 9 = .ok (.aload_n 0, 1) := by decide +kernel
theorem d_Rl_group_10 : decode b_Rl_group 10 = .ok (.invokevirtual 64, 3) := by decide +kernel
theorem d_Rl_group_13 : decode b_Rl_group 13 = .ok (.ifCond .eq 6, 3) := by decide +kernel
theorem d_Rl_group_16 : decode b_Rl_group 16 = .ok (.bipush (-4), 2) := by decide +kernel
theorem d_Rl_group_18 : decode b_Rl_group 18 = .ok (.ireturn, 1) := by decide +kernel
theorem d_Rl_group_19 : decode b_Rl_group 19 = .ok (.aload_n 0, 1) := by decide +kernel
theorem d_Rl_group_20 : decode b_Rl_group 20 = .ok (.getfield 28, 3) := by decide +kernel
theorem d_Rl_group_23 : decode b_Rl_group 23 = .ok (.iload_n 1, 1) := by decide +kernel
theorem d_Rl_group_24 : decode b_Rl_group 24 = .ok (.bipush 6, 2) := by decide +kernel
theorem d_Rl_group_26 : decode b_Rl_group 26 = .ok (.iconst (-1), 1) := by decide +kernel
theorem d_Rl_group_27 : decode b_Rl_group 27 = .ok (.invokevirtual 106, 3) := by decide +kernel
theorem d_Rl_group_30 : decode b_Rl_group 30 = .ok (.istore_n 2, 1) := by decide +kernel
theorem d_Rl_group_31 : decode b_Rl_group 31 = .ok (.iload_n 1, 1) := by decide +kernel
theorem d_Rl_group_32 : decode b_Rl_group 32 = .ok (.iload_n 2, 1) := by decide +kernel
theorem d_Rl_group_33 : decode b_Rl_group 33 = .ok (.invokestatic 109, 3) := by decide +kernel
theorem d_Rl_group_36 : decode b_Rl_group 36 = .ok (.invokestatic 112, 3) := by decide +kernel
theorem d_Rl_group_39 : decode b_Rl_group 39 = .ok (.ireturn, 1) := by decide +kernel
