theorem d_Mo_say_0 : decode b_Mo_say 0 = .ok (.iload_n 1, 1) := by decide +kernel
theorem d_Mo_say_1 : decode b_Mo_say 1 = .ok (.iload_n 2, 1) := by decide +kernel
theorem d_Mo_say_2 : decode b_Mo_say 2 = .ok (.iload_n 3, 1) := by decide +kernel
theorem d_Mo_say_3 : decode b_Mo_say 3 = .ok (.invokestatic 145, 3) := by decide +kernel
theorem d_Mo_say_6 : decode b_Mo_say 6 = .ok (.ifCond .ne 5, 3) := by decide +kernel
theorem d_Mo_say_9 : decode b_Mo_say 9 = .ok (.iconst (-1), 1) := by decide +kernel
theorem d_Mo_say_10 : decode b_Mo_say 10 = .ok (.ireturn, 1) := by decide +kernel
theorem d_Mo_say_11 : decode b_Mo_say 11 = .ok (.iload_n 1, 1) := by decide +kernel
theorem d_Mo_say_12 : decode b_Mo_say 12 = .ok (.iload_n 2, 1) := by decide +kernel
theorem d_Mo_say_13 : decode b_Mo_say 13 = .ok (.iload_n 3, 1) := by decide +kernel
theorem d_Mo_say_14 : decode b_Mo_say 14 = .ok (.invokestatic 120, 3) := by decide +kernel
theorem d_Mo_say_17 : decode b_Mo_say 17 = .ok (.istore 4, 2) := by decide +kernel
theorem d_Mo_say_19 : decode b_Mo_say 19 = .ok (.aload_n 0, 1) := by decide +kernel
theorem d_Mo_say_20 : decode b_Mo_say 20 = .ok (.getfield 8, 3) := by decide +kernel
theorem d_Mo_say_23 : decode b_Mo_say 23 = .ok (.iload 4, 2) := by decide +kernel
theorem d_Mo_say_25 : decode b_Mo_say 25 = .ok (.baload, 1) := by decide +kernel
theorem d_Mo_say_26 : decode b_Mo_say 26 = .ok (.ifCond .eq 5, 3) := by decide +kernel
theorem d_Mo_say_29 : decode b_Mo_say 29 = .ok (.iconst 0, 1) := by decide +kernel
theorem d_Mo_say_30 : decode b_Mo_say 30 = .ok (.ireturn, 1) := by decide +kernel
theorem d_Mo_say_31 : decode b_Mo_say 31 = .ok (.aload_n 0, 1) := by decide +kernel
theorem d_Mo_say_32 : decode b_Mo_say 32 = .ok (.getfield 148, 3) := by decide +kernel
theorem d_Mo_say_35 : decode b_Mo_say 35 = .ok (.bipush 120, 2) := by decide +kernel
theorem d_Mo_say_37 : decode b_Mo_say 37 = .ok (.if_icmp .ne 6, 3) := by decide +kernel
theorem d_Mo_say_40 : decode b_Mo_say 40 = .ok (.bipush (-3), 2) := by decide +kernel
theorem d_Mo_say_42 : decode b_Mo_say 42 = .ok (.ireturn, 1) := by decide +kernel
theorem d_Mo_say_43 : decode b_Mo_say 43 = .ok (.aload_n 0, 1) := by decide +kernel
theorem d_Mo_say_44 : decode b_Mo_say 44 = .ok (.getfield 8, 3) := by decide +kernel
theorem d_Mo_say_47 : decode b_Mo_say 47 = .ok (.iload 4, 2) := by decide +kernel
theorem d_Mo_say_49 : decode b_Mo_say 49 = .ok (.iconst 1, 1) := by decide +kernel
theorem d_Mo_say_50 : decode b_Mo_say 50 = .ok (.bastore, 1) := by decide +kernel
theorem d_Mo_say_51 : decode b_Mo_say 51 = .ok (.aload_n 0, 1) := by decide +kernel
theorem d_Mo_say_52 : decode b_Mo_say 52 = .ok (.dup, 1) := by decide +kernel
theorem d_Mo_say_53 : decode b_Mo_say 53 = .ok (.getfield 148, 3) := by decide +kernel
theorem d_Mo_say_56 : decode b_Mo_say 56 = .ok (.iconst 1, 1) := by decide +kernel
theorem d_Mo_say_57 : decode b_Mo_say 57 = .ok (.iadd, 1) := by decide +kernel
theorem d_Mo_say_58 : decode b_Mo_say 58 = .ok (.putfield 148, 3) := by decide +kernel
theorem d_Mo_say_61 : decode b_Mo_say 61 = .ok (.aload_n 0, 1) := by decide +kernel
theorem d_Mo_say_62 : decode b_Mo_say 62 = .ok (.iconst 0, 1) := by decide +kernel
theorem d_Mo_say_63 : decode b_Mo_say 63 = .ok (.putfield 36, 3) := by decide +kernel
theorem d_Mo_say_66 : decode b_Mo_say 66 = .ok (.iconst 1, 1) := by decide +kernel
theorem d_Mo_say_67 : decode b_Mo_say 67 = .ok (.ireturn, 1) := by decide +kernel
theorem d_Mo_unsay_0 : decode b_Mo_unsay 0 = .ok (.iload_n 1, 1) := by decide +kernel
theorem d_Mo_unsay_1 : decode b_Mo_unsay 1 = .ok (.iload_n 2, 1) := by decide +kernel
theorem d_Mo_unsay_2 : decode b_Mo_unsay 2 = .ok (.iload_n 3, 1) := by decide +kernel
theorem d_Mo_unsay_3 : decode b_Mo_unsay 3 = .ok (.invokestatic 145, 3) := by decide +kernel
theorem d_Mo_unsay_6 : decode b_Mo_unsay 6 = .ok (.ifCond .ne 5, 3) := by decide +kernel
theorem d_Mo_unsay_9 : decode b_Mo_unsay 9 = .ok (.iconst (-1), 1) := by decide +kernel
theorem d_Mo_unsay_10 : decode b_Mo_unsay 10 = .ok (.ireturn, 1) := by decide +kernel
theorem d_Mo_unsay_11 : decode b_Mo_unsay 11 = .ok (.iload_n 1, 1) := by decide +kernel
theorem d_Mo_unsay_12 : decode b_Mo_unsay 12 = .ok (.iload_n 2, 1) := by decide +kernel
theorem d_Mo_unsay_13 : decode b_Mo_unsay 13 = .ok (.iload_n 3, 1) := by decide +kernel
theorem d_Mo_unsay_14 : decode b_Mo_unsay 14 = .ok (.invokestatic 120, 3) := by decide +kernel
theorem d_Mo_unsay_17 : decode b_Mo_unsay 17 = .ok (.istore 4, 2) := by decide +kernel
theorem d_Mo_unsay_19 : decode b_Mo_unsay 19 = .ok (.aload_n 0, 1) := by decide +kernel
theorem d_Mo_unsay_20 : decode b_Mo_unsay 20 = .ok (.getfield 8, 3) := by decide +kernel
theorem d_Mo_unsay_23 : decode b_Mo_unsay 23 = .ok (.iload 4, 2) := by decide +kernel
theorem d_Mo_unsay_25 : decode b_Mo_unsay 25 = .ok (.baload, 1) := by decide +kernel
theorem d_Mo_unsay_26 : decode b_Mo_unsay 26 = .ok (.ifCond .ne 5, 3) := by decide +kernel
theorem d_Mo_unsay_29 : decode b_Mo_unsay 29 = .ok (.iconst 0, 1) := by decide +kernel
theorem d_Mo_unsay_30 : decode b_Mo_unsay 30 = .ok (.ireturn, 1) := by decide +kernel
theorem d_Mo_unsay_31 : decode b_Mo_unsay 31 = .ok (.aload_n 0, 1) := by decide +kernel
theorem d_Mo_unsay_32 : decode b_Mo_unsay 32 = .ok (.getfield 8, 3) := by decide +kernel
theorem d_Mo_unsay_35 : decode b_Mo_unsay 35 = .ok (.iload 4, 2) := by decide +kernel
theorem d_Mo_unsay_37 : decode b_Mo_unsay 37 = .ok (.iconst 0, 1) := by decide +kernel
theorem d_Mo_unsay_38 : decode b_Mo_unsay 38 = .ok (.bastore, 1) := by decide +kernel
theorem d_Mo_unsay_39 : decode b_Mo_unsay 39 = .ok (.aload_n 0, 1) := by decide +kernel
theorem d_Mo_unsay_40 : decode b_Mo_unsay 40 = .ok (.dup, 1) := by decide +kernel
theorem d_Mo_unsay_41 : decode b_Mo_unsay 41 = .ok (.getfield 148, 3) := by decide +kernel
theorem d_Mo_unsay_44 : decode b_Mo_unsay 44 = .ok (.iconst 1, 1) := by decide +kernel
theorem d_Mo_unsay_45 : decode b_Mo_unsay 45 = .ok (.isub, 1) := by decide +kernel
theorem d_Mo_unsay_46 : decode b_Mo_unsay 46 = .ok (.putfield 148, 3) := by decide +kernel
theorem d_Mo_unsay_49 : decode b_Mo_unsay 49 = .ok (.aload_n 0, 1) := by decide +kernel
theorem d_Mo_unsay_50 : decode b_Mo_unsay 50 = .ok (.iconst 0, 1) := by decide +kernel
theorem d_Mo_unsay_51 : decode b_Mo_unsay 51 = .ok (.putfield 36, 3) := by decide +kernel
theorem d_Mo_unsay_54 : decode b_Mo_unsay 54 = .ok (.iconst 1, 1) := by decide +kernel
theorem d_Mo_unsay_55 : decode b_Mo_unsay 55 = .ok (.ireturn, 1) := by decide +kernel
theorem d_Mo_rule_0 : decode b_Mo_rule 0 = .ok (.iload_n 1, 1) := by decide +kernel
theorem d_Mo_rule_1 : decode b_Mo_rule 1 = .ok (.ifCond .lt 9, 3) := by decide +kernel
theorem d_Mo_rule_4 : decode b_Mo_rule 4 = .ok (.iload_n 1, 1) := by decide +kernel
theorem d_Mo_rule_5 : decode b_Mo_rule 5 = .ok (.bipush 21, 2) := by decide +kernel
theorem d_Mo_rule_7 : decode b_Mo_rule 7 = .ok (.if_icmp .lt 5, 3) := by decide +kernel
theorem d_Mo_rule_10 : decode b_Mo_rule 10 = .ok (.iconst (-1), 1) := by decide +kernel
theorem d_Mo_rule_11 : decode b_Mo_rule 11 = .ok (.ireturn, 1) := by decide +kernel
theorem d_Mo_rule_12 : decode b_Mo_rule 12 = .ok (.aload_n 0, 1) := by decide +kernel
theorem d_Mo_rule_13 : decode b_Mo_rule 13 = .ok (.getfield 14, 3) := by decide +kernel
theorem d_Mo_rule_16 : decode b_Mo_rule 16 = .ok (.iload_n 1, 1) := by decide +kernel
theorem d_Mo_rule_17 : decode b_Mo_rule 17 = .ok (.baload, 1) := by decide +kernel
theorem d_Mo_rule_18 : decode b_Mo_rule 18 = .ok (.iload_n 2, 1) := by decide +kernel
theorem d_Mo_rule_19 : decode b_Mo_rule 19 = .ok (.if_icmp .eq 5, 3) := by decide +kernel
theorem d_Mo_rule_22 : decode b_Mo_rule 22 = .ok (.iconst 0, 1) := by decide +kernel
theorem d_Mo_rule_23 : decode b_Mo_rule 23 = .ok (.ireturn, 1) := by decide +kernel
theorem d_Mo_rule_24 : decode b_Mo_rule 24 = .ok (.aload_n 0, 1) := by decide +kernel
theorem d_Mo_rule_25 : decode b_Mo_rule 25 = .ok (.getfield 14, 3) := by decide +kernel
theorem d_Mo_rule_28 : decode b_Mo_rule 28 = .ok (.iload_n 1, 1) := by decide +kernel
theorem d_Mo_rule_29 : decode b_Mo_rule 29 = .ok (.iload_n 2, 1) := by decide +kernel
theorem d_Mo_rule_30 : decode b_Mo_rule 30 = .ok (.ifCond .ne 7, 3) := by decide +kernel
theorem d_Mo_rule_33 : decode b_Mo_rule 33 = .ok (.iconst 1, 1) := by decide +kernel
theorem d_Mo_rule_34 : decode b_Mo_rule 34 = .ok (.goto 4, 3) := by decide +kernel
theorem d_Mo_rule_37 : decode b_Mo_rule 37 = .ok (.iconst 0, 1) := by decide +kernel
theorem d_Mo_rule_38 : decode b_Mo_rule 38 = .ok (.bastore, 1) := by decide +kernel
theorem d_Mo_rule_39 : decode b_Mo_rule 39 = .ok (.aload_n 0, 1) := by decide +kernel
theorem d_Mo_rule_40 : decode b_Mo_rule 40 = .ok (.iconst 0, 1) := by decide +kernel
theorem d_Mo_rule_41 : decode b_Mo_rule 41 = .ok (.putfield 36, 3) := by decide +kernel
theorem d_Mo_rule_44 : decode b_Mo_rule 44 = .ok (.iconst 1, 1) := by decide +kernel
theorem d_Mo_rule_45 : decode b_Mo_rule 45 = .ok (.ireturn, 1) := by decide +kernel
theorem d_Mo_run_0 : decode b_Mo_run 0 = .ok (.aload_n 0, 1) := by decide +kernel
theorem d_Mo_run_1 : decode b_Mo_run 1 = .ok (.invokevirtual 151, 3) := by decide +kernel
theorem d_Mo_run_4 : decode b_Mo_run 4 = .ok (.aload_n 0, 1) := by decide +kernel
theorem d_Mo_run_5 : decode b_Mo_run 5 = .ok (.getfield 124, 3) := by decide +kernel
theorem d_Mo_run_8 : decode b_Mo_run 8 = .ok (.ifCond .eq 8, 3) := by decide +kernel
theorem d_Mo_run_11 : decode b_Mo_run 11 = .ok (.bipush (-4), 2) := by decide +kernel
theorem d_Mo_run_13 : decode b_Mo_run 13 = .ok (.goto 7, 3) := by decide +kernel
theorem d_Mo_run_16 : decode b_Mo_run 16 = .ok (.aload_n 0, 1) := by decide +kernel
theorem d_Mo_run_17 : decode b_Mo_run 17 = .ok (.getfield 127, 3) := by decide +kernel
theorem d_Mo_run_20 : decode b_Mo_run 20 = .ok (.ireturn, 1) := by decide +kernel
theorem d_Mo_size_0 : decode b_Mo_size 0 = .ok (.aload_n 0, 1) := by decide +kernel
theorem d_Mo_size_1 : decode b_Mo_size 1 = .ok (.invokevirtual 151, 3) := by decide +kernel
theorem d_Mo_size_4 : decode b_Mo_size 4 = .ok (.aload_n 0, 1) := by decide +kernel
theorem d_Mo_size_5 : decode b_Mo_size 5 = .ok (.getfield 124, 3) := by decide +kernel
theorem d_Mo_size_8 : decode b_Mo_size 8 = .ok (.ifCond .eq 8, 3) := by decide +kernel
theorem d_Mo_size_11 : decode b_Mo_size 11 = .ok (.bipush (-4), 2) := by decide +kernel
theorem d_Mo_size_13 : decode b_Mo_size 13 = .ok (.goto 7, 3) := by decide +kernel
theorem d_Mo_size_16 : decode b_Mo_size 16 = .ok (.aload_n 0, 1) := by decide +kernel
theorem d_Mo_size_17 : decode b_Mo_size 17 = .ok (.getfield 111, 3) := by decide +kernel
theorem d_Mo_size_20 : decode b_Mo_size 20 = .ok (.ireturn, 1) := by decide +kernel
theorem d_Mo_triple_0 : decode b_Mo_triple 0 = .ok (.aload_n 0, 1) := by decide +kernel
theorem d_Mo_triple_1 : decode b_Mo_triple 1 = .ok (.invokevirtual 151, 3) := by decide +kernel
theorem d_Mo_triple_4 : decode b_Mo_triple 4 = .ok (.aload_n 0, 1) := by decide +kernel
theorem d_Mo_triple_5 : decode b_Mo_triple 5 = .ok (.getfield 124, 3) := by decide +kernel
theorem d_Mo_triple_8 : decode b_Mo_triple 8 = .ok (.ifCond .eq 8, 3) := by decide +kernel
theorem d_Mo_triple_11 : decode b_Mo_triple 11 = .ok (.bipush (-4), 2) := by decide +kernel
theorem d_Mo_triple_13 : decode b_Mo_triple 13 = .ok (.goto 26, 3) := by decide +kernel
theorem d_Mo_triple_16 : decode b_Mo_triple 16 = .ok (.iload_n 1, 1) := by decide +kernel
theorem d_Mo_triple_17 : decode b_Mo_triple 17 = .ok (.ifCond .lt 20, 3) := by decide +kernel
theorem d_Mo_triple_20 : decode b_Mo_triple 20 = .ok (.iload_n 1, 1) := by decide +kernel
theorem d_Mo_triple_21 : decode b_Mo_triple 21 = .ok (.aload_n 0, 1) := by decide +kernel
theorem d_Mo_triple_22 : decode b_Mo_triple 22 = .ok (.getfield 111, 3) := by decide +kernel
theorem d_Mo_triple_25 : decode b_Mo_triple 25 = .ok (.if_icmp .ge 12, 3) := by decide +kernel
theorem d_Mo_triple_28 : decode b_Mo_triple 28 = .ok (.aload_n 0, 1) := by decide +kernel
theorem d_Mo_triple_29 : decode b_Mo_triple 29 = .ok (.getfield 24, 3) := by decide +kernel
theorem d_Mo_triple_32 : decode b_Mo_triple 32 = .ok (.iload_n 1, 1) := by decide +kernel
theorem d_Mo_triple_33 : decode b_Mo_triple 33 = .ok (.iaload, 1) := by decide +kernel
theorem d_Mo_triple_34 : decode b_Mo_triple 34 = .ok (.goto 5, 3) := by decide +kernel
theorem d_Mo_triple_37 : decode b_Mo_triple 37 = .ok (.bipush (-2), 2) := by decide +kernel
theorem d_Mo_triple_39 : decode b_Mo_triple 39 = .ok (.ireturn, 1) := by decide +kernel
theorem d_Mo_round_0 : decode b_Mo_round 0 = .ok (.iload_n 1, 1) := by decide +kernel
theorem d_Mo_round_1 : decode b_Mo_round 1 = .ok (.iload_n 2, 1) := by decide +kernel
theorem d_Mo_round_2 : decode b_Mo_round 2 = .ok (.iload_n 3, 1) := by decide +kernel
theorem d_Mo_round_3 : decode b_Mo_round 3 = .ok (.invokestatic 145, 3) := by decide +kernel
theorem d_Mo_round_6 : decode b_Mo_round 6 = .ok (.ifCond .ne 5, 3) := by decide +kernel
theorem d_Mo_round_9 : decode b_Mo_round 9 = .ok (.iconst (-1), 1) := by decide +kernel
theorem d_Mo_round_10 : decode b_Mo_round 10 = .ok (.ireturn, 1) := by decide +kernel
theorem d_Mo_round_11 : decode b_Mo_round 11 = .ok (.aload_n 0, 1) := by decide +kernel
theorem d_Mo_round_12 : decode b_Mo_round 12 = .ok (.invokevirtual 151, 3) := by decide +kernel
theorem d_Mo_round_15 : decode b_Mo_round 15 = .ok (.aload_n 0, 1) := by decide +kernel
theorem d_Mo_round_16 : decode b_Mo_round 16 = .ok (.getfield 17, 3) := by decide +kernel
theorem d_Mo_round_19 : decode b_Mo_round 19 = .ok (.iload_n 1, 1) := by decide +kernel
theorem d_Mo_round_20 : decode b_Mo_round 20 = .ok (.iload_n 2, 1) := by decide +kernel
theorem d_Mo_round_21 : decode b_Mo_round 21 = .ok (.iload_n 3, 1) := by decide +kernel
theorem d_Mo_round_22 : decode b_Mo_round 22 = .ok (.invokestatic 120, 3) := by decide +kernel
theorem d_Mo_round_25 : decode b_Mo_round 25 = .ok (.iaload, 1) := by decide +kernel
theorem d_Mo_round_26 : decode b_Mo_round 26 = .ok (.istore 4, 2) := by decide +kernel
theorem d_Mo_round_28 : decode b_Mo_round 28 = .ok (.aload_n 0, 1) := by decide +kernel
theorem d_Mo_round_29 : decode b_Mo_round 29 = .ok (.getfield 124, 3) := by decide +kernel
theorem d_Mo_round_32 : decode b_Mo_round 32 = .ok (.ifCond .eq 8, 3) := by decide +kernel
theorem d_Mo_round_35 : decode b_Mo_round 35 = .ok (.bipush (-4), 2) := by decide +kernel
theorem d_Mo_round_37 : decode b_Mo_round 37 = .ok (.goto 17, 3) := by decide +kernel
theorem d_Mo_round_40 : decode b_Mo_round 40 = .ok (.iload 4, 2) := by decide +kernel
theorem d_Mo_round_42 : decode b_Mo_round 42 = .ok (.ifCond .ne 8, 3) := by decide +kernel
theorem d_Mo_round_45 : decode b_Mo_round 45 = .ok (.bipush (-2), 2) := by decide +kernel
theorem d_Mo_round_47 : decode b_Mo_round 47 = .ok (.goto 7, 3) := by decide +kernel
theorem d_Mo_round_50 : decode b_Mo_round 50 = .ok (.iload 4, 2) := by decide +kernel
theorem d_Mo_round_52 : decode b_Mo_round 52 = .ok (.iconst 1, 1) := by decide +kernel
theorem d_Mo_round_53 : decode b_Mo_round 53 = .ok (.isub, 1) := by decide +kernel
theorem d_Mo_round_54 : decode b_Mo_round 54 = .ok (.ireturn, 1) := by decide +kernel
theorem d_Mo_ways_0 : decode b_Mo_ways 0 = .ok (.iload_n 1, 1) := by decide +kernel
theorem d_Mo_ways_1 : decode b_Mo_ways 1 = .ok (.iload_n 2, 1) := by decide +kernel
theorem d_Mo_ways_2 : decode b_Mo_ways 2 = .ok (.iload_n 3, 1) := by decide +kernel
theorem d_Mo_ways_3 : decode b_Mo_ways 3 = .ok (.invokestatic 145, 3) := by decide +kernel
theorem d_Mo_ways_6 : decode b_Mo_ways 6 = .ok (.ifCond .ne 5, 3) := by decide +kernel
theorem d_Mo_ways_9 : decode b_Mo_ways 9 = .ok (.iconst (-1), 1) := by decide +kernel
theorem d_Mo_ways_10 : decode b_Mo_ways 10 = .ok (.ireturn, 1) := by decide +kernel
theorem d_Mo_ways_11 : decode b_Mo_ways 11 = .ok (.aload_n 0, 1) := by decide +kernel
theorem d_Mo_ways_12 : decode b_Mo_ways 12 = .ok (.invokevirtual 151, 3) := by decide +kernel
theorem d_Mo_ways_15 : decode b_Mo_ways 15 = .ok (.aload_n 0, 1) := by decide +kernel
theorem d_Mo_ways_16 : decode b_Mo_ways 16 = .ok (.getfield 124, 3) := by decide +kernel
theorem d_Mo_ways_19 : decode b_Mo_ways 19 = .ok (.ifCond .eq 6, 3) := by decide +kernel
theorem d_Mo_ways_22 : decode b_Mo_ways 22 = .ok (.bipush (-4), 2) := by decide +kernel
theorem d_Mo_ways_24 : decode b_Mo_ways 24 = .ok (.ireturn, 1) := by decide +kernel
theorem d_Mo_ways_25 : decode b_Mo_ways 25 = .ok (.iconst 0, 1) := by decide +kernel
theorem d_Mo_ways_26 : decode b_Mo_ways 26 = .ok (.istore 4, 2) := by decide +kernel
theorem d_Mo_ways_28 : decode b_Mo_ways 28 = .ok (.iload_n 1, 1) := by decide +kernel
theorem d_Mo_ways_29 : decode b_Mo_ways 29 = .ok (.iload_n 2, 1) := by decide +kernel
theorem d_Mo_ways_30 : decode b_Mo_ways 30 = .ok (.iload_n 3, 1) := by decide +kernel
theorem d_Mo_ways_31 : decode b_Mo_ways 31 = .ok (.invokestatic 120, 3) := by decide +kernel
theorem d_Mo_ways_34 : decode b_Mo_ways 34 = .ok (.istore 5, 2) := by decide +kernel
theorem d_Mo_ways_36 : decode b_Mo_ways 36 = .ok (.iconst 0, 1) := by decide +kernel
theorem d_Mo_ways_37 : decode b_Mo_ways 37 = .ok (.istore 6, 2) := by decide +kernel
theorem d_Mo_ways_39 : decode b_Mo_ways 39 = .ok (.iload 6, 2) := by decide +kernel
theorem d_Mo_ways_41 : decode b_Mo_ways 41 = .ok (.bipush 21, 2) := by decide +kernel
theorem d_Mo_ways_43 : decode b_Mo_ways 43 = .ok (.if_icmp .ge 54, 3) := by decide +kernel
theorem d_Mo_ways_46 : decode b_Mo_ways 46 = .ok (.aload_n 0, 1) := by decide +kernel
theorem d_Mo_ways_47 : decode b_Mo_ways 47 = .ok (.getfield 14, 3) := by decide +kernel
theorem d_Mo_ways_50 : decode b_Mo_ways 50 = .ok (.iload 6, 2) := by decide +kernel
theorem d_Mo_ways_52 : decode b_Mo_ways 52 = .ok (.baload, 1) := by decide +kernel
theorem d_Mo_ways_53 : decode b_Mo_ways 53 = .ok (.ifCond .ne 38, 3) := by decide +kernel
theorem d_Mo_ways_56 : decode b_Mo_ways 56 = .ok (.aload_n 0, 1) := by decide +kernel
theorem d_Mo_ways_57 : decode b_Mo_ways 57 = .ok (.iload 6, 2) := by decide +kernel
theorem d_Mo_ways_59 : decode b_Mo_ways 59 = .ok (.invokevirtual 133, 3) := by decide +kernel
theorem d_Mo_ways_62 : decode b_Mo_ways 62 = .ok (.aload_n 0, 1) := by decide +kernel
theorem d_Mo_ways_63 : decode b_Mo_ways 63 = .ok (.invokevirtual 137, 3) := by decide +kernel
theorem d_Mo_ways_66 : decode b_Mo_ways 66 = .ok (.ifCond .eq 25, 3) := by decide +kernel
theorem d_Mo_ways_69 : decode b_Mo_ways 69 = .ok (.iload 4, 2) := by decide +kernel
theorem d_Mo_ways_71 : decode b_Mo_ways 71 = .ok (.aload_n 0, 1) := by decide +kernel
theorem d_Mo_ways_72 : decode b_Mo_ways 72 = .ok (.invokevirtual 141, 3) := by decide +kernel
theorem d_Mo_ways_75 : decode b_Mo_ways 75 = .ok (.iload 5, 2) := by decide +kernel
theorem d_Mo_ways_77 : decode b_Mo_ways 77 = .ok (.if_icmp .ne 7, 3) := by decide +kernel
theorem d_Mo_ways_80 : decode b_Mo_ways 80 = .ok (.iconst 1, 1) := by decide +kernel
theorem d_Mo_ways_81 : decode b_Mo_ways 81 = .ok (.goto 4, 3) := by decide +kernel
theorem d_Mo_ways_84 : decode b_Mo_ways 84 = .ok (.iconst 0, 1) := by decide +kernel
theorem d_Mo_ways_85 : decode b_Mo_ways 85 = .ok (.iadd, 1) := by decide +kernel
theorem d_Mo_ways_86 : decode b_Mo_ways 86 = .ok (.istore 4, 2) := by decide +kernel
theorem d_Mo_ways_88 : decode b_Mo_ways 88 = .ok (.goto (-26), 3) := by decide +kernel
theorem d_Mo_ways_91 : decode b_Mo_ways 91 = .ok (.iinc 6 1, 3) := by decide +kernel
theorem d_Mo_ways_94 : decode b_Mo_ways 94 = .ok (.goto (-55), 3) := by decide +kernel
theorem d_Mo_ways_97 : decode b_Mo_ways 97 = .ok (.iload 4, 2) := by decide +kernel
theorem d_Mo_ways_99 : decode b_Mo_ways 99 = .ok (.ireturn, 1) := by decide +kernel
theorem d_Mo_premise_0 : decode b_Mo_premise 0 = .ok (.iload_n 1, 1) := by decide +kernel
theorem d_Mo_premise_1 : decode b_Mo_premise 1 = .ok (.aload_n 0, 1) := by decide +kernel
theorem d_Mo_premise_2 : decode b_Mo_premise 2 = .ok (.getfield 94, 3) := by decide +kernel
theorem d_Mo_premise_5 : decode b_Mo_premise 5 = .ok (.invokestatic 105, 3) := by decide +kernel
theorem d_Mo_premise_8 : decode b_Mo_premise 8 = .ok (.if_icmp .le 8, 3) := by decide +kernel
theorem d_Mo_premise_11 : decode b_Mo_premise 11 = .ok (.bipush (-2), 2) := by decide +kernel
theorem d_Mo_premise_13 : decode b_Mo_premise 13 = .ok (.goto 16, 3) := by decide +kernel
theorem d_Mo_premise_16 : decode b_Mo_premise 16 = .ok (.aload_n 0, 1) := by decide +kernel
theorem d_Mo_premise_17 : decode b_Mo_premise 17 = .ok (.getfield 24, 3) := by decide +kernel
theorem d_Mo_premise_20 : decode b_Mo_premise 20 = .ok (.aload_n 0, 1) := by decide +kernel
theorem d_Mo_premise_21 : decode b_Mo_premise 21 = .ok (.getfield 27, 3) := by decide +kernel
theorem d_Mo_premise_24 : decode b_Mo_premise 24 = .ok (.iload_n 1, 1) := by decide +kernel
theorem d_Mo_premise_25 : decode b_Mo_premise 25 = .ok (.iconst 1, 1) := by decide +kernel
theorem d_Mo_premise_26 : decode b_Mo_premise 26 = .ok (.isub, 1) := by decide +kernel
theorem d_Mo_premise_27 : decode b_Mo_premise 27 = .ok (.iaload, 1) := by decide +kernel
theorem d_Mo_premise_28 : decode b_Mo_premise 28 = .ok (.iaload, 1) := by decide +kernel
theorem d_Mo_premise_29 : decode b_Mo_premise 29 = .ok (.ireturn, 1) := by decide +kernel
theorem d_Mo_way_0 : decode b_Mo_way 0 = .ok (.iload_n 1, 1) := by decide +kernel
theorem d_Mo_way_1 : decode b_Mo_way 1 = .ok (.iload_n 2, 1) := by decide +kernel
theorem d_Mo_way_2 : decode b_Mo_way 2 = .ok (.iload_n 3, 1) := by decide +kernel
theorem d_Mo_way_3 : decode b_Mo_way 3 = .ok (.invokestatic 145, 3) := by decide +kernel
theorem d_Mo_way_6 : decode b_Mo_way 6 = .ok (.ifCond .eq 14, 3) := by decide +kernel
theorem d_Mo_way_9 : decode b_Mo_way 9 = .ok (.iload 5, 2) := by decide +kernel
theorem d_Mo_way_11 : decode b_Mo_way 11 = .ok (.ifCond .lt 9, 3) := by decide +kernel
theorem d_Mo_way_14 : decode b_Mo_way 14 = .ok (.iload 5, 2) := by decide +kernel
theorem d_Mo_way_16 : decode b_Mo_way 16 = .ok (.iconst 4, 1) := by decide +kernel
theorem d_Mo_way_17 : decode b_Mo_way 17 = .ok (.if_icmp .le 5, 3) := by decide +kernel
theorem d_Mo_way_20 : decode b_Mo_way 20 = .ok (.iconst (-1), 1) := by decide +kernel
theorem d_Mo_way_21 : decode b_Mo_way 21 = .ok (.ireturn, 1) := by decide +kernel
theorem d_Mo_way_22 : decode b_Mo_way 22 = .ok (.aload_n 0, 1) := by decide +kernel
theorem d_Mo_way_23 : decode b_Mo_way 23 = .ok (.invokevirtual 151, 3) := by decide +kernel
theorem d_Mo_way_26 : decode b_Mo_way 26 = .ok (.aload_n 0, 1) := by decide +kernel
theorem d_Mo_way_27 : decode b_Mo_way 27 = .ok (.getfield 124, 3) := by decide +kernel
theorem d_Mo_way_30 : decode b_Mo_way 30 = .ok (.ifCond .eq 6, 3) := by decide +kernel
theorem d_Mo_way_33 : decode b_Mo_way 33 = .ok (.bipush (-4), 2) := by decide +kernel
theorem d_Mo_way_35 : decode b_Mo_way 35 = .ok (.ireturn, 1) := by decide +kernel
theorem d_Mo_way_36 : decode b_Mo_way 36 = .ok (.iload 4, 2) := by decide +kernel
theorem d_Mo_way_38 : decode b_Mo_way 38 = .ok (.istore 6, 2) := by decide +kernel
theorem d_Mo_way_40 : decode b_Mo_way 40 = .ok (.iload_n 1, 1) := by decide +kernel
theorem d_Mo_way_41 : decode b_Mo_way 41 = .ok (.iload_n 2, 1) := by decide +kernel
theorem d_Mo_way_42 : decode b_Mo_way 42 = .ok (.iload_n 3, 1) := by decide +kernel
theorem d_Mo_way_43 : decode b_Mo_way 43 = .ok (.invokestatic 120, 3) := by decide +kernel
theorem d_Mo_way_46 : decode b_Mo_way 46 = .ok (.istore 7, 2) := by decide +kernel
theorem d_Mo_way_48 : decode b_Mo_way 48 = .ok (.iconst 0, 1) := by decide +kernel
theorem d_Mo_way_49 : decode b_Mo_way 49 = .ok (.istore 8, 2) := by decide +kernel
theorem d_Mo_way_51 : decode b_Mo_way 51 = .ok (.iload 8, 2) := by decide +kernel
theorem d_Mo_way_53 : decode b_Mo_way 53 = .ok (.bipush 21, 2) := by decide +kernel
theorem d_Mo_way_55 : decode b_Mo_way 55 = .ok (.if_icmp .ge 74, 3) := by decide +kernel
theorem d_Mo_way_58 : decode b_Mo_way 58 = .ok (.iload 4, 2) := by decide +kernel
theorem d_Mo_way_60 : decode b_Mo_way 60 = .ok (.ifCond .lt 69, 3) := by decide +kernel
theorem d_Mo_way_63 : decode b_Mo_way 63 = .ok (.aload_n 0, 1) := by decide +kernel
theorem d_Mo_way_64 : decode b_Mo_way 64 = .ok (.getfield 14, 3) := by decide +kernel
theorem d_Mo_way_67 : decode b_Mo_way 67 = .ok (.iload 8, 2) := by decide +kernel
theorem d_Mo_way_69 : decode b_Mo_way 69 = .ok (.baload, 1) := by decide +kernel
theorem d_Mo_way_70 : decode b_Mo_way 70 = .ok (.ifCond .ne 53, 3) := by decide +kernel
theorem d_Mo_way_73 : decode b_Mo_way 73 = .ok (.aload_n 0, 1) := by decide +kernel
theorem d_Mo_way_74 : decode b_Mo_way 74 = .ok (.iload 8, 2) := by decide +kernel
theorem d_Mo_way_76 : decode b_Mo_way 76 = .ok (.invokevirtual 133, 3) := by decide +kernel
theorem d_Mo_way_79 : decode b_Mo_way 79 = .ok (.aload_n 0, 1) := by decide +kernel
theorem d_Mo_way_80 : decode b_Mo_way 80 = .ok (.invokevirtual 137, 3) := by decide +kernel
theorem d_Mo_way_83 : decode b_Mo_way 83 = .ok (.ifCond .eq 40, 3) := by decide +kernel
theorem d_Mo_way_86 : decode b_Mo_way 86 = .ok (.aload_n 0, 1) := by decide +kernel
theorem d_Mo_way_87 : decode b_Mo_way 87 = .ok (.invokevirtual 141, 3) := by decide +kernel
theorem d_Mo_way_90 : decode b_Mo_way 90 = .ok (.iload 7, 2) := by decide +kernel
theorem d_Mo_way_92 : decode b_Mo_way 92 = .ok (.if_icmp .ne (-13), 3) := by decide +kernel
theorem d_Mo_way_95 : decode b_Mo_way 95 = .ok (.iload 6, 2) := by decide +kernel
theorem d_Mo_way_97 : decode b_Mo_way 97 = .ok (.ifCond .ne 20, 3) := by decide +kernel
theorem d_Mo_way_100 : decode b_Mo_way 100 = .ok (.iload 5, 2) := by decide +kernel
theorem d_Mo_way_102 : decode b_Mo_way 102 = .ok (.ifCond .ne 8, 3) := by decide +kernel
theorem d_Mo_way_105 : decode b_Mo_way 105 = .ok (.iload 8, 2) := by decide +kernel
theorem d_Mo_way_107 : decode b_Mo_way 107 = .ok (.goto 9, 3) := by decide +kernel
theorem d_Mo_way_110 : decode b_Mo_way 110 = .ok (.aload_n 0, 1) := by decide +kernel
theorem d_Mo_way_111 : decode b_Mo_way 111 = .ok (.iload 5, 2) := by decide +kernel
theorem d_Mo_way_113 : decode b_Mo_way 113 = .ok (.invokevirtual 154, 3) := by decide +kernel
theorem d_Mo_way_116 : decode b_Mo_way 116 = .ok (.ireturn, 1) := by decide +kernel
theorem d_Mo_way_117 : decode b_Mo_way 117 = .ok (.iinc 6 (-1), 3) := by decide +kernel
theorem d_Mo_way_120 : decode b_Mo_way 120 = .ok (.goto (-41), 3) := by decide +kernel
theorem d_Mo_way_123 : decode b_Mo_way 123 = .ok (.iinc 8 1, 3) := by decide +kernel
theorem d_Mo_way_126 : decode b_Mo_way 126 = .ok (.goto (-75), 3) := by decide +kernel
theorem d_Mo_way_129 : decode b_Mo_way 129 = .ok (.bipush (-2), 2) := by decide +kernel
theorem d_Mo_way_131 : decode b_Mo_way 131 = .ok (.ireturn, 1) := by decide +kernel
theorem d_Mo_clashes_0 : decode b_Mo_clashes 0 = .ok (.aload_n 0, 1) := by decide +kernel
theorem d_Mo_clashes_1 : decode b_Mo_clashes 1 = .ok (.invokevirtual 151, 3) := by decide +kernel
theorem d_Mo_clashes_4 : decode b_Mo_clashes 4 = .ok (.aload_n 0, 1) := by decide +kernel
theorem d_Mo_clashes_5 : decode b_Mo_clashes 5 = .ok (.getfield 124, 3) := by decide +kernel
theorem d_Mo_clashes_8 : decode b_Mo_clashes 8 = .ok (.ifCond .eq 6, 3) := by decide +kernel
theorem d_Mo_clashes_11 : decode b_Mo_clashes 11 = .ok (.bipush (-4), 2) := by decide +kernel
theorem d_Mo_clashes_13 : decode b_Mo_clashes 13 = .ok (.ireturn, 1) := by decide +kernel
theorem d_Mo_clashes_14 : decode b_Mo_clashes 14 = .ok (.iconst 0, 1) := by decide +kernel
theorem d_Mo_clashes_15 : decode b_Mo_clashes 15 = .ok (.istore_n 1, 1) := by decide +kernel
theorem d_Mo_clashes_16 : decode b_Mo_clashes 16 = .ok (.bipush 21, 2) := by decide +kernel
theorem d_Mo_clashes_18 : decode b_Mo_clashes 18 = .ok (.istore_n 2, 1) := by decide +kernel
theorem d_Mo_clashes_19 : decode b_Mo_clashes 19 = .ok (.iload_n 2, 1) := by decide +kernel
theorem d_Mo_clashes_20 : decode b_Mo_clashes 20 = .ok (.bipush 24, 2) := by decide +kernel
theorem d_Mo_clashes_22 : decode b_Mo_clashes 22 = .ok (.if_icmp .ge 27, 3) := by decide +kernel
theorem d_Mo_clashes_25 : decode b_Mo_clashes 25 = .ok (.aload_n 0, 1) := by decide +kernel
theorem d_Mo_clashes_26 : decode b_Mo_clashes 26 = .ok (.iload_n 2, 1) := by decide +kernel
theorem d_Mo_clashes_27 : decode b_Mo_clashes 27 = .ok (.invokevirtual 133, 3) := by decide +kernel
theorem d_Mo_clashes_30 : decode b_Mo_clashes 30 = .ok (.aload_n 0, 1) := by decide +kernel
theorem d_Mo_clashes_31 : decode b_Mo_clashes 31 = .ok (.invokevirtual 137, 3) := by decide +kernel
theorem d_Mo_clashes_34 : decode b_Mo_clashes 34 = .ok (.ifCond .eq 9, 3) := by decide +kernel
theorem d_Mo_clashes_37 : decode b_Mo_clashes 37 = .ok (.iinc 1 1, 3) := by decide +kernel
theorem d_Mo_clashes_40 : decode b_Mo_clashes 40 = .ok (.goto (-10), 3) := by decide +kernel
theorem d_Mo_clashes_43 : decode b_Mo_clashes 43 = .ok (.iinc 2 1, 3) := by decide +kernel
theorem d_Mo_clashes_46 : decode b_Mo_clashes 46 = .ok (.goto (-27), 3) := by decide +kernel
theorem d_Mo_clashes_49 : decode b_Mo_clashes 49 = .ok (.iload_n 1, 1) := by decide +kernel
theorem d_Mo_clashes_50 : decode b_Mo_clashes 50 = .ok (.ireturn, 1) := by decide +kernel
