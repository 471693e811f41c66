theorem d_De_lastRound_0 : decode b_De_lastRound 0 = .ok (.aload_n 0, 1) := by decide +kernel
theorem d_De_lastRound_1 : decode b_De_lastRound 1 = .ok (.getfield 31, 3) := by decide +kernel
theorem d_De_lastRound_4 : decode b_De_lastRound 4 = .ok (.ifCond .le 27, 3) := by decide +kernel
theorem d_De_lastRound_7 : decode b_De_lastRound 7 = .ok (.aload_n 0, 1) := by decide +kernel
theorem d_De_lastRound_8 : decode b_De_lastRound 8 = .ok (.getfield 31, 3) := by decide +kernel
theorem d_De_lastRound_11 : decode b_De_lastRound 11 = .ok (.sipush 400, 3) := by decide +kernel
theorem d_De_lastRound_14 : decode b_De_lastRound 14 = .ok (.if_icmp .gt 17, 3) := by decide +kernel
theorem d_De_lastRound_17 : decode b_De_lastRound 17 = .ok (.aload_n 0, 1) := by decide +kernel
theorem d_De_lastRound_18 : decode b_De_lastRound 18 = .ok (.getfield 24, 3) := by decide +kernel
theorem d_De_lastRound_21 : decode b_De_lastRound 21 = .ok (.aload_n 0, 1) := by decide +kernel
theorem d_De_lastRound_22 : decode b_De_lastRound 22 = .ok (.getfield 31, 3) := by decide +kernel
theorem d_De_lastRound_25 : decode b_De_lastRound 25 = .ok (.iconst 1, 1) := by decide +kernel
theorem d_De_lastRound_26 : decode b_De_lastRound 26 = .ok (.isub, 1) := by decide +kernel
theorem d_De_lastRound_27 : decode b_De_lastRound 27 = .ok (.iaload, 1) := by decide +kernel
theorem d_De_lastRound_28 : decode b_De_lastRound 28 = .ok (.goto 4, 3) := by decide +kernel
theorem d_De_lastRound_31 : decode b_De_lastRound 31 = .ok (.iconst 0, 1) := by decide +kernel
theorem d_De_lastRound_32 : decode b_De_lastRound 32 = .ok (.ireturn, 1) := by decide +kernel
theorem d_De_roundOf_0 : decode b_De_roundOf 0 = .ok (.iconst 0, 1) := by decide +kernel
theorem d_De_roundOf_1 : decode b_De_roundOf 1 = .ok (.istore_n 2, 1) := by decide +kernel
theorem d_De_roundOf_2 : decode b_De_roundOf 2 = .ok (.iload_n 2, 1) := by decide +kernel
theorem d_De_roundOf_3 : decode b_De_roundOf 3 = .ok (.aload_n 0, 1) := by decide +kernel
theorem d_De_roundOf_4 : decode b_De_roundOf 4 = .ok (.getfield 31, 3) := by decide +kernel
theorem d_De_roundOf_7 : decode b_De_roundOf 7 = .ok (.if_icmp .ge 26, 3) := by decide +kernel
theorem d_De_roundOf_10 : decode b_De_roundOf 10 = .ok (.aload_n 0, 1) := by decide +kernel
theorem d_De_roundOf_11 : decode b_De_roundOf 11 = .ok (.getfield 20, 3) := by decide +kernel
theorem d_De_roundOf_14 : decode b_De_roundOf 14 = .ok (.iload_n 2, 1) := by decide +kernel
theorem d_De_roundOf_15 : decode b_De_roundOf 15 = .ok (.iaload, 1) := by decide +kernel
theorem d_De_roundOf_16 : decode b_De_roundOf 16 = .ok (.iload_n 1, 1) := by decide +kernel
theorem d_De_roundOf_17 : decode b_De_roundOf 17 = .ok (.if_icmp .ne 10, 3) := by decide +kernel
theorem d_De_roundOf_20 : decode b_De_roundOf 20 = .ok (.aload_n 0, 1) := by decide +kernel
theorem d_De_roundOf_21 : decode b_De_roundOf 21 = .ok (.getfield 24, 3) := by decide +kernel
theorem d_De_roundOf_24 : decode b_De_roundOf 24 = .ok (.iload_n 2, 1) := by decide +kernel
theorem d_De_roundOf_25 : decode b_De_roundOf 25 = .ok (.iaload, 1) := by decide +kernel
theorem d_De_roundOf_26 : decode b_De_roundOf 26 = .ok (.ireturn, 1) := by decide +kernel
theorem d_De_roundOf_27 : decode b_De_roundOf 27 = .ok (.iinc 2 1, 3) := by decide +kernel
theorem d_De_roundOf_30 : decode b_De_roundOf 30 = .ok (.goto (-28), 3) := by decide +kernel
theorem d_De_roundOf_33 : decode b_De_roundOf 33 = .ok (.bipush (-2), 2) := by decide +kernel
theorem d_De_roundOf_35 : decode b_De_roundOf 35 = .ok (.ireturn, 1) := by decide +kernel
theorem d_Le_termOf_0 : decode b_Le_termOf 0 = .ok (.iload_n 0, 1) := by decide +kernel
theorem d_Le_termOf_1 : decode b_Le_termOf 1 = .ok (.bipush 32, 2) := by decide +kernel
theorem d_Le_termOf_3 : decode b_Le_termOf 3 = .ok (.if_icmp .ge 5, 3) := by decide +kernel
theorem d_Le_termOf_6 : decode b_Le_termOf 6 = .ok (.iload_n 0, 1) := by decide +kernel
theorem d_Le_termOf_7 : decode b_Le_termOf 7 = .ok (.ireturn, 1) := by decide +kernel
theorem d_Le_termOf_8 : decode b_Le_termOf 8 = .ok (.lload_n 1, 1) := by decide +kernel
theorem d_Le_termOf_9 : decode b_Le_termOf 9 = .ok (.bipush 6, 2) := by decide +kernel
theorem d_Le_termOf_11 : decode b_Le_termOf 11 = .ok (.iload_n 0, 1) := by decide +kernel
theorem d_Le_termOf_12 : decode b_Le_termOf 12 = .ok (.bipush 32, 2) := by decide +kernel
theorem d_Le_termOf_14 : decode b_Le_termOf 14 = .ok (.isub, 1) := by decide +kernel
theorem d_Le_termOf_15 : decode b_Le_termOf 15 = .ok (.imul, 1) := by decide +kernel
theorem d_Le_termOf_16 : decode b_Le_termOf 16 = .ok (.lushr, 1) := by decide +kernel
theorem d_Le_termOf_17 : decode b_Le_termOf 17 = .ok (.ldc2_w 11, 3) := by decide +kernel
theorem d_Le_termOf_20 : decode b_Le_termOf 20 = .ok (.land, 1) := by decide +kernel
theorem d_Le_termOf_21 : decode b_Le_termOf 21 = .ok (.l2i, 1) := by decide +kernel
theorem d_Le_termOf_22 : decode b_Le_termOf 22 = .ok (.iconst 1, 1) := by decide +kernel
theorem d_Le_termOf_23 : decode b_Le_termOf 23 = .ok (.isub, 1) := by decide +kernel
theorem d_Le_termOf_24 : decode b_Le_termOf 24 = .ok (.ireturn, 1) := by decide +kernel
theorem d_Le_bind_0 : decode b_Le_bind 0 = .ok (.iload_n 0, 1) := by decide +kernel
theorem d_Le_bind_1 : decode b_Le_bind 1 = .ok (.lload_n 2, 1) := by decide +kernel
theorem d_Le_bind_2 : decode b_Le_bind 2 = .ok (.invokestatic 13, 3) := by decide +kernel
theorem d_Le_bind_5 : decode b_Le_bind 5 = .ok (.istore 4, 2) := by decide +kernel
theorem d_Le_bind_7 : decode b_Le_bind 7 = .ok (.iload 4, 2) := by decide +kernel
theorem d_Le_bind_9 : decode b_Le_bind 9 = .ok (.iconst (-1), 1) := by decide +kernel
theorem d_Le_bind_10 : decode b_Le_bind 10 = .ok (.if_icmp .ne 18, 3) := by decide +kernel
theorem d_Le_bind_13 : decode b_Le_bind 13 = .ok (.lload_n 2, 1) := by decide +kernel
theorem d_Le_bind_14 : decode b_Le_bind 14 = .ok (.iload_n 1, 1) := by decide +kernel
theorem d_Le_bind_15 : decode b_Le_bind 15 = .ok (.iconst 1, 1) := by decide +kernel
theorem d_Le_bind_16 : decode b_Le_bind 16 = .ok (.iadd, 1) := by decide +kernel
theorem d_Le_bind_17 : decode b_Le_bind 17 = .ok (.i2l, 1) := by decide +kernel
theorem d_Le_bind_18 : decode b_Le_bind 18 = .ok (.bipush 6, 2) := by decide +kernel
theorem d_Le_bind_20 : decode b_Le_bind 20 = .ok (.iload_n 0, 1) := by decide +kernel
theorem d_Le_bind_21 : decode b_Le_bind 21 = .ok (.bipush 32, 2) := by decide +kernel
theorem d_Le_bind_23 : decode b_Le_bind 23 = .ok (.isub, 1) := by decide +kernel
theorem d_Le_bind_24 : decode b_Le_bind 24 = .ok (.imul, 1) := by decide +kernel
theorem d_Le_bind_25 : decode b_Le_bind 25 = .ok (.lshl, 1) := by decide +kernel
theorem d_Le_bind_26 : decode b_Le_bind 26 = .ok (.lor, 1) := by decide +kernel
theorem d_Le_bind_27 : decode b_Le_bind 27 = .ok (.lreturn, 1) := by decide +kernel
theorem d_Le_bind_28 : decode b_Le_bind 28 = .ok (.iload 4, 2) := by decide +kernel
theorem d_Le_bind_30 : decode b_Le_bind 30 = .ok (.iload_n 1, 1) := by decide +kernel
theorem d_Le_bind_31 : decode b_Le_bind 31 = .ok (.if_icmp .ne 7, 3) := by decide +kernel
theorem d_Le_bind_34 : decode b_Le_bind 34 = .ok (.lload_n 2, 1) := by decide +kernel
theorem d_Le_bind_35 : decode b_Le_bind 35 = .ok (.goto 6, 3) := by decide +kernel
theorem d_Le_bind_38 : decode b_Le_bind 38 = .ok (.ldc2_w 17, 3) := by decide +kernel
theorem d_Le_bind_41 : decode b_Le_bind 41 = .ok (.lreturn, 1) := by decide +kernel
theorem d_Le_fit_0 : decode b_Le_fit 0 = .ok (.iload_n 1, 1) := by decide +kernel
theorem d_Le_fit_1 : decode b_Le_fit 1 = .ok (.ifCond .lt 11, 3) := by decide +kernel
theorem d_Le_fit_4 : decode b_Le_fit 4 = .ok (.iload_n 1, 1) := by decide +kernel
theorem d_Le_fit_5 : decode b_Le_fit 5 = .ok (.iconst 2, 1) := by decide +kernel
theorem d_Le_fit_6 : decode b_Le_fit 6 = .ok (.iadd, 1) := by decide +kernel
theorem d_Le_fit_7 : decode b_Le_fit 7 = .ok (.aload_n 0, 1) := by decide +kernel
theorem d_Le_fit_8 : decode b_Le_fit 8 = .ok (.arraylength, 1) := by decide +kernel
theorem d_Le_fit_9 : decode b_Le_fit 9 = .ok (.if_icmp .lt 7, 3) := by decide +kernel
theorem d_Le_fit_12 : decode b_Le_fit 12 = .ok (.ldc2_w 17, 3) := by decide +kernel
theorem d_Le_fit_15 : decode b_Le_fit 15 = .ok (.lreturn, 1) := by decide +kernel
theorem d_Le_fit_16 : decode b_Le_fit 16 = .ok (.aload_n 0, 1) := by decide +kernel
theorem d_Le_fit_17 : decode b_Le_fit 17 = .ok (.iload_n 1, 1) := by decide +kernel
theorem d_Le_fit_18 : decode b_Le_fit 18 = .ok (.iconst 1, 1) := by decide +kernel
theorem d_Le_fit_19 : decode b_Le_fit 19 = .ok (.iadd, 1) := by decide +kernel
theorem d_Le_fit_20 : decode b_Le_fit 20 = .ok (.iaload, 1) := by decide +kernel
theorem d_Le_fit_21 : decode b_Le_fit 21 = .ok (.iload_n 2, 1) := by decide +kernel
theorem d_Le_fit_22 : decode b_Le_fit 22 = .ok (.bipush 32, 2) := by decide +kernel
theorem d_Le_fit_24 : decode b_Le_fit 24 = .ok (.idiv, 1) := by decide +kernel
theorem d_Le_fit_25 : decode b_Le_fit 25 = .ok (.bipush 32, 2) := by decide +kernel
theorem d_Le_fit_27 : decode b_Le_fit 27 = .ok (.irem, 1) := by decide +kernel
theorem d_Le_fit_28 : decode b_Le_fit 28 = .ok (.lload_n 3, 1) := by decide +kernel
theorem d_Le_fit_29 : decode b_Le_fit 29 = .ok (.invokestatic 19, 3) := by decide +kernel
theorem d_Le_fit_32 : decode b_Le_fit 32 = .ok (.lstore 5, 2) := by decide +kernel
theorem d_Le_fit_34 : decode b_Le_fit 34 = .ok (.lload 5, 2) := by decide +kernel
theorem d_Le_fit_36 : decode b_Le_fit 36 = .ok (.ldc2_w 17, 3) := by decide +kernel
theorem d_Le_fit_39 : decode b_Le_fit 39 = .ok (.lcmp, 1) := by decide +kernel
theorem d_Le_fit_40 : decode b_Le_fit 40 = .ok (.ifCond .eq 20, 3) := by decide +kernel
theorem d_Le_fit_43 : decode b_Le_fit 43 = .ok (.aload_n 0, 1) := by decide +kernel
theorem d_Le_fit_44 : decode b_Le_fit 44 = .ok (.iload_n 1, 1) := by decide +kernel
theorem d_Le_fit_45 : decode b_Le_fit 45 = .ok (.iaload, 1) := by decide +kernel
theorem d_Le_fit_46 : decode b_Le_fit 46 = .ok (.iload_n 2, 1) := by decide +kernel
theorem d_Le_fit_47 : decode b_Le_fit 47 = .ok (.bipush 32, 2) := by decide +kernel
theorem d_Le_fit_49 : decode b_Le_fit 49 = .ok (.idiv, 1) := by decide +kernel
theorem d_Le_fit_50 : decode b_Le_fit 50 = .ok (.bipush 32, 2) := by decide +kernel
theorem d_Le_fit_52 : decode b_Le_fit 52 = .ok (.idiv, 1) := by decide +kernel
theorem d_Le_fit_53 : decode b_Le_fit 53 = .ok (.lload 5, 2) := by decide +kernel
theorem d_Le_fit_55 : decode b_Le_fit 55 = .ok (.invokestatic 19, 3) := by decide +kernel
theorem d_Le_fit_58 : decode b_Le_fit 58 = .ok (.lstore 5, 2) := by decide +kernel
theorem d_Le_fit_60 : decode b_Le_fit 60 = .ok (.lload 5, 2) := by decide +kernel
theorem d_Le_fit_62 : decode b_Le_fit 62 = .ok (.ldc2_w 17, 3) := by decide +kernel
theorem d_Le_fit_65 : decode b_Le_fit 65 = .ok (.lcmp, 1) := by decide +kernel
theorem d_Le_fit_66 : decode b_Le_fit 66 = .ok (.ifCond .eq 19, 3) := by decide +kernel
theorem d_Le_fit_69 : decode b_Le_fit 69 = .ok (.aload_n 0, 1) := by decide +kernel
theorem d_Le_fit_70 : decode b_Le_fit 70 = .ok (.iload_n 1, 1) := by decide +kernel
theorem d_Le_fit_71 : decode b_Le_fit 71 = .ok (.iconst 2, 1) := by decide +kernel
theorem d_Le_fit_72 : decode b_Le_fit 72 = .ok (.iadd, 1) := by decide +kernel
theorem d_Le_fit_73 : decode b_Le_fit 73 = .ok (.iaload, 1) := by decide +kernel
theorem d_Le_fit_74 : decode b_Le_fit 74 = .ok (.iload_n 2, 1) := by decide +kernel
theorem d_Le_fit_75 : decode b_Le_fit 75 = .ok (.bipush 32, 2) := by decide +kernel
theorem d_Le_fit_77 : decode b_Le_fit 77 = .ok (.irem, 1) := by decide +kernel
theorem d_Le_fit_78 : decode b_Le_fit 78 = .ok (.lload 5, 2) := by decide +kernel
theorem d_Le_fit_80 : decode b_Le_fit 80 = .ok (.invokestatic 19, 3) := by decide +kernel
theorem d_Le_fit_83 : decode b_Le_fit 83 = .ok (.lstore 5, 2) := by decide +kernel
theorem d_Le_fit_85 : decode b_Le_fit 85 = .ok (.lload 5, 2) := by decide +kernel
theorem d_Le_fit_87 : decode b_Le_fit 87 = .ok (.lreturn, 1) := by decide +kernel
theorem d_Ma_init_0 : decode b_Ma_init 0 = .ok (.aload_n 0, 1) := by decide +kernel
theorem d_Ma_init_1 : decode b_Ma_init 1 = .ok (.invokespecial 3, 3) := by decide +kernel
theorem d_Ma_init_4 : decode b_Ma_init 4 = .ok (.aload_n 0, 1) := by decide +kernel
theorem d_Ma_init_5 : decode b_Ma_init 5 = .ok (.aload_n 1, 1) := by decide +kernel
theorem d_Ma_init_6 : decode b_Ma_init 6 = .ok (.putfield 9, 3) := by decide +kernel
theorem d_Ma_init_9 : decode b_Ma_init 9 = .ok (.aload_n 0, 1) := by decide +kernel
theorem d_Ma_init_10 : decode b_Ma_init 10 = .ok (.iconst 4, 1) := by decide +kernel
theorem d_Ma_init_11 : decode b_Ma_init 11 = .ok (.newarray .int, 2) := by decide +kernel
theorem d_Ma_init_13 : decode b_Ma_init 13 = .ok (.putfield 15, 3) := by decide +kernel
theorem d_Ma_init_16 : decode b_Ma_init 16 = .ok (.return_, 1) := by decide +kernel
theorem d_Ma_join_0 : decode b_Ma_join 0 = .ok (.iload_n 2, 1) := by decide +kernel
theorem d_Ma_join_1 : decode b_Ma_join 1 = .ok (.iload_n 1, 1) := by decide +kernel
theorem d_Ma_join_2 : decode b_Ma_join 2 = .ok (.invokestatic 19, 3) := by decide +kernel
theorem d_Ma_join_5 : decode b_Ma_join 5 = .ok (.if_icmp .ge 8, 3) := by decide +kernel
theorem d_Ma_join_8 : decode b_Ma_join 8 = .ok (.iload_n 2, 1) := by decide +kernel
theorem d_Ma_join_9 : decode b_Ma_join 9 = .ok (.iconst 4, 1) := by decide +kernel
theorem d_Ma_join_10 : decode b_Ma_join 10 = .ok (.if_icmp .lt 11, 3) := by decide +kernel
theorem d_Ma_join_13 : decode b_Ma_join 13 = .ok (.aload_n 0, 1) := by decide +kernel
theorem d_Ma_join_14 : decode b_Ma_join 14 = .ok (.iload_n 1, 1) := by decide +kernel
theorem d_Ma_join_15 : decode b_Ma_join 15 = .ok (.lload 4, 2) := by decide +kernel
theorem d_Ma_join_17 : decode b_Ma_join 17 = .ok (.invokevirtual 25, 3) := by decide +kernel
theorem d_Ma_join_20 : decode b_Ma_join 20 = .ok (.ireturn, 1) := by decide +kernel
theorem d_Ma_join_21 : decode b_Ma_join 21 = .ok (.iload_n 2, 1) := by decide +kernel
theorem d_Ma_join_22 : decode b_Ma_join 22 = .ok (.iload_n 3, 1) := by decide +kernel
theorem d_Ma_join_23 : decode b_Ma_join 23 = .ok (.if_icmp .ne 15, 3) := by decide +kernel
theorem d_Ma_join_26 : decode b_Ma_join 26 = .ok (.aload_n 0, 1) := by decide +kernel
theorem d_Ma_join_27 : decode b_Ma_join 27 = .ok (.iload_n 1, 1) := by decide +kernel
theorem d_Ma_join_28 : decode b_Ma_join 28 = .ok (.iload_n 2, 1) := by decide +kernel
theorem d_Ma_join_29 : decode b_Ma_join 29 = .ok (.iconst 1, 1) := by decide +kernel
theorem d_Ma_join_30 : decode b_Ma_join 30 = .ok (.iadd, 1) := by decide +kernel
theorem d_Ma_join_31 : decode b_Ma_join 31 = .ok (.iload_n 3, 1) := by decide +kernel
theorem d_Ma_join_32 : decode b_Ma_join 32 = .ok (.lload 4, 2) := by decide +kernel
theorem d_Ma_join_34 : decode b_Ma_join 34 = .ok (.invokestatic 29, 3) := by decide +kernel
theorem d_Ma_join_37 : decode b_Ma_join 37 = .ok (.ireturn, 1) := by decide +kernel
theorem d_Ma_join_38 : decode b_Ma_join 38 = .ok (.iload_n 1, 1) := by decide +kernel
theorem d_Ma_join_39 : decode b_Ma_join 39 = .ok (.iload_n 2, 1) := by decide +kernel
theorem d_Ma_join_40 : decode b_Ma_join 40 = .ok (.invokestatic 33, 3) := by decide +kernel
theorem d_Ma_join_43 : decode b_Ma_join 43 = .ok (.istore 6, 2) := by decide +kernel
theorem d_Ma_join_45 : decode b_Ma_join 45 = .ok (.getstatic 37, 3) := by decide +kernel
theorem d_Ma_join_48 : decode b_Ma_join 48 = .ok (.iload 6, 2) := by decide +kernel
theorem d_Ma_join_50 : decode b_Ma_join 50 = .ok (.iaload, 1) := by decide +kernel
theorem d_Ma_join_51 : decode b_Ma_join 51 = .ok (.lload 4, 2) := by decide +kernel
theorem d_Ma_join_53 : decode b_Ma_join 53 = .ok (.invokestatic 40, 3) := by decide +kernel
theorem d_Ma_join_56 : decode b_Ma_join 56 = .ok (.istore 7, 2) := by decide +kernel
theorem d_Ma_join_58 : decode b_Ma_join 58 = .ok (.getstatic 37, 3) := by decide +kernel
theorem d_Ma_join_61 : decode b_Ma_join 61 = .ok (.iload 6, 2) := by decide +kernel
theorem d_Ma_join_63 : decode b_Ma_join 63 = .ok (.iconst 1, 1) := by decide +kernel
theorem d_Ma_join_64 : decode b_Ma_join 64 = .ok (.iadd, 1) := by decide +kernel
theorem d_Ma_join_65 : decode b_Ma_join 65 = .ok (.iaload, 1) := by decide +kernel
theorem d_Ma_join_66 : decode b_Ma_join 66 = .ok (.lload 4, 2) := by decide +kernel
theorem d_Ma_join_68 : decode b_Ma_join 68 = .ok (.invokestatic 40, 3) := by decide +kernel
theorem d_Ma_join_71 : decode b_Ma_join 71 = .ok (.istore 8, 2) := by decide +kernel
theorem d_Ma_join_73 : decode b_Ma_join 73 = .ok (.getstatic 37, 3) := by decide +kernel
theorem d_Ma_join_76 : decode b_Ma_join 76 = .ok (.iload 6, 2) := by decide +kernel
theorem d_Ma_join_78 : decode b_Ma_join 78 = .ok (.iconst 2, 1) := by decide +kernel
theorem d_Ma_join_79 : decode b_Ma_join 79 = .ok (.iadd, 1) := by decide +kernel
theorem d_Ma_join_80 : decode b_Ma_join 80 = .ok (.iaload, 1) := by decide +kernel
theorem d_Ma_join_81 : decode b_Ma_join 81 = .ok (.lload 4, 2) := by decide +kernel
theorem d_Ma_join_83 : decode b_Ma_join 83 = .ok (.invokestatic 40, 3) := by decide +kernel
theorem d_Ma_join_86 : decode b_Ma_join 86 = .ok (.istore 9, 2) := by decide +kernel
theorem d_Ma_join_88 : decode b_Ma_join 88 = .ok (.aload_n 0, 1) := by decide +kernel
theorem d_Ma_join_89 : decode b_Ma_join 89 = .ok (.getfield 9, 3) := by decide +kernel
theorem d_Ma_join_92 : decode b_Ma_join 92 = .ok (.iload 7, 2) := by decide +kernel
theorem d_Ma_join_94 : decode b_Ma_join 94 = .ok (.iload 8, 2) := by decide +kernel
theorem d_Ma_join_96 : decode b_Ma_join 96 = .ok (.invokevirtual 46, 3) := by decide +kernel
theorem d_Ma_join_99 : decode b_Ma_join 99 = .ok (.istore 10, 2) := by decide +kernel
theorem d_Ma_join_101 : decode b_Ma_join 101 = .ok (.iload 10, 2) := by decide +kernel
theorem d_Ma_join_103 : decode b_Ma_join 103 = .ok (.invokestatic 51, 3) := by decide +kernel
theorem d_Ma_join_106 : decode b_Ma_join 106 = .ok (.istore 11, 2) := by decide +kernel
theorem d_Ma_join_108 : decode b_Ma_join 108 = .ok (.iload 11, 2) := by decide +kernel
theorem d_Ma_join_110 : decode b_Ma_join 110 = .ok (.ifCond .le 169, 3) := by decide +kernel
theorem d_Ma_join_113 : decode b_Ma_join 113 = .ok (.iload 10, 2) := by decide +kernel
theorem d_Ma_join_115 : decode b_Ma_join 115 = .ok (.invokestatic 56, 3) := by decide +kernel
theorem d_Ma_join_118 : decode b_Ma_join 118 = .ok (.istore 12, 2) := by decide +kernel
theorem d_Ma_join_120 : decode b_Ma_join 120 = .ok (.iload 10, 2) := by decide +kernel
theorem d_Ma_join_122 : decode b_Ma_join 122 = .ok (.invokestatic 59, 3) := by decide +kernel
theorem d_Ma_join_125 : decode b_Ma_join 125 = .ok (.istore 10, 2) := by decide +kernel
theorem d_Ma_join_127 : decode b_Ma_join 127 = .ok (.aload_n 0, 1) := by decide +kernel
theorem d_Ma_join_128 : decode b_Ma_join 128 = .ok (.getfield 9, 3) := by decide +kernel
theorem d_Ma_join_131 : decode b_Ma_join 131 = .ok (.iload 12, 2) := by decide +kernel
theorem d_Ma_join_133 : decode b_Ma_join 133 = .ok (.iload 8, 2) := by decide +kernel
theorem d_Ma_join_135 : decode b_Ma_join 135 = .ok (.invokevirtual 62, 3) := by decide +kernel
theorem d_Ma_join_138 : decode b_Ma_join 138 = .ok (.istore 13, 2) := by decide +kernel
theorem d_Ma_join_140 : decode b_Ma_join 140 = .ok (.iload 13, 2) := by decide +kernel
theorem d_Ma_join_142 : decode b_Ma_join 142 = .ok (.invokestatic 51, 3) := by decide +kernel
theorem d_Ma_join_145 : decode b_Ma_join 145 = .ok (.istore 14, 2) := by decide +kernel
theorem d_Ma_join_147 : decode b_Ma_join 147 = .ok (.iload 14, 2) := by decide +kernel
theorem d_Ma_join_149 : decode b_Ma_join 149 = .ok (.ifCond .le 124, 3) := by decide +kernel
theorem d_Ma_join_152 : decode b_Ma_join 152 = .ok (.iload 13, 2) := by decide +kernel
theorem d_Ma_join_154 : decode b_Ma_join 154 = .ok (.invokestatic 56, 3) := by decide +kernel
theorem d_Ma_join_157 : decode b_Ma_join 157 = .ok (.istore 15, 2) := by decide +kernel
theorem d_Ma_join_159 : decode b_Ma_join 159 = .ok (.iload 13, 2) := by decide +kernel
theorem d_Ma_join_161 : decode b_Ma_join 161 = .ok (.invokestatic 59, 3) := by decide +kernel
theorem d_Ma_join_164 : decode b_Ma_join 164 = .ok (.istore 13, 2) := by decide +kernel
theorem d_Ma_join_166 : decode b_Ma_join 166 = .ok (.aload_n 0, 1) := by decide +kernel
theorem d_Ma_join_167 : decode b_Ma_join 167 = .ok (.getfield 9, 3) := by decide +kernel
theorem d_Ma_join_170 : decode b_Ma_join 170 = .ok (.iload 12, 2) := by decide +kernel
theorem d_Ma_join_172 : decode b_Ma_join 172 = .ok (.iload 15, 2) := by decide +kernel
theorem d_Ma_join_174 : decode b_Ma_join 174 = .ok (.iload 9, 2) := by decide +kernel
theorem d_Ma_join_176 : decode b_Ma_join 176 = .ok (.invokevirtual 65, 3) := by decide +kernel
theorem d_Ma_join_179 : decode b_Ma_join 179 = .ok (.istore 16, 2) := by decide +kernel
theorem d_Ma_join_181 : decode b_Ma_join 181 = .ok (.iload 16, 2) := by decide +kernel
theorem d_Ma_join_183 : decode b_Ma_join 183 = .ok (.invokestatic 51, 3) := by decide +kernel
theorem d_Ma_join_186 : decode b_Ma_join 186 = .ok (.istore 17, 2) := by decide +kernel
theorem d_Ma_join_188 : decode b_Ma_join 188 = .ok (.iload 17, 2) := by decide +kernel
theorem d_Ma_join_190 : decode b_Ma_join 190 = .ok (.ifCond .le 77, 3) := by decide +kernel
theorem d_Ma_join_193 : decode b_Ma_join 193 = .ok (.iload 12, 2) := by decide +kernel
theorem d_Ma_join_195 : decode b_Ma_join 195 = .ok (.iload 15, 2) := by decide +kernel
theorem d_Ma_join_197 : decode b_Ma_join 197 = .ok (.iload 16, 2) := by decide +kernel
theorem d_Ma_join_199 : decode b_Ma_join 199 = .ok (.invokestatic 56, 3) := by decide +kernel
theorem d_Ma_join_202 : decode b_Ma_join 202 = .ok (.invokestatic 69, 3) := by decide +kernel
theorem d_Ma_join_205 : decode b_Ma_join 205 = .ok (.istore 18, 2) := by decide +kernel
theorem d_Ma_join_207 : decode b_Ma_join 207 = .ok (.iload 16, 2) := by decide +kernel
theorem d_Ma_join_209 : decode b_Ma_join 209 = .ok (.invokestatic 59, 3) := by decide +kernel
theorem d_Ma_join_212 : decode b_Ma_join 212 = .ok (.istore 16, 2) := by decide +kernel
theorem d_Ma_join_214 : decode b_Ma_join 214 = .ok (.aload_n 0, 1) := by decide +kernel
theorem d_Ma_join_215 : decode b_Ma_join 215 = .ok (.getfield 15, 3) := by decide +kernel
theorem d_Ma_join_218 : decode b_Ma_join 218 = .ok (.iload_n 2, 1) := by decide +kernel
theorem d_Ma_join_219 : decode b_Ma_join 219 = .ok (.iload 18, 2) := by decide +kernel
theorem d_Ma_join_221 : decode b_Ma_join 221 = .ok (.iastore, 1) := by decide +kernel
theorem d_Ma_join_222 : decode b_Ma_join 222 = .ok (.getstatic 37, 3) := by decide +kernel
theorem d_Ma_join_225 : decode b_Ma_join 225 = .ok (.iload 6, 2) := by decide +kernel
theorem d_Ma_join_227 : decode b_Ma_join 227 = .ok (.iload 18, 2) := by decide +kernel
theorem d_Ma_join_229 : decode b_Ma_join 229 = .ok (.lload 4, 2) := by decide +kernel
theorem d_Ma_join_231 : decode b_Ma_join 231 = .ok (.invokestatic 72, 3) := by decide +kernel
theorem d_Ma_join_234 : decode b_Ma_join 234 = .ok (.lstore 19, 2) := by decide +kernel
theorem d_Ma_join_236 : decode b_Ma_join 236 = .ok (.lload 19, 2) := by decide +kernel
theorem d_Ma_join_238 : decode b_Ma_join 238 = .ok (.ldc2_w 76, 3) := by decide +kernel
theorem d_Ma_join_241 : decode b_Ma_join 241 = .ok (.lcmp, 1) := by decide +kernel
theorem d_Ma_join_242 : decode b_Ma_join 242 = .ok (.ifCond .eq 19, 3) := by decide +kernel
theorem d_Ma_join_245 : decode b_Ma_join 245 = .ok (.aload_n 0, 1) := by decide +kernel
theorem d_Ma_join_246 : decode b_Ma_join 246 = .ok (.iload_n 1, 1) := by decide +kernel
theorem d_Ma_join_247 : decode b_Ma_join 247 = .ok (.iload_n 2, 1) := by decide +kernel
theorem d_Ma_join_248 : decode b_Ma_join 248 = .ok (.iconst 1, 1) := by decide +kernel
theorem d_Ma_join_249 : decode b_Ma_join 249 = .ok (.iadd, 1) := by decide +kernel
theorem d_Ma_join_250 : decode b_Ma_join 250 = .ok (.iload_n 3, 1) := by decide +kernel
theorem d_Ma_join_251 : decode b_Ma_join 251 = .ok (.lload 19, 2) := by decide +kernel
theorem d_Ma_join_253 : decode b_Ma_join 253 = .ok (.invokestatic 29, 3) := by decide +kernel
theorem d_Ma_join_256 : decode b_Ma_join 256 = .ok (.ifCond .eq 5, 3) := by decide +kernel
theorem d_Ma_join_259 : decode b_Ma_join 259 = .ok (.iconst 1, 1) := by decide +kernel
theorem d_Ma_join_260 : decode b_Ma_join 260 = .ok (.ireturn, 1) := by decide +kernel
theorem d_Ma_join_261 : decode b_Ma_join 261 = .ok (.iinc 17 (-1), 3) := by decide +kernel
theorem d_Ma_join_264 : decode b_Ma_join 264 = .ok (.goto (-76), 3) := by decide +kernel
theorem d_Ma_join_267 : decode b_Ma_join 267 = .ok (.iinc 14 (-1), 3) := by decide +kernel
theorem d_Ma_join_270 : decode b_Ma_join 270 = .ok (.goto (-123), 3) := by decide +kernel
theorem d_Ma_join_273 : decode b_Ma_join 273 = .ok (.iinc 11 (-1), 3) := by decide +kernel
theorem d_Ma_join_276 : decode b_Ma_join 276 = .ok (.goto (-168), 3) := by decide +kernel
theorem d_Ma_join_279 : decode b_Ma_join 279 = .ok (.iconst 0, 1) := by decide +kernel
theorem d_Ma_join_280 : decode b_Ma_join 280 = .ok (.ireturn, 1) := by decide +kernel
theorem d_Se_init_0 : decode b_Se_init 0 = .ok (.aload_n 0, 1) := by decide +kernel
theorem d_Se_init_1 : decode b_Se_init 1 = .ok (.aload_n 1, 1) := by decide +kernel
theorem d_Se_init_2 : decode b_Se_init 2 = .ok (.invokespecial 3, 3) := by decide +kernel
theorem d_Se_init_5 : decode b_Se_init 5 = .ok (.aload_n 0, 1) := by decide +kernel
theorem d_Se_init_6 : decode b_Se_init 6 = .ok (.iconst (-1), 1) := by decide +kernel
theorem d_Se_init_7 : decode b_Se_init 7 = .ok (.putfield 9, 3) := by decide +kernel
theorem d_Se_init_10 : decode b_Se_init 10 = .ok (.aload_n 0, 1) := by decide +kernel
theorem d_Se_init_11 : decode b_Se_init 11 = .ok (.iconst 0, 1) := by decide +kernel
theorem d_Se_init_12 : decode b_Se_init 12 = .ok (.putfield 15, 3) := by decide +kernel
theorem d_Se_init_15 : decode b_Se_init 15 = .ok (.aload_n 0, 1) := by decide +kernel
theorem d_Se_init_16 : decode b_Se_init 16 = .ok (.iconst 0, 1) := by decide +kernel
theorem d_Se_init_17 : decode b_Se_init 17 = .ok (.putfield 18, 3) := by decide +kernel
theorem d_Se_init_20 : decode b_Se_init 20 = .ok (.return_, 1) := by decide +kernel
theorem d_Se_countWays_0 : decode b_Se_countWays 0 = .ok (.aload_n 0, 1) := by decide +kernel
theorem d_Se_countWays_1 : decode b_Se_countWays 1 = .ok (.iload_n 1, 1) := by decide +kernel
theorem d_Se_countWays_2 : decode b_Se_countWays 2 = .ok (.iload_n 2, 1) := by decide +kernel
theorem d_Se_countWays_3 : decode b_Se_countWays 3 = .ok (.iconst (-1), 1) := by decide +kernel
theorem d_Se_countWays_4 : decode b_Se_countWays 4 = .ok (.invokevirtual 21, 3) := by decide +kernel
theorem d_Se_countWays_7 : decode b_Se_countWays 7 = .ok (.pop, 1) := by decide +kernel
theorem d_Se_countWays_8 : decode b_Se_countWays 8 = .ok (.aload_n 0, 1) := by decide +kernel
theorem d_Se_countWays_9 : decode b_Se_countWays 9 = .ok (.getfield 15, 3) := by decide +kernel
theorem d_Se_countWays_12 : decode b_Se_countWays 12 = .ok (.ireturn, 1) := by decide +kernel
theorem d_Se_seekWay_0 : decode b_Se_seekWay 0 = .ok (.aload_n 0, 1) := by decide +kernel
theorem d_Se_seekWay_1 : decode b_Se_seekWay 1 = .ok (.iload_n 3, 1) := by decide +kernel
theorem d_Se_seekWay_2 : decode b_Se_seekWay 2 = .ok (.putfield 9, 3) := by decide +kernel
theorem d_Se_seekWay_5 : decode b_Se_seekWay 5 = .ok (.aload_n 0, 1) := by decide +kernel
theorem d_Se_seekWay_6 : decode b_Se_seekWay 6 = .ok (.iconst 0, 1) := by decide +kernel
theorem d_Se_seekWay_7 : decode b_Se_seekWay 7 = .ok (.putfield 15, 3) := by decide +kernel
theorem d_Se_seekWay_10 : decode b_Se_seekWay 10 = .ok (.iconst 0, 1) := by decide +kernel
theorem d_Se_seekWay_11 : decode b_Se_seekWay 11 = .ok (.istore 4, 2) := by decide +kernel
theorem d_Se_seekWay_13 : decode b_Se_seekWay 13 = .ok (.iload 4, 2) := by decide +kernel
theorem d_Se_seekWay_15 : decode b_Se_seekWay 15 = .ok (.bipush 21, 2) := by decide +kernel
theorem d_Se_seekWay_17 : decode b_Se_seekWay 17 = .ok (.if_icmp .ge 60, 3) := by decide +kernel
theorem d_Se_seekWay_20 : decode b_Se_seekWay 20 = .ok (.iload_n 2, 1) := by decide +kernel
theorem d_Se_seekWay_21 : decode b_Se_seekWay 21 = .ok (.iload 4, 2) := by decide +kernel
theorem d_Se_seekWay_23 : decode b_Se_seekWay 23 = .ok (.invokestatic 25, 3) := by decide +kernel
theorem d_Se_seekWay_26 : decode b_Se_seekWay 26 = .ok (.ifCond .ne 6, 3) := by decide +kernel
theorem d_Se_seekWay_29 : decode b_Se_seekWay 29 = .ok (.goto 42, 3) := by decide +kernel
theorem d_Se_seekWay_32 : decode b_Se_seekWay 32 = .ok (.getstatic 29, 3) := by decide +kernel
theorem d_Se_seekWay_35 : decode b_Se_seekWay 35 = .ok (.iload 4, 2) := by decide +kernel
theorem d_Se_seekWay_37 : decode b_Se_seekWay 37 = .ok (.invokestatic 35, 3) := by decide +kernel
theorem d_Se_seekWay_40 : decode b_Se_seekWay 40 = .ok (.iload_n 1, 1) := by decide +kernel
theorem d_Se_seekWay_41 : decode b_Se_seekWay 41 = .ok (.lconst 0, 1) := by decide +kernel
theorem d_Se_seekWay_42 : decode b_Se_seekWay 42 = .ok (.invokestatic 41, 3) := by decide +kernel
theorem d_Se_seekWay_45 : decode b_Se_seekWay 45 = .ok (.lstore 5, 2) := by decide +kernel
theorem d_Se_seekWay_47 : decode b_Se_seekWay 47 = .ok (.lload 5, 2) := by decide +kernel
theorem d_Se_seekWay_49 : decode b_Se_seekWay 49 = .ok (.ldc2_w 45, 3) := by decide +kernel
theorem d_Se_seekWay_52 : decode b_Se_seekWay 52 = .ok (.lcmp, 1) := by decide +kernel
theorem d_Se_seekWay_53 : decode b_Se_seekWay 53 = .ok (.ifCond .eq 18, 3) := by decide +kernel
theorem d_Se_seekWay_56 : decode b_Se_seekWay 56 = .ok (.aload_n 0, 1) := by decide +kernel
theorem d_Se_seekWay_57 : decode b_Se_seekWay 57 = .ok (.iload 4, 2) := by decide +kernel
theorem d_Se_seekWay_59 : decode b_Se_seekWay 59 = .ok (.iconst 0, 1) := by decide +kernel
theorem d_Se_seekWay_60 : decode b_Se_seekWay 60 = .ok (.iconst (-1), 1) := by decide +kernel
theorem d_Se_seekWay_61 : decode b_Se_seekWay 61 = .ok (.lload 5, 2) := by decide +kernel
theorem d_Se_seekWay_63 : decode b_Se_seekWay 63 = .ok (.invokestatic 47, 3) := by decide +kernel
theorem d_Se_seekWay_66 : decode b_Se_seekWay 66 = .ok (.ifCond .eq 5, 3) := by decide +kernel
theorem d_Se_seekWay_69 : decode b_Se_seekWay 69 = .ok (.iconst 1, 1) := by decide +kernel
theorem d_Se_seekWay_70 : decode b_Se_seekWay 70 = .ok (.ireturn, 1) := by decide +kernel
theorem d_Se_seekWay_71 : decode b_Se_seekWay 71 = .ok (.iinc 4 1, 3) := by decide +kernel
theorem d_Se_seekWay_74 : decode b_Se_seekWay 74 = .ok (.goto (-61), 3) := by decide +kernel
theorem d_Se_seekWay_77 : decode b_Se_seekWay 77 = .ok (.iconst 0, 1) := by decide +kernel
theorem d_Se_seekWay_78 : decode b_Se_seekWay 78 = .ok (.ireturn, 1) := by decide +kernel
