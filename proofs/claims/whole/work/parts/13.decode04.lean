theorem d_Mo_clash_0 : decode b_Mo_clash 0 = .ok (.iload_n 2, 1) := by decide +kernel
theorem d_Mo_clash_1 : decode b_Mo_clash 1 = .ok (.ifCond .lt 8, 3) := by decide +kernel
theorem d_Mo_clash_4 : decode b_Mo_clash 4 = .ok (.iload_n 2, 1) := by decide +kernel
theorem d_Mo_clash_5 : decode b_Mo_clash 5 = .ok (.iconst 3, 1) := by decide +kernel
theorem d_Mo_clash_6 : decode b_Mo_clash 6 = .ok (.if_icmp .le 5, 3) := by decide +kernel
theorem d_Mo_clash_9 : decode b_Mo_clash 9 = .ok (.iconst (-1), 1) := by decide +kernel
theorem d_Mo_clash_10 : decode b_Mo_clash 10 = .ok (.ireturn, 1) := by decide +kernel
theorem d_Mo_clash_11 : decode b_Mo_clash 11 = .ok (.aload_n 0, 1) := by decide +kernel
theorem d_Mo_clash_12 : decode b_Mo_clash 12 = .ok (.invokevirtual 151, 3) := by decide +kernel
theorem d_Mo_clash_15 : decode b_Mo_clash 15 = .ok (.aload_n 0, 1) := by decide +kernel
theorem d_Mo_clash_16 : decode b_Mo_clash 16 = .ok (.getfield 124, 3) := by decide +kernel
theorem d_Mo_clash_19 : decode b_Mo_clash 19 = .ok (.ifCond .eq 6, 3) := by decide +kernel
theorem d_Mo_clash_22 : decode b_Mo_clash 22 = .ok (.bipush (-4), 2) := by decide +kernel
theorem d_Mo_clash_24 : decode b_Mo_clash 24 = .ok (.ireturn, 1) := by decide +kernel
theorem d_Mo_clash_25 : decode b_Mo_clash 25 = .ok (.iload_n 1, 1) := by decide +kernel
theorem d_Mo_clash_26 : decode b_Mo_clash 26 = .ok (.istore_n 3, 1) := by decide +kernel
theorem d_Mo_clash_27 : decode b_Mo_clash 27 = .ok (.bipush 21, 2) := by decide +kernel
theorem d_Mo_clash_29 : decode b_Mo_clash 29 = .ok (.istore 4, 2) := by decide +kernel
theorem d_Mo_clash_31 : decode b_Mo_clash 31 = .ok (.iload 4, 2) := by decide +kernel
theorem d_Mo_clash_33 : decode b_Mo_clash 33 = .ok (.bipush 24, 2) := by decide +kernel
theorem d_Mo_clash_35 : decode b_Mo_clash 35 = .ok (.if_icmp .ge 54, 3) := by decide +kernel
theorem d_Mo_clash_38 : decode b_Mo_clash 38 = .ok (.iload_n 1, 1) := by decide +kernel
theorem d_Mo_clash_39 : decode b_Mo_clash 39 = .ok (.ifCond .lt 50, 3) := by decide +kernel
theorem d_Mo_clash_42 : decode b_Mo_clash 42 = .ok (.aload_n 0, 1) := by decide +kernel
theorem d_Mo_clash_43 : decode b_Mo_clash 43 = .ok (.iload 4, 2) := by decide +kernel
theorem d_Mo_clash_45 : decode b_Mo_clash 45 = .ok (.invokevirtual 133, 3) := by decide +kernel
theorem d_Mo_clash_48 : decode b_Mo_clash 48 = .ok (.aload_n 0, 1) := by decide +kernel
theorem d_Mo_clash_49 : decode b_Mo_clash 49 = .ok (.invokevirtual 137, 3) := by decide +kernel
theorem d_Mo_clash_52 : decode b_Mo_clash 52 = .ok (.ifCond .eq 31, 3) := by decide +kernel
theorem d_Mo_clash_55 : decode b_Mo_clash 55 = .ok (.iload_n 3, 1) := by decide +kernel
theorem d_Mo_clash_56 : decode b_Mo_clash 56 = .ok (.ifCond .ne 21, 3) := by decide +kernel
theorem d_Mo_clash_59 : decode b_Mo_clash 59 = .ok (.iload_n 2, 1) := by decide +kernel
theorem d_Mo_clash_60 : decode b_Mo_clash 60 = .ok (.ifCond .ne 11, 3) := by decide +kernel
theorem d_Mo_clash_63 : decode b_Mo_clash 63 = .ok (.iload 4, 2) := by decide +kernel
theorem d_Mo_clash_65 : decode b_Mo_clash 65 = .ok (.bipush 21, 2) := by decide +kernel
theorem d_Mo_clash_67 : decode b_Mo_clash 67 = .ok (.isub, 1) := by decide +kernel
theorem d_Mo_clash_68 : decode b_Mo_clash 68 = .ok (.goto 8, 3) := by decide +kernel
theorem d_Mo_clash_71 : decode b_Mo_clash 71 = .ok (.aload_n 0, 1) := by decide +kernel
theorem d_Mo_clash_72 : decode b_Mo_clash 72 = .ok (.iload_n 2, 1) := by decide +kernel
theorem d_Mo_clash_73 : decode b_Mo_clash 73 = .ok (.invokevirtual 154, 3) := by decide +kernel
theorem d_Mo_clash_76 : decode b_Mo_clash 76 = .ok (.ireturn, 1) := by decide +kernel
theorem d_Mo_clash_77 : decode b_Mo_clash 77 = .ok (.iinc 3 (-1), 3) := by decide +kernel
theorem d_Mo_clash_80 : decode b_Mo_clash 80 = .ok (.goto (-32), 3) := by decide +kernel
theorem d_Mo_clash_83 : decode b_Mo_clash 83 = .ok (.iinc 4 1, 3) := by decide +kernel
theorem d_Mo_clash_86 : decode b_Mo_clash 86 = .ok (.goto (-55), 3) := by decide +kernel
theorem d_Mo_clash_89 : decode b_Mo_clash 89 = .ok (.bipush (-2), 2) := by decide +kernel
theorem d_Mo_clash_91 : decode b_Mo_clash 91 = .ok (.ireturn, 1) := by decide +kernel
theorem d_Mo_group_0 : decode b_Mo_group 0 = .ok (.iload_n 1, 1) := by decide +kernel
theorem d_Mo_group_1 : decode b_Mo_group 1 = .ok (.invokestatic 40, 3) := by decide +kernel
theorem d_Mo_group_4 : decode b_Mo_group 4 = .ok (.ifCond .ne 5, 3) := by decide +kernel
theorem d_Mo_group_7 : decode b_Mo_group 7 = .ok (.iconst (-1), 1) := by decide +kernel
theorem d_Mo_group_8 : decode b_Mo_group 8 = .ok (.ireturn, 1) := by decide +kernel
theorem d_Mo_group_9 : decode b_Mo_group 9 = .ok (.aload_n 0, 1) := by decide +kernel
theorem d_Mo_group_10 : decode b_Mo_group 10 = .ok (.invokevirtual 151, 3) := by decide +kernel
theorem d_Mo_group_13 : decode b_Mo_group 13 = .ok (.aload_n 0, 1) := by decide +kernel
theorem d_Mo_group_14 : decode b_Mo_group 14 = .ok (.getfield 124, 3) := by decide +kernel
theorem d_Mo_group_17 : decode b_Mo_group 17 = .ok (.ifCond .eq 6, 3) := by decide +kernel
theorem d_Mo_group_20 : decode b_Mo_group 20 = .ok (.bipush (-4), 2) := by decide +kernel
theorem d_Mo_group_22 : decode b_Mo_group 22 = .ok (.ireturn, 1) := by decide +kernel
theorem d_Mo_group_23 : decode b_Mo_group 23 = .ok (.iload_n 1, 1) := by decide +kernel
theorem d_Mo_group_24 : decode b_Mo_group 24 = .ok (.istore_n 2, 1) := by decide +kernel
theorem d_Mo_group_25 : decode b_Mo_group 25 = .ok (.iconst 0, 1) := by decide +kernel
theorem d_Mo_group_26 : decode b_Mo_group 26 = .ok (.istore_n 3, 1) := by decide +kernel
theorem d_Mo_group_27 : decode b_Mo_group 27 = .ok (.iload_n 3, 1) := by decide +kernel
theorem d_Mo_group_28 : decode b_Mo_group 28 = .ok (.bipush 32, 2) := by decide +kernel
theorem d_Mo_group_30 : decode b_Mo_group 30 = .ok (.if_icmp .ge 35, 3) := by decide +kernel
theorem d_Mo_group_33 : decode b_Mo_group 33 = .ok (.iload_n 3, 1) := by decide +kernel
theorem d_Mo_group_34 : decode b_Mo_group 34 = .ok (.iload_n 2, 1) := by decide +kernel
theorem d_Mo_group_35 : decode b_Mo_group 35 = .ok (.if_icmp .ge 22, 3) := by decide +kernel
theorem d_Mo_group_38 : decode b_Mo_group 38 = .ok (.aload_n 0, 1) := by decide +kernel
theorem d_Mo_group_39 : decode b_Mo_group 39 = .ok (.getfield 17, 3) := by decide +kernel
theorem d_Mo_group_42 : decode b_Mo_group 42 = .ok (.iload_n 1, 1) := by decide +kernel
theorem d_Mo_group_43 : decode b_Mo_group 43 = .ok (.bipush 6, 2) := by decide +kernel
theorem d_Mo_group_45 : decode b_Mo_group 45 = .ok (.iload_n 3, 1) := by decide +kernel
theorem d_Mo_group_46 : decode b_Mo_group 46 = .ok (.invokestatic 120, 3) := by decide +kernel
theorem d_Mo_group_49 : decode b_Mo_group 49 = .ok (.iaload, 1) := by decide +kernel
theorem d_Mo_group_50 : decode b_Mo_group 50 = .ok (.ifCond .le 7, 3) := by decide +kernel
theorem d_Mo_group_53 : decode b_Mo_group 53 = .ok (.iload_n 3, 1) := by decide +kernel
theorem d_Mo_group_54 : decode b_Mo_group 54 = .ok (.goto 4, 3) := by decide +kernel
theorem d_Mo_group_57 : decode b_Mo_group 57 = .ok (.iload_n 2, 1) := by decide +kernel
theorem d_Mo_group_58 : decode b_Mo_group 58 = .ok (.istore_n 2, 1) := by decide +kernel
theorem d_Mo_group_59 : decode b_Mo_group 59 = .ok (.iinc 3 1, 3) := by decide +kernel
theorem d_Mo_group_62 : decode b_Mo_group 62 = .ok (.goto (-35), 3) := by decide +kernel
theorem d_Mo_group_65 : decode b_Mo_group 65 = .ok (.iload_n 2, 1) := by decide +kernel
theorem d_Mo_group_66 : decode b_Mo_group 66 = .ok (.ireturn, 1) := by decide +kernel
theorem d_Mo_said_0 : decode b_Mo_said 0 = .ok (.aload_n 0, 1) := by decide +kernel
theorem d_Mo_said_1 : decode b_Mo_said 1 = .ok (.getfield 148, 3) := by decide +kernel
theorem d_Mo_said_4 : decode b_Mo_said 4 = .ok (.ireturn, 1) := by decide +kernel
theorem d_De_init_0 : decode b_De_init 0 = .ok (.aload_n 0, 1) := by decide +kernel
theorem d_De_init_1 : decode b_De_init 1 = .ok (.aload_n 1, 1) := by decide +kernel
theorem d_De_init_2 : decode b_De_init 2 = .ok (.invokespecial 3, 3) := by decide +kernel
theorem d_De_init_5 : decode b_De_init 5 = .ok (.aload_n 0, 1) := by decide +kernel
theorem d_De_init_6 : decode b_De_init 6 = .ok (.new 9, 3) := by decide +kernel
theorem d_De_init_9 : decode b_De_init 9 = .ok (.dup, 1) := by decide +kernel
theorem d_De_init_10 : decode b_De_init 10 = .ok (.invokespecial 11, 3) := by decide +kernel
theorem d_De_init_13 : decode b_De_init 13 = .ok (.putfield 14, 3) := by decide +kernel
theorem d_De_init_16 : decode b_De_init 16 = .ok (.aload_n 0, 1) := by decide +kernel
theorem d_De_init_17 : decode b_De_init 17 = .ok (.sipush 400, 3) := by decide +kernel
theorem d_De_init_20 : decode b_De_init 20 = .ok (.newarray .int, 2) := by decide +kernel
theorem d_De_init_22 : decode b_De_init 22 = .ok (.putfield 20, 3) := by decide +kernel
theorem d_De_init_25 : decode b_De_init 25 = .ok (.aload_n 0, 1) := by decide +kernel
theorem d_De_init_26 : decode b_De_init 26 = .ok (.sipush 400, 3) := by decide +kernel
theorem d_De_init_29 : decode b_De_init 29 = .ok (.newarray .int, 2) := by decide +kernel
theorem d_De_init_31 : decode b_De_init 31 = .ok (.putfield 24, 3) := by decide +kernel
theorem d_De_init_34 : decode b_De_init 34 = .ok (.aload_n 0, 1) := by decide +kernel
theorem d_De_init_35 : decode b_De_init 35 = .ok (.iconst 0, 1) := by decide +kernel
theorem d_De_init_36 : decode b_De_init 36 = .ok (.putfield 27, 3) := by decide +kernel
theorem d_De_init_39 : decode b_De_init 39 = .ok (.aload_n 0, 1) := by decide +kernel
theorem d_De_init_40 : decode b_De_init 40 = .ok (.iconst 0, 1) := by decide +kernel
theorem d_De_init_41 : decode b_De_init 41 = .ok (.putfield 31, 3) := by decide +kernel
theorem d_De_init_44 : decode b_De_init 44 = .ok (.aload_n 0, 1) := by decide +kernel
theorem d_De_init_45 : decode b_De_init 45 = .ok (.iconst 0, 1) := by decide +kernel
theorem d_De_init_46 : decode b_De_init 46 = .ok (.putfield 34, 3) := by decide +kernel
theorem d_De_init_49 : decode b_De_init 49 = .ok (.return_, 1) := by decide +kernel
theorem d_De_derive_0 : decode b_De_derive 0 = .ok (.aload_n 0, 1) := by decide +kernel
theorem d_De_derive_1 : decode b_De_derive 1 = .ok (.getfield 38, 3) := by decide +kernel
theorem d_De_derive_4 : decode b_De_derive 4 = .ok (.invokevirtual 41, 3) := by decide +kernel
theorem d_De_derive_7 : decode b_De_derive 7 = .ok (.aload_n 0, 1) := by decide +kernel
theorem d_De_derive_8 : decode b_De_derive 8 = .ok (.getfield 14, 3) := by decide +kernel
theorem d_De_derive_11 : decode b_De_derive 11 = .ok (.invokevirtual 41, 3) := by decide +kernel
theorem d_De_derive_14 : decode b_De_derive 14 = .ok (.aload_n 0, 1) := by decide +kernel
theorem d_De_derive_15 : decode b_De_derive 15 = .ok (.iconst 0, 1) := by decide +kernel
theorem d_De_derive_16 : decode b_De_derive 16 = .ok (.putfield 31, 3) := by decide +kernel
theorem d_De_derive_19 : decode b_De_derive 19 = .ok (.aload_n 0, 1) := by decide +kernel
theorem d_De_derive_20 : decode b_De_derive 20 = .ok (.iconst 0, 1) := by decide +kernel
theorem d_De_derive_21 : decode b_De_derive 21 = .ok (.putfield 34, 3) := by decide +kernel
theorem d_De_derive_24 : decode b_De_derive 24 = .ok (.aload_n 0, 1) := by decide +kernel
theorem d_De_derive_25 : decode b_De_derive 25 = .ok (.iconst 0, 1) := by decide +kernel
theorem d_De_derive_26 : decode b_De_derive 26 = .ok (.putfield 27, 3) := by decide +kernel
theorem d_De_derive_29 : decode b_De_derive 29 = .ok (.iconst 0, 1) := by decide +kernel
theorem d_De_derive_30 : decode b_De_derive 30 = .ok (.istore 4, 2) := by decide +kernel
theorem d_De_derive_32 : decode b_De_derive 32 = .ok (.iload 4, 2) := by decide +kernel
theorem d_De_derive_34 : decode b_De_derive 34 = .ok (.iload_n 2, 1) := by decide +kernel
theorem d_De_derive_35 : decode b_De_derive 35 = .ok (.if_icmp .ge 24, 3) := by decide +kernel
theorem d_De_derive_38 : decode b_De_derive 38 = .ok (.iload 4, 2) := by decide +kernel
theorem d_De_derive_40 : decode b_De_derive 40 = .ok (.aload_n 1, 1) := by decide +kernel
theorem d_De_derive_41 : decode b_De_derive 41 = .ok (.arraylength, 1) := by decide +kernel
theorem d_De_derive_42 : decode b_De_derive 42 = .ok (.if_icmp .ge 17, 3) := by decide +kernel
theorem d_De_derive_45 : decode b_De_derive 45 = .ok (.aload_n 0, 1) := by decide +kernel
theorem d_De_derive_46 : decode b_De_derive 46 = .ok (.aload_n 1, 1) := by decide +kernel
theorem d_De_derive_47 : decode b_De_derive 47 = .ok (.iload 4, 2) := by decide +kernel
theorem d_De_derive_49 : decode b_De_derive 49 = .ok (.iaload, 1) := by decide +kernel
theorem d_De_derive_50 : decode b_De_derive 50 = .ok (.invokevirtual 44, 3) := by decide +kernel
theorem d_De_derive_53 : decode b_De_derive 53 = .ok (.iinc 4 1, 3) := by decide +kernel
theorem d_De_derive_56 : decode b_De_derive 56 = .ok (.goto (-24), 3) := by decide +kernel
theorem d_De_derive_59 : decode b_De_derive 59 = .ok (.iconst 0, 1) := by decide +kernel
theorem d_De_derive_60 : decode b_De_derive 60 = .ok (.istore 4, 2) := by decide +kernel
theorem d_De_derive_62 : decode b_De_derive 62 = .ok (.iconst 1, 1) := by decide +kernel
theorem d_De_derive_63 : decode b_De_derive 63 = .ok (.istore 5, 2) := by decide +kernel
theorem d_De_derive_65 : decode b_De_derive 65 = .ok (.iload 5, 2) := by decide +kernel
theorem d_De_derive_67 : decode b_De_derive 67 = .ok (.sipush 400, 3) := by decide +kernel
theorem d_De_derive_70 : decode b_De_derive 70 = .ok (.if_icmp .gt 117, 3) := by decide +kernel
theorem d_De_derive_73 : decode b_De_derive 73 = .ok (.iload 4, 2) := by decide +kernel
theorem d_De_derive_75 : decode b_De_derive 75 = .ok (.aload_n 0, 1) := by decide +kernel
theorem d_De_derive_76 : decode b_De_derive 76 = .ok (.getfield 31, 3) := by decide +kernel
theorem d_De_derive_79 : decode b_De_derive 79 = .ok (.if_icmp .ge 108, 3) := by decide +kernel
theorem d_De_derive_82 : decode b_De_derive 82 = .ok (.aload_n 0, 1) := by decide +kernel
theorem d_De_derive_83 : decode b_De_derive 83 = .ok (.getfield 34, 3) := by decide +kernel
theorem d_De_derive_86 : decode b_De_derive 86 = .ok (.ifCond .ne 101, 3) := by decide +kernel
theorem d_De_derive_89 : decode b_De_derive 89 = .ok (.aload_n 0, 1) := by decide +kernel
theorem d_De_derive_90 : decode b_De_derive 90 = .ok (.iload 5, 2) := by decide +kernel
theorem d_De_derive_92 : decode b_De_derive 92 = .ok (.putfield 27, 3) := by decide +kernel
theorem d_De_derive_95 : decode b_De_derive 95 = .ok (.aload_n 0, 1) := by decide +kernel
theorem d_De_derive_96 : decode b_De_derive 96 = .ok (.getfield 31, 3) := by decide +kernel
theorem d_De_derive_99 : decode b_De_derive 99 = .ok (.istore 6, 2) := by decide +kernel
theorem d_De_derive_101 : decode b_De_derive 101 = .ok (.iload 4, 2) := by decide +kernel
theorem d_De_derive_103 : decode b_De_derive 103 = .ok (.istore 7, 2) := by decide +kernel
theorem d_De_derive_105 : decode b_De_derive 105 = .ok (.iload 7, 2) := by decide +kernel
theorem d_De_derive_107 : decode b_De_derive 107 = .ok (.iload 6, 2) := by decide +kernel
theorem d_De_derive_109 : decode b_De_derive 109 = .ok (.if_icmp .ge 23, 3) := by decide +kernel
theorem d_De_derive_112 : decode b_De_derive 112 = .ok (.aload_n 0, 1) := by decide +kernel
theorem d_De_derive_113 : decode b_De_derive 113 = .ok (.getfield 38, 3) := by decide +kernel
theorem d_De_derive_116 : decode b_De_derive 116 = .ok (.aload_n 0, 1) := by decide +kernel
theorem d_De_derive_117 : decode b_De_derive 117 = .ok (.getfield 20, 3) := by decide +kernel
theorem d_De_derive_120 : decode b_De_derive 120 = .ok (.iload 7, 2) := by decide +kernel
theorem d_De_derive_122 : decode b_De_derive 122 = .ok (.iaload, 1) := by decide +kernel
theorem d_De_derive_123 : decode b_De_derive 123 = .ok (.invokevirtual 48, 3) := by decide +kernel
theorem d_De_derive_126 : decode b_De_derive 126 = .ok (.iinc 7 1, 3) := by decide +kernel
theorem d_De_derive_129 : decode b_De_derive 129 = .ok (.goto (-24), 3) := by decide +kernel
theorem d_De_derive_132 : decode b_De_derive 132 = .ok (.iload_n 3, 1) := by decide +kernel
theorem d_De_derive_133 : decode b_De_derive 133 = .ok (.aload_n 0, 1) := by decide +kernel
theorem d_De_derive_134 : decode b_De_derive 134 = .ok (.invokevirtual 51, 3) := by decide +kernel
theorem d_De_derive_137 : decode b_De_derive 137 = .ok (.iand, 1) := by decide +kernel
theorem d_De_derive_138 : decode b_De_derive 138 = .ok (.istore 7, 2) := by decide +kernel
theorem d_De_derive_140 : decode b_De_derive 140 = .ok (.iload 4, 2) := by decide +kernel
theorem d_De_derive_142 : decode b_De_derive 142 = .ok (.istore 8, 2) := by decide +kernel
theorem d_De_derive_144 : decode b_De_derive 144 = .ok (.iload 8, 2) := by decide +kernel
theorem d_De_derive_146 : decode b_De_derive 146 = .ok (.iload 6, 2) := by decide +kernel
theorem d_De_derive_148 : decode b_De_derive 148 = .ok (.if_icmp .ge 29, 3) := by decide +kernel
theorem d_De_derive_151 : decode b_De_derive 151 = .ok (.aload_n 0, 1) := by decide +kernel
theorem d_De_derive_152 : decode b_De_derive 152 = .ok (.getfield 34, 3) := by decide +kernel
theorem d_De_derive_155 : decode b_De_derive 155 = .ok (.ifCond .ne 22, 3) := by decide +kernel
theorem d_De_derive_158 : decode b_De_derive 158 = .ok (.aload_n 0, 1) := by decide +kernel
theorem d_De_derive_159 : decode b_De_derive 159 = .ok (.aload_n 0, 1) := by decide +kernel
theorem d_De_derive_160 : decode b_De_derive 160 = .ok (.getfield 20, 3) := by decide +kernel
theorem d_De_derive_163 : decode b_De_derive 163 = .ok (.iload 8, 2) := by decide +kernel
theorem d_De_derive_165 : decode b_De_derive 165 = .ok (.iaload, 1) := by decide +kernel
theorem d_De_derive_166 : decode b_De_derive 166 = .ok (.iload 7, 2) := by decide +kernel
theorem d_De_derive_168 : decode b_De_derive 168 = .ok (.invokevirtual 55, 3) := by decide +kernel
theorem d_De_derive_171 : decode b_De_derive 171 = .ok (.iinc 8 1, 3) := by decide +kernel
theorem d_De_derive_174 : decode b_De_derive 174 = .ok (.goto (-30), 3) := by decide +kernel
theorem d_De_derive_177 : decode b_De_derive 177 = .ok (.iload 6, 2) := by decide +kernel
theorem d_De_derive_179 : decode b_De_derive 179 = .ok (.istore 4, 2) := by decide +kernel
theorem d_De_derive_181 : decode b_De_derive 181 = .ok (.iinc 5 1, 3) := by decide +kernel
theorem d_De_derive_184 : decode b_De_derive 184 = .ok (.goto (-119), 3) := by decide +kernel
theorem d_De_derive_187 : decode b_De_derive 187 = .ok (.return_, 1) := by decide +kernel
theorem d_De_rulesInReach_0 : decode b_De_rulesInReach 0 = .ok (.iconst 0, 1) := by decide +kernel
theorem d_De_rulesInReach_1 : decode b_De_rulesInReach 1 = .ok (.istore_n 1, 1) := by decide +kernel
theorem d_De_rulesInReach_2 : decode b_De_rulesInReach 2 = .ok (.iconst 0, 1) := by decide +kernel
theorem d_De_rulesInReach_3 : decode b_De_rulesInReach 3 = .ok (.istore_n 2, 1) := by decide +kernel
theorem d_De_rulesInReach_4 : decode b_De_rulesInReach 4 = .ok (.iload_n 2, 1) := by decide +kernel
theorem d_De_rulesInReach_5 : decode b_De_rulesInReach 5 = .ok (.bipush 21, 2) := by decide +kernel
theorem d_De_rulesInReach_7 : decode b_De_rulesInReach 7 = .ok (.if_icmp .ge 39, 3) := by decide +kernel
theorem d_De_rulesInReach_10 : decode b_De_rulesInReach 10 = .ok (.getstatic 59, 3) := by decide +kernel
theorem d_De_rulesInReach_13 : decode b_De_rulesInReach 13 = .ok (.iload_n 2, 1) := by decide +kernel
theorem d_De_rulesInReach_14 : decode b_De_rulesInReach 14 = .ok (.iconst 0, 1) := by decide +kernel
theorem d_De_rulesInReach_15 : decode b_De_rulesInReach 15 = .ok (.invokestatic 64, 3) := by decide +kernel
theorem d_De_rulesInReach_18 : decode b_De_rulesInReach 18 = .ok (.iconst 1, 1) := by decide +kernel
theorem d_De_rulesInReach_19 : decode b_De_rulesInReach 19 = .ok (.iadd, 1) := by decide +kernel
theorem d_De_rulesInReach_20 : decode b_De_rulesInReach 20 = .ok (.iaload, 1) := by decide +kernel
theorem d_De_rulesInReach_21 : decode b_De_rulesInReach 21 = .ok (.istore_n 3, 1) := by decide +kernel
theorem d_De_rulesInReach_22 : decode b_De_rulesInReach 22 = .ok (.aload_n 0, 1) := by decide +kernel
theorem d_De_rulesInReach_23 : decode b_De_rulesInReach 23 = .ok (.getfield 38, 3) := by decide +kernel
theorem d_De_rulesInReach_26 : decode b_De_rulesInReach 26 = .ok (.iconst (-1), 1) := by decide +kernel
theorem d_De_rulesInReach_27 : decode b_De_rulesInReach 27 = .ok (.iload_n 3, 1) := by decide +kernel
theorem d_De_rulesInReach_28 : decode b_De_rulesInReach 28 = .ok (.invokevirtual 68, 3) := by decide +kernel
theorem d_De_rulesInReach_31 : decode b_De_rulesInReach 31 = .ok (.ifCond .eq 9, 3) := by decide +kernel
theorem d_De_rulesInReach_34 : decode b_De_rulesInReach 34 = .ok (.iload_n 1, 1) := by decide +kernel
theorem d_De_rulesInReach_35 : decode b_De_rulesInReach 35 = .ok (.iconst 1, 1) := by decide +kernel
theorem d_De_rulesInReach_36 : decode b_De_rulesInReach 36 = .ok (.iload_n 2, 1) := by decide +kernel
theorem d_De_rulesInReach_37 : decode b_De_rulesInReach 37 = .ok (.ishl, 1) := by decide +kernel
theorem d_De_rulesInReach_38 : decode b_De_rulesInReach 38 = .ok (.ior, 1) := by decide +kernel
theorem d_De_rulesInReach_39 : decode b_De_rulesInReach 39 = .ok (.istore_n 1, 1) := by decide +kernel
theorem d_De_rulesInReach_40 : decode b_De_rulesInReach 40 = .ok (.iinc 2 1, 3) := by decide +kernel
theorem d_De_rulesInReach_43 : decode b_De_rulesInReach 43 = .ok (.goto (-39), 3) := by decide +kernel
theorem d_De_rulesInReach_46 : decode b_De_rulesInReach 46 = .ok (.iload_n 1, 1) := by decide +kernel
theorem d_De_rulesInReach_47 : decode b_De_rulesInReach 47 = .ok (.ireturn, 1) := by decide +kernel
theorem d_De_applyRules_0 : decode b_De_applyRules 0 = .ok (.iconst 0, 1) := by decide +kernel
theorem d_De_applyRules_1 : decode b_De_applyRules 1 = .ok (.istore_n 3, 1) := by decide +kernel
theorem d_De_applyRules_2 : decode b_De_applyRules 2 = .ok (.iload_n 3, 1) := by decide +kernel
theorem d_De_applyRules_3 : decode b_De_applyRules 3 = .ok (.bipush 21, 2) := by decide +kernel
theorem d_De_applyRules_5 : decode b_De_applyRules 5 = .ok (.if_icmp .ge 86, 3) := by decide +kernel
theorem d_De_applyRules_8 : decode b_De_applyRules 8 = .ok (.iload_n 2, 1) := by decide +kernel
theorem d_De_applyRules_9 : decode b_De_applyRules 9 = .ok (.iload_n 3, 1) := by decide +kernel
theorem d_De_applyRules_10 : decode b_De_applyRules 10 = .ok (.invokestatic 71, 3) := by decide +kernel
theorem d_De_applyRules_13 : decode b_De_applyRules 13 = .ok (.ifCond .eq 10, 3) := by decide +kernel
theorem d_De_applyRules_16 : decode b_De_applyRules 16 = .ok (.iload_n 3, 1) := by decide +kernel
theorem d_De_applyRules_17 : decode b_De_applyRules 17 = .ok (.invokestatic 75, 3) := by decide +kernel
theorem d_De_applyRules_20 : decode b_De_applyRules 20 = .ok (.goto 4, 3) := by decide +kernel
theorem d_De_applyRules_23 : decode b_De_applyRules 23 = .ok (.iconst 0, 1) := by decide +kernel
theorem d_De_applyRules_24 : decode b_De_applyRules 24 = .ok (.istore 4, 2) := by decide +kernel
theorem d_De_applyRules_26 : decode b_De_applyRules 26 = .ok (.iconst 0, 1) := by decide +kernel
theorem d_De_applyRules_27 : decode b_De_applyRules 27 = .ok (.istore 5, 2) := by decide +kernel
theorem d_De_applyRules_29 : decode b_De_applyRules 29 = .ok (.iload 5, 2) := by decide +kernel
theorem d_De_applyRules_31 : decode b_De_applyRules 31 = .ok (.iload 4, 2) := by decide +kernel
theorem d_De_applyRules_33 : decode b_De_applyRules 33 = .ok (.if_icmp .ge 52, 3) := by decide +kernel
theorem d_De_applyRules_36 : decode b_De_applyRules 36 = .ok (.iload_n 3, 1) := by decide +kernel
theorem d_De_applyRules_37 : decode b_De_applyRules 37 = .ok (.iload 5, 2) := by decide +kernel
theorem d_De_applyRules_39 : decode b_De_applyRules 39 = .ok (.invokestatic 64, 3) := by decide +kernel
theorem d_De_applyRules_42 : decode b_De_applyRules 42 = .ok (.istore 6, 2) := by decide +kernel
theorem d_De_applyRules_44 : decode b_De_applyRules 44 = .ok (.getstatic 59, 3) := by decide +kernel
theorem d_De_applyRules_47 : decode b_De_applyRules 47 = .ok (.iload 6, 2) := by decide +kernel
theorem d_De_applyRules_49 : decode b_De_applyRules 49 = .ok (.iload_n 1, 1) := by decide +kernel
theorem d_De_applyRules_50 : decode b_De_applyRules 50 = .ok (.lconst 0, 1) := by decide +kernel
theorem d_De_applyRules_51 : decode b_De_applyRules 51 = .ok (.invokestatic 81, 3) := by decide +kernel
theorem d_De_applyRules_54 : decode b_De_applyRules 54 = .ok (.lstore 7, 2) := by decide +kernel
theorem d_De_applyRules_56 : decode b_De_applyRules 56 = .ok (.lload 7, 2) := by decide +kernel
theorem d_De_applyRules_58 : decode b_De_applyRules 58 = .ok (.ldc2_w 85, 3) := by decide +kernel
theorem d_De_applyRules_61 : decode b_De_applyRules 61 = .ok (.lcmp, 1) := by decide +kernel
theorem d_De_applyRules_62 : decode b_De_applyRules 62 = .ok (.ifCond .eq 17, 3) := by decide +kernel
theorem d_De_applyRules_65 : decode b_De_applyRules 65 = .ok (.aload_n 0, 1) := by decide +kernel
theorem d_De_applyRules_66 : decode b_De_applyRules 66 = .ok (.iload_n 3, 1) := by decide +kernel
theorem d_De_applyRules_67 : decode b_De_applyRules 67 = .ok (.iconst 0, 1) := by decide +kernel
theorem d_De_applyRules_68 : decode b_De_applyRules 68 = .ok (.iload 5, 2) := by decide +kernel
theorem d_De_applyRules_70 : decode b_De_applyRules 70 = .ok (.lload 7, 2) := by decide +kernel
theorem d_De_applyRules_72 : decode b_De_applyRules 72 = .ok (.invokestatic 87, 3) := by decide +kernel
theorem d_De_applyRules_75 : decode b_De_applyRules 75 = .ok (.ifCond .eq 4, 3) := by decide +kernel
theorem d_De_applyRules_78 : decode b_De_applyRules 78 = .ok (.return_, 1) := by decide +kernel
theorem d_De_applyRules_79 : decode b_De_applyRules 79 = .ok (.iinc 5 1, 3) := by decide +kernel
theorem d_De_applyRules_82 : decode b_De_applyRules 82 = .ok (.goto (-53), 3) := by decide +kernel
theorem d_De_applyRules_85 : decode b_De_applyRules 85 = .ok (.iinc 3 1, 3) := by decide +kernel
theorem d_De_applyRules_88 : decode b_De_applyRules 88 = .ok (.goto (-86), 3) := by decide +kernel
theorem d_De_applyRules_91 : decode b_De_applyRules 91 = .ok (.return_, 1) := by decide +kernel
theorem d_De_meet_0 : decode b_De_meet 0 = .ok (.iload_n 1, 1) := by decide +kernel
theorem d_De_meet_1 : decode b_De_meet 1 = .ok (.ifCond .lt 18, 3) := by decide +kernel
theorem d_De_meet_4 : decode b_De_meet 4 = .ok (.iload_n 1, 1) := by decide +kernel
theorem d_De_meet_5 : decode b_De_meet 5 = .ok (.bipush 21, 2) := by decide +kernel
theorem d_De_meet_7 : decode b_De_meet 7 = .ok (.if_icmp .ge 12, 3) := by decide +kernel
theorem d_De_meet_10 : decode b_De_meet 10 = .ok (.aload_n 0, 1) := by decide +kernel
theorem d_De_meet_11 : decode b_De_meet 11 = .ok (.iload_n 1, 1) := by decide +kernel
theorem d_De_meet_12 : decode b_De_meet 12 = .ok (.lload_n 2, 1) := by decide +kernel
theorem d_De_meet_13 : decode b_De_meet 13 = .ok (.invokestatic 91, 3) := by decide +kernel
theorem d_De_meet_16 : decode b_De_meet 16 = .ok (.invokevirtual 44, 3) := by decide +kernel
theorem d_De_meet_19 : decode b_De_meet 19 = .ok (.aload_n 0, 1) := by decide +kernel
theorem d_De_meet_20 : decode b_De_meet 20 = .ok (.getfield 34, 3) := by decide +kernel
theorem d_De_meet_23 : decode b_De_meet 23 = .ok (.ireturn, 1) := by decide +kernel
theorem d_De_add_0 : decode b_De_add 0 = .ok (.aload_n 0, 1) := by decide +kernel
theorem d_De_add_1 : decode b_De_add 1 = .ok (.getfield 14, 3) := by decide +kernel
theorem d_De_add_4 : decode b_De_add 4 = .ok (.iload_n 1, 1) := by decide +kernel
theorem d_De_add_5 : decode b_De_add 5 = .ok (.invokevirtual 95, 3) := by decide +kernel
theorem d_De_add_8 : decode b_De_add 8 = .ok (.ifCond .eq 4, 3) := by decide +kernel
theorem d_De_add_11 : decode b_De_add 11 = .ok (.return_, 1) := by decide +kernel
theorem d_De_add_12 : decode b_De_add 12 = .ok (.aload_n 0, 1) := by decide +kernel
theorem d_De_add_13 : decode b_De_add 13 = .ok (.getfield 31, 3) := by decide +kernel
theorem d_De_add_16 : decode b_De_add 16 = .ok (.sipush 400, 3) := by decide +kernel
theorem d_De_add_19 : decode b_De_add 19 = .ok (.if_icmp .lt 9, 3) := by decide +kernel
theorem d_De_add_22 : decode b_De_add 22 = .ok (.aload_n 0, 1) := by decide +kernel
theorem d_De_add_23 : decode b_De_add 23 = .ok (.iconst 1, 1) := by decide +kernel
theorem d_De_add_24 : decode b_De_add 24 = .ok (.putfield 34, 3) := by decide +kernel
theorem d_De_add_27 : decode b_De_add 27 = .ok (.return_, 1) := by decide +kernel
theorem d_De_add_28 : decode b_De_add 28 = .ok (.aload_n 0, 1) := by decide +kernel
theorem d_De_add_29 : decode b_De_add 29 = .ok (.getfield 14, 3) := by decide +kernel
theorem d_De_add_32 : decode b_De_add 32 = .ok (.iload_n 1, 1) := by decide +kernel
theorem d_De_add_33 : decode b_De_add 33 = .ok (.invokevirtual 48, 3) := by decide +kernel
theorem d_De_add_36 : decode b_De_add 36 = .ok (.aload_n 0, 1) := by decide +kernel
theorem d_De_add_37 : decode b_De_add 37 = .ok (.getfield 20, 3) := by decide +kernel
theorem d_De_add_40 : decode b_De_add 40 = .ok (.aload_n 0, 1) := by decide +kernel
theorem d_De_add_41 : decode b_De_add 41 = .ok (.getfield 31, 3) := by decide +kernel
theorem d_De_add_44 : decode b_De_add 44 = .ok (.iload_n 1, 1) := by decide +kernel
theorem d_De_add_45 : decode b_De_add 45 = .ok (.iastore, 1) := by decide +kernel
theorem d_De_add_46 : decode b_De_add 46 = .ok (.aload_n 0, 1) := by decide +kernel
theorem d_De_add_47 : decode b_De_add 47 = .ok (.getfield 24, 3) := by decide +kernel
theorem d_De_add_50 : decode b_De_add 50 = .ok (.aload_n 0, 1) := by decide +kernel
theorem d_De_add_51 : decode b_De_add 51 = .ok (.getfield 31, 3) := by decide +kernel
theorem d_De_add_54 : decode b_De_add 54 = .ok (.aload_n 0, 1) := by decide +kernel
theorem d_De_add_55 : decode b_De_add 55 = .ok (.getfield 27, 3) := by decide +kernel
theorem d_De_add_58 : decode b_De_add 58 = .ok (.iastore, 1) := by decide +kernel
theorem d_De_add_59 : decode b_De_add 59 = .ok (.aload_n 0, 1) := by decide +kernel
theorem d_De_add_60 : decode b_De_add 60 = .ok (.dup, 1) := by decide +kernel
theorem d_De_add_61 : decode b_De_add 61 = .ok (.getfield 31, 3) := by decide +kernel
theorem d_De_add_64 : decode b_De_add 64 = .ok (.iconst 1, 1) := by decide +kernel
theorem d_De_add_65 : decode b_De_add 65 = .ok (.iadd, 1) := by decide +kernel
theorem d_De_add_66 : decode b_De_add 66 = .ok (.putfield 31, 3) := by decide +kernel
theorem d_De_add_69 : decode b_De_add 69 = .ok (.return_, 1) := by decide +kernel
