theorem d_Rl_said_0 : decode b_Rl_said 0 = .ok (.aload_n 0, 1) := by decide +kernel
theorem d_Rl_said_1 : decode b_Rl_said 1 = .ok (.getfield 13, 3) := by decide +kernel
theorem d_Rl_said_4 : decode b_Rl_said 4 = .ok (.ireturn, 1) := by decide +kernel
theorem d_Rl_isTooLarge_0 : decode b_Rl_isTooLarge 0 = .ok (.aload_n 0, 1) := by decide +kernel
theorem d_Rl_isTooLarge_1 : decode b_Rl_isTooLarge 1 = .ok (.getfield 21, 3) := by decide +kernel
theorem d_Rl_isTooLarge_4 : decode b_Rl_isTooLarge 4 = .ok (.ifCond .ne 27, 3) := by decide +kernel
theorem d_Rl_isTooLarge_7 : decode b_Rl_isTooLarge 7 = .ok (.aload_n 0, 1) := by decide +kernel
theorem d_Rl_isTooLarge_8 : decode b_Rl_isTooLarge 8 = .ok (.getfield 37, 3) := by decide +kernel
theorem d_Rl_isTooLarge_11 : decode b_Rl_isTooLarge 11 = .ok (.aload_n 0, 1) := by decide +kernel
theorem d_Rl_isTooLarge_12 : decode b_Rl_isTooLarge 12 = .ok (.getfield 9, 3) := by decide +kernel
theorem d_Rl_isTooLarge_15 : decode b_Rl_isTooLarge 15 = .ok (.aload_n 0, 1) := by decide +kernel
theorem d_Rl_isTooLarge_16 : decode b_Rl_isTooLarge 16 = .ok (.getfield 13, 3) := by decide +kernel
theorem d_Rl_isTooLarge_19 : decode b_Rl_isTooLarge 19 = .ok (.aload_n 0, 1) := by decide +kernel
theorem d_Rl_isTooLarge_20 : decode b_Rl_isTooLarge 20 = .ok (.getfield 18, 3) := by decide +kernel
theorem d_Rl_isTooLarge_23 : decode b_Rl_isTooLarge 23 = .ok (.invokevirtual 117, 3) := by decide +kernel
theorem d_Rl_isTooLarge_26 : decode b_Rl_isTooLarge 26 = .ok (.aload_n 0, 1) := by decide +kernel
theorem d_Rl_isTooLarge_27 : decode b_Rl_isTooLarge 27 = .ok (.iconst 1, 1) := by decide +kernel
theorem d_Rl_isTooLarge_28 : decode b_Rl_isTooLarge 28 = .ok (.putfield 21, 3) := by decide +kernel
theorem d_Rl_isTooLarge_31 : decode b_Rl_isTooLarge 31 = .ok (.aload_n 0, 1) := by decide +kernel
theorem d_Rl_isTooLarge_32 : decode b_Rl_isTooLarge 32 = .ok (.getfield 37, 3) := by decide +kernel
theorem d_Rl_isTooLarge_35 : decode b_Rl_isTooLarge 35 = .ok (.getfield 121, 3) := by decide +kernel
theorem d_Rl_isTooLarge_38 : decode b_Rl_isTooLarge 38 = .ok (.ireturn, 1) := by decide +kernel
theorem d_Rl_placeOfSaid_0 : decode b_Rl_placeOfSaid 0 = .ok (.iconst 0, 1) := by decide +kernel
theorem d_Rl_placeOfSaid_1 : decode b_Rl_placeOfSaid 1 = .ok (.istore_n 2, 1) := by decide +kernel
theorem d_Rl_placeOfSaid_2 : decode b_Rl_placeOfSaid 2 = .ok (.iload_n 2, 1) := by decide +kernel
theorem d_Rl_placeOfSaid_3 : decode b_Rl_placeOfSaid 3 = .ok (.aload_n 0, 1) := by decide +kernel
theorem d_Rl_placeOfSaid_4 : decode b_Rl_placeOfSaid 4 = .ok (.getfield 13, 3) := by decide +kernel
theorem d_Rl_placeOfSaid_7 : decode b_Rl_placeOfSaid 7 = .ok (.if_icmp .ge 21, 3) := by decide +kernel
theorem d_Rl_placeOfSaid_10 : decode b_Rl_placeOfSaid 10 = .ok (.aload_n 0, 1) := by decide +kernel
theorem d_Rl_placeOfSaid_11 : decode b_Rl_placeOfSaid 11 = .ok (.getfield 9, 3) := by decide +kernel
theorem d_Rl_placeOfSaid_14 : decode b_Rl_placeOfSaid 14 = .ok (.iload_n 2, 1) := by decide +kernel
theorem d_Rl_placeOfSaid_15 : decode b_Rl_placeOfSaid 15 = .ok (.iaload, 1) := by decide +kernel
theorem d_Rl_placeOfSaid_16 : decode b_Rl_placeOfSaid 16 = .ok (.iload_n 1, 1) := by decide +kernel
theorem d_Rl_placeOfSaid_17 : decode b_Rl_placeOfSaid 17 = .ok (.if_icmp .ne 5, 3) := by decide +kernel
theorem d_Rl_placeOfSaid_20 : decode b_Rl_placeOfSaid 20 = .ok (.iload_n 2, 1) := by decide +kernel
theorem d_Rl_placeOfSaid_21 : decode b_Rl_placeOfSaid 21 = .ok (.ireturn, 1) := by decide +kernel
theorem d_Rl_placeOfSaid_22 : decode b_Rl_placeOfSaid 22 = .ok (.iinc 2 1, 3) := by decide +kernel
theorem d_Rl_placeOfSaid_25 : decode b_Rl_placeOfSaid 25 = .ok (.goto (-23), 3) := by decide +kernel
theorem d_Rl_placeOfSaid_28 : decode b_Rl_placeOfSaid 28 = .ok (.iconst (-1), 1) := by decide +kernel
theorem d_Rl_placeOfSaid_29 : decode b_Rl_placeOfSaid 29 = .ok (.ireturn, 1) := by decide +kernel
theorem d_Rl_isTerm_0 : decode b_Rl_isTerm 0 = .ok (.iload_n 0, 1) := by decide +kernel
theorem d_Rl_isTerm_1 : decode b_Rl_isTerm 1 = .ok (.ifCond .lt 13, 3) := by decide +kernel
theorem d_Rl_isTerm_4 : decode b_Rl_isTerm 4 = .ok (.iload_n 0, 1) := by decide +kernel
theorem d_Rl_isTerm_5 : decode b_Rl_isTerm 5 = .ok (.bipush 32, 2) := by decide +kernel
theorem d_Rl_isTerm_7 : decode b_Rl_isTerm 7 = .ok (.if_icmp .ge 7, 3) := by decide +kernel
theorem d_Rl_isTerm_10 : decode b_Rl_isTerm 10 = .ok (.iconst 1, 1) := by decide +kernel
theorem d_Rl_isTerm_11 : decode b_Rl_isTerm 11 = .ok (.goto 4, 3) := by decide +kernel
theorem d_Rl_isTerm_14 : decode b_Rl_isTerm 14 = .ok (.iconst 0, 1) := by decide +kernel
theorem d_Rl_isTerm_15 : decode b_Rl_isTerm 15 = .ok (.ireturn, 1) := by decide +kernel
theorem d_Rl_areTerms_0 : decode b_Rl_areTerms 0 = .ok (.iload_n 0, 1) := by decide +kernel
theorem d_Rl_areTerms_1 : decode b_Rl_areTerms 1 = .ok (.invokestatic 101, 3) := by decide +kernel
theorem d_Rl_areTerms_4 : decode b_Rl_areTerms 4 = .ok (.ifCond .eq 21, 3) := by decide +kernel
theorem d_Rl_areTerms_7 : decode b_Rl_areTerms 7 = .ok (.iload_n 1, 1) := by decide +kernel
theorem d_Rl_areTerms_8 : decode b_Rl_areTerms 8 = .ok (.invokestatic 101, 3) := by decide +kernel
theorem d_Rl_areTerms_11 : decode b_Rl_areTerms 11 = .ok (.ifCond .eq 14, 3) := by decide +kernel
theorem d_Rl_areTerms_14 : decode b_Rl_areTerms 14 = .ok (.iload_n 2, 1) := by decide +kernel
theorem d_Rl_areTerms_15 : decode b_Rl_areTerms 15 = .ok (.invokestatic 101, 3) := by decide +kernel
theorem d_Rl_areTerms_18 : decode b_Rl_areTerms 18 = .ok (.ifCond .eq 7, 3) := by decide +kernel
theorem d_Rl_areTerms_21 : decode b_Rl_areTerms 21 = .ok (.iconst 1, 1) := by decide +kernel
theorem d_Rl_areTerms_22 : decode b_Rl_areTerms 22 = .ok (.goto 4, 3) := by decide +kernel
theorem d_Rl_areTerms_25 : decode b_Rl_areTerms 25 = .ok (.iconst 0, 1) := by decide +kernel
theorem d_Rl_areTerms_26 : decode b_Rl_areTerms 26 = .ok (.ireturn, 1) := by decide +kernel
theorem d_Rl_codeOf_0 : decode b_Rl_codeOf 0 = .ok (.iload_n 0, 1) := by decide +kernel
theorem d_Rl_codeOf_1 : decode b_Rl_codeOf 1 = .ok (.bipush 32, 2) := by decide +kernel
theorem d_Rl_codeOf_3 : decode b_Rl_codeOf 3 = .ok (.imul, 1) := by decide +kernel
theorem d_Rl_codeOf_4 : decode b_Rl_codeOf 4 = .ok (.iload_n 1, 1) := by decide +kernel
theorem d_Rl_codeOf_5 : decode b_Rl_codeOf 5 = .ok (.iadd, 1) := by decide +kernel
theorem d_Rl_codeOf_6 : decode b_Rl_codeOf 6 = .ok (.bipush 32, 2) := by decide +kernel
theorem d_Rl_codeOf_8 : decode b_Rl_codeOf 8 = .ok (.imul, 1) := by decide +kernel
theorem d_Rl_codeOf_9 : decode b_Rl_codeOf 9 = .ok (.iload_n 2, 1) := by decide +kernel
theorem d_Rl_codeOf_10 : decode b_Rl_codeOf 10 = .ok (.iadd, 1) := by decide +kernel
theorem d_Rl_codeOf_11 : decode b_Rl_codeOf 11 = .ok (.ireturn, 1) := by decide +kernel
theorem d_Rl_contains_0 : decode b_Rl_contains 0 = .ok (.iload_n 0, 1) := by decide +kernel
theorem d_Rl_contains_1 : decode b_Rl_contains 1 = .ok (.iload_n 1, 1) := by decide +kernel
theorem d_Rl_contains_2 : decode b_Rl_contains 2 = .ok (.iushr, 1) := by decide +kernel
theorem d_Rl_contains_3 : decode b_Rl_contains 3 = .ok (.iconst 1, 1) := by decide +kernel
theorem d_Rl_contains_4 : decode b_Rl_contains 4 = .ok (.iand, 1) := by decide +kernel
theorem d_Rl_contains_5 : decode b_Rl_contains 5 = .ok (.ifCond .eq 7, 3) := by decide +kernel
theorem d_Rl_contains_8 : decode b_Rl_contains 8 = .ok (.iconst 1, 1) := by decide +kernel
theorem d_Rl_contains_9 : decode b_Rl_contains 9 = .ok (.goto 4, 3) := by decide +kernel
theorem d_Rl_contains_12 : decode b_Rl_contains 12 = .ok (.iconst 0, 1) := by decide +kernel
theorem d_Rl_contains_13 : decode b_Rl_contains 13 = .ok (.ireturn, 1) := by decide +kernel
theorem d_Rl_leastOf_0 : decode b_Rl_leastOf 0 = .ok (.iload_n 0, 1) := by decide +kernel
theorem d_Rl_leastOf_1 : decode b_Rl_leastOf 1 = .ok (.iload_n 0, 1) := by decide +kernel
theorem d_Rl_leastOf_2 : decode b_Rl_leastOf 2 = .ok (.ineg, 1) := by decide +kernel
theorem d_Rl_leastOf_3 : decode b_Rl_leastOf 3 = .ok (.iand, 1) := by decide +kernel
theorem d_Rl_leastOf_4 : decode b_Rl_leastOf 4 = .ok (.iconst 1, 1) := by decide +kernel
theorem d_Rl_leastOf_5 : decode b_Rl_leastOf 5 = .ok (.isub, 1) := by decide +kernel
theorem d_Rl_leastOf_6 : decode b_Rl_leastOf 6 = .ok (.invokestatic 124, 3) := by decide +kernel
theorem d_Rl_leastOf_9 : decode b_Rl_leastOf 9 = .ok (.ireturn, 1) := by decide +kernel
theorem d_Rl_withoutLeast_0 : decode b_Rl_withoutLeast 0 = .ok (.iload_n 0, 1) := by decide +kernel
theorem d_Rl_withoutLeast_1 : decode b_Rl_withoutLeast 1 = .ok (.iload_n 0, 1) := by decide +kernel
theorem d_Rl_withoutLeast_2 : decode b_Rl_withoutLeast 2 = .ok (.iconst 1, 1) := by decide +kernel
theorem d_Rl_withoutLeast_3 : decode b_Rl_withoutLeast 3 = .ok (.isub, 1) := by decide +kernel
theorem d_Rl_withoutLeast_4 : decode b_Rl_withoutLeast 4 = .ok (.iand, 1) := by decide +kernel
theorem d_Rl_withoutLeast_5 : decode b_Rl_withoutLeast 5 = .ok (.ireturn, 1) := by decide +kernel
theorem d_Mo_init_0 : decode b_Mo_init 0 = .ok (.aload_n 0, 1) := by decide +kernel
theorem d_Mo_init_1 : decode b_Mo_init 1 = .ok (.invokespecial 1, 3) := by decide +kernel
theorem d_Mo_init_4 : decode b_Mo_init 4 = .ok (.aload_n 0, 1) := by decide +kernel
theorem d_Mo_init_5 : decode b_Mo_init 5 = .ok (.ldc 7, 2) := by decide +kernel
theorem d_Mo_init_7 : decode b_Mo_init 7 = .ok (.newarray .boolean, 2) := by decide +kernel
theorem d_Mo_init_9 : decode b_Mo_init 9 = .ok (.putfield 8, 3) := by decide +kernel
theorem d_Mo_init_12 : decode b_Mo_init 12 = .ok (.aload_n 0, 1) := by decide +kernel
theorem d_Mo_init_13 : decode b_Mo_init 13 = .ok (.bipush 21, 2) := by decide +kernel
theorem d_Mo_init_15 : decode b_Mo_init 15 = .ok (.newarray .boolean, 2) := by decide +kernel
theorem d_Mo_init_17 : decode b_Mo_init 17 = .ok (.putfield 14, 3) := by decide +kernel
theorem d_Mo_init_20 : decode b_Mo_init 20 = .ok (.aload_n 0, 1) := by decide +kernel
theorem d_Mo_init_21 : decode b_Mo_init 21 = .ok (.ldc 7, 2) := by decide +kernel
theorem d_Mo_init_23 : decode b_Mo_init 23 = .ok (.newarray .int, 2) := by decide +kernel
theorem d_Mo_init_25 : decode b_Mo_init 25 = .ok (.putfield 17, 3) := by decide +kernel
theorem d_Mo_init_28 : decode b_Mo_init 28 = .ok (.aload_n 0, 1) := by decide +kernel
theorem d_Mo_init_29 : decode b_Mo_init 29 = .ok (.ldc 7, 2) := by decide +kernel
theorem d_Mo_init_31 : decode b_Mo_init 31 = .ok (.newarray .boolean, 2) := by decide +kernel
theorem d_Mo_init_33 : decode b_Mo_init 33 = .ok (.putfield 21, 3) := by decide +kernel
theorem d_Mo_init_36 : decode b_Mo_init 36 = .ok (.aload_n 0, 1) := by decide +kernel
theorem d_Mo_init_37 : decode b_Mo_init 37 = .ok (.sipush 401, 3) := by decide +kernel
theorem d_Mo_init_40 : decode b_Mo_init 40 = .ok (.newarray .int, 2) := by decide +kernel
theorem d_Mo_init_42 : decode b_Mo_init 42 = .ok (.putfield 24, 3) := by decide +kernel
theorem d_Mo_init_45 : decode b_Mo_init 45 = .ok (.aload_n 0, 1) := by decide +kernel
theorem d_Mo_init_46 : decode b_Mo_init 46 = .ok (.iconst 4, 1) := by decide +kernel
theorem d_Mo_init_47 : decode b_Mo_init 47 = .ok (.newarray .int, 2) := by decide +kernel
theorem d_Mo_init_49 : decode b_Mo_init 49 = .ok (.putfield 27, 3) := by decide +kernel
theorem d_Mo_init_52 : decode b_Mo_init 52 = .ok (.aload_n 0, 1) := by decide +kernel
theorem d_Mo_init_53 : decode b_Mo_init 53 = .ok (.bipush 48, 2) := by decide +kernel
theorem d_Mo_init_55 : decode b_Mo_init 55 = .ok (.newarray .int, 2) := by decide +kernel
theorem d_Mo_init_57 : decode b_Mo_init 57 = .ok (.putfield 30, 3) := by decide +kernel
theorem d_Mo_init_60 : decode b_Mo_init 60 = .ok (.aload_n 0, 1) := by decide +kernel
theorem d_Mo_init_61 : decode b_Mo_init 61 = .ok (.bipush 12, 2) := by decide +kernel
theorem d_Mo_init_63 : decode b_Mo_init 63 = .ok (.newarray .int, 2) := by decide +kernel
theorem d_Mo_init_65 : decode b_Mo_init 65 = .ok (.putfield 33, 3) := by decide +kernel
theorem d_Mo_init_68 : decode b_Mo_init 68 = .ok (.aload_n 0, 1) := by decide +kernel
theorem d_Mo_init_69 : decode b_Mo_init 69 = .ok (.iconst 0, 1) := by decide +kernel
theorem d_Mo_init_70 : decode b_Mo_init 70 = .ok (.putfield 36, 3) := by decide +kernel
theorem d_Mo_init_73 : decode b_Mo_init 73 = .ok (.return_, 1) := by decide +kernel
theorem d_Mo_isTerm_0 : decode b_Mo_isTerm 0 = .ok (.iload_n 0, 1) := by decide +kernel
theorem d_Mo_isTerm_1 : decode b_Mo_isTerm 1 = .ok (.ifCond .lt 13, 3) := by decide +kernel
theorem d_Mo_isTerm_4 : decode b_Mo_isTerm 4 = .ok (.iload_n 0, 1) := by decide +kernel
theorem d_Mo_isTerm_5 : decode b_Mo_isTerm 5 = .ok (.bipush 32, 2) := by decide +kernel
theorem d_Mo_isTerm_7 : decode b_Mo_isTerm 7 = .ok (.if_icmp .ge 7, 3) := by decide +kernel
theorem d_Mo_isTerm_10 : decode b_Mo_isTerm 10 = .ok (.iconst 1, 1) := by decide +kernel
theorem d_Mo_isTerm_11 : decode b_Mo_isTerm 11 = .ok (.goto 4, 3) := by decide +kernel
theorem d_Mo_isTerm_14 : decode b_Mo_isTerm 14 = .ok (.iconst 0, 1) := by decide +kernel
theorem d_Mo_isTerm_15 : decode b_Mo_isTerm 15 = .ok (.ireturn, 1) := by decide +kernel
theorem d_Mo_isTriple_0 : decode b_Mo_isTriple 0 = .ok (.iload_n 0, 1) := by decide +kernel
theorem d_Mo_isTriple_1 : decode b_Mo_isTriple 1 = .ok (.invokestatic 40, 3) := by decide +kernel
theorem d_Mo_isTriple_4 : decode b_Mo_isTriple 4 = .ok (.ifCond .eq 21, 3) := by decide +kernel
theorem d_Mo_isTriple_7 : decode b_Mo_isTriple 7 = .ok (.iload_n 1, 1) := by decide +kernel
theorem d_Mo_isTriple_8 : decode b_Mo_isTriple 8 = .ok (.invokestatic 40, 3) := by decide +kernel
theorem d_Mo_isTriple_11 : decode b_Mo_isTriple 11 = .ok (.ifCond .eq 14, 3) := by decide +kernel
theorem d_Mo_isTriple_14 : decode b_Mo_isTriple 14 = .ok (.iload_n 2, 1) := by decide +kernel
theorem d_Mo_isTriple_15 : decode b_Mo_isTriple 15 = .ok (.invokestatic 40, 3) := by decide +kernel
theorem d_Mo_isTriple_18 : decode b_Mo_isTriple 18 = .ok (.ifCond .eq 7, 3) := by decide +kernel
theorem d_Mo_isTriple_21 : decode b_Mo_isTriple 21 = .ok (.iconst 1, 1) := by decide +kernel
theorem d_Mo_isTriple_22 : decode b_Mo_isTriple 22 = .ok (.goto 4, 3) := by decide +kernel
theorem d_Mo_isTriple_25 : decode b_Mo_isTriple 25 = .ok (.iconst 0, 1) := by decide +kernel
theorem d_Mo_isTriple_26 : decode b_Mo_isTriple 26 = .ok (.ireturn, 1) := by decide +kernel
theorem d_Mo_codeOf_0 : decode b_Mo_codeOf 0 = .ok (.sipush 1024, 3) := by decide +kernel
theorem d_Mo_codeOf_3 : decode b_Mo_codeOf 3 = .ok (.iload_n 0, 1) := by decide +kernel
theorem d_Mo_codeOf_4 : decode b_Mo_codeOf 4 = .ok (.imul, 1) := by decide +kernel
theorem d_Mo_codeOf_5 : decode b_Mo_codeOf 5 = .ok (.bipush 32, 2) := by decide +kernel
theorem d_Mo_codeOf_7 : decode b_Mo_codeOf 7 = .ok (.iload_n 1, 1) := by decide +kernel
theorem d_Mo_codeOf_8 : decode b_Mo_codeOf 8 = .ok (.imul, 1) := by decide +kernel
theorem d_Mo_codeOf_9 : decode b_Mo_codeOf 9 = .ok (.iadd, 1) := by decide +kernel
theorem d_Mo_codeOf_10 : decode b_Mo_codeOf 10 = .ok (.iload_n 2, 1) := by decide +kernel
theorem d_Mo_codeOf_11 : decode b_Mo_codeOf 11 = .ok (.iadd, 1) := by decide +kernel
theorem d_Mo_codeOf_12 : decode b_Mo_codeOf 12 = .ok (.ireturn, 1) := by decide +kernel
theorem d_Mo_pattern_0 : decode b_Mo_pattern 0 = .ok (.iload_n 0, 1) := by decide +kernel
theorem d_Mo_pattern_1 : decode b_Mo_pattern 1 = .ok (.bipush 60, 2) := by decide +kernel
theorem d_Mo_pattern_3 : decode b_Mo_pattern 3 = .ok (.if_icmp .ge 10, 3) := by decide +kernel
theorem d_Mo_pattern_6 : decode b_Mo_pattern 6 = .ok (.iload_n 0, 1) := by decide +kernel
theorem d_Mo_pattern_7 : decode b_Mo_pattern 7 = .ok (.invokestatic 44, 3) := by decide +kernel
theorem d_Mo_pattern_10 : decode b_Mo_pattern 10 = .ok (.goto 7, 3) := by decide +kernel
theorem d_Mo_pattern_13 : decode b_Mo_pattern 13 = .ok (.iload_n 0, 1) := by decide +kernel
theorem d_Mo_pattern_14 : decode b_Mo_pattern 14 = .ok (.invokestatic 48, 3) := by decide +kernel
theorem d_Mo_pattern_17 : decode b_Mo_pattern 17 = .ok (.ireturn, 1) := by decide +kernel
theorem d_Mo_early_0 : decode b_Mo_early 0 = .ok (.iload_n 0, 1) := by decide +kernel
theorem d_Mo_early_1 : decode b_Mo_early 1 = .ok (.tableswitch 363 0 59 #[255, 363, 363, 363, 258, 261, 264, 363, 363, 267, 270, 273, 363, 363, 276, 279, 282, 363, 363, 285, 288, 291, 363, 363, 294, 297, 300, 363, 363, 303, 306, 309, 363, 363, 312, 315, 318, 321, 363, 324, 327, 330, 363, 363, 333, 336, 339, 363, 363, 342, 345, 348, 363, 363, 351, 354, 357, 363, 363, 360], 255) := by decide +kernel
theorem d_Mo_early_256 : decode b_Mo_early 256 = .ok (.ldc 51, 2) := by decide +kernel
theorem d_Mo_early_258 : decode b_Mo_early 258 = .ok (.ireturn, 1) := by decide +kernel
theorem d_Mo_early_259 : decode b_Mo_early 259 = .ok (.ldc 52, 2) := by decide +kernel
theorem d_Mo_early_261 : decode b_Mo_early 261 = .ok (.ireturn, 1) := by decide +kernel
theorem d_Mo_early_262 : decode b_Mo_early 262 = .ok (.ldc 51, 2) := by decide +kernel
theorem d_Mo_early_264 : decode b_Mo_early 264 = .ok (.ireturn, 1) := by decide +kernel
theorem d_Mo_early_265 : decode b_Mo_early 265 = .ok (.ldc 53, 2) := by decide +kernel
theorem d_Mo_early_267 : decode b_Mo_early 267 = .ok (.ireturn, 1) := by decide +kernel
theorem d_Mo_early_268 : decode b_Mo_early 268 = .ok (.ldc 54, 2) := by decide +kernel
theorem d_Mo_early_270 : decode b_Mo_early 270 = .ok (.ireturn, 1) := by decide +kernel
theorem d_Mo_early_271 : decode b_Mo_early 271 = .ok (.ldc 51, 2) := by decide +kernel
theorem d_Mo_early_273 : decode b_Mo_early 273 = .ok (.ireturn, 1) := by decide +kernel
theorem d_Mo_early_274 : decode b_Mo_early 274 = .ok (.ldc 55, 2) := by decide +kernel
theorem d_Mo_early_276 : decode b_Mo_early 276 = .ok (.ireturn, 1) := by decide +kernel
theorem d_Mo_early_277 : decode b_Mo_early 277 = .ok (.ldc 56, 2) := by decide +kernel
theorem d_Mo_early_279 : decode b_Mo_early 279 = .ok (.ireturn, 1) := by decide +kernel
theorem d_Mo_early_280 : decode b_Mo_early 280 = .ok (.ldc 51, 2) := by decide +kernel
theorem d_Mo_early_282 : decode b_Mo_early 282 = .ok (.ireturn, 1) := by decide +kernel
theorem d_Mo_early_283 : decode b_Mo_early 283 = .ok (.ldc 57, 2) := by decide +kernel
theorem d_Mo_early_285 : decode b_Mo_early 285 = .ok (.ireturn, 1) := by decide +kernel
theorem d_Mo_early_286 : decode b_Mo_early 286 = .ok (.ldc 58, 2) := by decide +kernel
theorem d_Mo_early_288 : decode b_Mo_early 288 = .ok (.ireturn, 1) := by decide +kernel
theorem d_Mo_early_289 : decode b_Mo_early 289 = .ok (.ldc 59, 2) := by decide +kernel
theorem d_Mo_early_291 : decode b_Mo_early 291 = .ok (.ireturn, 1) := by decide +kernel
theorem d_Mo_early_292 : decode b_Mo_early 292 = .ok (.ldc 60, 2) := by decide +kernel
theorem d_Mo_early_294 : decode b_Mo_early 294 = .ok (.ireturn, 1) := by decide +kernel
theorem d_Mo_early_295 : decode b_Mo_early 295 = .ok (.ldc 61, 2) := by decide +kernel
theorem d_Mo_early_297 : decode b_Mo_early 297 = .ok (.ireturn, 1) := by decide +kernel
theorem d_Mo_early_298 : decode b_Mo_early 298 = .ok (.ldc 62, 2) := by decide +kernel
theorem d_Mo_early_300 : decode b_Mo_early 300 = .ok (.ireturn, 1) := by decide +kernel
theorem d_Mo_early_301 : decode b_Mo_early 301 = .ok (.ldc 60, 2) := by decide +kernel
theorem d_Mo_early_303 : decode b_Mo_early 303 = .ok (.ireturn, 1) := by decide +kernel
theorem d_Mo_early_304 : decode b_Mo_early 304 = .ok (.ldc 63, 2) := by decide +kernel
theorem d_Mo_early_306 : decode b_Mo_early 306 = .ok (.ireturn, 1) := by decide +kernel
theorem d_Mo_early_307 : decode b_Mo_early 307 = .ok (.ldc 64, 2) := by decide +kernel
theorem d_Mo_early_309 : decode b_Mo_early 309 = .ok (.ireturn, 1) := by decide +kernel
theorem d_Mo_early_310 : decode b_Mo_early 310 = .ok (.ldc 60, 2) := by decide +kernel
theorem d_Mo_early_312 : decode b_Mo_early 312 = .ok (.ireturn, 1) := by decide +kernel
theorem d_Mo_early_313 : decode b_Mo_early 313 = .ok (.ldc 65, 2) := by decide +kernel
theorem d_Mo_early_315 : decode b_Mo_early 315 = .ok (.ireturn, 1) := by decide +kernel
theorem d_Mo_early_316 : decode b_Mo_early 316 = .ok (.ldc 66, 2) := by decide +kernel
theorem d_Mo_early_318 : decode b_Mo_early 318 = .ok (.ireturn, 1) := by decide +kernel
theorem d_Mo_early_319 : decode b_Mo_early 319 = .ok (.ldc 60, 2) := by decide +kernel
theorem d_Mo_early_321 : decode b_Mo_early 321 = .ok (.ireturn, 1) := by decide +kernel
theorem d_Mo_early_322 : decode b_Mo_early 322 = .ok (.ldc 56, 2) := by decide +kernel
theorem d_Mo_early_324 : decode b_Mo_early 324 = .ok (.ireturn, 1) := by decide +kernel
theorem d_Mo_early_325 : decode b_Mo_early 325 = .ok (.ldc 55, 2) := by decide +kernel
theorem d_Mo_early_327 : decode b_Mo_early 327 = .ok (.ireturn, 1) := by decide +kernel
theorem d_Mo_early_328 : decode b_Mo_early 328 = .ok (.ldc 67, 2) := by decide +kernel
theorem d_Mo_early_330 : decode b_Mo_early 330 = .ok (.ireturn, 1) := by decide +kernel
theorem d_Mo_early_331 : decode b_Mo_early 331 = .ok (.ldc 60, 2) := by decide +kernel
theorem d_Mo_early_333 : decode b_Mo_early 333 = .ok (.ireturn, 1) := by decide +kernel
theorem d_Mo_early_334 : decode b_Mo_early 334 = .ok (.ldc 68, 2) := by decide +kernel
theorem d_Mo_early_336 : decode b_Mo_early 336 = .ok (.ireturn, 1) := by decide +kernel
theorem d_Mo_early_337 : decode b_Mo_early 337 = .ok (.ldc 67, 2) := by decide +kernel
theorem d_Mo_early_339 : decode b_Mo_early 339 = .ok (.ireturn, 1) := by decide +kernel
theorem d_Mo_early_340 : decode b_Mo_early 340 = .ok (.ldc 69, 2) := by decide +kernel
theorem d_Mo_early_342 : decode b_Mo_early 342 = .ok (.ireturn, 1) := by decide +kernel
theorem d_Mo_early_343 : decode b_Mo_early 343 = .ok (.ldc 65, 2) := by decide +kernel
theorem d_Mo_early_345 : decode b_Mo_early 345 = .ok (.ireturn, 1) := by decide +kernel
theorem d_Mo_early_346 : decode b_Mo_early 346 = .ok (.ldc 70, 2) := by decide +kernel
theorem d_Mo_early_348 : decode b_Mo_early 348 = .ok (.ireturn, 1) := by decide +kernel
theorem d_Mo_early_349 : decode b_Mo_early 349 = .ok (.ldc 60, 2) := by decide +kernel
theorem d_Mo_early_351 : decode b_Mo_early 351 = .ok (.ireturn, 1) := by decide +kernel
theorem d_Mo_early_352 : decode b_Mo_early 352 = .ok (.ldc 69, 2) := by decide +kernel
theorem d_Mo_early_354 : decode b_Mo_early 354 = .ok (.ireturn, 1) := by decide +kernel
theorem d_Mo_early_355 : decode b_Mo_early 355 = .ok (.ldc 70, 2) := by decide +kernel
theorem d_Mo_early_357 : decode b_Mo_early 357 = .ok (.ireturn, 1) := by decide +kernel
theorem d_Mo_early_358 : decode b_Mo_early 358 = .ok (.ldc 71, 2) := by decide +kernel
theorem d_Mo_early_360 : decode b_Mo_early 360 = .ok (.ireturn, 1) := by decide +kernel
theorem d_Mo_early_361 : decode b_Mo_early 361 = .ok (.ldc 72, 2) := by decide +kernel
theorem d_Mo_early_363 : decode b_Mo_early 363 = .ok (.ireturn, 1) := by decide +kernel
theorem d_Mo_early_364 : decode b_Mo_early 364 = .ok (.iconst (-1), 1) := by decide +kernel
theorem d_Mo_early_365 : decode b_Mo_early 365 = .ok (.ireturn, 1) := by decide +kernel
theorem d_Mo_later_0 : decode b_Mo_later 0 = .ok (.iload_n 0, 1) := by decide +kernel
theorem d_Mo_later_1 : decode b_Mo_later 1 = .ok (.tableswitch 382 60 117 #[247, 250, 382, 382, 253, 256, 259, 382, 382, 262, 265, 268, 271, 382, 274, 277, 280, 283, 382, 286, 289, 292, 295, 298, 301, 304, 307, 310, 313, 316, 319, 322, 325, 382, 328, 331, 334, 337, 382, 340, 343, 346, 349, 352, 355, 358, 361, 382, 382, 382, 364, 367, 370, 382, 382, 373, 376, 379], 247) := by decide +kernel
theorem d_Mo_later_248 : decode b_Mo_later 248 = .ok (.ldc 73, 2) := by decide +kernel
theorem d_Mo_later_250 : decode b_Mo_later 250 = .ok (.ireturn, 1) := by decide +kernel
theorem d_Mo_later_251 : decode b_Mo_later 251 = .ok (.ldc 61, 2) := by decide +kernel
theorem d_Mo_later_253 : decode b_Mo_later 253 = .ok (.ireturn, 1) := by decide +kernel
theorem d_Mo_later_254 : decode b_Mo_later 254 = .ok (.ldc 74, 2) := by decide +kernel
theorem d_Mo_later_256 : decode b_Mo_later 256 = .ok (.ireturn, 1) := by decide +kernel
theorem d_Mo_later_257 : decode b_Mo_later 257 = .ok (.ldc 73, 2) := by decide +kernel
theorem d_Mo_later_259 : decode b_Mo_later 259 = .ok (.ireturn, 1) := by decide +kernel
theorem d_Mo_later_260 : decode b_Mo_later 260 = .ok (.ldc 75, 2) := by decide +kernel
theorem d_Mo_later_262 : decode b_Mo_later 262 = .ok (.ireturn, 1) := by decide +kernel
theorem d_Mo_later_263 : decode b_Mo_later 263 = .ok (.ldc 76, 2) := by decide +kernel
theorem d_Mo_later_265 : decode b_Mo_later 265 = .ok (.ireturn, 1) := by decide +kernel
theorem d_Mo_later_266 : decode b_Mo_later 266 = .ok (.ldc 77, 2) := by decide +kernel
theorem d_Mo_later_268 : decode b_Mo_later 268 = .ok (.ireturn, 1) := by decide +kernel
theorem d_Mo_later_269 : decode b_Mo_later 269 = .ok (.ldc 60, 2) := by decide +kernel
theorem d_Mo_later_271 : decode b_Mo_later 271 = .ok (.ireturn, 1) := by decide +kernel
theorem d_Mo_later_272 : decode b_Mo_later 272 = .ok (.ldc 55, 2) := by decide +kernel
theorem d_Mo_later_274 : decode b_Mo_later 274 = .ok (.ireturn, 1) := by decide +kernel
theorem d_Mo_later_275 : decode b_Mo_later 275 = .ok (.ldc 53, 2) := by decide +kernel
theorem d_Mo_later_277 : decode b_Mo_later 277 = .ok (.ireturn, 1) := by decide +kernel
theorem d_Mo_later_278 : decode b_Mo_later 278 = .ok (.ldc 78, 2) := by decide +kernel
theorem d_Mo_later_280 : decode b_Mo_later 280 = .ok (.ireturn, 1) := by decide +kernel
theorem d_Mo_later_281 : decode b_Mo_later 281 = .ok (.ldc 55, 2) := by decide +kernel
theorem d_Mo_later_283 : decode b_Mo_later 283 = .ok (.ireturn, 1) := by decide +kernel
theorem d_Mo_later_284 : decode b_Mo_later 284 = .ok (.ldc 56, 2) := by decide +kernel
theorem d_Mo_later_286 : decode b_Mo_later 286 = .ok (.ireturn, 1) := by decide +kernel
theorem d_Mo_later_287 : decode b_Mo_later 287 = .ok (.ldc 51, 2) := by decide +kernel
theorem d_Mo_later_289 : decode b_Mo_later 289 = .ok (.ireturn, 1) := by decide +kernel
theorem d_Mo_later_290 : decode b_Mo_later 290 = .ok (.ldc 79, 2) := by decide +kernel
theorem d_Mo_later_292 : decode b_Mo_later 292 = .ok (.ireturn, 1) := by decide +kernel
theorem d_Mo_later_293 : decode b_Mo_later 293 = .ok (.ldc 80, 2) := by decide +kernel
theorem d_Mo_later_295 : decode b_Mo_later 295 = .ok (.ireturn, 1) := by decide +kernel
theorem d_Mo_later_296 : decode b_Mo_later 296 = .ok (.ldc 60, 2) := by decide +kernel
theorem d_Mo_later_298 : decode b_Mo_later 298 = .ok (.ireturn, 1) := by decide +kernel
theorem d_Mo_later_299 : decode b_Mo_later 299 = .ok (.ldc 81, 2) := by decide +kernel
theorem d_Mo_later_301 : decode b_Mo_later 301 = .ok (.ireturn, 1) := by decide +kernel
theorem d_Mo_later_302 : decode b_Mo_later 302 = .ok (.ldc 61, 2) := by decide +kernel
theorem d_Mo_later_304 : decode b_Mo_later 304 = .ok (.ireturn, 1) := by decide +kernel
theorem d_Mo_later_305 : decode b_Mo_later 305 = .ok (.ldc 82, 2) := by decide +kernel
theorem d_Mo_later_307 : decode b_Mo_later 307 = .ok (.ireturn, 1) := by decide +kernel
theorem d_Mo_later_308 : decode b_Mo_later 308 = .ok (.ldc 80, 2) := by decide +kernel
theorem d_Mo_later_310 : decode b_Mo_later 310 = .ok (.ireturn, 1) := by decide +kernel
theorem d_Mo_later_311 : decode b_Mo_later 311 = .ok (.ldc 61, 2) := by decide +kernel
theorem d_Mo_later_313 : decode b_Mo_later 313 = .ok (.ireturn, 1) := by decide +kernel
theorem d_Mo_later_314 : decode b_Mo_later 314 = .ok (.ldc 60, 2) := by decide +kernel
theorem d_Mo_later_316 : decode b_Mo_later 316 = .ok (.ireturn, 1) := by decide +kernel
theorem d_Mo_later_317 : decode b_Mo_later 317 = .ok (.ldc 81, 2) := by decide +kernel
theorem d_Mo_later_319 : decode b_Mo_later 319 = .ok (.ireturn, 1) := by decide +kernel
theorem d_Mo_later_320 : decode b_Mo_later 320 = .ok (.ldc 83, 2) := by decide +kernel
theorem d_Mo_later_322 : decode b_Mo_later 322 = .ok (.ireturn, 1) := by decide +kernel
theorem d_Mo_later_323 : decode b_Mo_later 323 = .ok (.ldc 80, 2) := by decide +kernel
theorem d_Mo_later_325 : decode b_Mo_later 325 = .ok (.ireturn, 1) := by decide +kernel
theorem d_Mo_later_326 : decode b_Mo_later 326 = .ok (.ldc 61, 2) := by decide +kernel
theorem d_Mo_later_328 : decode b_Mo_later 328 = .ok (.ireturn, 1) := by decide +kernel
theorem d_Mo_later_329 : decode b_Mo_later 329 = .ok (.ldc 84, 2) := by decide +kernel
theorem d_Mo_later_331 : decode b_Mo_later 331 = .ok (.ireturn, 1) := by decide +kernel
theorem d_Mo_later_332 : decode b_Mo_later 332 = .ok (.ldc 83, 2) := by decide +kernel
theorem d_Mo_later_334 : decode b_Mo_later 334 = .ok (.ireturn, 1) := by decide +kernel
theorem d_Mo_later_335 : decode b_Mo_later 335 = .ok (.ldc 80, 2) := by decide +kernel
theorem d_Mo_later_337 : decode b_Mo_later 337 = .ok (.ireturn, 1) := by decide +kernel
theorem d_Mo_later_338 : decode b_Mo_later 338 = .ok (.ldc 84, 2) := by decide +kernel
theorem d_Mo_later_340 : decode b_Mo_later 340 = .ok (.ireturn, 1) := by decide +kernel
theorem d_Mo_later_341 : decode b_Mo_later 341 = .ok (.ldc 61, 2) := by decide +kernel
theorem d_Mo_later_343 : decode b_Mo_later 343 = .ok (.ireturn, 1) := by decide +kernel
theorem d_Mo_later_344 : decode b_Mo_later 344 = .ok (.ldc 85, 2) := by decide +kernel
theorem d_Mo_later_346 : decode b_Mo_later 346 = .ok (.ireturn, 1) := by decide +kernel
theorem d_Mo_later_347 : decode b_Mo_later 347 = .ok (.ldc 86, 2) := by decide +kernel
theorem d_Mo_later_349 : decode b_Mo_later 349 = .ok (.ireturn, 1) := by decide +kernel
theorem d_Mo_later_350 : decode b_Mo_later 350 = .ok (.ldc 69, 2) := by decide +kernel
theorem d_Mo_later_352 : decode b_Mo_later 352 = .ok (.ireturn, 1) := by decide +kernel
theorem d_Mo_later_353 : decode b_Mo_later 353 = .ok (.ldc 87, 2) := by decide +kernel
theorem d_Mo_later_355 : decode b_Mo_later 355 = .ok (.ireturn, 1) := by decide +kernel
theorem d_Mo_later_356 : decode b_Mo_later 356 = .ok (.ldc 55, 2) := by decide +kernel
theorem d_Mo_later_358 : decode b_Mo_later 358 = .ok (.ireturn, 1) := by decide +kernel
theorem d_Mo_later_359 : decode b_Mo_later 359 = .ok (.ldc 51, 2) := by decide +kernel
theorem d_Mo_later_361 : decode b_Mo_later 361 = .ok (.ireturn, 1) := by decide +kernel
theorem d_Mo_later_362 : decode b_Mo_later 362 = .ok (.ldc 88, 2) := by decide +kernel
theorem d_Mo_later_364 : decode b_Mo_later 364 = .ok (.ireturn, 1) := by decide +kernel
theorem d_Mo_later_365 : decode b_Mo_later 365 = .ok (.ldc 89, 2) := by decide +kernel
theorem d_Mo_later_367 : decode b_Mo_later 367 = .ok (.ireturn, 1) := by decide +kernel
theorem d_Mo_later_368 : decode b_Mo_later 368 = .ok (.ldc 61, 2) := by decide +kernel
theorem d_Mo_later_370 : decode b_Mo_later 370 = .ok (.ireturn, 1) := by decide +kernel
theorem d_Mo_later_371 : decode b_Mo_later 371 = .ok (.ldc 74, 2) := by decide +kernel
theorem d_Mo_later_373 : decode b_Mo_later 373 = .ok (.ireturn, 1) := by decide +kernel
theorem d_Mo_later_374 : decode b_Mo_later 374 = .ok (.ldc 90, 2) := by decide +kernel
theorem d_Mo_later_376 : decode b_Mo_later 376 = .ok (.ireturn, 1) := by decide +kernel
theorem d_Mo_later_377 : decode b_Mo_later 377 = .ok (.ldc 60, 2) := by decide +kernel
theorem d_Mo_later_379 : decode b_Mo_later 379 = .ok (.ireturn, 1) := by decide +kernel
theorem d_Mo_later_380 : decode b_Mo_later 380 = .ok (.ldc 69, 2) := by decide +kernel
theorem d_Mo_later_382 : decode b_Mo_later 382 = .ok (.ireturn, 1) := by decide +kernel
theorem d_Mo_later_383 : decode b_Mo_later 383 = .ok (.iconst (-1), 1) := by decide +kernel
theorem d_Mo_later_384 : decode b_Mo_later 384 = .ok (.ireturn, 1) := by decide +kernel
