theorem d_Mo_premises_0 : decode b_Mo_premises 0 = .ok (.iconst 0, 1) := by decide +kernel
theorem d_Mo_premises_1 : decode b_Mo_premises 1 = .ok (.istore_n 1, 1) := by decide +kernel
theorem d_Mo_premises_2 : decode b_Mo_premises 2 = .ok (.iconst 0, 1) := by decide +kernel
theorem d_Mo_premises_3 : decode b_Mo_premises 3 = .ok (.istore_n 2, 1) := by decide +kernel
theorem d_Mo_premises_4 : decode b_Mo_premises 4 = .ok (.iload_n 2, 1) := by decide +kernel
theorem d_Mo_premises_5 : decode b_Mo_premises 5 = .ok (.iconst 4, 1) := by decide +kernel
theorem d_Mo_premises_6 : decode b_Mo_premises 6 = .ok (.if_icmp .ge 28, 3) := by decide +kernel
theorem d_Mo_premises_9 : decode b_Mo_premises 9 = .ok (.iload_n 1, 1) := by decide +kernel
theorem d_Mo_premises_10 : decode b_Mo_premises 10 = .ok (.iconst 5, 1) := by decide +kernel
theorem d_Mo_premises_11 : decode b_Mo_premises 11 = .ok (.iload_n 0, 1) := by decide +kernel
theorem d_Mo_premises_12 : decode b_Mo_premises 12 = .ok (.imul, 1) := by decide +kernel
theorem d_Mo_premises_13 : decode b_Mo_premises 13 = .ok (.iload_n 2, 1) := by decide +kernel
theorem d_Mo_premises_14 : decode b_Mo_premises 14 = .ok (.iadd, 1) := by decide +kernel
theorem d_Mo_premises_15 : decode b_Mo_premises 15 = .ok (.invokestatic 91, 3) := by decide +kernel
theorem d_Mo_premises_18 : decode b_Mo_premises 18 = .ok (.ifCond .lt 7, 3) := by decide +kernel
theorem d_Mo_premises_21 : decode b_Mo_premises 21 = .ok (.iconst 1, 1) := by decide +kernel
theorem d_Mo_premises_22 : decode b_Mo_premises 22 = .ok (.goto 4, 3) := by decide +kernel
theorem d_Mo_premises_25 : decode b_Mo_premises 25 = .ok (.iconst 0, 1) := by decide +kernel
theorem d_Mo_premises_26 : decode b_Mo_premises 26 = .ok (.iadd, 1) := by decide +kernel
theorem d_Mo_premises_27 : decode b_Mo_premises 27 = .ok (.istore_n 1, 1) := by decide +kernel
theorem d_Mo_premises_28 : decode b_Mo_premises 28 = .ok (.iinc 2 1, 3) := by decide +kernel
theorem d_Mo_premises_31 : decode b_Mo_premises 31 = .ok (.goto (-27), 3) := by decide +kernel
theorem d_Mo_premises_34 : decode b_Mo_premises 34 = .ok (.iload_n 1, 1) := by decide +kernel
theorem d_Mo_premises_35 : decode b_Mo_premises 35 = .ok (.ireturn, 1) := by decide +kernel
theorem d_Mo_begin_0 : decode b_Mo_begin 0 = .ok (.aload_n 0, 1) := by decide +kernel
theorem d_Mo_begin_1 : decode b_Mo_begin 1 = .ok (.iload_n 1, 1) := by decide +kernel
theorem d_Mo_begin_2 : decode b_Mo_begin 2 = .ok (.putfield 94, 3) := by decide +kernel
theorem d_Mo_begin_5 : decode b_Mo_begin 5 = .ok (.aload_n 0, 1) := by decide +kernel
theorem d_Mo_begin_6 : decode b_Mo_begin 6 = .ok (.iconst 0, 1) := by decide +kernel
theorem d_Mo_begin_7 : decode b_Mo_begin 7 = .ok (.putfield 98, 3) := by decide +kernel
theorem d_Mo_begin_10 : decode b_Mo_begin 10 = .ok (.aload_n 0, 1) := by decide +kernel
theorem d_Mo_begin_11 : decode b_Mo_begin 11 = .ok (.getfield 27, 3) := by decide +kernel
theorem d_Mo_begin_14 : decode b_Mo_begin 14 = .ok (.iconst 0, 1) := by decide +kernel
theorem d_Mo_begin_15 : decode b_Mo_begin 15 = .ok (.iconst (-1), 1) := by decide +kernel
theorem d_Mo_begin_16 : decode b_Mo_begin 16 = .ok (.iastore, 1) := by decide +kernel
theorem d_Mo_begin_17 : decode b_Mo_begin 17 = .ok (.iconst 0, 1) := by decide +kernel
theorem d_Mo_begin_18 : decode b_Mo_begin 18 = .ok (.istore_n 2, 1) := by decide +kernel
theorem d_Mo_begin_19 : decode b_Mo_begin 19 = .ok (.iload_n 2, 1) := by decide +kernel
theorem d_Mo_begin_20 : decode b_Mo_begin 20 = .ok (.bipush 48, 2) := by decide +kernel
theorem d_Mo_begin_22 : decode b_Mo_begin 22 = .ok (.if_icmp .ge 16, 3) := by decide +kernel
theorem d_Mo_begin_25 : decode b_Mo_begin 25 = .ok (.aload_n 0, 1) := by decide +kernel
theorem d_Mo_begin_26 : decode b_Mo_begin 26 = .ok (.getfield 30, 3) := by decide +kernel
theorem d_Mo_begin_29 : decode b_Mo_begin 29 = .ok (.iload_n 2, 1) := by decide +kernel
theorem d_Mo_begin_30 : decode b_Mo_begin 30 = .ok (.iconst 0, 1) := by decide +kernel
theorem d_Mo_begin_31 : decode b_Mo_begin 31 = .ok (.iastore, 1) := by decide +kernel
theorem d_Mo_begin_32 : decode b_Mo_begin 32 = .ok (.iinc 2 1, 3) := by decide +kernel
theorem d_Mo_begin_35 : decode b_Mo_begin 35 = .ok (.goto (-16), 3) := by decide +kernel
theorem d_Mo_begin_38 : decode b_Mo_begin 38 = .ok (.iconst 0, 1) := by decide +kernel
theorem d_Mo_begin_39 : decode b_Mo_begin 39 = .ok (.istore_n 2, 1) := by decide +kernel
theorem d_Mo_begin_40 : decode b_Mo_begin 40 = .ok (.iload_n 2, 1) := by decide +kernel
theorem d_Mo_begin_41 : decode b_Mo_begin 41 = .ok (.bipush 12, 2) := by decide +kernel
theorem d_Mo_begin_43 : decode b_Mo_begin 43 = .ok (.if_icmp .ge 16, 3) := by decide +kernel
theorem d_Mo_begin_46 : decode b_Mo_begin 46 = .ok (.aload_n 0, 1) := by decide +kernel
theorem d_Mo_begin_47 : decode b_Mo_begin 47 = .ok (.getfield 33, 3) := by decide +kernel
theorem d_Mo_begin_50 : decode b_Mo_begin 50 = .ok (.iload_n 2, 1) := by decide +kernel
theorem d_Mo_begin_51 : decode b_Mo_begin 51 = .ok (.iconst 0, 1) := by decide +kernel
theorem d_Mo_begin_52 : decode b_Mo_begin 52 = .ok (.iastore, 1) := by decide +kernel
theorem d_Mo_begin_53 : decode b_Mo_begin 53 = .ok (.iinc 2 1, 3) := by decide +kernel
theorem d_Mo_begin_56 : decode b_Mo_begin 56 = .ok (.goto (-16), 3) := by decide +kernel
theorem d_Mo_begin_59 : decode b_Mo_begin 59 = .ok (.return_, 1) := by decide +kernel
theorem d_Mo_release_0 : decode b_Mo_release 0 = .ok (.iconst 3, 1) := by decide +kernel
theorem d_Mo_release_1 : decode b_Mo_release 1 = .ok (.aload_n 0, 1) := by decide +kernel
theorem d_Mo_release_2 : decode b_Mo_release 2 = .ok (.getfield 98, 3) := by decide +kernel
theorem d_Mo_release_5 : decode b_Mo_release 5 = .ok (.imul, 1) := by decide +kernel
theorem d_Mo_release_6 : decode b_Mo_release 6 = .ok (.istore_n 1, 1) := by decide +kernel
theorem d_Mo_release_7 : decode b_Mo_release 7 = .ok (.iload_n 1, 1) := by decide +kernel
theorem d_Mo_release_8 : decode b_Mo_release 8 = .ok (.iconst 3, 1) := by decide +kernel
theorem d_Mo_release_9 : decode b_Mo_release 9 = .ok (.aload_n 0, 1) := by decide +kernel
theorem d_Mo_release_10 : decode b_Mo_release 10 = .ok (.getfield 98, 3) := by decide +kernel
theorem d_Mo_release_13 : decode b_Mo_release 13 = .ok (.imul, 1) := by decide +kernel
theorem d_Mo_release_14 : decode b_Mo_release 14 = .ok (.iconst 3, 1) := by decide +kernel
theorem d_Mo_release_15 : decode b_Mo_release 15 = .ok (.iadd, 1) := by decide +kernel
theorem d_Mo_release_16 : decode b_Mo_release 16 = .ok (.if_icmp .ge 37, 3) := by decide +kernel
theorem d_Mo_release_19 : decode b_Mo_release 19 = .ok (.aload_n 0, 1) := by decide +kernel
theorem d_Mo_release_20 : decode b_Mo_release 20 = .ok (.getfield 33, 3) := by decide +kernel
theorem d_Mo_release_23 : decode b_Mo_release 23 = .ok (.iload_n 1, 1) := by decide +kernel
theorem d_Mo_release_24 : decode b_Mo_release 24 = .ok (.iaload, 1) := by decide +kernel
theorem d_Mo_release_25 : decode b_Mo_release 25 = .ok (.ifCond .le 22, 3) := by decide +kernel
theorem d_Mo_release_28 : decode b_Mo_release 28 = .ok (.aload_n 0, 1) := by decide +kernel
theorem d_Mo_release_29 : decode b_Mo_release 29 = .ok (.getfield 30, 3) := by decide +kernel
theorem d_Mo_release_32 : decode b_Mo_release 32 = .ok (.aload_n 0, 1) := by decide +kernel
theorem d_Mo_release_33 : decode b_Mo_release 33 = .ok (.getfield 33, 3) := by decide +kernel
theorem d_Mo_release_36 : decode b_Mo_release 36 = .ok (.iload_n 1, 1) := by decide +kernel
theorem d_Mo_release_37 : decode b_Mo_release 37 = .ok (.iaload, 1) := by decide +kernel
theorem d_Mo_release_38 : decode b_Mo_release 38 = .ok (.iconst 0, 1) := by decide +kernel
theorem d_Mo_release_39 : decode b_Mo_release 39 = .ok (.iastore, 1) := by decide +kernel
theorem d_Mo_release_40 : decode b_Mo_release 40 = .ok (.aload_n 0, 1) := by decide +kernel
theorem d_Mo_release_41 : decode b_Mo_release 41 = .ok (.getfield 33, 3) := by decide +kernel
theorem d_Mo_release_44 : decode b_Mo_release 44 = .ok (.iload_n 1, 1) := by decide +kernel
theorem d_Mo_release_45 : decode b_Mo_release 45 = .ok (.iconst 0, 1) := by decide +kernel
theorem d_Mo_release_46 : decode b_Mo_release 46 = .ok (.iastore, 1) := by decide +kernel
theorem d_Mo_release_47 : decode b_Mo_release 47 = .ok (.iinc 1 1, 3) := by decide +kernel
theorem d_Mo_release_50 : decode b_Mo_release 50 = .ok (.goto (-43), 3) := by decide +kernel
theorem d_Mo_release_53 : decode b_Mo_release 53 = .ok (.return_, 1) := by decide +kernel
theorem d_Mo_fitsItem_0 : decode b_Mo_fitsItem 0 = .ok (.iload_n 1, 1) := by decide +kernel
theorem d_Mo_fitsItem_1 : decode b_Mo_fitsItem 1 = .ok (.bipush 32, 2) := by decide +kernel
theorem d_Mo_fitsItem_3 : decode b_Mo_fitsItem 3 = .ok (.if_icmp .ge 14, 3) := by decide +kernel
theorem d_Mo_fitsItem_6 : decode b_Mo_fitsItem 6 = .ok (.iload_n 1, 1) := by decide +kernel
theorem d_Mo_fitsItem_7 : decode b_Mo_fitsItem 7 = .ok (.iload_n 2, 1) := by decide +kernel
theorem d_Mo_fitsItem_8 : decode b_Mo_fitsItem 8 = .ok (.if_icmp .ne 7, 3) := by decide +kernel
theorem d_Mo_fitsItem_11 : decode b_Mo_fitsItem 11 = .ok (.iconst 1, 1) := by decide +kernel
theorem d_Mo_fitsItem_12 : decode b_Mo_fitsItem 12 = .ok (.goto 4, 3) := by decide +kernel
theorem d_Mo_fitsItem_15 : decode b_Mo_fitsItem 15 = .ok (.iconst 0, 1) := by decide +kernel
theorem d_Mo_fitsItem_16 : decode b_Mo_fitsItem 16 = .ok (.ireturn, 1) := by decide +kernel
theorem d_Mo_fitsItem_17 : decode b_Mo_fitsItem 17 = .ok (.aload_n 0, 1) := by decide +kernel
theorem d_Mo_fitsItem_18 : decode b_Mo_fitsItem 18 = .ok (.getfield 30, 3) := by decide +kernel
theorem d_Mo_fitsItem_21 : decode b_Mo_fitsItem 21 = .ok (.iload_n 1, 1) := by decide +kernel
theorem d_Mo_fitsItem_22 : decode b_Mo_fitsItem 22 = .ok (.iaload, 1) := by decide +kernel
theorem d_Mo_fitsItem_23 : decode b_Mo_fitsItem 23 = .ok (.ifCond .le 21, 3) := by decide +kernel
theorem d_Mo_fitsItem_26 : decode b_Mo_fitsItem 26 = .ok (.aload_n 0, 1) := by decide +kernel
theorem d_Mo_fitsItem_27 : decode b_Mo_fitsItem 27 = .ok (.getfield 30, 3) := by decide +kernel
theorem d_Mo_fitsItem_30 : decode b_Mo_fitsItem 30 = .ok (.iload_n 1, 1) := by decide +kernel
theorem d_Mo_fitsItem_31 : decode b_Mo_fitsItem 31 = .ok (.iaload, 1) := by decide +kernel
theorem d_Mo_fitsItem_32 : decode b_Mo_fitsItem 32 = .ok (.iload_n 2, 1) := by decide +kernel
theorem d_Mo_fitsItem_33 : decode b_Mo_fitsItem 33 = .ok (.iconst 1, 1) := by decide +kernel
theorem d_Mo_fitsItem_34 : decode b_Mo_fitsItem 34 = .ok (.iadd, 1) := by decide +kernel
theorem d_Mo_fitsItem_35 : decode b_Mo_fitsItem 35 = .ok (.if_icmp .ne 7, 3) := by decide +kernel
theorem d_Mo_fitsItem_38 : decode b_Mo_fitsItem 38 = .ok (.iconst 1, 1) := by decide +kernel
theorem d_Mo_fitsItem_39 : decode b_Mo_fitsItem 39 = .ok (.goto 4, 3) := by decide +kernel
theorem d_Mo_fitsItem_42 : decode b_Mo_fitsItem 42 = .ok (.iconst 0, 1) := by decide +kernel
theorem d_Mo_fitsItem_43 : decode b_Mo_fitsItem 43 = .ok (.ireturn, 1) := by decide +kernel
theorem d_Mo_fitsItem_44 : decode b_Mo_fitsItem 44 = .ok (.aload_n 0, 1) := by decide +kernel
theorem d_Mo_fitsItem_45 : decode b_Mo_fitsItem 45 = .ok (.getfield 30, 3) := by decide +kernel
theorem d_Mo_fitsItem_48 : decode b_Mo_fitsItem 48 = .ok (.iload_n 1, 1) := by decide +kernel
theorem d_Mo_fitsItem_49 : decode b_Mo_fitsItem 49 = .ok (.iload_n 2, 1) := by decide +kernel
theorem d_Mo_fitsItem_50 : decode b_Mo_fitsItem 50 = .ok (.iconst 1, 1) := by decide +kernel
theorem d_Mo_fitsItem_51 : decode b_Mo_fitsItem 51 = .ok (.iadd, 1) := by decide +kernel
theorem d_Mo_fitsItem_52 : decode b_Mo_fitsItem 52 = .ok (.iastore, 1) := by decide +kernel
theorem d_Mo_fitsItem_53 : decode b_Mo_fitsItem 53 = .ok (.aload_n 0, 1) := by decide +kernel
theorem d_Mo_fitsItem_54 : decode b_Mo_fitsItem 54 = .ok (.getfield 33, 3) := by decide +kernel
theorem d_Mo_fitsItem_57 : decode b_Mo_fitsItem 57 = .ok (.iconst 3, 1) := by decide +kernel
theorem d_Mo_fitsItem_58 : decode b_Mo_fitsItem 58 = .ok (.aload_n 0, 1) := by decide +kernel
theorem d_Mo_fitsItem_59 : decode b_Mo_fitsItem 59 = .ok (.getfield 98, 3) := by decide +kernel
theorem d_Mo_fitsItem_62 : decode b_Mo_fitsItem 62 = .ok (.imul, 1) := by decide +kernel
theorem d_Mo_fitsItem_63 : decode b_Mo_fitsItem 63 = .ok (.iload_n 3, 1) := by decide +kernel
theorem d_Mo_fitsItem_64 : decode b_Mo_fitsItem 64 = .ok (.iadd, 1) := by decide +kernel
theorem d_Mo_fitsItem_65 : decode b_Mo_fitsItem 65 = .ok (.iload_n 1, 1) := by decide +kernel
theorem d_Mo_fitsItem_66 : decode b_Mo_fitsItem 66 = .ok (.iastore, 1) := by decide +kernel
theorem d_Mo_fitsItem_67 : decode b_Mo_fitsItem 67 = .ok (.iconst 1, 1) := by decide +kernel
theorem d_Mo_fitsItem_68 : decode b_Mo_fitsItem 68 = .ok (.ireturn, 1) := by decide +kernel
theorem d_Mo_fits_0 : decode b_Mo_fits 0 = .ok (.iconst 5, 1) := by decide +kernel
theorem d_Mo_fits_1 : decode b_Mo_fits 1 = .ok (.aload_n 0, 1) := by decide +kernel
theorem d_Mo_fits_2 : decode b_Mo_fits 2 = .ok (.getfield 94, 3) := by decide +kernel
theorem d_Mo_fits_5 : decode b_Mo_fits 5 = .ok (.imul, 1) := by decide +kernel
theorem d_Mo_fits_6 : decode b_Mo_fits 6 = .ok (.aload_n 0, 1) := by decide +kernel
theorem d_Mo_fits_7 : decode b_Mo_fits 7 = .ok (.getfield 98, 3) := by decide +kernel
theorem d_Mo_fits_10 : decode b_Mo_fits 10 = .ok (.iadd, 1) := by decide +kernel
theorem d_Mo_fits_11 : decode b_Mo_fits 11 = .ok (.invokestatic 91, 3) := by decide +kernel
theorem d_Mo_fits_14 : decode b_Mo_fits 14 = .ok (.istore_n 2, 1) := by decide +kernel
theorem d_Mo_fits_15 : decode b_Mo_fits 15 = .ok (.aload_n 0, 1) := by decide +kernel
theorem d_Mo_fits_16 : decode b_Mo_fits 16 = .ok (.iload_n 2, 1) := by decide +kernel
theorem d_Mo_fits_17 : decode b_Mo_fits 17 = .ok (.sipush 4096, 3) := by decide +kernel
theorem d_Mo_fits_20 : decode b_Mo_fits 20 = .ok (.idiv, 1) := by decide +kernel
theorem d_Mo_fits_21 : decode b_Mo_fits 21 = .ok (.iload_n 1, 1) := by decide +kernel
theorem d_Mo_fits_22 : decode b_Mo_fits 22 = .ok (.sipush 1024, 3) := by decide +kernel
theorem d_Mo_fits_25 : decode b_Mo_fits 25 = .ok (.idiv, 1) := by decide +kernel
theorem d_Mo_fits_26 : decode b_Mo_fits 26 = .ok (.iconst 0, 1) := by decide +kernel
theorem d_Mo_fits_27 : decode b_Mo_fits 27 = .ok (.invokevirtual 101, 3) := by decide +kernel
theorem d_Mo_fits_30 : decode b_Mo_fits 30 = .ok (.ifCond .eq 45, 3) := by decide +kernel
theorem d_Mo_fits_33 : decode b_Mo_fits 33 = .ok (.aload_n 0, 1) := by decide +kernel
theorem d_Mo_fits_34 : decode b_Mo_fits 34 = .ok (.iload_n 2, 1) := by decide +kernel
theorem d_Mo_fits_35 : decode b_Mo_fits 35 = .ok (.bipush 64, 2) := by decide +kernel
theorem d_Mo_fits_37 : decode b_Mo_fits 37 = .ok (.idiv, 1) := by decide +kernel
theorem d_Mo_fits_38 : decode b_Mo_fits 38 = .ok (.bipush 64, 2) := by decide +kernel
theorem d_Mo_fits_40 : decode b_Mo_fits 40 = .ok (.irem, 1) := by decide +kernel
theorem d_Mo_fits_41 : decode b_Mo_fits 41 = .ok (.iload_n 1, 1) := by decide +kernel
theorem d_Mo_fits_42 : decode b_Mo_fits 42 = .ok (.bipush 32, 2) := by decide +kernel
theorem d_Mo_fits_44 : decode b_Mo_fits 44 = .ok (.idiv, 1) := by decide +kernel
theorem d_Mo_fits_45 : decode b_Mo_fits 45 = .ok (.bipush 32, 2) := by decide +kernel
theorem d_Mo_fits_47 : decode b_Mo_fits 47 = .ok (.irem, 1) := by decide +kernel
theorem d_Mo_fits_48 : decode b_Mo_fits 48 = .ok (.iconst 1, 1) := by decide +kernel
theorem d_Mo_fits_49 : decode b_Mo_fits 49 = .ok (.invokevirtual 101, 3) := by decide +kernel
theorem d_Mo_fits_52 : decode b_Mo_fits 52 = .ok (.ifCond .eq 23, 3) := by decide +kernel
theorem d_Mo_fits_55 : decode b_Mo_fits 55 = .ok (.aload_n 0, 1) := by decide +kernel
theorem d_Mo_fits_56 : decode b_Mo_fits 56 = .ok (.iload_n 2, 1) := by decide +kernel
theorem d_Mo_fits_57 : decode b_Mo_fits 57 = .ok (.bipush 64, 2) := by decide +kernel
theorem d_Mo_fits_59 : decode b_Mo_fits 59 = .ok (.irem, 1) := by decide +kernel
theorem d_Mo_fits_60 : decode b_Mo_fits 60 = .ok (.iload_n 1, 1) := by decide +kernel
theorem d_Mo_fits_61 : decode b_Mo_fits 61 = .ok (.bipush 32, 2) := by decide +kernel
theorem d_Mo_fits_63 : decode b_Mo_fits 63 = .ok (.irem, 1) := by decide +kernel
theorem d_Mo_fits_64 : decode b_Mo_fits 64 = .ok (.iconst 2, 1) := by decide +kernel
theorem d_Mo_fits_65 : decode b_Mo_fits 65 = .ok (.invokevirtual 101, 3) := by decide +kernel
theorem d_Mo_fits_68 : decode b_Mo_fits 68 = .ok (.ifCond .eq 7, 3) := by decide +kernel
theorem d_Mo_fits_71 : decode b_Mo_fits 71 = .ok (.iconst 1, 1) := by decide +kernel
theorem d_Mo_fits_72 : decode b_Mo_fits 72 = .ok (.goto 4, 3) := by decide +kernel
theorem d_Mo_fits_75 : decode b_Mo_fits 75 = .ok (.iconst 0, 1) := by decide +kernel
theorem d_Mo_fits_76 : decode b_Mo_fits 76 = .ok (.ireturn, 1) := by decide +kernel
theorem d_Mo_next_0 : decode b_Mo_next 0 = .ok (.aload_n 0, 1) := by decide +kernel
theorem d_Mo_next_1 : decode b_Mo_next 1 = .ok (.getfield 94, 3) := by decide +kernel
theorem d_Mo_next_4 : decode b_Mo_next 4 = .ok (.invokestatic 105, 3) := by decide +kernel
theorem d_Mo_next_7 : decode b_Mo_next 7 = .ok (.iconst 1, 1) := by decide +kernel
theorem d_Mo_next_8 : decode b_Mo_next 8 = .ok (.isub, 1) := by decide +kernel
theorem d_Mo_next_9 : decode b_Mo_next 9 = .ok (.istore_n 1, 1) := by decide +kernel
theorem d_Mo_next_10 : decode b_Mo_next 10 = .ok (.aload_n 0, 1) := by decide +kernel
theorem d_Mo_next_11 : decode b_Mo_next 11 = .ok (.getfield 98, 3) := by decide +kernel
theorem d_Mo_next_14 : decode b_Mo_next 14 = .ok (.ifCond .lt 103, 3) := by decide +kernel
theorem d_Mo_next_17 : decode b_Mo_next 17 = .ok (.aload_n 0, 1) := by decide +kernel
theorem d_Mo_next_18 : decode b_Mo_next 18 = .ok (.invokevirtual 108, 3) := by decide +kernel
theorem d_Mo_next_21 : decode b_Mo_next 21 = .ok (.aload_n 0, 1) := by decide +kernel
theorem d_Mo_next_22 : decode b_Mo_next 22 = .ok (.getfield 27, 3) := by decide +kernel
theorem d_Mo_next_25 : decode b_Mo_next 25 = .ok (.aload_n 0, 1) := by decide +kernel
theorem d_Mo_next_26 : decode b_Mo_next 26 = .ok (.getfield 98, 3) := by decide +kernel
theorem d_Mo_next_29 : decode b_Mo_next 29 = .ok (.dup2, 1) := by decide +kernel
theorem d_Mo_next_30 : decode b_Mo_next 30 = .ok (.iaload, 1) := by decide +kernel
theorem d_Mo_next_31 : decode b_Mo_next 31 = .ok (.iconst 1, 1) := by decide +kernel
theorem d_Mo_next_32 : decode b_Mo_next 32 = .ok (.iadd, 1) := by decide +kernel
theorem d_Mo_next_33 : decode b_Mo_next 33 = .ok (.iastore, 1) := by decide +kernel
theorem d_Mo_next_34 : decode b_Mo_next 34 = .ok (.aload_n 0, 1) := by decide +kernel
theorem d_Mo_next_35 : decode b_Mo_next 35 = .ok (.getfield 27, 3) := by decide +kernel
theorem d_Mo_next_38 : decode b_Mo_next 38 = .ok (.aload_n 0, 1) := by decide +kernel
theorem d_Mo_next_39 : decode b_Mo_next 39 = .ok (.getfield 98, 3) := by decide +kernel
theorem d_Mo_next_42 : decode b_Mo_next 42 = .ok (.iaload, 1) := by decide +kernel
theorem d_Mo_next_43 : decode b_Mo_next 43 = .ok (.aload_n 0, 1) := by decide +kernel
theorem d_Mo_next_44 : decode b_Mo_next 44 = .ok (.getfield 111, 3) := by decide +kernel
theorem d_Mo_next_47 : decode b_Mo_next 47 = .ok (.if_icmp .ne 16, 3) := by decide +kernel
theorem d_Mo_next_50 : decode b_Mo_next 50 = .ok (.aload_n 0, 1) := by decide +kernel
theorem d_Mo_next_51 : decode b_Mo_next 51 = .ok (.dup, 1) := by decide +kernel
theorem d_Mo_next_52 : decode b_Mo_next 52 = .ok (.getfield 98, 3) := by decide +kernel
theorem d_Mo_next_55 : decode b_Mo_next 55 = .ok (.iconst 1, 1) := by decide +kernel
theorem d_Mo_next_56 : decode b_Mo_next 56 = .ok (.isub, 1) := by decide +kernel
theorem d_Mo_next_57 : decode b_Mo_next 57 = .ok (.putfield 98, 3) := by decide +kernel
theorem d_Mo_next_60 : decode b_Mo_next 60 = .ok (.goto (-50), 3) := by decide +kernel
theorem d_Mo_next_63 : decode b_Mo_next 63 = .ok (.aload_n 0, 1) := by decide +kernel
theorem d_Mo_next_64 : decode b_Mo_next 64 = .ok (.aload_n 0, 1) := by decide +kernel
theorem d_Mo_next_65 : decode b_Mo_next 65 = .ok (.getfield 24, 3) := by decide +kernel
theorem d_Mo_next_68 : decode b_Mo_next 68 = .ok (.aload_n 0, 1) := by decide +kernel
theorem d_Mo_next_69 : decode b_Mo_next 69 = .ok (.getfield 27, 3) := by decide +kernel
theorem d_Mo_next_72 : decode b_Mo_next 72 = .ok (.aload_n 0, 1) := by decide +kernel
theorem d_Mo_next_73 : decode b_Mo_next 73 = .ok (.getfield 98, 3) := by decide +kernel
theorem d_Mo_next_76 : decode b_Mo_next 76 = .ok (.iaload, 1) := by decide +kernel
theorem d_Mo_next_77 : decode b_Mo_next 77 = .ok (.iaload, 1) := by decide +kernel
theorem d_Mo_next_78 : decode b_Mo_next 78 = .ok (.invokevirtual 114, 3) := by decide +kernel
theorem d_Mo_next_81 : decode b_Mo_next 81 = .ok (.ifCond .eq (-71), 3) := by decide +kernel
theorem d_Mo_next_84 : decode b_Mo_next 84 = .ok (.aload_n 0, 1) := by decide +kernel
theorem d_Mo_next_85 : decode b_Mo_next 85 = .ok (.getfield 98, 3) := by decide +kernel
theorem d_Mo_next_88 : decode b_Mo_next 88 = .ok (.iload_n 1, 1) := by decide +kernel
theorem d_Mo_next_89 : decode b_Mo_next 89 = .ok (.if_icmp .ne 5, 3) := by decide +kernel
theorem d_Mo_next_92 : decode b_Mo_next 92 = .ok (.iconst 1, 1) := by decide +kernel
theorem d_Mo_next_93 : decode b_Mo_next 93 = .ok (.ireturn, 1) := by decide +kernel
theorem d_Mo_next_94 : decode b_Mo_next 94 = .ok (.aload_n 0, 1) := by decide +kernel
theorem d_Mo_next_95 : decode b_Mo_next 95 = .ok (.dup, 1) := by decide +kernel
theorem d_Mo_next_96 : decode b_Mo_next 96 = .ok (.getfield 98, 3) := by decide +kernel
theorem d_Mo_next_99 : decode b_Mo_next 99 = .ok (.iconst 1, 1) := by decide +kernel
theorem d_Mo_next_100 : decode b_Mo_next 100 = .ok (.iadd, 1) := by decide +kernel
theorem d_Mo_next_101 : decode b_Mo_next 101 = .ok (.putfield 98, 3) := by decide +kernel
theorem d_Mo_next_104 : decode b_Mo_next 104 = .ok (.aload_n 0, 1) := by decide +kernel
theorem d_Mo_next_105 : decode b_Mo_next 105 = .ok (.getfield 27, 3) := by decide +kernel
theorem d_Mo_next_108 : decode b_Mo_next 108 = .ok (.aload_n 0, 1) := by decide +kernel
theorem d_Mo_next_109 : decode b_Mo_next 109 = .ok (.getfield 98, 3) := by decide +kernel
theorem d_Mo_next_112 : decode b_Mo_next 112 = .ok (.iconst (-1), 1) := by decide +kernel
theorem d_Mo_next_113 : decode b_Mo_next 113 = .ok (.iastore, 1) := by decide +kernel
theorem d_Mo_next_114 : decode b_Mo_next 114 = .ok (.goto (-104), 3) := by decide +kernel
theorem d_Mo_next_117 : decode b_Mo_next 117 = .ok (.iconst 0, 1) := by decide +kernel
theorem d_Mo_next_118 : decode b_Mo_next 118 = .ok (.ireturn, 1) := by decide +kernel
theorem d_Mo_termOf_0 : decode b_Mo_termOf 0 = .ok (.iload_n 1, 1) := by decide +kernel
theorem d_Mo_termOf_1 : decode b_Mo_termOf 1 = .ok (.bipush 32, 2) := by decide +kernel
theorem d_Mo_termOf_3 : decode b_Mo_termOf 3 = .ok (.if_icmp .ge 7, 3) := by decide +kernel
theorem d_Mo_termOf_6 : decode b_Mo_termOf 6 = .ok (.iload_n 1, 1) := by decide +kernel
theorem d_Mo_termOf_7 : decode b_Mo_termOf 7 = .ok (.goto 11, 3) := by decide +kernel
theorem d_Mo_termOf_10 : decode b_Mo_termOf 10 = .ok (.aload_n 0, 1) := by decide +kernel
theorem d_Mo_termOf_11 : decode b_Mo_termOf 11 = .ok (.getfield 30, 3) := by decide +kernel
theorem d_Mo_termOf_14 : decode b_Mo_termOf 14 = .ok (.iload_n 1, 1) := by decide +kernel
theorem d_Mo_termOf_15 : decode b_Mo_termOf 15 = .ok (.iaload, 1) := by decide +kernel
theorem d_Mo_termOf_16 : decode b_Mo_termOf 16 = .ok (.iconst 1, 1) := by decide +kernel
theorem d_Mo_termOf_17 : decode b_Mo_termOf 17 = .ok (.isub, 1) := by decide +kernel
theorem d_Mo_termOf_18 : decode b_Mo_termOf 18 = .ok (.ireturn, 1) := by decide +kernel
theorem d_Mo_given_0 : decode b_Mo_given 0 = .ok (.iconst 5, 1) := by decide +kernel
theorem d_Mo_given_1 : decode b_Mo_given 1 = .ok (.aload_n 0, 1) := by decide +kernel
theorem d_Mo_given_2 : decode b_Mo_given 2 = .ok (.getfield 94, 3) := by decide +kernel
theorem d_Mo_given_5 : decode b_Mo_given 5 = .ok (.imul, 1) := by decide +kernel
theorem d_Mo_given_6 : decode b_Mo_given 6 = .ok (.iconst 4, 1) := by decide +kernel
theorem d_Mo_given_7 : decode b_Mo_given 7 = .ok (.iadd, 1) := by decide +kernel
theorem d_Mo_given_8 : decode b_Mo_given 8 = .ok (.invokestatic 91, 3) := by decide +kernel
theorem d_Mo_given_11 : decode b_Mo_given 11 = .ok (.istore_n 1, 1) := by decide +kernel
theorem d_Mo_given_12 : decode b_Mo_given 12 = .ok (.aload_n 0, 1) := by decide +kernel
theorem d_Mo_given_13 : decode b_Mo_given 13 = .ok (.iload_n 1, 1) := by decide +kernel
theorem d_Mo_given_14 : decode b_Mo_given 14 = .ok (.sipush 4096, 3) := by decide +kernel
theorem d_Mo_given_17 : decode b_Mo_given 17 = .ok (.idiv, 1) := by decide +kernel
theorem d_Mo_given_18 : decode b_Mo_given 18 = .ok (.invokevirtual 117, 3) := by decide +kernel
theorem d_Mo_given_21 : decode b_Mo_given 21 = .ok (.aload_n 0, 1) := by decide +kernel
theorem d_Mo_given_22 : decode b_Mo_given 22 = .ok (.iload_n 1, 1) := by decide +kernel
theorem d_Mo_given_23 : decode b_Mo_given 23 = .ok (.bipush 64, 2) := by decide +kernel
theorem d_Mo_given_25 : decode b_Mo_given 25 = .ok (.idiv, 1) := by decide +kernel
theorem d_Mo_given_26 : decode b_Mo_given 26 = .ok (.bipush 64, 2) := by decide +kernel
theorem d_Mo_given_28 : decode b_Mo_given 28 = .ok (.irem, 1) := by decide +kernel
theorem d_Mo_given_29 : decode b_Mo_given 29 = .ok (.invokevirtual 117, 3) := by decide +kernel
theorem d_Mo_given_32 : decode b_Mo_given 32 = .ok (.aload_n 0, 1) := by decide +kernel
theorem d_Mo_given_33 : decode b_Mo_given 33 = .ok (.iload_n 1, 1) := by decide +kernel
theorem d_Mo_given_34 : decode b_Mo_given 34 = .ok (.bipush 64, 2) := by decide +kernel
theorem d_Mo_given_36 : decode b_Mo_given 36 = .ok (.irem, 1) := by decide +kernel
theorem d_Mo_given_37 : decode b_Mo_given 37 = .ok (.invokevirtual 117, 3) := by decide +kernel
theorem d_Mo_given_40 : decode b_Mo_given 40 = .ok (.invokestatic 120, 3) := by decide +kernel
theorem d_Mo_given_43 : decode b_Mo_given 43 = .ok (.ireturn, 1) := by decide +kernel
theorem d_Mo_collect_0 : decode b_Mo_collect 0 = .ok (.aload_n 0, 1) := by decide +kernel
theorem d_Mo_collect_1 : decode b_Mo_collect 1 = .ok (.iconst 0, 1) := by decide +kernel
theorem d_Mo_collect_2 : decode b_Mo_collect 2 = .ok (.putfield 111, 3) := by decide +kernel
theorem d_Mo_collect_5 : decode b_Mo_collect 5 = .ok (.iconst 0, 1) := by decide +kernel
theorem d_Mo_collect_6 : decode b_Mo_collect 6 = .ok (.istore_n 1, 1) := by decide +kernel
theorem d_Mo_collect_7 : decode b_Mo_collect 7 = .ok (.iload_n 1, 1) := by decide +kernel
theorem d_Mo_collect_8 : decode b_Mo_collect 8 = .ok (.ldc 7, 2) := by decide +kernel
theorem d_Mo_collect_10 : decode b_Mo_collect 10 = .ok (.if_icmp .ge 48, 3) := by decide +kernel
theorem d_Mo_collect_13 : decode b_Mo_collect 13 = .ok (.aload_n 0, 1) := by decide +kernel
theorem d_Mo_collect_14 : decode b_Mo_collect 14 = .ok (.getfield 111, 3) := by decide +kernel
theorem d_Mo_collect_17 : decode b_Mo_collect 17 = .ok (.sipush 400, 3) := by decide +kernel
theorem d_Mo_collect_20 : decode b_Mo_collect 20 = .ok (.if_icmp .gt 38, 3) := by decide +kernel
theorem d_Mo_collect_23 : decode b_Mo_collect 23 = .ok (.aload_n 0, 1) := by decide +kernel
theorem d_Mo_collect_24 : decode b_Mo_collect 24 = .ok (.getfield 17, 3) := by decide +kernel
theorem d_Mo_collect_27 : decode b_Mo_collect 27 = .ok (.iload_n 1, 1) := by decide +kernel
theorem d_Mo_collect_28 : decode b_Mo_collect 28 = .ok (.iaload, 1) := by decide +kernel
theorem d_Mo_collect_29 : decode b_Mo_collect 29 = .ok (.ifCond .le 23, 3) := by decide +kernel
theorem d_Mo_collect_32 : decode b_Mo_collect 32 = .ok (.aload_n 0, 1) := by decide +kernel
theorem d_Mo_collect_33 : decode b_Mo_collect 33 = .ok (.getfield 24, 3) := by decide +kernel
theorem d_Mo_collect_36 : decode b_Mo_collect 36 = .ok (.aload_n 0, 1) := by decide +kernel
theorem d_Mo_collect_37 : decode b_Mo_collect 37 = .ok (.getfield 111, 3) := by decide +kernel
theorem d_Mo_collect_40 : decode b_Mo_collect 40 = .ok (.iload_n 1, 1) := by decide +kernel
theorem d_Mo_collect_41 : decode b_Mo_collect 41 = .ok (.iastore, 1) := by decide +kernel
theorem d_Mo_collect_42 : decode b_Mo_collect 42 = .ok (.aload_n 0, 1) := by decide +kernel
theorem d_Mo_collect_43 : decode b_Mo_collect 43 = .ok (.dup, 1) := by decide +kernel
theorem d_Mo_collect_44 : decode b_Mo_collect 44 = .ok (.getfield 111, 3) := by decide +kernel
theorem d_Mo_collect_47 : decode b_Mo_collect 47 = .ok (.iconst 1, 1) := by decide +kernel
theorem d_Mo_collect_48 : decode b_Mo_collect 48 = .ok (.iadd, 1) := by decide +kernel
theorem d_Mo_collect_49 : decode b_Mo_collect 49 = .ok (.putfield 111, 3) := by decide +kernel
theorem d_Mo_collect_52 : decode b_Mo_collect 52 = .ok (.iinc 1 1, 3) := by decide +kernel
theorem d_Mo_collect_55 : decode b_Mo_collect 55 = .ok (.goto (-48), 3) := by decide +kernel
theorem d_Mo_collect_58 : decode b_Mo_collect 58 = .ok (.return_, 1) := by decide +kernel
theorem d_Mo_make_0 : decode b_Mo_make 0 = .ok (.aload_n 0, 1) := by decide +kernel
theorem d_Mo_make_1 : decode b_Mo_make 1 = .ok (.getfield 36, 3) := by decide +kernel
theorem d_Mo_make_4 : decode b_Mo_make 4 = .ok (.ifCond .eq 4, 3) := by decide +kernel
theorem d_Mo_make_7 : decode b_Mo_make 7 = .ok (.return_, 1) := by decide +kernel
theorem d_Mo_make_8 : decode b_Mo_make 8 = .ok (.aload_n 0, 1) := by decide +kernel
theorem d_Mo_make_9 : decode b_Mo_make 9 = .ok (.iconst 1, 1) := by decide +kernel
theorem d_Mo_make_10 : decode b_Mo_make 10 = .ok (.putfield 36, 3) := by decide +kernel
theorem d_Mo_make_13 : decode b_Mo_make 13 = .ok (.aload_n 0, 1) := by decide +kernel
theorem d_Mo_make_14 : decode b_Mo_make 14 = .ok (.iconst 0, 1) := by decide +kernel
theorem d_Mo_make_15 : decode b_Mo_make 15 = .ok (.putfield 124, 3) := by decide +kernel
theorem d_Mo_make_18 : decode b_Mo_make 18 = .ok (.aload_n 0, 1) := by decide +kernel
theorem d_Mo_make_19 : decode b_Mo_make 19 = .ok (.iconst 0, 1) := by decide +kernel
theorem d_Mo_make_20 : decode b_Mo_make 20 = .ok (.putfield 127, 3) := by decide +kernel
theorem d_Mo_make_23 : decode b_Mo_make 23 = .ok (.iconst 0, 1) := by decide +kernel
theorem d_Mo_make_24 : decode b_Mo_make 24 = .ok (.istore_n 1, 1) := by decide +kernel
theorem d_Mo_make_25 : decode b_Mo_make 25 = .ok (.iload_n 1, 1) := by decide +kernel
theorem d_Mo_make_26 : decode b_Mo_make 26 = .ok (.ldc 7, 2) := by decide +kernel
theorem d_Mo_make_28 : decode b_Mo_make 28 = .ok (.if_icmp .ge 36, 3) := by decide +kernel
theorem d_Mo_make_31 : decode b_Mo_make 31 = .ok (.aload_n 0, 1) := by decide +kernel
theorem d_Mo_make_32 : decode b_Mo_make 32 = .ok (.getfield 17, 3) := by decide +kernel
theorem d_Mo_make_35 : decode b_Mo_make 35 = .ok (.iload_n 1, 1) := by decide +kernel
theorem d_Mo_make_36 : decode b_Mo_make 36 = .ok (.aload_n 0, 1) := by decide +kernel
theorem d_Mo_make_37 : decode b_Mo_make 37 = .ok (.getfield 8, 3) := by decide +kernel
theorem d_Mo_make_40 : decode b_Mo_make 40 = .ok (.iload_n 1, 1) := by decide +kernel
theorem d_Mo_make_41 : decode b_Mo_make 41 = .ok (.baload, 1) := by decide +kernel
theorem d_Mo_make_42 : decode b_Mo_make 42 = .ok (.ifCond .eq 7, 3) := by decide +kernel
theorem d_Mo_make_45 : decode b_Mo_make 45 = .ok (.iconst 1, 1) := by decide +kernel
theorem d_Mo_make_46 : decode b_Mo_make 46 = .ok (.goto 4, 3) := by decide +kernel
theorem d_Mo_make_49 : decode b_Mo_make 49 = .ok (.iconst 0, 1) := by decide +kernel
theorem d_Mo_make_50 : decode b_Mo_make 50 = .ok (.iastore, 1) := by decide +kernel
theorem d_Mo_make_51 : decode b_Mo_make 51 = .ok (.aload_n 0, 1) := by decide +kernel
theorem d_Mo_make_52 : decode b_Mo_make 52 = .ok (.getfield 21, 3) := by decide +kernel
theorem d_Mo_make_55 : decode b_Mo_make 55 = .ok (.iload_n 1, 1) := by decide +kernel
theorem d_Mo_make_56 : decode b_Mo_make 56 = .ok (.iconst 0, 1) := by decide +kernel
theorem d_Mo_make_57 : decode b_Mo_make 57 = .ok (.bastore, 1) := by decide +kernel
theorem d_Mo_make_58 : decode b_Mo_make 58 = .ok (.iinc 1 1, 3) := by decide +kernel
theorem d_Mo_make_61 : decode b_Mo_make 61 = .ok (.goto (-36), 3) := by decide +kernel
theorem d_Mo_make_64 : decode b_Mo_make 64 = .ok (.aload_n 0, 1) := by decide +kernel
theorem d_Mo_make_65 : decode b_Mo_make 65 = .ok (.invokevirtual 130, 3) := by decide +kernel
theorem d_Mo_make_68 : decode b_Mo_make 68 = .ok (.iconst 1, 1) := by decide +kernel
theorem d_Mo_make_69 : decode b_Mo_make 69 = .ok (.istore_n 1, 1) := by decide +kernel
theorem d_Mo_make_70 : decode b_Mo_make 70 = .ok (.iload_n 1, 1) := by decide +kernel
theorem d_Mo_make_71 : decode b_Mo_make 71 = .ok (.ifCond .eq 202, 3) := by decide +kernel
theorem d_Mo_make_74 : decode b_Mo_make 74 = .ok (.aload_n 0, 1) := by decide +kernel
theorem d_Mo_make_75 : decode b_Mo_make 75 = .ok (.getfield 124, 3) := by decide +kernel
theorem d_Mo_make_78 : decode b_Mo_make 78 = .ok (.ifCond .ne 195, 3) := by decide +kernel
theorem d_Mo_make_81 : decode b_Mo_make 81 = .ok (.iconst 0, 1) := by decide +kernel
theorem d_Mo_make_82 : decode b_Mo_make 82 = .ok (.istore_n 1, 1) := by decide +kernel
theorem d_Mo_make_83 : decode b_Mo_make 83 = .ok (.iconst 0, 1) := by decide +kernel
theorem d_Mo_make_84 : decode b_Mo_make 84 = .ok (.istore_n 2, 1) := by decide +kernel
theorem d_Mo_make_85 : decode b_Mo_make 85 = .ok (.iload_n 2, 1) := by decide +kernel
theorem d_Mo_make_86 : decode b_Mo_make 86 = .ok (.bipush 21, 2) := by decide +kernel
theorem d_Mo_make_88 : decode b_Mo_make 88 = .ok (.if_icmp .ge 94, 3) := by decide +kernel
theorem d_Mo_make_91 : decode b_Mo_make 91 = .ok (.aload_n 0, 1) := by decide +kernel
theorem d_Mo_make_92 : decode b_Mo_make 92 = .ok (.getfield 14, 3) := by decide +kernel
theorem d_Mo_make_95 : decode b_Mo_make 95 = .ok (.iload_n 2, 1) := by decide +kernel
theorem d_Mo_make_96 : decode b_Mo_make 96 = .ok (.baload, 1) := by decide +kernel
theorem d_Mo_make_97 : decode b_Mo_make 97 = .ok (.ifCond .ne 79, 3) := by decide +kernel
theorem d_Mo_make_100 : decode b_Mo_make 100 = .ok (.aload_n 0, 1) := by decide +kernel
theorem d_Mo_make_101 : decode b_Mo_make 101 = .ok (.iload_n 2, 1) := by decide +kernel
theorem d_Mo_make_102 : decode b_Mo_make 102 = .ok (.invokevirtual 133, 3) := by decide +kernel
theorem d_Mo_make_105 : decode b_Mo_make 105 = .ok (.aload_n 0, 1) := by decide +kernel
theorem d_Mo_make_106 : decode b_Mo_make 106 = .ok (.invokevirtual 137, 3) := by decide +kernel
theorem d_Mo_make_109 : decode b_Mo_make 109 = .ok (.ifCond .eq 67, 3) := by decide +kernel
theorem d_Mo_make_112 : decode b_Mo_make 112 = .ok (.aload_n 0, 1) := by decide +kernel
theorem d_Mo_make_113 : decode b_Mo_make 113 = .ok (.invokevirtual 141, 3) := by decide +kernel
theorem d_Mo_make_116 : decode b_Mo_make 116 = .ok (.istore_n 3, 1) := by decide +kernel
theorem d_Mo_make_117 : decode b_Mo_make 117 = .ok (.aload_n 0, 1) := by decide +kernel
theorem d_Mo_make_118 : decode b_Mo_make 118 = .ok (.getfield 17, 3) := by decide +kernel
theorem d_Mo_make_121 : decode b_Mo_make 121 = .ok (.iload_n 3, 1) := by decide +kernel
theorem d_Mo_make_122 : decode b_Mo_make 122 = .ok (.iaload, 1) := by decide +kernel
theorem d_Mo_make_123 : decode b_Mo_make 123 = .ok (.ifCond .ne 7, 3) := by decide +kernel
theorem d_Mo_make_126 : decode b_Mo_make 126 = .ok (.iconst 1, 1) := by decide +kernel
theorem d_Mo_make_127 : decode b_Mo_make 127 = .ok (.goto 4, 3) := by decide +kernel
theorem d_Mo_make_130 : decode b_Mo_make 130 = .ok (.iconst 0, 1) := by decide +kernel
theorem d_Mo_make_131 : decode b_Mo_make 131 = .ok (.istore 4, 2) := by decide +kernel
theorem d_Mo_make_133 : decode b_Mo_make 133 = .ok (.aload_n 0, 1) := by decide +kernel
theorem d_Mo_make_134 : decode b_Mo_make 134 = .ok (.getfield 21, 3) := by decide +kernel
theorem d_Mo_make_137 : decode b_Mo_make 137 = .ok (.iload_n 3, 1) := by decide +kernel
theorem d_Mo_make_138 : decode b_Mo_make 138 = .ok (.aload_n 0, 1) := by decide +kernel
theorem d_Mo_make_139 : decode b_Mo_make 139 = .ok (.getfield 21, 3) := by decide +kernel
theorem d_Mo_make_142 : decode b_Mo_make 142 = .ok (.iload_n 3, 1) := by decide +kernel
theorem d_Mo_make_143 : decode b_Mo_make 143 = .ok (.baload, 1) := by decide +kernel
theorem d_Mo_make_144 : decode b_Mo_make 144 = .ok (.ifCond .ne 8, 3) := by decide +kernel
theorem d_Mo_make_147 : decode b_Mo_make 147 = .ok (.iload 4, 2) := by decide +kernel
theorem d_Mo_make_149 : decode b_Mo_make 149 = .ok (.ifCond .eq 7, 3) := by decide +kernel
theorem d_Mo_make_152 : decode b_Mo_make 152 = .ok (.iconst 1, 1) := by decide +kernel
theorem d_Mo_make_153 : decode b_Mo_make 153 = .ok (.goto 4, 3) := by decide +kernel
theorem d_Mo_make_156 : decode b_Mo_make 156 = .ok (.iconst 0, 1) := by decide +kernel
theorem d_Mo_make_157 : decode b_Mo_make 157 = .ok (.bastore, 1) := by decide +kernel
theorem d_Mo_make_158 : decode b_Mo_make 158 = .ok (.iload_n 1, 1) := by decide +kernel
theorem d_Mo_make_159 : decode b_Mo_make 159 = .ok (.ifCond .ne 8, 3) := by decide +kernel
theorem d_Mo_make_162 : decode b_Mo_make 162 = .ok (.iload 4, 2) := by decide +kernel
theorem d_Mo_make_164 : decode b_Mo_make 164 = .ok (.ifCond .eq 7, 3) := by decide +kernel
theorem d_Mo_make_167 : decode b_Mo_make 167 = .ok (.iconst 1, 1) := by decide +kernel
theorem d_Mo_make_168 : decode b_Mo_make 168 = .ok (.goto 4, 3) := by decide +kernel
theorem d_Mo_make_171 : decode b_Mo_make 171 = .ok (.iconst 0, 1) := by decide +kernel
theorem d_Mo_make_172 : decode b_Mo_make 172 = .ok (.istore_n 1, 1) := by decide +kernel
theorem d_Mo_make_173 : decode b_Mo_make 173 = .ok (.goto (-68), 3) := by decide +kernel
theorem d_Mo_make_176 : decode b_Mo_make 176 = .ok (.iinc 2 1, 3) := by decide +kernel
theorem d_Mo_make_179 : decode b_Mo_make 179 = .ok (.goto (-94), 3) := by decide +kernel
theorem d_Mo_make_182 : decode b_Mo_make 182 = .ok (.iload_n 1, 1) := by decide +kernel
theorem d_Mo_make_183 : decode b_Mo_make 183 = .ok (.ifCond .eq (-113), 3) := by decide +kernel
theorem d_Mo_make_186 : decode b_Mo_make 186 = .ok (.aload_n 0, 1) := by decide +kernel
theorem d_Mo_make_187 : decode b_Mo_make 187 = .ok (.dup, 1) := by decide +kernel
theorem d_Mo_make_188 : decode b_Mo_make 188 = .ok (.getfield 127, 3) := by decide +kernel
theorem d_Mo_make_191 : decode b_Mo_make 191 = .ok (.iconst 1, 1) := by decide +kernel
theorem d_Mo_make_192 : decode b_Mo_make 192 = .ok (.iadd, 1) := by decide +kernel
theorem d_Mo_make_193 : decode b_Mo_make 193 = .ok (.putfield 127, 3) := by decide +kernel
theorem d_Mo_make_196 : decode b_Mo_make 196 = .ok (.iconst 0, 1) := by decide +kernel
theorem d_Mo_make_197 : decode b_Mo_make 197 = .ok (.istore_n 2, 1) := by decide +kernel
theorem d_Mo_make_198 : decode b_Mo_make 198 = .ok (.iload_n 2, 1) := by decide +kernel
theorem d_Mo_make_199 : decode b_Mo_make 199 = .ok (.ldc 7, 2) := by decide +kernel
theorem d_Mo_make_201 : decode b_Mo_make 201 = .ok (.if_icmp .ge 46, 3) := by decide +kernel
theorem d_Mo_make_204 : decode b_Mo_make 204 = .ok (.aload_n 0, 1) := by decide +kernel
theorem d_Mo_make_205 : decode b_Mo_make 205 = .ok (.getfield 17, 3) := by decide +kernel
theorem d_Mo_make_208 : decode b_Mo_make 208 = .ok (.iload_n 2, 1) := by decide +kernel
theorem d_Mo_make_209 : decode b_Mo_make 209 = .ok (.aload_n 0, 1) := by decide +kernel
theorem d_Mo_make_210 : decode b_Mo_make 210 = .ok (.getfield 21, 3) := by decide +kernel
theorem d_Mo_make_213 : decode b_Mo_make 213 = .ok (.iload_n 2, 1) := by decide +kernel
theorem d_Mo_make_214 : decode b_Mo_make 214 = .ok (.baload, 1) := by decide +kernel
theorem d_Mo_make_215 : decode b_Mo_make 215 = .ok (.ifCond .eq 12, 3) := by decide +kernel
theorem d_Mo_make_218 : decode b_Mo_make 218 = .ok (.aload_n 0, 1) := by decide +kernel
theorem d_Mo_make_219 : decode b_Mo_make 219 = .ok (.getfield 127, 3) := by decide +kernel
theorem d_Mo_make_222 : decode b_Mo_make 222 = .ok (.iconst 1, 1) := by decide +kernel
theorem d_Mo_make_223 : decode b_Mo_make 223 = .ok (.iadd, 1) := by decide +kernel
theorem d_Mo_make_224 : decode b_Mo_make 224 = .ok (.goto 9, 3) := by decide +kernel
theorem d_Mo_make_227 : decode b_Mo_make 227 = .ok (.aload_n 0, 1) := by decide +kernel
theorem d_Mo_make_228 : decode b_Mo_make 228 = .ok (.getfield 17, 3) := by decide +kernel
theorem d_Mo_make_231 : decode b_Mo_make 231 = .ok (.iload_n 2, 1) := by decide +kernel
theorem d_Mo_make_232 : decode b_Mo_make 232 = .ok (.iaload, 1) := by decide +kernel
theorem d_Mo_make_233 : decode b_Mo_make 233 = .ok (.iastore, 1) := by decide +kernel
theorem d_Mo_make_234 : decode b_Mo_make 234 = .ok (.aload_n 0, 1) := by decide +kernel
theorem d_Mo_make_235 : decode b_Mo_make 235 = .ok (.getfield 21, 3) := by decide +kernel
theorem d_Mo_make_238 : decode b_Mo_make 238 = .ok (.iload_n 2, 1) := by decide +kernel
theorem d_Mo_make_239 : decode b_Mo_make 239 = .ok (.iconst 0, 1) := by decide +kernel
theorem d_Mo_make_240 : decode b_Mo_make 240 = .ok (.bastore, 1) := by decide +kernel
theorem d_Mo_make_241 : decode b_Mo_make 241 = .ok (.iinc 2 1, 3) := by decide +kernel
theorem d_Mo_make_244 : decode b_Mo_make 244 = .ok (.goto (-46), 3) := by decide +kernel
theorem d_Mo_make_247 : decode b_Mo_make 247 = .ok (.aload_n 0, 1) := by decide +kernel
theorem d_Mo_make_248 : decode b_Mo_make 248 = .ok (.invokevirtual 130, 3) := by decide +kernel
theorem d_Mo_make_251 : decode b_Mo_make 251 = .ok (.aload_n 0, 1) := by decide +kernel
theorem d_Mo_make_252 : decode b_Mo_make 252 = .ok (.aload_n 0, 1) := by decide +kernel
theorem d_Mo_make_253 : decode b_Mo_make 253 = .ok (.getfield 111, 3) := by decide +kernel
theorem d_Mo_make_256 : decode b_Mo_make 256 = .ok (.sipush 400, 3) := by decide +kernel
theorem d_Mo_make_259 : decode b_Mo_make 259 = .ok (.if_icmp .le 7, 3) := by decide +kernel
theorem d_Mo_make_262 : decode b_Mo_make 262 = .ok (.iconst 1, 1) := by decide +kernel
theorem d_Mo_make_263 : decode b_Mo_make 263 = .ok (.goto 4, 3) := by decide +kernel
theorem d_Mo_make_266 : decode b_Mo_make 266 = .ok (.iconst 0, 1) := by decide +kernel
theorem d_Mo_make_267 : decode b_Mo_make 267 = .ok (.putfield 124, 3) := by decide +kernel
theorem d_Mo_make_270 : decode b_Mo_make 270 = .ok (.goto (-200), 3) := by decide +kernel
theorem d_Mo_make_273 : decode b_Mo_make 273 = .ok (.return_, 1) := by decide +kernel
