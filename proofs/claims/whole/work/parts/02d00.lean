theorem dX0_init_0 : decode cX0_init 0 = .ok (.aload_n 0, 1) := by decide +kernel
theorem dX0_init_1 : decode cX0_init 1 = .ok (.invokespecial 3, 3) := by decide +kernel
theorem dX0_init_4 : decode cX0_init 4 = .ok (.aload_n 0, 1) := by decide +kernel
theorem dX0_init_5 : decode cX0_init 5 = .ok (.new 9, 3) := by decide +kernel
theorem dX0_init_8 : decode cX0_init 8 = .ok (.dup, 1) := by decide +kernel
theorem dX0_init_9 : decode cX0_init 9 = .ok (.invokespecial 11, 3) := by decide +kernel
theorem dX0_init_12 : decode cX0_init 12 = .ok (.putfield 12, 3) := by decide +kernel
theorem dX0_init_15 : decode cX0_init 15 = .ok (.aload_n 0, 1) := by decide +kernel
theorem dX0_init_16 : decode cX0_init 16 = .ok (.iconst 4, 1) := by decide +kernel
theorem dX0_init_17 : decode cX0_init 17 = .ok (.newarray .int, 2) := by decide +kernel
theorem dX0_init_19 : decode cX0_init 19 = .ok (.putfield 18, 3) := by decide +kernel
theorem dX0_init_22 : decode cX0_init 22 = .ok (.aload_n 0, 1) := by decide +kernel
theorem dX0_init_23 : decode cX0_init 23 = .ok (.iconst 4, 1) := by decide +kernel
theorem dX0_init_24 : decode cX0_init 24 = .ok (.newarray .int, 2) := by decide +kernel
theorem dX0_init_26 : decode cX0_init 26 = .ok (.putfield 22, 3) := by decide +kernel
theorem dX0_init_29 : decode cX0_init 29 = .ok (.aload_n 0, 1) := by decide +kernel
theorem dX0_init_30 : decode cX0_init 30 = .ok (.iconst 4, 1) := by decide +kernel
theorem dX0_init_31 : decode cX0_init 31 = .ok (.newarray .int, 2) := by decide +kernel
theorem dX0_init_33 : decode cX0_init 33 = .ok (.putfield 25, 3) := by decide +kernel
theorem dX0_init_36 : decode cX0_init 36 = .ok (.return_, 1) := by decide +kernel
theorem dX0_pass_0 : decode cX0_pass 0 = .ok (.iconst 0, 1) := by decide +kernel
theorem dX0_pass_1 : decode cX0_pass 1 = .ok (.istore 4, 2) := by decide +kernel
theorem dX0_pass_3 : decode cX0_pass 3 = .ok (.iload_n 3, 1) := by decide +kernel
theorem dX0_pass_4 : decode cX0_pass 4 = .ok (.ifCond .ne 21, 3) := by decide +kernel
theorem dX0_pass_7 : decode cX0_pass 7 = .ok (.aload_n 0, 1) := by decide +kernel
theorem dX0_pass_8 : decode cX0_pass 8 = .ok (.aload_n 1, 1) := by decide +kernel
theorem dX0_pass_9 : decode cX0_pass 9 = .ok (.aload_n 2, 1) := by decide +kernel
theorem dX0_pass_10 : decode cX0_pass 10 = .ok (.invokevirtual 28, 3) := by decide +kernel
theorem dX0_pass_13 : decode cX0_pass 13 = .ok (.aload_n 0, 1) := by decide +kernel
theorem dX0_pass_14 : decode cX0_pass 14 = .ok (.aload_n 1, 1) := by decide +kernel
theorem dX0_pass_15 : decode cX0_pass 15 = .ok (.invokevirtual 32, 3) := by decide +kernel
theorem dX0_pass_18 : decode cX0_pass 18 = .ok (.aload_n 0, 1) := by decide +kernel
theorem dX0_pass_19 : decode cX0_pass 19 = .ok (.aload_n 1, 1) := by decide +kernel
theorem dX0_pass_20 : decode cX0_pass 20 = .ok (.invokevirtual 36, 3) := by decide +kernel
theorem dX0_pass_23 : decode cX0_pass 23 = .ok (.istore 4, 2) := by decide +kernel
theorem dX0_pass_25 : decode cX0_pass 25 = .ok (.aload_n 1, 1) := by decide +kernel
theorem dX0_pass_26 : decode cX0_pass 26 = .ok (.invokevirtual 40, 3) := by decide +kernel
theorem dX0_pass_29 : decode cX0_pass 29 = .ok (.iload 4, 2) := by decide +kernel
theorem dX0_pass_31 : decode cX0_pass 31 = .ok (.ireturn, 1) := by decide +kernel
theorem dX0_partThose_0 : decode cX0_partThose 0 = .ok (.iconst 0, 1) := by decide +kernel
theorem dX0_partThose_1 : decode cX0_partThose 1 = .ok (.istore_n 3, 1) := by decide +kernel
theorem dX0_partThose_2 : decode cX0_partThose 2 = .ok (.iload_n 3, 1) := by decide +kernel
theorem dX0_partThose_3 : decode cX0_partThose 3 = .ok (.aload_n 1, 1) := by decide +kernel
theorem dX0_partThose_4 : decode cX0_partThose 4 = .ok (.getfield 45, 3) := by decide +kernel
theorem dX0_partThose_7 : decode cX0_partThose 7 = .ok (.if_icmp .ge 68, 3) := by decide +kernel
theorem dX0_partThose_10 : decode cX0_partThose 10 = .ok (.aload_n 1, 1) := by decide +kernel
theorem dX0_partThose_11 : decode cX0_partThose 11 = .ok (.iconst 0, 1) := by decide +kernel
theorem dX0_partThose_12 : decode cX0_partThose 12 = .ok (.iload_n 3, 1) := by decide +kernel
theorem dX0_partThose_13 : decode cX0_partThose 13 = .ok (.invokevirtual 49, 3) := by decide +kernel
theorem dX0_partThose_16 : decode cX0_partThose 16 = .ok (.istore 4, 2) := by decide +kernel
theorem dX0_partThose_18 : decode cX0_partThose 18 = .ok (.aload_n 0, 1) := by decide +kernel
theorem dX0_partThose_19 : decode cX0_partThose 19 = .ok (.getfield 18, 3) := by decide +kernel
theorem dX0_partThose_22 : decode cX0_partThose 22 = .ok (.iload_n 3, 1) := by decide +kernel
theorem dX0_partThose_23 : decode cX0_partThose 23 = .ok (.iload 4, 2) := by decide +kernel
theorem dX0_partThose_25 : decode cX0_partThose 25 = .ok (.iastore, 1) := by decide +kernel
theorem dX0_partThose_26 : decode cX0_partThose 26 = .ok (.iload 4, 2) := by decide +kernel
theorem dX0_partThose_28 : decode cX0_partThose 28 = .ok (.ifCond .lt 41, 3) := by decide +kernel
theorem dX0_partThose_31 : decode cX0_partThose 31 = .ok (.aload_n 0, 1) := by decide +kernel
theorem dX0_partThose_32 : decode cX0_partThose 32 = .ok (.getfield 12, 3) := by decide +kernel
theorem dX0_partThose_35 : decode cX0_partThose 35 = .ok (.aload_n 1, 1) := by decide +kernel
theorem dX0_partThose_36 : decode cX0_partThose 36 = .ok (.aload_n 2, 1) := by decide +kernel
theorem dX0_partThose_37 : decode cX0_partThose 37 = .ok (.iconst 0, 1) := by decide +kernel
theorem dX0_partThose_38 : decode cX0_partThose 38 = .ok (.iload_n 3, 1) := by decide +kernel
theorem dX0_partThose_39 : decode cX0_partThose 39 = .ok (.iload 4, 2) := by decide +kernel
theorem dX0_partThose_41 : decode cX0_partThose 41 = .ok (.invokevirtual 53, 3) := by decide +kernel
theorem dX0_partThose_44 : decode cX0_partThose 44 = .ok (.ifCond .eq 19, 3) := by decide +kernel
theorem dX0_partThose_47 : decode cX0_partThose 47 = .ok (.aload_n 0, 1) := by decide +kernel
theorem dX0_partThose_48 : decode cX0_partThose 48 = .ok (.getfield 12, 3) := by decide +kernel
theorem dX0_partThose_51 : decode cX0_partThose 51 = .ok (.aload_n 1, 1) := by decide +kernel
theorem dX0_partThose_52 : decode cX0_partThose 52 = .ok (.aload_n 2, 1) := by decide +kernel
theorem dX0_partThose_53 : decode cX0_partThose 53 = .ok (.iconst 1, 1) := by decide +kernel
theorem dX0_partThose_54 : decode cX0_partThose 54 = .ok (.iload_n 3, 1) := by decide +kernel
theorem dX0_partThose_55 : decode cX0_partThose 55 = .ok (.iload 4, 2) := by decide +kernel
theorem dX0_partThose_57 : decode cX0_partThose 57 = .ok (.invokevirtual 53, 3) := by decide +kernel
theorem dX0_partThose_60 : decode cX0_partThose 60 = .ok (.ifCond .ne 9, 3) := by decide +kernel
theorem dX0_partThose_63 : decode cX0_partThose 63 = .ok (.aload_n 1, 1) := by decide +kernel
theorem dX0_partThose_64 : decode cX0_partThose 64 = .ok (.iload_n 3, 1) := by decide +kernel
theorem dX0_partThose_65 : decode cX0_partThose 65 = .ok (.invokevirtual 57, 3) := by decide +kernel
theorem dX0_partThose_68 : decode cX0_partThose 68 = .ok (.pop, 1) := by decide +kernel
theorem dX0_partThose_69 : decode cX0_partThose 69 = .ok (.iinc 3 1, 3) := by decide +kernel
theorem dX0_partThose_72 : decode cX0_partThose 72 = .ok (.goto (-70), 3) := by decide +kernel
theorem dX0_partThose_75 : decode cX0_partThose 75 = .ok (.return_, 1) := by decide +kernel
theorem dX0_askAround_0 : decode cX0_askAround 0 = .ok (.iconst 0, 1) := by decide +kernel
theorem dX0_askAround_1 : decode cX0_askAround 1 = .ok (.istore_n 2, 1) := by decide +kernel
theorem dX0_askAround_2 : decode cX0_askAround 2 = .ok (.iload_n 2, 1) := by decide +kernel
theorem dX0_askAround_3 : decode cX0_askAround 3 = .ok (.iconst 4, 1) := by decide +kernel
theorem dX0_askAround_4 : decode cX0_askAround 4 = .ok (.if_icmp .ge 23, 3) := by decide +kernel
theorem dX0_askAround_7 : decode cX0_askAround 7 = .ok (.aload_n 0, 1) := by decide +kernel
theorem dX0_askAround_8 : decode cX0_askAround 8 = .ok (.getfield 22, 3) := by decide +kernel
theorem dX0_askAround_11 : decode cX0_askAround 11 = .ok (.iload_n 2, 1) := by decide +kernel
theorem dX0_askAround_12 : decode cX0_askAround 12 = .ok (.iconst 0, 1) := by decide +kernel
theorem dX0_askAround_13 : decode cX0_askAround 13 = .ok (.iastore, 1) := by decide +kernel
theorem dX0_askAround_14 : decode cX0_askAround 14 = .ok (.aload_n 0, 1) := by decide +kernel
theorem dX0_askAround_15 : decode cX0_askAround 15 = .ok (.getfield 25, 3) := by decide +kernel
theorem dX0_askAround_18 : decode cX0_askAround 18 = .ok (.iload_n 2, 1) := by decide +kernel
theorem dX0_askAround_19 : decode cX0_askAround 19 = .ok (.iconst (-1), 1) := by decide +kernel
theorem dX0_askAround_20 : decode cX0_askAround 20 = .ok (.iastore, 1) := by decide +kernel
theorem dX0_askAround_21 : decode cX0_askAround 21 = .ok (.iinc 2 1, 3) := by decide +kernel
theorem dX0_askAround_24 : decode cX0_askAround 24 = .ok (.goto (-22), 3) := by decide +kernel
theorem dX0_askAround_27 : decode cX0_askAround 27 = .ok (.iconst 0, 1) := by decide +kernel
theorem dX0_askAround_28 : decode cX0_askAround 28 = .ok (.istore_n 2, 1) := by decide +kernel
theorem dX0_askAround_29 : decode cX0_askAround 29 = .ok (.iload_n 2, 1) := by decide +kernel
theorem dX0_askAround_30 : decode cX0_askAround 30 = .ok (.bipush 16, 2) := by decide +kernel
theorem dX0_askAround_32 : decode cX0_askAround 32 = .ok (.if_icmp .ge 18, 3) := by decide +kernel
theorem dX0_askAround_35 : decode cX0_askAround 35 = .ok (.aload_n 0, 1) := by decide +kernel
theorem dX0_askAround_36 : decode cX0_askAround 36 = .ok (.aload_n 1, 1) := by decide +kernel
theorem dX0_askAround_37 : decode cX0_askAround 37 = .ok (.invokevirtual 61, 3) := by decide +kernel
theorem dX0_askAround_40 : decode cX0_askAround 40 = .ok (.ifCond .ne 4, 3) := by decide +kernel
theorem dX0_askAround_43 : decode cX0_askAround 43 = .ok (.return_, 1) := by decide +kernel
theorem dX0_askAround_44 : decode cX0_askAround 44 = .ok (.iinc 2 1, 3) := by decide +kernel
theorem dX0_askAround_47 : decode cX0_askAround 47 = .ok (.goto (-18), 3) := by decide +kernel
theorem dX0_askAround_50 : decode cX0_askAround 50 = .ok (.return_, 1) := by decide +kernel
theorem dX0_askOnce_0 : decode cX0_askOnce 0 = .ok (.iconst 0, 1) := by decide +kernel
theorem dX0_askOnce_1 : decode cX0_askOnce 1 = .ok (.istore_n 2, 1) := by decide +kernel
theorem dX0_askOnce_2 : decode cX0_askOnce 2 = .ok (.iload_n 2, 1) := by decide +kernel
theorem dX0_askOnce_3 : decode cX0_askOnce 3 = .ok (.aload_n 1, 1) := by decide +kernel
theorem dX0_askOnce_4 : decode cX0_askOnce 4 = .ok (.getfield 45, 3) := by decide +kernel
theorem dX0_askOnce_7 : decode cX0_askOnce 7 = .ok (.if_icmp .ge 46, 3) := by decide +kernel
theorem dX0_askOnce_10 : decode cX0_askOnce 10 = .ok (.aload_n 1, 1) := by decide +kernel
theorem dX0_askOnce_11 : decode cX0_askOnce 11 = .ok (.iconst 0, 1) := by decide +kernel
theorem dX0_askOnce_12 : decode cX0_askOnce 12 = .ok (.iload_n 2, 1) := by decide +kernel
theorem dX0_askOnce_13 : decode cX0_askOnce 13 = .ok (.invokevirtual 65, 3) := by decide +kernel
theorem dX0_askOnce_16 : decode cX0_askOnce 16 = .ok (.ifCond .eq 31, 3) := by decide +kernel
theorem dX0_askOnce_19 : decode cX0_askOnce 19 = .ok (.aload_n 0, 1) := by decide +kernel
theorem dX0_askOnce_20 : decode cX0_askOnce 20 = .ok (.iload_n 2, 1) := by decide +kernel
theorem dX0_askOnce_21 : decode cX0_askOnce 21 = .ok (.invokevirtual 69, 3) := by decide +kernel
theorem dX0_askOnce_24 : decode cX0_askOnce 24 = .ok (.ifCond .ne 23, 3) := by decide +kernel
theorem dX0_askOnce_27 : decode cX0_askOnce 27 = .ok (.aload_n 0, 1) := by decide +kernel
theorem dX0_askOnce_28 : decode cX0_askOnce 28 = .ok (.aload_n 1, 1) := by decide +kernel
theorem dX0_askOnce_29 : decode cX0_askOnce 29 = .ok (.iload_n 2, 1) := by decide +kernel
theorem dX0_askOnce_30 : decode cX0_askOnce 30 = .ok (.invokevirtual 73, 3) := by decide +kernel
theorem dX0_askOnce_33 : decode cX0_askOnce 33 = .ok (.istore_n 3, 1) := by decide +kernel
theorem dX0_askOnce_34 : decode cX0_askOnce 34 = .ok (.iload_n 3, 1) := by decide +kernel
theorem dX0_askOnce_35 : decode cX0_askOnce 35 = .ok (.ifCond .lt 12, 3) := by decide +kernel
theorem dX0_askOnce_38 : decode cX0_askOnce 38 = .ok (.aload_n 0, 1) := by decide +kernel
theorem dX0_askOnce_39 : decode cX0_askOnce 39 = .ok (.aload_n 1, 1) := by decide +kernel
theorem dX0_askOnce_40 : decode cX0_askOnce 40 = .ok (.iload_n 2, 1) := by decide +kernel
theorem dX0_askOnce_41 : decode cX0_askOnce 41 = .ok (.iload_n 3, 1) := by decide +kernel
theorem dX0_askOnce_42 : decode cX0_askOnce 42 = .ok (.invokevirtual 77, 3) := by decide +kernel
theorem dX0_askOnce_45 : decode cX0_askOnce 45 = .ok (.iconst 1, 1) := by decide +kernel
theorem dX0_askOnce_46 : decode cX0_askOnce 46 = .ok (.ireturn, 1) := by decide +kernel
theorem dX0_askOnce_47 : decode cX0_askOnce 47 = .ok (.iinc 2 1, 3) := by decide +kernel
theorem dX0_askOnce_50 : decode cX0_askOnce 50 = .ok (.goto (-48), 3) := by decide +kernel
theorem dX0_askOnce_53 : decode cX0_askOnce 53 = .ok (.iconst 0, 1) := by decide +kernel
theorem dX0_askOnce_54 : decode cX0_askOnce 54 = .ok (.ireturn, 1) := by decide +kernel
theorem dX0_isAtHand_0 : decode cX0_isAtHand 0 = .ok (.iconst 0, 1) := by decide +kernel
theorem dX0_isAtHand_1 : decode cX0_isAtHand 1 = .ok (.istore_n 2, 1) := by decide +kernel
theorem dX0_isAtHand_2 : decode cX0_isAtHand 2 = .ok (.iload_n 2, 1) := by decide +kernel
theorem dX0_isAtHand_3 : decode cX0_isAtHand 3 = .ok (.iconst 4, 1) := by decide +kernel
theorem dX0_isAtHand_4 : decode cX0_isAtHand 4 = .ok (.if_icmp .ge 21, 3) := by decide +kernel
theorem dX0_isAtHand_7 : decode cX0_isAtHand 7 = .ok (.aload_n 0, 1) := by decide +kernel
theorem dX0_isAtHand_8 : decode cX0_isAtHand 8 = .ok (.getfield 25, 3) := by decide +kernel
theorem dX0_isAtHand_11 : decode cX0_isAtHand 11 = .ok (.iload_n 2, 1) := by decide +kernel
theorem dX0_isAtHand_12 : decode cX0_isAtHand 12 = .ok (.iaload, 1) := by decide +kernel
theorem dX0_isAtHand_13 : decode cX0_isAtHand 13 = .ok (.iload_n 1, 1) := by decide +kernel
theorem dX0_isAtHand_14 : decode cX0_isAtHand 14 = .ok (.if_icmp .ne 5, 3) := by decide +kernel
theorem dX0_isAtHand_17 : decode cX0_isAtHand 17 = .ok (.iconst 1, 1) := by decide +kernel
theorem dX0_isAtHand_18 : decode cX0_isAtHand 18 = .ok (.ireturn, 1) := by decide +kernel
theorem dX0_isAtHand_19 : decode cX0_isAtHand 19 = .ok (.iinc 2 1, 3) := by decide +kernel
theorem dX0_isAtHand_22 : decode cX0_isAtHand 22 = .ok (.goto (-20), 3) := by decide +kernel
theorem dX0_isAtHand_25 : decode cX0_isAtHand 25 = .ok (.iconst 0, 1) := by decide +kernel
theorem dX0_isAtHand_26 : decode cX0_isAtHand 26 = .ok (.ireturn, 1) := by decide +kernel
theorem dX0_favourite_0 : decode cX0_favourite 0 = .ok (.iconst (-1), 1) := by decide +kernel
theorem dX0_favourite_1 : decode cX0_favourite 1 = .ok (.istore_n 3, 1) := by decide +kernel
theorem dX0_favourite_2 : decode cX0_favourite 2 = .ok (.iconst 0, 1) := by decide +kernel
theorem dX0_favourite_3 : decode cX0_favourite 3 = .ok (.istore 4, 2) := by decide +kernel
theorem dX0_favourite_5 : decode cX0_favourite 5 = .ok (.iconst 0, 1) := by decide +kernel
theorem dX0_favourite_6 : decode cX0_favourite 6 = .ok (.istore 5, 2) := by decide +kernel
theorem dX0_favourite_8 : decode cX0_favourite 8 = .ok (.iload 5, 2) := by decide +kernel
theorem dX0_favourite_10 : decode cX0_favourite 10 = .ok (.aload_n 1, 1) := by decide +kernel
theorem dX0_favourite_11 : decode cX0_favourite 11 = .ok (.getfield 81, 3) := by decide +kernel
theorem dX0_favourite_14 : decode cX0_favourite 14 = .ok (.if_icmp .ge 82, 3) := by decide +kernel
theorem dX0_favourite_17 : decode cX0_favourite 17 = .ok (.aload_n 1, 1) := by decide +kernel
theorem dX0_favourite_18 : decode cX0_favourite 18 = .ok (.iconst 1, 1) := by decide +kernel
theorem dX0_favourite_19 : decode cX0_favourite 19 = .ok (.iload 5, 2) := by decide +kernel
theorem dX0_favourite_21 : decode cX0_favourite 21 = .ok (.invokevirtual 65, 3) := by decide +kernel
theorem dX0_favourite_24 : decode cX0_favourite 24 = .ok (.ifCond .eq 32, 3) := by decide +kernel
theorem dX0_favourite_27 : decode cX0_favourite 27 = .ok (.aload_n 0, 1) := by decide +kernel
theorem dX0_favourite_28 : decode cX0_favourite 28 = .ok (.getfield 22, 3) := by decide +kernel
theorem dX0_favourite_31 : decode cX0_favourite 31 = .ok (.iload_n 2, 1) := by decide +kernel
theorem dX0_favourite_32 : decode cX0_favourite 32 = .ok (.iaload, 1) := by decide +kernel
theorem dX0_favourite_33 : decode cX0_favourite 33 = .ok (.iload 5, 2) := by decide +kernel
theorem dX0_favourite_35 : decode cX0_favourite 35 = .ok (.ishr, 1) := by decide +kernel
theorem dX0_favourite_36 : decode cX0_favourite 36 = .ok (.iconst 1, 1) := by decide +kernel
theorem dX0_favourite_37 : decode cX0_favourite 37 = .ok (.iand, 1) := by decide +kernel
theorem dX0_favourite_38 : decode cX0_favourite 38 = .ok (.ifCond .ne 18, 3) := by decide +kernel
theorem dX0_favourite_41 : decode cX0_favourite 41 = .ok (.aload_n 0, 1) := by decide +kernel
theorem dX0_favourite_42 : decode cX0_favourite 42 = .ok (.getfield 18, 3) := by decide +kernel
theorem dX0_favourite_45 : decode cX0_favourite 45 = .ok (.iload_n 2, 1) := by decide +kernel
theorem dX0_favourite_46 : decode cX0_favourite 46 = .ok (.iaload, 1) := by decide +kernel
theorem dX0_favourite_47 : decode cX0_favourite 47 = .ok (.iload 5, 2) := by decide +kernel
theorem dX0_favourite_49 : decode cX0_favourite 49 = .ok (.if_icmp .eq 7, 3) := by decide +kernel
theorem dX0_favourite_52 : decode cX0_favourite 52 = .ok (.iconst 1, 1) := by decide +kernel
theorem dX0_favourite_53 : decode cX0_favourite 53 = .ok (.goto 4, 3) := by decide +kernel
theorem dX0_favourite_56 : decode cX0_favourite 56 = .ok (.iconst 0, 1) := by decide +kernel
theorem dX0_favourite_57 : decode cX0_favourite 57 = .ok (.istore 6, 2) := by decide +kernel
theorem dX0_favourite_59 : decode cX0_favourite 59 = .ok (.iload 6, 2) := by decide +kernel
theorem dX0_favourite_61 : decode cX0_favourite 61 = .ok (.ifCond .eq 29, 3) := by decide +kernel
theorem dX0_favourite_64 : decode cX0_favourite 64 = .ok (.aload_n 1, 1) := by decide +kernel
theorem dX0_favourite_65 : decode cX0_favourite 65 = .ok (.iconst 0, 1) := by decide +kernel
theorem dX0_favourite_66 : decode cX0_favourite 66 = .ok (.iload_n 2, 1) := by decide +kernel
theorem dX0_favourite_67 : decode cX0_favourite 67 = .ok (.iload 5, 2) := by decide +kernel
theorem dX0_favourite_69 : decode cX0_favourite 69 = .ok (.invokevirtual 84, 3) := by decide +kernel
theorem dX0_favourite_72 : decode cX0_favourite 72 = .ok (.iload 4, 2) := by decide +kernel
theorem dX0_favourite_74 : decode cX0_favourite 74 = .ok (.if_icmp .le 16, 3) := by decide +kernel
theorem dX0_favourite_77 : decode cX0_favourite 77 = .ok (.iload 5, 2) := by decide +kernel
theorem dX0_favourite_79 : decode cX0_favourite 79 = .ok (.istore_n 3, 1) := by decide +kernel
theorem dX0_favourite_80 : decode cX0_favourite 80 = .ok (.aload_n 1, 1) := by decide +kernel
theorem dX0_favourite_81 : decode cX0_favourite 81 = .ok (.iconst 0, 1) := by decide +kernel
theorem dX0_favourite_82 : decode cX0_favourite 82 = .ok (.iload_n 2, 1) := by decide +kernel
theorem dX0_favourite_83 : decode cX0_favourite 83 = .ok (.iload 5, 2) := by decide +kernel
theorem dX0_favourite_85 : decode cX0_favourite 85 = .ok (.invokevirtual 84, 3) := by decide +kernel
theorem dX0_favourite_88 : decode cX0_favourite 88 = .ok (.istore 4, 2) := by decide +kernel
theorem dX0_favourite_90 : decode cX0_favourite 90 = .ok (.iinc 5 1, 3) := by decide +kernel
theorem dX0_favourite_93 : decode cX0_favourite 93 = .ok (.goto (-85), 3) := by decide +kernel
theorem dX0_favourite_96 : decode cX0_favourite 96 = .ok (.iload_n 3, 1) := by decide +kernel
theorem dX0_favourite_97 : decode cX0_favourite 97 = .ok (.ireturn, 1) := by decide +kernel
theorem dX0_ask_0 : decode cX0_ask 0 = .ok (.aload_n 0, 1) := by decide +kernel
theorem dX0_ask_1 : decode cX0_ask 1 = .ok (.getfield 22, 3) := by decide +kernel
theorem dX0_ask_4 : decode cX0_ask 4 = .ok (.iload_n 2, 1) := by decide +kernel
theorem dX0_ask_5 : decode cX0_ask 5 = .ok (.dup2, 1) := by decide +kernel
theorem dX0_ask_6 : decode cX0_ask 6 = .ok (.iaload, 1) := by decide +kernel
theorem dX0_ask_7 : decode cX0_ask 7 = .ok (.iconst 1, 1) := by decide +kernel
theorem dX0_ask_8 : decode cX0_ask 8 = .ok (.iload_n 3, 1) := by decide +kernel
theorem dX0_ask_9 : decode cX0_ask 9 = .ok (.ishl, 1) := by decide +kernel
theorem dX0_ask_10 : decode cX0_ask 10 = .ok (.ior, 1) := by decide +kernel
theorem dX0_ask_11 : decode cX0_ask 11 = .ok (.iastore, 1) := by decide +kernel
theorem dX0_ask_12 : decode cX0_ask 12 = .ok (.aload_n 0, 1) := by decide +kernel
theorem dX0_ask_13 : decode cX0_ask 13 = .ok (.getfield 25, 3) := by decide +kernel
theorem dX0_ask_16 : decode cX0_ask 16 = .ok (.iload_n 3, 1) := by decide +kernel
theorem dX0_ask_17 : decode cX0_ask 17 = .ok (.iaload, 1) := by decide +kernel
theorem dX0_ask_18 : decode cX0_ask 18 = .ok (.istore 4, 2) := by decide +kernel
theorem dX0_ask_20 : decode cX0_ask 20 = .ok (.iload 4, 2) := by decide +kernel
theorem dX0_ask_22 : decode cX0_ask 22 = .ok (.ifCond .ge 7, 3) := by decide +kernel
theorem dX0_ask_25 : decode cX0_ask 25 = .ok (.iconst 0, 1) := by decide +kernel
theorem dX0_ask_26 : decode cX0_ask 26 = .ok (.goto 11, 3) := by decide +kernel
theorem dX0_ask_29 : decode cX0_ask 29 = .ok (.aload_n 1, 1) := by decide +kernel
theorem dX0_ask_30 : decode cX0_ask 30 = .ok (.iconst 1, 1) := by decide +kernel
theorem dX0_ask_31 : decode cX0_ask 31 = .ok (.iload 4, 2) := by decide +kernel
theorem dX0_ask_33 : decode cX0_ask 33 = .ok (.iload_n 3, 1) := by decide +kernel
theorem dX0_ask_34 : decode cX0_ask 34 = .ok (.invokevirtual 84, 3) := by decide +kernel
theorem dX0_ask_37 : decode cX0_ask 37 = .ok (.istore 5, 2) := by decide +kernel
theorem dX0_ask_39 : decode cX0_ask 39 = .ok (.aload_n 1, 1) := by decide +kernel
theorem dX0_ask_40 : decode cX0_ask 40 = .ok (.iconst 1, 1) := by decide +kernel
theorem dX0_ask_41 : decode cX0_ask 41 = .ok (.iload_n 2, 1) := by decide +kernel
theorem dX0_ask_42 : decode cX0_ask 42 = .ok (.iload_n 3, 1) := by decide +kernel
theorem dX0_ask_43 : decode cX0_ask 43 = .ok (.invokevirtual 84, 3) := by decide +kernel
theorem dX0_ask_46 : decode cX0_ask 46 = .ok (.iload 5, 2) := by decide +kernel
theorem dX0_ask_48 : decode cX0_ask 48 = .ok (.if_icmp .le 10, 3) := by decide +kernel
theorem dX0_ask_51 : decode cX0_ask 51 = .ok (.aload_n 0, 1) := by decide +kernel
theorem dX0_ask_52 : decode cX0_ask 52 = .ok (.getfield 25, 3) := by decide +kernel
theorem dX0_ask_55 : decode cX0_ask 55 = .ok (.iload_n 3, 1) := by decide +kernel
theorem dX0_ask_56 : decode cX0_ask 56 = .ok (.iload_n 2, 1) := by decide +kernel
theorem dX0_ask_57 : decode cX0_ask 57 = .ok (.iastore, 1) := by decide +kernel
theorem dX0_ask_58 : decode cX0_ask 58 = .ok (.return_, 1) := by decide +kernel
theorem dX0_joinThoseAtHand_0 : decode cX0_joinThoseAtHand 0 = .ok (.iconst 0, 1) := by decide +kernel
theorem dX0_joinThoseAtHand_1 : decode cX0_joinThoseAtHand 1 = .ok (.istore_n 2, 1) := by decide +kernel
theorem dX0_joinThoseAtHand_2 : decode cX0_joinThoseAtHand 2 = .ok (.iconst 0, 1) := by decide +kernel
theorem dX0_joinThoseAtHand_3 : decode cX0_joinThoseAtHand 3 = .ok (.istore_n 3, 1) := by decide +kernel
theorem dX0_joinThoseAtHand_4 : decode cX0_joinThoseAtHand 4 = .ok (.iload_n 3, 1) := by decide +kernel
theorem dX0_joinThoseAtHand_5 : decode cX0_joinThoseAtHand 5 = .ok (.aload_n 1, 1) := by decide +kernel
theorem dX0_joinThoseAtHand_6 : decode cX0_joinThoseAtHand 6 = .ok (.getfield 81, 3) := by decide +kernel
theorem dX0_joinThoseAtHand_9 : decode cX0_joinThoseAtHand 9 = .ok (.if_icmp .ge 33, 3) := by decide +kernel
theorem dX0_joinThoseAtHand_12 : decode cX0_joinThoseAtHand 12 = .ok (.aload_n 0, 1) := by decide +kernel
theorem dX0_joinThoseAtHand_13 : decode cX0_joinThoseAtHand 13 = .ok (.getfield 25, 3) := by decide +kernel
theorem dX0_joinThoseAtHand_16 : decode cX0_joinThoseAtHand 16 = .ok (.iload_n 3, 1) := by decide +kernel
theorem dX0_joinThoseAtHand_17 : decode cX0_joinThoseAtHand 17 = .ok (.iaload, 1) := by decide +kernel
theorem dX0_joinThoseAtHand_18 : decode cX0_joinThoseAtHand 18 = .ok (.ifCond .lt 18, 3) := by decide +kernel
theorem dX0_joinThoseAtHand_21 : decode cX0_joinThoseAtHand 21 = .ok (.aload_n 1, 1) := by decide +kernel
theorem dX0_joinThoseAtHand_22 : decode cX0_joinThoseAtHand 22 = .ok (.aload_n 0, 1) := by decide +kernel
theorem dX0_joinThoseAtHand_23 : decode cX0_joinThoseAtHand 23 = .ok (.getfield 25, 3) := by decide +kernel
theorem dX0_joinThoseAtHand_26 : decode cX0_joinThoseAtHand 26 = .ok (.iload_n 3, 1) := by decide +kernel
theorem dX0_joinThoseAtHand_27 : decode cX0_joinThoseAtHand 27 = .ok (.iaload, 1) := by decide +kernel
theorem dX0_joinThoseAtHand_28 : decode cX0_joinThoseAtHand 28 = .ok (.iload_n 3, 1) := by decide +kernel
theorem dX0_joinThoseAtHand_29 : decode cX0_joinThoseAtHand 29 = .ok (.invokevirtual 88, 3) := by decide +kernel
theorem dX0_joinThoseAtHand_32 : decode cX0_joinThoseAtHand 32 = .ok (.pop, 1) := by decide +kernel
theorem dX0_joinThoseAtHand_33 : decode cX0_joinThoseAtHand 33 = .ok (.iinc 2 1, 3) := by decide +kernel
theorem dX0_joinThoseAtHand_36 : decode cX0_joinThoseAtHand 36 = .ok (.iinc 3 1, 3) := by decide +kernel
theorem dX0_joinThoseAtHand_39 : decode cX0_joinThoseAtHand 39 = .ok (.goto (-35), 3) := by decide +kernel
theorem dX0_joinThoseAtHand_42 : decode cX0_joinThoseAtHand 42 = .ok (.iload_n 2, 1) := by decide +kernel
theorem dX0_joinThoseAtHand_43 : decode cX0_joinThoseAtHand 43 = .ok (.ireturn, 1) := by decide +kernel
theorem dX1_init_0 : decode cX1_init 0 = .ok (.aload_n 0, 1) := by decide +kernel
theorem dX1_init_1 : decode cX1_init 1 = .ok (.invokespecial 3, 3) := by decide +kernel
theorem dX1_init_4 : decode cX1_init 4 = .ok (.aload_n 0, 1) := by decide +kernel
theorem dX1_init_5 : decode cX1_init 5 = .ok (.new 9, 3) := by decide +kernel
theorem dX1_init_8 : decode cX1_init 8 = .ok (.dup, 1) := by decide +kernel
theorem dX1_init_9 : decode cX1_init 9 = .ok (.invokespecial 11, 3) := by decide +kernel
theorem dX1_init_12 : decode cX1_init 12 = .ok (.putfield 12, 3) := by decide +kernel
theorem dX1_init_15 : decode cX1_init 15 = .ok (.aload_n 0, 1) := by decide +kernel
theorem dX1_init_16 : decode cX1_init 16 = .ok (.iconst (-1), 1) := by decide +kernel
theorem dX1_init_17 : decode cX1_init 17 = .ok (.putfield 18, 3) := by decide +kernel
theorem dX1_init_20 : decode cX1_init 20 = .ok (.aload_n 0, 1) := by decide +kernel
theorem dX1_init_21 : decode cX1_init 21 = .ok (.iconst 0, 1) := by decide +kernel
theorem dX1_init_22 : decode cX1_init 22 = .ok (.putfield 22, 3) := by decide +kernel
theorem dX1_init_25 : decode cX1_init 25 = .ok (.aload_n 0, 1) := by decide +kernel
theorem dX1_init_26 : decode cX1_init 26 = .ok (.iconst 0, 1) := by decide +kernel
theorem dX1_init_27 : decode cX1_init 27 = .ok (.putfield 25, 3) := by decide +kernel
theorem dX1_init_30 : decode cX1_init 30 = .ok (.aload_n 0, 1) := by decide +kernel
theorem dX1_init_31 : decode cX1_init 31 = .ok (.iconst 0, 1) := by decide +kernel
theorem dX1_init_32 : decode cX1_init 32 = .ok (.putfield 28, 3) := by decide +kernel
theorem dX1_init_35 : decode cX1_init 35 = .ok (.aload_n 0, 1) := by decide +kernel
theorem dX1_init_36 : decode cX1_init 36 = .ok (.lconst 0, 1) := by decide +kernel
theorem dX1_init_37 : decode cX1_init 37 = .ok (.putfield 31, 3) := by decide +kernel
theorem dX1_init_40 : decode cX1_init 40 = .ok (.aload_n 0, 1) := by decide +kernel
theorem dX1_init_41 : decode cX1_init 41 = .ok (.aload_n 1, 1) := by decide +kernel
theorem dX1_init_42 : decode cX1_init 42 = .ok (.putfield 35, 3) := by decide +kernel
theorem dX1_init_45 : decode cX1_init 45 = .ok (.return_, 1) := by decide +kernel
theorem dX1_after_0 : decode cX1_after 0 = .ok (.aload_n 0, 1) := by decide +kernel
theorem dX1_after_1 : decode cX1_after 1 = .ok (.getfield 12, 3) := by decide +kernel
theorem dX1_after_4 : decode cX1_after 4 = .ok (.aload_n 1, 1) := by decide +kernel
theorem dX1_after_5 : decode cX1_after 5 = .ok (.invokevirtual 39, 3) := by decide +kernel
theorem dX1_after_8 : decode cX1_after 8 = .ok (.iconst 0, 1) := by decide +kernel
theorem dX1_after_9 : decode cX1_after 9 = .ok (.istore 4, 2) := by decide +kernel
theorem dX1_after_11 : decode cX1_after 11 = .ok (.iload 4, 2) := by decide +kernel
theorem dX1_after_13 : decode cX1_after 13 = .ok (.iload_n 3, 1) := by decide +kernel
theorem dX1_after_14 : decode cX1_after 14 = .ok (.if_icmp .ge 29, 3) := by decide +kernel
theorem dX1_after_17 : decode cX1_after 17 = .ok (.aload_n 0, 1) := by decide +kernel
theorem dX1_after_18 : decode cX1_after 18 = .ok (.getfield 35, 3) := by decide +kernel
theorem dX1_after_21 : decode cX1_after 21 = .ok (.aload_n 0, 1) := by decide +kernel
theorem dX1_after_22 : decode cX1_after 22 = .ok (.getfield 12, 3) := by decide +kernel
theorem dX1_after_25 : decode cX1_after 25 = .ok (.aload_n 2, 1) := by decide +kernel
theorem dX1_after_26 : decode cX1_after 26 = .ok (.aload_n 0, 1) := by decide +kernel
theorem dX1_after_27 : decode cX1_after 27 = .ok (.getfield 12, 3) := by decide +kernel
theorem dX1_after_30 : decode cX1_after 30 = .ok (.invokevirtual 43, 3) := by decide +kernel
theorem dX1_after_33 : decode cX1_after 33 = .ok (.invokevirtual 47, 3) := by decide +kernel
theorem dX1_after_36 : decode cX1_after 36 = .ok (.pop, 1) := by decide +kernel
theorem dX1_after_37 : decode cX1_after 37 = .ok (.iinc 4 1, 3) := by decide +kernel
theorem dX1_after_40 : decode cX1_after 40 = .ok (.goto (-29), 3) := by decide +kernel
theorem dX1_after_43 : decode cX1_after 43 = .ok (.aload_n 0, 1) := by decide +kernel
theorem dX1_after_44 : decode cX1_after 44 = .ok (.getfield 12, 3) := by decide +kernel
theorem dX1_after_47 : decode cX1_after 47 = .ok (.areturn, 1) := by decide +kernel
theorem dX1_fairsTogether_0 : decode cX1_fairsTogether 0 = .ok (.aload_n 0, 1) := by decide +kernel
theorem dX1_fairsTogether_1 : decode cX1_fairsTogether 1 = .ok (.getfield 12, 3) := by decide +kernel
theorem dX1_fairsTogether_4 : decode cX1_fairsTogether 4 = .ok (.aload_n 1, 1) := by decide +kernel
theorem dX1_fairsTogether_5 : decode cX1_fairsTogether 5 = .ok (.invokevirtual 39, 3) := by decide +kernel
theorem dX1_fairsTogether_8 : decode cX1_fairsTogether 8 = .ok (.aload_n 0, 1) := by decide +kernel
theorem dX1_fairsTogether_9 : decode cX1_fairsTogether 9 = .ok (.aload_n 2, 1) := by decide +kernel
theorem dX1_fairsTogether_10 : decode cX1_fairsTogether 10 = .ok (.iload_n 3, 1) := by decide +kernel
theorem dX1_fairsTogether_11 : decode cX1_fairsTogether 11 = .ok (.iload 4, 2) := by decide +kernel
theorem dX1_fairsTogether_13 : decode cX1_fairsTogether 13 = .ok (.invokevirtual 53, 3) := by decide +kernel
theorem dX1_fairsTogether_16 : decode cX1_fairsTogether 16 = .ok (.ireturn, 1) := by decide +kernel
theorem dX1_fairsTogetherFromHere_0 : decode cX1_fairsTogetherFromHere 0 = .ok (.aload_n 0, 1) := by decide +kernel
theorem dX1_fairsTogetherFromHere_1 : decode cX1_fairsTogetherFromHere 1 = .ok (.getfield 12, 3) := by decide +kernel
theorem dX1_fairsTogetherFromHere_4 : decode cX1_fairsTogetherFromHere 4 = .ok (.iconst 0, 1) := by decide +kernel
theorem dX1_fairsTogetherFromHere_5 : decode cX1_fairsTogetherFromHere 5 = .ok (.iload_n 2, 1) := by decide +kernel
theorem dX1_fairsTogetherFromHere_6 : decode cX1_fairsTogetherFromHere 6 = .ok (.invokevirtual 57, 3) := by decide +kernel
theorem dX1_fairsTogetherFromHere_9 : decode cX1_fairsTogetherFromHere 9 = .ok (.istore 4, 2) := by decide +kernel
theorem dX1_fairsTogetherFromHere_11 : decode cX1_fairsTogetherFromHere 11 = .ok (.iconst 0, 1) := by decide +kernel
theorem dX1_fairsTogetherFromHere_12 : decode cX1_fairsTogetherFromHere 12 = .ok (.istore 5, 2) := by decide +kernel
theorem dX1_fairsTogetherFromHere_14 : decode cX1_fairsTogetherFromHere 14 = .ok (.iload 5, 2) := by decide +kernel
theorem dX1_fairsTogetherFromHere_16 : decode cX1_fairsTogetherFromHere 16 = .ok (.iload_n 3, 1) := by decide +kernel
theorem dX1_fairsTogetherFromHere_17 : decode cX1_fairsTogetherFromHere 17 = .ok (.if_icmp .ge 46, 3) := by decide +kernel
theorem dX1_fairsTogetherFromHere_20 : decode cX1_fairsTogetherFromHere 20 = .ok (.aload_n 0, 1) := by decide +kernel
theorem dX1_fairsTogetherFromHere_21 : decode cX1_fairsTogetherFromHere 21 = .ok (.getfield 35, 3) := by decide +kernel
theorem dX1_fairsTogetherFromHere_24 : decode cX1_fairsTogetherFromHere 24 = .ok (.aload_n 0, 1) := by decide +kernel
theorem dX1_fairsTogetherFromHere_25 : decode cX1_fairsTogetherFromHere 25 = .ok (.getfield 12, 3) := by decide +kernel
theorem dX1_fairsTogetherFromHere_28 : decode cX1_fairsTogetherFromHere 28 = .ok (.aload_n 1, 1) := by decide +kernel
theorem dX1_fairsTogetherFromHere_29 : decode cX1_fairsTogetherFromHere 29 = .ok (.aload_n 0, 1) := by decide +kernel
theorem dX1_fairsTogetherFromHere_30 : decode cX1_fairsTogetherFromHere 30 = .ok (.getfield 12, 3) := by decide +kernel
theorem dX1_fairsTogetherFromHere_33 : decode cX1_fairsTogetherFromHere 33 = .ok (.invokevirtual 43, 3) := by decide +kernel
theorem dX1_fairsTogetherFromHere_36 : decode cX1_fairsTogetherFromHere 36 = .ok (.invokevirtual 47, 3) := by decide +kernel
theorem dX1_fairsTogetherFromHere_39 : decode cX1_fairsTogetherFromHere 39 = .ok (.pop, 1) := by decide +kernel
theorem dX1_fairsTogetherFromHere_40 : decode cX1_fairsTogetherFromHere 40 = .ok (.aload_n 0, 1) := by decide +kernel
theorem dX1_fairsTogetherFromHere_41 : decode cX1_fairsTogetherFromHere 41 = .ok (.getfield 12, 3) := by decide +kernel
theorem dX1_fairsTogetherFromHere_44 : decode cX1_fairsTogetherFromHere 44 = .ok (.iconst 0, 1) := by decide +kernel
theorem dX1_fairsTogetherFromHere_45 : decode cX1_fairsTogetherFromHere 45 = .ok (.iload_n 2, 1) := by decide +kernel
theorem dX1_fairsTogetherFromHere_46 : decode cX1_fairsTogetherFromHere 46 = .ok (.invokevirtual 57, 3) := by decide +kernel
theorem dX1_fairsTogetherFromHere_49 : decode cX1_fairsTogetherFromHere 49 = .ok (.iload 4, 2) := by decide +kernel
theorem dX1_fairsTogetherFromHere_51 : decode cX1_fairsTogetherFromHere 51 = .ok (.if_icmp .eq 6, 3) := by decide +kernel
theorem dX1_fairsTogetherFromHere_54 : decode cX1_fairsTogetherFromHere 54 = .ok (.iload 5, 2) := by decide +kernel
theorem dX1_fairsTogetherFromHere_56 : decode cX1_fairsTogetherFromHere 56 = .ok (.ireturn, 1) := by decide +kernel
theorem dX1_fairsTogetherFromHere_57 : decode cX1_fairsTogetherFromHere 57 = .ok (.iinc 5 1, 3) := by decide +kernel
theorem dX1_fairsTogetherFromHere_60 : decode cX1_fairsTogetherFromHere 60 = .ok (.goto (-46), 3) := by decide +kernel
theorem dX1_fairsTogetherFromHere_63 : decode cX1_fairsTogetherFromHere 63 = .ok (.iload_n 3, 1) := by decide +kernel
theorem dX1_fairsTogetherFromHere_64 : decode cX1_fairsTogetherFromHere 64 = .ok (.ireturn, 1) := by decide +kernel
theorem dX1_leastGift_0 : decode cX1_leastGift 0 = .ok (.iconst 0, 1) := by decide +kernel
theorem dX1_leastGift_1 : decode cX1_leastGift 1 = .ok (.istore 5, 2) := by decide +kernel
theorem dX1_leastGift_3 : decode cX1_leastGift 3 = .ok (.iload 5, 2) := by decide +kernel
theorem dX1_leastGift_5 : decode cX1_leastGift 5 = .ok (.bipush 99, 2) := by decide +kernel
theorem dX1_leastGift_7 : decode cX1_leastGift 7 = .ok (.if_icmp .gt 42, 3) := by decide +kernel
theorem dX1_leastGift_10 : decode cX1_leastGift 10 = .ok (.aload_n 0, 1) := by decide +kernel
theorem dX1_leastGift_11 : decode cX1_leastGift 11 = .ok (.getfield 12, 3) := by decide +kernel
theorem dX1_leastGift_14 : decode cX1_leastGift 14 = .ok (.aload_n 1, 1) := by decide +kernel
theorem dX1_leastGift_15 : decode cX1_leastGift 15 = .ok (.invokevirtual 39, 3) := by decide +kernel
theorem dX1_leastGift_18 : decode cX1_leastGift 18 = .ok (.aload_n 0, 1) := by decide +kernel
theorem dX1_leastGift_19 : decode cX1_leastGift 19 = .ok (.getfield 12, 3) := by decide +kernel
theorem dX1_leastGift_22 : decode cX1_leastGift 22 = .ok (.iload 5, 2) := by decide +kernel
theorem dX1_leastGift_24 : decode cX1_leastGift 24 = .ok (.putfield 61, 3) := by decide +kernel
theorem dX1_leastGift_27 : decode cX1_leastGift 27 = .ok (.aload_n 0, 1) := by decide +kernel
theorem dX1_leastGift_28 : decode cX1_leastGift 28 = .ok (.aload_n 2, 1) := by decide +kernel
theorem dX1_leastGift_29 : decode cX1_leastGift 29 = .ok (.iload_n 3, 1) := by decide +kernel
theorem dX1_leastGift_30 : decode cX1_leastGift 30 = .ok (.iload 4, 2) := by decide +kernel
theorem dX1_leastGift_32 : decode cX1_leastGift 32 = .ok (.invokevirtual 53, 3) := by decide +kernel
theorem dX1_leastGift_35 : decode cX1_leastGift 35 = .ok (.iload 4, 2) := by decide +kernel
theorem dX1_leastGift_37 : decode cX1_leastGift 37 = .ok (.if_icmp .ne 6, 3) := by decide +kernel
theorem dX1_leastGift_40 : decode cX1_leastGift 40 = .ok (.iload 5, 2) := by decide +kernel
theorem dX1_leastGift_42 : decode cX1_leastGift 42 = .ok (.ireturn, 1) := by decide +kernel
theorem dX1_leastGift_43 : decode cX1_leastGift 43 = .ok (.iinc 5 1, 3) := by decide +kernel
theorem dX1_leastGift_46 : decode cX1_leastGift 46 = .ok (.goto (-43), 3) := by decide +kernel
theorem dX1_leastGift_49 : decode cX1_leastGift 49 = .ok (.bipush (-2), 2) := by decide +kernel
theorem dX1_leastGift_51 : decode cX1_leastGift 51 = .ok (.ireturn, 1) := by decide +kernel
theorem dX1_tryAll_0 : decode cX1_tryAll 0 = .ok (.aload_n 0, 1) := by decide +kernel
theorem dX1_tryAll_1 : decode cX1_tryAll 1 = .ok (.iconst (-1), 1) := by decide +kernel
theorem dX1_tryAll_2 : decode cX1_tryAll 2 = .ok (.putfield 18, 3) := by decide +kernel
theorem dX1_tryAll_5 : decode cX1_tryAll 5 = .ok (.aload_n 0, 1) := by decide +kernel
theorem dX1_tryAll_6 : decode cX1_tryAll 6 = .ok (.aload_n 0, 1) := by decide +kernel
theorem dX1_tryAll_7 : decode cX1_tryAll 7 = .ok (.aload_n 1, 1) := by decide +kernel
theorem dX1_tryAll_8 : decode cX1_tryAll 8 = .ok (.aload_n 2, 1) := by decide +kernel
theorem dX1_tryAll_9 : decode cX1_tryAll 9 = .ok (.iload_n 3, 1) := by decide +kernel
theorem dX1_tryAll_10 : decode cX1_tryAll 10 = .ok (.iconst (-1), 1) := by decide +kernel
theorem dX1_tryAll_11 : decode cX1_tryAll 11 = .ok (.iload 4, 2) := by decide +kernel
theorem dX1_tryAll_13 : decode cX1_tryAll 13 = .ok (.invokevirtual 64, 3) := by decide +kernel
theorem dX1_tryAll_16 : decode cX1_tryAll 16 = .ok (.putfield 22, 3) := by decide +kernel
theorem dX1_tryAll_19 : decode cX1_tryAll 19 = .ok (.iconst 0, 1) := by decide +kernel
theorem dX1_tryAll_20 : decode cX1_tryAll 20 = .ok (.istore 5, 2) := by decide +kernel
theorem dX1_tryAll_22 : decode cX1_tryAll 22 = .ok (.iload 5, 2) := by decide +kernel
theorem dX1_tryAll_24 : decode cX1_tryAll 24 = .ok (.aload_n 1, 1) := by decide +kernel
theorem dX1_tryAll_25 : decode cX1_tryAll 25 = .ok (.getfield 68, 3) := by decide +kernel
theorem dX1_tryAll_28 : decode cX1_tryAll 28 = .ok (.if_icmp .ge 53, 3) := by decide +kernel
theorem dX1_tryAll_31 : decode cX1_tryAll 31 = .ok (.aload_n 1, 1) := by decide +kernel
theorem dX1_tryAll_32 : decode cX1_tryAll 32 = .ok (.iload_n 3, 1) := by decide +kernel
theorem dX1_tryAll_33 : decode cX1_tryAll 33 = .ok (.iload 5, 2) := by decide +kernel
theorem dX1_tryAll_35 : decode cX1_tryAll 35 = .ok (.invokevirtual 71, 3) := by decide +kernel
theorem dX1_tryAll_38 : decode cX1_tryAll 38 = .ok (.ifCond .eq 37, 3) := by decide +kernel
theorem dX1_tryAll_41 : decode cX1_tryAll 41 = .ok (.aload_n 0, 1) := by decide +kernel
theorem dX1_tryAll_42 : decode cX1_tryAll 42 = .ok (.aload_n 1, 1) := by decide +kernel
theorem dX1_tryAll_43 : decode cX1_tryAll 43 = .ok (.aload_n 2, 1) := by decide +kernel
theorem dX1_tryAll_44 : decode cX1_tryAll 44 = .ok (.iload_n 3, 1) := by decide +kernel
theorem dX1_tryAll_45 : decode cX1_tryAll 45 = .ok (.iload 5, 2) := by decide +kernel
theorem dX1_tryAll_47 : decode cX1_tryAll 47 = .ok (.iload 4, 2) := by decide +kernel
theorem dX1_tryAll_49 : decode cX1_tryAll 49 = .ok (.invokevirtual 64, 3) := by decide +kernel
theorem dX1_tryAll_52 : decode cX1_tryAll 52 = .ok (.istore 6, 2) := by decide +kernel
theorem dX1_tryAll_54 : decode cX1_tryAll 54 = .ok (.iload 6, 2) := by decide +kernel
theorem dX1_tryAll_56 : decode cX1_tryAll 56 = .ok (.aload_n 0, 1) := by decide +kernel
theorem dX1_tryAll_57 : decode cX1_tryAll 57 = .ok (.getfield 22, 3) := by decide +kernel
theorem dX1_tryAll_60 : decode cX1_tryAll 60 = .ok (.if_icmp .le 15, 3) := by decide +kernel
theorem dX1_tryAll_63 : decode cX1_tryAll 63 = .ok (.aload_n 0, 1) := by decide +kernel
theorem dX1_tryAll_64 : decode cX1_tryAll 64 = .ok (.iload 5, 2) := by decide +kernel
theorem dX1_tryAll_66 : decode cX1_tryAll 66 = .ok (.putfield 18, 3) := by decide +kernel
theorem dX1_tryAll_69 : decode cX1_tryAll 69 = .ok (.aload_n 0, 1) := by decide +kernel
theorem dX1_tryAll_70 : decode cX1_tryAll 70 = .ok (.iload 6, 2) := by decide +kernel
theorem dX1_tryAll_72 : decode cX1_tryAll 72 = .ok (.putfield 22, 3) := by decide +kernel
theorem dX1_tryAll_75 : decode cX1_tryAll 75 = .ok (.iinc 5 1, 3) := by decide +kernel
theorem dX1_tryAll_78 : decode cX1_tryAll 78 = .ok (.goto (-56), 3) := by decide +kernel
theorem dX1_tryAll_81 : decode cX1_tryAll 81 = .ok (.return_, 1) := by decide +kernel
theorem dX1_sumOfTry_0 : decode cX1_sumOfTry 0 = .ok (.aload_n 0, 1) := by decide +kernel
theorem dX1_sumOfTry_1 : decode cX1_sumOfTry 1 = .ok (.getfield 12, 3) := by decide +kernel
theorem dX1_sumOfTry_4 : decode cX1_sumOfTry 4 = .ok (.aload_n 1, 1) := by decide +kernel
theorem dX1_sumOfTry_5 : decode cX1_sumOfTry 5 = .ok (.invokevirtual 39, 3) := by decide +kernel
theorem dX1_sumOfTry_8 : decode cX1_sumOfTry 8 = .ok (.iload 4, 2) := by decide +kernel
theorem dX1_sumOfTry_10 : decode cX1_sumOfTry 10 = .ok (.ifCond .lt 14, 3) := by decide +kernel
theorem dX1_sumOfTry_13 : decode cX1_sumOfTry 13 = .ok (.aload_n 0, 1) := by decide +kernel
theorem dX1_sumOfTry_14 : decode cX1_sumOfTry 14 = .ok (.getfield 12, 3) := by decide +kernel
theorem dX1_sumOfTry_17 : decode cX1_sumOfTry 17 = .ok (.iload_n 3, 1) := by decide +kernel
theorem dX1_sumOfTry_18 : decode cX1_sumOfTry 18 = .ok (.iload 4, 2) := by decide +kernel
theorem dX1_sumOfTry_20 : decode cX1_sumOfTry 20 = .ok (.invokevirtual 75, 3) := by decide +kernel
theorem dX1_sumOfTry_23 : decode cX1_sumOfTry 23 = .ok (.pop, 1) := by decide +kernel
theorem dX1_sumOfTry_24 : decode cX1_sumOfTry 24 = .ok (.iconst 0, 1) := by decide +kernel
theorem dX1_sumOfTry_25 : decode cX1_sumOfTry 25 = .ok (.istore 6, 2) := by decide +kernel
theorem dX1_sumOfTry_27 : decode cX1_sumOfTry 27 = .ok (.iconst 0, 1) := by decide +kernel
theorem dX1_sumOfTry_28 : decode cX1_sumOfTry 28 = .ok (.istore 7, 2) := by decide +kernel
theorem dX1_sumOfTry_30 : decode cX1_sumOfTry 30 = .ok (.iload 7, 2) := by decide +kernel
theorem dX1_sumOfTry_32 : decode cX1_sumOfTry 32 = .ok (.iload 5, 2) := by decide +kernel
theorem dX1_sumOfTry_34 : decode cX1_sumOfTry 34 = .ok (.if_icmp .ge 42, 3) := by decide +kernel
theorem dX1_sumOfTry_37 : decode cX1_sumOfTry 37 = .ok (.aload_n 0, 1) := by decide +kernel
theorem dX1_sumOfTry_38 : decode cX1_sumOfTry 38 = .ok (.getfield 35, 3) := by decide +kernel
theorem dX1_sumOfTry_41 : decode cX1_sumOfTry 41 = .ok (.aload_n 0, 1) := by decide +kernel
theorem dX1_sumOfTry_42 : decode cX1_sumOfTry 42 = .ok (.getfield 12, 3) := by decide +kernel
theorem dX1_sumOfTry_45 : decode cX1_sumOfTry 45 = .ok (.aload_n 2, 1) := by decide +kernel
theorem dX1_sumOfTry_46 : decode cX1_sumOfTry 46 = .ok (.aload_n 0, 1) := by decide +kernel
theorem dX1_sumOfTry_47 : decode cX1_sumOfTry 47 = .ok (.getfield 12, 3) := by decide +kernel
theorem dX1_sumOfTry_50 : decode cX1_sumOfTry 50 = .ok (.invokevirtual 43, 3) := by decide +kernel
theorem dX1_sumOfTry_53 : decode cX1_sumOfTry 53 = .ok (.invokevirtual 47, 3) := by decide +kernel
theorem dX1_sumOfTry_56 : decode cX1_sumOfTry 56 = .ok (.pop, 1) := by decide +kernel
theorem dX1_sumOfTry_57 : decode cX1_sumOfTry 57 = .ok (.iload 6, 2) := by decide +kernel
theorem dX1_sumOfTry_59 : decode cX1_sumOfTry 59 = .ok (.aload_n 0, 1) := by decide +kernel
theorem dX1_sumOfTry_60 : decode cX1_sumOfTry 60 = .ok (.getfield 12, 3) := by decide +kernel
theorem dX1_sumOfTry_63 : decode cX1_sumOfTry 63 = .ok (.iload_n 3, 1) := by decide +kernel
theorem dX1_sumOfTry_64 : decode cX1_sumOfTry 64 = .ok (.invokevirtual 78, 3) := by decide +kernel
theorem dX1_sumOfTry_67 : decode cX1_sumOfTry 67 = .ok (.iadd, 1) := by decide +kernel
theorem dX1_sumOfTry_68 : decode cX1_sumOfTry 68 = .ok (.istore 6, 2) := by decide +kernel
theorem dX1_sumOfTry_70 : decode cX1_sumOfTry 70 = .ok (.iinc 7 1, 3) := by decide +kernel
theorem dX1_sumOfTry_73 : decode cX1_sumOfTry 73 = .ok (.goto (-43), 3) := by decide +kernel
theorem dX1_sumOfTry_76 : decode cX1_sumOfTry 76 = .ok (.iload 6, 2) := by decide +kernel
theorem dX1_sumOfTry_78 : decode cX1_sumOfTry 78 = .ok (.ireturn, 1) := by decide +kernel
theorem dX1_startDraws_0 : decode cX1_startDraws 0 = .ok (.aload_n 0, 1) := by decide +kernel
theorem dX1_startDraws_1 : decode cX1_startDraws 1 = .ok (.iload_n 1, 1) := by decide +kernel
theorem dX1_startDraws_2 : decode cX1_startDraws 2 = .ok (.i2l, 1) := by decide +kernel
theorem dX1_startDraws_3 : decode cX1_startDraws 3 = .ok (.putfield 31, 3) := by decide +kernel
theorem dX1_startDraws_6 : decode cX1_startDraws 6 = .ok (.aload_n 0, 1) := by decide +kernel
theorem dX1_startDraws_7 : decode cX1_startDraws 7 = .ok (.iconst 0, 1) := by decide +kernel
theorem dX1_startDraws_8 : decode cX1_startDraws 8 = .ok (.putfield 25, 3) := by decide +kernel
theorem dX1_startDraws_11 : decode cX1_startDraws 11 = .ok (.aload_n 0, 1) := by decide +kernel
theorem dX1_startDraws_12 : decode cX1_startDraws 12 = .ok (.iconst 0, 1) := by decide +kernel
theorem dX1_startDraws_13 : decode cX1_startDraws 13 = .ok (.putfield 28, 3) := by decide +kernel
theorem dX1_startDraws_16 : decode cX1_startDraws 16 = .ok (.return_, 1) := by decide +kernel
theorem dX1_draw_0 : decode cX1_draw 0 = .ok (.aload_n 0, 1) := by decide +kernel
theorem dX1_draw_1 : decode cX1_draw 1 = .ok (.aload_n 0, 1) := by decide +kernel
theorem dX1_draw_2 : decode cX1_draw 2 = .ok (.getfield 31, 3) := by decide +kernel
theorem dX1_draw_5 : decode cX1_draw 5 = .ok (.ldc2_w 82, 3) := by decide +kernel
theorem dX1_draw_8 : decode cX1_draw 8 = .ok (.lmul, 1) := by decide +kernel
theorem dX1_draw_9 : decode cX1_draw 9 = .ok (.ldc2_w 84, 3) := by decide +kernel
theorem dX1_draw_12 : decode cX1_draw 12 = .ok (.ladd, 1) := by decide +kernel
theorem dX1_draw_13 : decode cX1_draw 13 = .ok (.ldc2_w 86, 3) := by decide +kernel
theorem dX1_draw_16 : decode cX1_draw 16 = .ok (.land, 1) := by decide +kernel
theorem dX1_draw_17 : decode cX1_draw 17 = .ok (.putfield 31, 3) := by decide +kernel
theorem dX1_draw_20 : decode cX1_draw 20 = .ok (.aload_n 0, 1) := by decide +kernel
theorem dX1_draw_21 : decode cX1_draw 21 = .ok (.getfield 31, 3) := by decide +kernel
theorem dX1_draw_24 : decode cX1_draw 24 = .ok (.ldc2_w 88, 3) := by decide +kernel
theorem dX1_draw_27 : decode cX1_draw 27 = .ok (.ldiv, 1) := by decide +kernel
theorem dX1_draw_28 : decode cX1_draw 28 = .ok (.l2i, 1) := by decide +kernel
theorem dX1_draw_29 : decode cX1_draw 29 = .ok (.ireturn, 1) := by decide +kernel
theorem dX1_drawIsle_0 : decode cX1_drawIsle 0 = .ok (.aload_n 0, 1) := by decide +kernel
theorem dX1_drawIsle_1 : decode cX1_drawIsle 1 = .ok (.getfield 12, 3) := by decide +kernel
theorem dX1_drawIsle_4 : decode cX1_drawIsle 4 = .ok (.aload_n 1, 1) := by decide +kernel
theorem dX1_drawIsle_5 : decode cX1_drawIsle 5 = .ok (.invokevirtual 39, 3) := by decide +kernel
theorem dX1_drawIsle_8 : decode cX1_drawIsle 8 = .ok (.iconst 0, 1) := by decide +kernel
theorem dX1_drawIsle_9 : decode cX1_drawIsle 9 = .ok (.istore 5, 2) := by decide +kernel
theorem dX1_drawIsle_11 : decode cX1_drawIsle 11 = .ok (.iload 5, 2) := by decide +kernel
theorem dX1_drawIsle_13 : decode cX1_drawIsle 13 = .ok (.iload_n 3, 1) := by decide +kernel
theorem dX1_drawIsle_14 : decode cX1_drawIsle 14 = .ok (.if_icmp .ge 69, 3) := by decide +kernel
theorem dX1_drawIsle_17 : decode cX1_drawIsle 17 = .ok (.aload_n 0, 1) := by decide +kernel
theorem dX1_drawIsle_18 : decode cX1_drawIsle 18 = .ok (.invokevirtual 90, 3) := by decide +kernel
theorem dX1_drawIsle_21 : decode cX1_drawIsle 21 = .ok (.bipush 100, 2) := by decide +kernel
theorem dX1_drawIsle_23 : decode cX1_drawIsle 23 = .ok (.irem, 1) := by decide +kernel
theorem dX1_drawIsle_24 : decode cX1_drawIsle 24 = .ok (.iload 4, 2) := by decide +kernel
theorem dX1_drawIsle_26 : decode cX1_drawIsle 26 = .ok (.if_icmp .ge 7, 3) := by decide +kernel
theorem dX1_drawIsle_29 : decode cX1_drawIsle 29 = .ok (.iconst 1, 1) := by decide +kernel
theorem dX1_drawIsle_30 : decode cX1_drawIsle 30 = .ok (.goto 4, 3) := by decide +kernel
theorem dX1_drawIsle_33 : decode cX1_drawIsle 33 = .ok (.iconst 0, 1) := by decide +kernel
theorem dX1_drawIsle_34 : decode cX1_drawIsle 34 = .ok (.istore 6, 2) := by decide +kernel
theorem dX1_drawIsle_36 : decode cX1_drawIsle 36 = .ok (.aload_n 0, 1) := by decide +kernel
theorem dX1_drawIsle_37 : decode cX1_drawIsle 37 = .ok (.dup, 1) := by decide +kernel
theorem dX1_drawIsle_38 : decode cX1_drawIsle 38 = .ok (.getfield 28, 3) := by decide +kernel
theorem dX1_drawIsle_41 : decode cX1_drawIsle 41 = .ok (.aload_n 0, 1) := by decide +kernel
theorem dX1_drawIsle_42 : decode cX1_drawIsle 42 = .ok (.getfield 35, 3) := by decide +kernel
theorem dX1_drawIsle_45 : decode cX1_drawIsle 45 = .ok (.aload_n 0, 1) := by decide +kernel
theorem dX1_drawIsle_46 : decode cX1_drawIsle 46 = .ok (.getfield 12, 3) := by decide +kernel
theorem dX1_drawIsle_49 : decode cX1_drawIsle 49 = .ok (.aload_n 2, 1) := by decide +kernel
theorem dX1_drawIsle_50 : decode cX1_drawIsle 50 = .ok (.iload 6, 2) := by decide +kernel
theorem dX1_drawIsle_52 : decode cX1_drawIsle 52 = .ok (.ifCond .ne 13, 3) := by decide +kernel
theorem dX1_drawIsle_55 : decode cX1_drawIsle 55 = .ok (.aload_n 0, 1) := by decide +kernel
theorem dX1_drawIsle_56 : decode cX1_drawIsle 56 = .ok (.getfield 12, 3) := by decide +kernel
theorem dX1_drawIsle_59 : decode cX1_drawIsle 59 = .ok (.invokevirtual 43, 3) := by decide +kernel
theorem dX1_drawIsle_62 : decode cX1_drawIsle 62 = .ok (.ifCond .eq 7, 3) := by decide +kernel
theorem dX1_drawIsle_65 : decode cX1_drawIsle 65 = .ok (.iconst 1, 1) := by decide +kernel
theorem dX1_drawIsle_66 : decode cX1_drawIsle 66 = .ok (.goto 4, 3) := by decide +kernel
theorem dX1_drawIsle_69 : decode cX1_drawIsle 69 = .ok (.iconst 0, 1) := by decide +kernel
theorem dX1_drawIsle_70 : decode cX1_drawIsle 70 = .ok (.invokevirtual 47, 3) := by decide +kernel
theorem dX1_drawIsle_73 : decode cX1_drawIsle 73 = .ok (.iadd, 1) := by decide +kernel
theorem dX1_drawIsle_74 : decode cX1_drawIsle 74 = .ok (.putfield 28, 3) := by decide +kernel
theorem dX1_drawIsle_77 : decode cX1_drawIsle 77 = .ok (.iinc 5 1, 3) := by decide +kernel
theorem dX1_drawIsle_80 : decode cX1_drawIsle 80 = .ok (.goto (-69), 3) := by decide +kernel
theorem dX1_drawIsle_83 : decode cX1_drawIsle 83 = .ok (.aload_n 0, 1) := by decide +kernel
theorem dX1_drawIsle_84 : decode cX1_drawIsle 84 = .ok (.dup, 1) := by decide +kernel
theorem dX1_drawIsle_85 : decode cX1_drawIsle 85 = .ok (.getfield 25, 3) := by decide +kernel
theorem dX1_drawIsle_88 : decode cX1_drawIsle 88 = .ok (.aload_n 0, 1) := by decide +kernel
theorem dX1_drawIsle_89 : decode cX1_drawIsle 89 = .ok (.getfield 12, 3) := by decide +kernel
theorem dX1_drawIsle_92 : decode cX1_drawIsle 92 = .ok (.iconst 0, 1) := by decide +kernel
theorem dX1_drawIsle_93 : decode cX1_drawIsle 93 = .ok (.aload_n 0, 1) := by decide +kernel
theorem dX1_drawIsle_94 : decode cX1_drawIsle 94 = .ok (.getfield 12, 3) := by decide +kernel
theorem dX1_drawIsle_97 : decode cX1_drawIsle 97 = .ok (.getfield 94, 3) := by decide +kernel
theorem dX1_drawIsle_100 : decode cX1_drawIsle 100 = .ok (.invokevirtual 97, 3) := by decide +kernel
theorem dX1_drawIsle_103 : decode cX1_drawIsle 103 = .ok (.invokestatic 100, 3) := by decide +kernel
theorem dX1_drawIsle_106 : decode cX1_drawIsle 106 = .ok (.iadd, 1) := by decide +kernel
theorem dX1_drawIsle_107 : decode cX1_drawIsle 107 = .ok (.putfield 25, 3) := by decide +kernel
theorem dX1_drawIsle_110 : decode cX1_drawIsle 110 = .ok (.return_, 1) := by decide +kernel
theorem dX2_init_0 : decode cX2_init 0 = .ok (.aload_n 0, 1) := by decide +kernel
theorem dX2_init_1 : decode cX2_init 1 = .ok (.invokespecial 3, 3) := by decide +kernel
theorem dX2_init_4 : decode cX2_init 4 = .ok (.aload_n 0, 1) := by decide +kernel
theorem dX2_init_5 : decode cX2_init 5 = .ok (.aload_n 1, 1) := by decide +kernel
theorem dX2_init_6 : decode cX2_init 6 = .ok (.putfield 9, 3) := by decide +kernel
theorem dX2_init_9 : decode cX2_init 9 = .ok (.return_, 1) := by decide +kernel
theorem dX2_readInto_0 : decode cX2_readInto 0 = .ok (.aload_n 1, 1) := by decide +kernel
theorem dX2_readInto_1 : decode cX2_readInto 1 = .ok (.invokevirtual 15, 3) := by decide +kernel
theorem dX2_readInto_4 : decode cX2_readInto 4 = .ok (.aload_n 0, 1) := by decide +kernel
theorem dX2_readInto_5 : decode cX2_readInto 5 = .ok (.getfield 9, 3) := by decide +kernel
theorem dX2_readInto_8 : decode cX2_readInto 8 = .ok (.invokevirtual 20, 3) := by decide +kernel
theorem dX2_readInto_11 : decode cX2_readInto 11 = .ok (.iconst 1, 1) := by decide +kernel
theorem dX2_readInto_12 : decode cX2_readInto 12 = .ok (.istore_n 2, 1) := by decide +kernel
theorem dX2_readInto_13 : decode cX2_readInto 13 = .ok (.iconst 0, 1) := by decide +kernel
theorem dX2_readInto_14 : decode cX2_readInto 14 = .ok (.istore_n 3, 1) := by decide +kernel
theorem dX2_readInto_15 : decode cX2_readInto 15 = .ok (.iload_n 2, 1) := by decide +kernel
theorem dX2_readInto_16 : decode cX2_readInto 16 = .ok (.ifCond .eq 49, 3) := by decide +kernel
theorem dX2_readInto_19 : decode cX2_readInto 19 = .ok (.iload_n 3, 1) := by decide +kernel
theorem dX2_readInto_20 : decode cX2_readInto 20 = .ok (.bipush 40, 2) := by decide +kernel
theorem dX2_readInto_22 : decode cX2_readInto 22 = .ok (.if_icmp .gt 43, 3) := by decide +kernel
theorem dX2_readInto_25 : decode cX2_readInto 25 = .ok (.aload_n 0, 1) := by decide +kernel
theorem dX2_readInto_26 : decode cX2_readInto 26 = .ok (.aload_n 1, 1) := by decide +kernel
theorem dX2_readInto_27 : decode cX2_readInto 27 = .ok (.iload_n 3, 1) := by decide +kernel
theorem dX2_readInto_28 : decode cX2_readInto 28 = .ok (.invokevirtual 25, 3) := by decide +kernel
theorem dX2_readInto_31 : decode cX2_readInto 31 = .ok (.aload_n 0, 1) := by decide +kernel
theorem dX2_readInto_32 : decode cX2_readInto 32 = .ok (.getfield 9, 3) := by decide +kernel
theorem dX2_readInto_35 : decode cX2_readInto 35 = .ok (.getfield 29, 3) := by decide +kernel
theorem dX2_readInto_38 : decode cX2_readInto 38 = .ok (.ifCond .ne 19, 3) := by decide +kernel
theorem dX2_readInto_41 : decode cX2_readInto 41 = .ok (.aload_n 0, 1) := by decide +kernel
theorem dX2_readInto_42 : decode cX2_readInto 42 = .ok (.getfield 9, 3) := by decide +kernel
theorem dX2_readInto_45 : decode cX2_readInto 45 = .ok (.bipush 59, 2) := by decide +kernel
theorem dX2_readInto_47 : decode cX2_readInto 47 = .ok (.invokevirtual 33, 3) := by decide +kernel
theorem dX2_readInto_50 : decode cX2_readInto 50 = .ok (.ifCond .eq 7, 3) := by decide +kernel
theorem dX2_readInto_53 : decode cX2_readInto 53 = .ok (.iconst 1, 1) := by decide +kernel
theorem dX2_readInto_54 : decode cX2_readInto 54 = .ok (.goto 4, 3) := by decide +kernel
theorem dX2_readInto_57 : decode cX2_readInto 57 = .ok (.iconst 0, 1) := by decide +kernel
theorem dX2_readInto_58 : decode cX2_readInto 58 = .ok (.istore_n 2, 1) := by decide +kernel
theorem dX2_readInto_59 : decode cX2_readInto 59 = .ok (.iinc 3 1, 3) := by decide +kernel
theorem dX2_readInto_62 : decode cX2_readInto 62 = .ok (.goto (-47), 3) := by decide +kernel
theorem dX2_readInto_65 : decode cX2_readInto 65 = .ok (.aload_n 0, 1) := by decide +kernel
theorem dX2_readInto_66 : decode cX2_readInto 66 = .ok (.getfield 9, 3) := by decide +kernel
theorem dX2_readInto_69 : decode cX2_readInto 69 = .ok (.invokevirtual 37, 3) := by decide +kernel
theorem dX2_readInto_72 : decode cX2_readInto 72 = .ok (.iconst (-1), 1) := by decide +kernel
theorem dX2_readInto_73 : decode cX2_readInto 73 = .ok (.if_icmp .eq 18, 3) := by decide +kernel
theorem dX2_readInto_76 : decode cX2_readInto 76 = .ok (.aload_n 0, 1) := by decide +kernel
theorem dX2_readInto_77 : decode cX2_readInto 77 = .ok (.getfield 9, 3) := by decide +kernel
theorem dX2_readInto_80 : decode cX2_readInto 80 = .ok (.aload_n 0, 1) := by decide +kernel
theorem dX2_readInto_81 : decode cX2_readInto 81 = .ok (.getfield 9, 3) := by decide +kernel
theorem dX2_readInto_84 : decode cX2_readInto 84 = .ok (.getfield 41, 3) := by decide +kernel
theorem dX2_readInto_87 : decode cX2_readInto 87 = .ok (.iconst 0, 1) := by decide +kernel
theorem dX2_readInto_88 : decode cX2_readInto 88 = .ok (.invokevirtual 44, 3) := by decide +kernel
theorem dX2_readInto_91 : decode cX2_readInto 91 = .ok (.aload_n 1, 1) := by decide +kernel
theorem dX2_readInto_92 : decode cX2_readInto 92 = .ok (.iconst 1, 1) := by decide +kernel
theorem dX2_readInto_93 : decode cX2_readInto 93 = .ok (.putfield 48, 3) := by decide +kernel
theorem dX2_readInto_96 : decode cX2_readInto 96 = .ok (.aload_n 1, 1) := by decide +kernel
theorem dX2_readInto_97 : decode cX2_readInto 97 = .ok (.invokevirtual 52, 3) := by decide +kernel
theorem dX2_readInto_100 : decode cX2_readInto 100 = .ok (.aload_n 0, 1) := by decide +kernel
theorem dX2_readInto_101 : decode cX2_readInto 101 = .ok (.getfield 9, 3) := by decide +kernel
theorem dX2_readInto_104 : decode cX2_readInto 104 = .ok (.getfield 29, 3) := by decide +kernel
theorem dX2_readInto_107 : decode cX2_readInto 107 = .ok (.ireturn, 1) := by decide +kernel
theorem dX2_readClause_0 : decode cX2_readClause 0 = .ok (.aload_n 0, 1) := by decide +kernel
theorem dX2_readClause_1 : decode cX2_readClause 1 = .ok (.getfield 9, 3) := by decide +kernel
theorem dX2_readClause_4 : decode cX2_readClause 4 = .ok (.invokevirtual 55, 3) := by decide +kernel
theorem dX2_readClause_7 : decode cX2_readClause 7 = .ok (.istore_n 3, 1) := by decide +kernel
theorem dX2_readClause_8 : decode cX2_readClause 8 = .ok (.aload_n 0, 1) := by decide +kernel
theorem dX2_readClause_9 : decode cX2_readClause 9 = .ok (.getfield 9, 3) := by decide +kernel
theorem dX2_readClause_12 : decode cX2_readClause 12 = .ok (.ldc 58, 2) := by decide +kernel
theorem dX2_readClause_14 : decode cX2_readClause 14 = .ok (.invokevirtual 60, 3) := by decide +kernel
theorem dX2_readClause_17 : decode cX2_readClause 17 = .ok (.istore 4, 2) := by decide +kernel
theorem dX2_readClause_19 : decode cX2_readClause 19 = .ok (.iload 4, 2) := by decide +kernel
theorem dX2_readClause_21 : decode cX2_readClause 21 = .ok (.iconst (-1), 1) := by decide +kernel
theorem dX2_readClause_22 : decode cX2_readClause 22 = .ok (.if_icmp .ne 15, 3) := by decide +kernel
theorem dX2_readClause_25 : decode cX2_readClause 25 = .ok (.aload_n 0, 1) := by decide +kernel
theorem dX2_readClause_26 : decode cX2_readClause 26 = .ok (.getfield 9, 3) := by decide +kernel
theorem dX2_readClause_29 : decode cX2_readClause 29 = .ok (.iload_n 3, 1) := by decide +kernel
theorem dX2_readClause_30 : decode cX2_readClause 30 = .ok (.iconst 0, 1) := by decide +kernel
theorem dX2_readClause_31 : decode cX2_readClause 31 = .ok (.invokevirtual 44, 3) := by decide +kernel
theorem dX2_readClause_34 : decode cX2_readClause 34 = .ok (.goto 33, 3) := by decide +kernel
theorem dX2_readClause_37 : decode cX2_readClause 37 = .ok (.aload_n 0, 1) := by decide +kernel
theorem dX2_readClause_38 : decode cX2_readClause 38 = .ok (.aload_n 1, 1) := by decide +kernel
theorem dX2_readClause_39 : decode cX2_readClause 39 = .ok (.iload_n 2, 1) := by decide +kernel
theorem dX2_readClause_40 : decode cX2_readClause 40 = .ok (.iload 4, 2) := by decide +kernel
theorem dX2_readClause_42 : decode cX2_readClause 42 = .ok (.invokevirtual 64, 3) := by decide +kernel
theorem dX2_readClause_45 : decode cX2_readClause 45 = .ok (.ifCond .eq 15, 3) := by decide +kernel
theorem dX2_readClause_48 : decode cX2_readClause 48 = .ok (.aload_n 0, 1) := by decide +kernel
theorem dX2_readClause_49 : decode cX2_readClause 49 = .ok (.getfield 9, 3) := by decide +kernel
theorem dX2_readClause_52 : decode cX2_readClause 52 = .ok (.iload_n 3, 1) := by decide +kernel
theorem dX2_readClause_53 : decode cX2_readClause 53 = .ok (.iconst 4, 1) := by decide +kernel
theorem dX2_readClause_54 : decode cX2_readClause 54 = .ok (.invokevirtual 44, 3) := by decide +kernel
theorem dX2_readClause_57 : decode cX2_readClause 57 = .ok (.goto 10, 3) := by decide +kernel
theorem dX2_readClause_60 : decode cX2_readClause 60 = .ok (.aload_n 0, 1) := by decide +kernel
theorem dX2_readClause_61 : decode cX2_readClause 61 = .ok (.aload_n 1, 1) := by decide +kernel
theorem dX2_readClause_62 : decode cX2_readClause 62 = .ok (.iload 4, 2) := by decide +kernel
theorem dX2_readClause_64 : decode cX2_readClause 64 = .ok (.invokevirtual 68, 3) := by decide +kernel
theorem dX2_readClause_67 : decode cX2_readClause 67 = .ok (.return_, 1) := by decide +kernel
theorem dX2_isTooMany_0 : decode cX2_isTooMany 0 = .ok (.iload_n 2, 1) := by decide +kernel
theorem dX2_isTooMany_1 : decode cX2_isTooMany 1 = .ok (.bipush 40, 2) := by decide +kernel
theorem dX2_isTooMany_3 : decode cX2_isTooMany 3 = .ok (.if_icmp .ge 50, 3) := by decide +kernel
theorem dX2_isTooMany_6 : decode cX2_isTooMany 6 = .ok (.iload_n 3, 1) := by decide +kernel
theorem dX2_isTooMany_7 : decode cX2_isTooMany 7 = .ok (.ifCond .ne 7, 3) := by decide +kernel
theorem dX2_isTooMany_10 : decode cX2_isTooMany 10 = .ok (.iconst 1, 1) := by decide +kernel
theorem dX2_isTooMany_11 : decode cX2_isTooMany 11 = .ok (.goto 4, 3) := by decide +kernel
theorem dX2_isTooMany_14 : decode cX2_isTooMany 14 = .ok (.iconst 0, 1) := by decide +kernel
theorem dX2_isTooMany_15 : decode cX2_isTooMany 15 = .ok (.iload_n 2, 1) := by decide +kernel
theorem dX2_isTooMany_16 : decode cX2_isTooMany 16 = .ok (.ifCond .ne 7, 3) := by decide +kernel
theorem dX2_isTooMany_19 : decode cX2_isTooMany 19 = .ok (.iconst 1, 1) := by decide +kernel
theorem dX2_isTooMany_20 : decode cX2_isTooMany 20 = .ok (.goto 4, 3) := by decide +kernel
theorem dX2_isTooMany_23 : decode cX2_isTooMany 23 = .ok (.iconst 0, 1) := by decide +kernel
theorem dX2_isTooMany_24 : decode cX2_isTooMany 24 = .ok (.if_icmp .ne 29, 3) := by decide +kernel
theorem dX2_isTooMany_27 : decode cX2_isTooMany 27 = .ok (.iload_n 3, 1) := by decide +kernel
theorem dX2_isTooMany_28 : decode cX2_isTooMany 28 = .ok (.iconst 1, 1) := by decide +kernel
theorem dX2_isTooMany_29 : decode cX2_isTooMany 29 = .ok (.if_icmp .ne 11, 3) := by decide +kernel
theorem dX2_isTooMany_32 : decode cX2_isTooMany 32 = .ok (.aload_n 1, 1) := by decide +kernel
theorem dX2_isTooMany_33 : decode cX2_isTooMany 33 = .ok (.getfield 71, 3) := by decide +kernel
theorem dX2_isTooMany_36 : decode cX2_isTooMany 36 = .ok (.iconst 4, 1) := by decide +kernel
theorem dX2_isTooMany_37 : decode cX2_isTooMany 37 = .ok (.if_icmp .ge 16, 3) := by decide +kernel
theorem dX2_isTooMany_40 : decode cX2_isTooMany 40 = .ok (.iload_n 3, 1) := by decide +kernel
theorem dX2_isTooMany_41 : decode cX2_isTooMany 41 = .ok (.iconst 2, 1) := by decide +kernel
theorem dX2_isTooMany_42 : decode cX2_isTooMany 42 = .ok (.if_icmp .ne 15, 3) := by decide +kernel
theorem dX2_isTooMany_45 : decode cX2_isTooMany 45 = .ok (.aload_n 1, 1) := by decide +kernel
theorem dX2_isTooMany_46 : decode cX2_isTooMany 46 = .ok (.getfield 74, 3) := by decide +kernel
theorem dX2_isTooMany_49 : decode cX2_isTooMany 49 = .ok (.iconst 4, 1) := by decide +kernel
theorem dX2_isTooMany_50 : decode cX2_isTooMany 50 = .ok (.if_icmp .lt 7, 3) := by decide +kernel
theorem dX2_isTooMany_53 : decode cX2_isTooMany 53 = .ok (.iconst 1, 1) := by decide +kernel
theorem dX2_isTooMany_54 : decode cX2_isTooMany 54 = .ok (.goto 4, 3) := by decide +kernel
theorem dX2_isTooMany_57 : decode cX2_isTooMany 57 = .ok (.iconst 0, 1) := by decide +kernel
theorem dX2_isTooMany_58 : decode cX2_isTooMany 58 = .ok (.ireturn, 1) := by decide +kernel
theorem dX2_readNumbers_0 : decode cX2_readNumbers 0 = .ok (.iload_n 2, 1) := by decide +kernel
theorem dX2_readNumbers_1 : decode cX2_readNumbers 1 = .ok (.tableswitch 122 0 4 #[35, 64, 81, 98, 110], 35) := by decide +kernel
theorem dX2_readNumbers_36 : decode cX2_readNumbers 36 = .ok (.aload_n 1, 1) := by decide +kernel
theorem dX2_readNumbers_37 : decode cX2_readNumbers 37 = .ok (.aload_n 0, 1) := by decide +kernel
theorem dX2_readNumbers_38 : decode cX2_readNumbers 38 = .ok (.getfield 9, 3) := by decide +kernel
theorem dX2_readNumbers_41 : decode cX2_readNumbers 41 = .ok (.bipush 99, 2) := by decide +kernel
theorem dX2_readNumbers_43 : decode cX2_readNumbers 43 = .ok (.invokevirtual 77, 3) := by decide +kernel
theorem dX2_readNumbers_46 : decode cX2_readNumbers 46 = .ok (.putfield 81, 3) := by decide +kernel
theorem dX2_readNumbers_49 : decode cX2_readNumbers 49 = .ok (.aload_n 1, 1) := by decide +kernel
theorem dX2_readNumbers_50 : decode cX2_readNumbers 50 = .ok (.aload_n 0, 1) := by decide +kernel
theorem dX2_readNumbers_51 : decode cX2_readNumbers 51 = .ok (.getfield 9, 3) := by decide +kernel
theorem dX2_readNumbers_54 : decode cX2_readNumbers 54 = .ok (.bipush 20, 2) := by decide +kernel
theorem dX2_readNumbers_56 : decode cX2_readNumbers 56 = .ok (.invokevirtual 77, 3) := by decide +kernel
theorem dX2_readNumbers_59 : decode cX2_readNumbers 59 = .ok (.putfield 84, 3) := by decide +kernel
theorem dX2_readNumbers_62 : decode cX2_readNumbers 62 = .ok (.goto 81, 3) := by decide +kernel
theorem dX2_readNumbers_65 : decode cX2_readNumbers 65 = .ok (.aload_n 1, 1) := by decide +kernel
theorem dX2_readNumbers_66 : decode cX2_readNumbers 66 = .ok (.aload_n 0, 1) := by decide +kernel
theorem dX2_readNumbers_67 : decode cX2_readNumbers 67 = .ok (.getfield 9, 3) := by decide +kernel
theorem dX2_readNumbers_70 : decode cX2_readNumbers 70 = .ok (.sipush 999, 3) := by decide +kernel
theorem dX2_readNumbers_73 : decode cX2_readNumbers 73 = .ok (.invokevirtual 77, 3) := by decide +kernel
theorem dX2_readNumbers_76 : decode cX2_readNumbers 76 = .ok (.invokevirtual 87, 3) := by decide +kernel
theorem dX2_readNumbers_79 : decode cX2_readNumbers 79 = .ok (.goto 64, 3) := by decide +kernel
theorem dX2_readNumbers_82 : decode cX2_readNumbers 82 = .ok (.aload_n 1, 1) := by decide +kernel
theorem dX2_readNumbers_83 : decode cX2_readNumbers 83 = .ok (.aload_n 0, 1) := by decide +kernel
theorem dX2_readNumbers_84 : decode cX2_readNumbers 84 = .ok (.getfield 9, 3) := by decide +kernel
theorem dX2_readNumbers_87 : decode cX2_readNumbers 87 = .ok (.sipush 999, 3) := by decide +kernel
theorem dX2_readNumbers_90 : decode cX2_readNumbers 90 = .ok (.invokevirtual 77, 3) := by decide +kernel
theorem dX2_readNumbers_93 : decode cX2_readNumbers 93 = .ok (.invokevirtual 91, 3) := by decide +kernel
theorem dX2_readNumbers_96 : decode cX2_readNumbers 96 = .ok (.goto 47, 3) := by decide +kernel
theorem dX2_readNumbers_99 : decode cX2_readNumbers 99 = .ok (.aload_n 0, 1) := by decide +kernel
theorem dX2_readNumbers_100 : decode cX2_readNumbers 100 = .ok (.aload_n 1, 1) := by decide +kernel
theorem dX2_readNumbers_101 : decode cX2_readNumbers 101 = .ok (.aload_n 1, 1) := by decide +kernel
theorem dX2_readNumbers_102 : decode cX2_readNumbers 102 = .ok (.getfield 94, 3) := by decide +kernel
theorem dX2_readNumbers_105 : decode cX2_readNumbers 105 = .ok (.invokevirtual 98, 3) := by decide +kernel
theorem dX2_readNumbers_108 : decode cX2_readNumbers 108 = .ok (.goto 35, 3) := by decide +kernel
theorem dX2_readNumbers_111 : decode cX2_readNumbers 111 = .ok (.aload_n 0, 1) := by decide +kernel
theorem dX2_readNumbers_112 : decode cX2_readNumbers 112 = .ok (.aload_n 1, 1) := by decide +kernel
theorem dX2_readNumbers_113 : decode cX2_readNumbers 113 = .ok (.aload_n 1, 1) := by decide +kernel
theorem dX2_readNumbers_114 : decode cX2_readNumbers 114 = .ok (.getfield 102, 3) := by decide +kernel
theorem dX2_readNumbers_117 : decode cX2_readNumbers 117 = .ok (.invokevirtual 98, 3) := by decide +kernel
theorem dX2_readNumbers_120 : decode cX2_readNumbers 120 = .ok (.goto 23, 3) := by decide +kernel
theorem dX2_readNumbers_123 : decode cX2_readNumbers 123 = .ok (.aload_n 1, 1) := by decide +kernel
theorem dX2_readNumbers_124 : decode cX2_readNumbers 124 = .ok (.dup, 1) := by decide +kernel
theorem dX2_readNumbers_125 : decode cX2_readNumbers 125 = .ok (.getfield 105, 3) := by decide +kernel
theorem dX2_readNumbers_128 : decode cX2_readNumbers 128 = .ok (.lconst 1, 1) := by decide +kernel
theorem dX2_readNumbers_129 : decode cX2_readNumbers 129 = .ok (.aload_n 0, 1) := by decide +kernel
theorem dX2_readNumbers_130 : decode cX2_readNumbers 130 = .ok (.getfield 9, 3) := by decide +kernel
theorem dX2_readNumbers_133 : decode cX2_readNumbers 133 = .ok (.bipush 60, 2) := by decide +kernel
theorem dX2_readNumbers_135 : decode cX2_readNumbers 135 = .ok (.invokevirtual 77, 3) := by decide +kernel
theorem dX2_readNumbers_138 : decode cX2_readNumbers 138 = .ok (.lshl, 1) := by decide +kernel
theorem dX2_readNumbers_139 : decode cX2_readNumbers 139 = .ok (.lor, 1) := by decide +kernel
theorem dX2_readNumbers_140 : decode cX2_readNumbers 140 = .ok (.putfield 105, 3) := by decide +kernel
theorem dX2_readNumbers_143 : decode cX2_readNumbers 143 = .ok (.return_, 1) := by decide +kernel
theorem dX2_readLikes_0 : decode cX2_readLikes 0 = .ok (.aload_n 0, 1) := by decide +kernel
theorem dX2_readLikes_1 : decode cX2_readLikes 1 = .ok (.getfield 9, 3) := by decide +kernel
theorem dX2_readLikes_4 : decode cX2_readLikes 4 = .ok (.aload_n 1, 1) := by decide +kernel
theorem dX2_readLikes_5 : decode cX2_readLikes 5 = .ok (.getfield 71, 3) := by decide +kernel
theorem dX2_readLikes_8 : decode cX2_readLikes 8 = .ok (.iconst 1, 1) := by decide +kernel
theorem dX2_readLikes_9 : decode cX2_readLikes 9 = .ok (.isub, 1) := by decide +kernel
theorem dX2_readLikes_10 : decode cX2_readLikes 10 = .ok (.invokevirtual 77, 3) := by decide +kernel
theorem dX2_readLikes_13 : decode cX2_readLikes 13 = .ok (.istore_n 3, 1) := by decide +kernel
theorem dX2_readLikes_14 : decode cX2_readLikes 14 = .ok (.aload_n 0, 1) := by decide +kernel
theorem dX2_readLikes_15 : decode cX2_readLikes 15 = .ok (.getfield 9, 3) := by decide +kernel
theorem dX2_readLikes_18 : decode cX2_readLikes 18 = .ok (.aload_n 1, 1) := by decide +kernel
theorem dX2_readLikes_19 : decode cX2_readLikes 19 = .ok (.getfield 74, 3) := by decide +kernel
theorem dX2_readLikes_22 : decode cX2_readLikes 22 = .ok (.iconst 1, 1) := by decide +kernel
theorem dX2_readLikes_23 : decode cX2_readLikes 23 = .ok (.isub, 1) := by decide +kernel
theorem dX2_readLikes_24 : decode cX2_readLikes 24 = .ok (.invokevirtual 77, 3) := by decide +kernel
theorem dX2_readLikes_27 : decode cX2_readLikes 27 = .ok (.istore 4, 2) := by decide +kernel
theorem dX2_readLikes_29 : decode cX2_readLikes 29 = .ok (.aload_n 0, 1) := by decide +kernel
theorem dX2_readLikes_30 : decode cX2_readLikes 30 = .ok (.getfield 9, 3) := by decide +kernel
theorem dX2_readLikes_33 : decode cX2_readLikes 33 = .ok (.bipush 20, 2) := by decide +kernel
theorem dX2_readLikes_35 : decode cX2_readLikes 35 = .ok (.invokevirtual 77, 3) := by decide +kernel
theorem dX2_readLikes_38 : decode cX2_readLikes 38 = .ok (.istore 5, 2) := by decide +kernel
theorem dX2_readLikes_40 : decode cX2_readLikes 40 = .ok (.aload_n 0, 1) := by decide +kernel
theorem dX2_readLikes_41 : decode cX2_readLikes 41 = .ok (.getfield 9, 3) := by decide +kernel
theorem dX2_readLikes_44 : decode cX2_readLikes 44 = .ok (.bipush 20, 2) := by decide +kernel
theorem dX2_readLikes_46 : decode cX2_readLikes 46 = .ok (.invokevirtual 77, 3) := by decide +kernel
theorem dX2_readLikes_49 : decode cX2_readLikes 49 = .ok (.istore 6, 2) := by decide +kernel
theorem dX2_readLikes_51 : decode cX2_readLikes 51 = .ok (.aload_n 0, 1) := by decide +kernel
theorem dX2_readLikes_52 : decode cX2_readLikes 52 = .ok (.getfield 9, 3) := by decide +kernel
theorem dX2_readLikes_55 : decode cX2_readLikes 55 = .ok (.getfield 29, 3) := by decide +kernel
theorem dX2_readLikes_58 : decode cX2_readLikes 58 = .ok (.ifCond .ne 25, 3) := by decide +kernel
theorem dX2_readLikes_61 : decode cX2_readLikes 61 = .ok (.aload_n 2, 1) := by decide +kernel
theorem dX2_readLikes_62 : decode cX2_readLikes 62 = .ok (.iconst 0, 1) := by decide +kernel
theorem dX2_readLikes_63 : decode cX2_readLikes 63 = .ok (.iload_n 3, 1) := by decide +kernel
theorem dX2_readLikes_64 : decode cX2_readLikes 64 = .ok (.iload 4, 2) := by decide +kernel
theorem dX2_readLikes_66 : decode cX2_readLikes 66 = .ok (.invokestatic 109, 3) := by decide +kernel
theorem dX2_readLikes_69 : decode cX2_readLikes 69 = .ok (.iload 5, 2) := by decide +kernel
theorem dX2_readLikes_71 : decode cX2_readLikes 71 = .ok (.iastore, 1) := by decide +kernel
theorem dX2_readLikes_72 : decode cX2_readLikes 72 = .ok (.aload_n 2, 1) := by decide +kernel
theorem dX2_readLikes_73 : decode cX2_readLikes 73 = .ok (.iconst 1, 1) := by decide +kernel
theorem dX2_readLikes_74 : decode cX2_readLikes 74 = .ok (.iload_n 3, 1) := by decide +kernel
theorem dX2_readLikes_75 : decode cX2_readLikes 75 = .ok (.iload 4, 2) := by decide +kernel
theorem dX2_readLikes_77 : decode cX2_readLikes 77 = .ok (.invokestatic 109, 3) := by decide +kernel
theorem dX2_readLikes_80 : decode cX2_readLikes 80 = .ok (.iload 6, 2) := by decide +kernel
theorem dX2_readLikes_82 : decode cX2_readLikes 82 = .ok (.iastore, 1) := by decide +kernel
theorem dX2_readLikes_83 : decode cX2_readLikes 83 = .ok (.return_, 1) := by decide +kernel
theorem dX3_init_0 : decode cX3_init 0 = .ok (.aload_n 0, 1) := by decide +kernel
theorem dX3_init_1 : decode cX3_init 1 = .ok (.invokespecial 3, 3) := by decide +kernel
theorem dX3_init_4 : decode cX3_init 4 = .ok (.aload_n 0, 1) := by decide +kernel
theorem dX3_init_5 : decode cX3_init 5 = .ok (.bipush 11, 2) := by decide +kernel
theorem dX3_init_7 : decode cX3_init 7 = .ok (.newarray .long, 2) := by decide +kernel
theorem dX3_init_9 : decode cX3_init 9 = .ok (.putfield 11, 3) := by decide +kernel
theorem dX3_init_12 : decode cX3_init 12 = .ok (.aload_n 0, 1) := by decide +kernel
theorem dX3_init_13 : decode cX3_init 13 = .ok (.bipush 64, 2) := by decide +kernel
theorem dX3_init_15 : decode cX3_init 15 = .ok (.newarray .long, 2) := by decide +kernel
theorem dX3_init_17 : decode cX3_init 17 = .ok (.putfield 15, 3) := by decide +kernel
theorem dX3_init_20 : decode cX3_init 20 = .ok (.return_, 1) := by decide +kernel
theorem dX3_stays_0 : decode cX3_stays 0 = .ok (.aload_n 2, 1) := by decide +kernel
theorem dX3_stays_1 : decode cX3_stays 1 = .ok (.ifnonnull 25, 3) := by decide +kernel
theorem dX3_stays_4 : decode cX3_stays 4 = .ok (.aload_n 1, 1) := by decide +kernel
theorem dX3_stays_5 : decode cX3_stays 5 = .ok (.iload_n 3, 1) := by decide +kernel
theorem dX3_stays_6 : decode cX3_stays 6 = .ok (.iload 4, 2) := by decide +kernel
theorem dX3_stays_8 : decode cX3_stays 8 = .ok (.iload 5, 2) := by decide +kernel
theorem dX3_stays_10 : decode cX3_stays 10 = .ok (.invokevirtual 18, 3) := by decide +kernel
theorem dX3_stays_13 : decode cX3_stays 13 = .ok (.aload_n 1, 1) := by decide +kernel
theorem dX3_stays_14 : decode cX3_stays 14 = .ok (.getfield 24, 3) := by decide +kernel
theorem dX3_stays_17 : decode cX3_stays 17 = .ok (.if_icmp .lt 7, 3) := by decide +kernel
theorem dX3_stays_20 : decode cX3_stays 20 = .ok (.iconst 1, 1) := by decide +kernel
theorem dX3_stays_21 : decode cX3_stays 21 = .ok (.goto 4, 3) := by decide +kernel
theorem dX3_stays_24 : decode cX3_stays 24 = .ok (.iconst 0, 1) := by decide +kernel
theorem dX3_stays_25 : decode cX3_stays 25 = .ok (.ireturn, 1) := by decide +kernel
theorem dX3_stays_26 : decode cX3_stays 26 = .ok (.aload_n 0, 1) := by decide +kernel
theorem dX3_stays_27 : decode cX3_stays 27 = .ok (.aload_n 1, 1) := by decide +kernel
theorem dX3_stays_28 : decode cX3_stays 28 = .ok (.iload_n 3, 1) := by decide +kernel
theorem dX3_stays_29 : decode cX3_stays 29 = .ok (.iload 4, 2) := by decide +kernel
theorem dX3_stays_31 : decode cX3_stays 31 = .ok (.iload 5, 2) := by decide +kernel
theorem dX3_stays_33 : decode cX3_stays 33 = .ok (.invokevirtual 28, 3) := by decide +kernel
theorem dX3_stays_36 : decode cX3_stays 36 = .ok (.iconst 0, 1) := by decide +kernel
theorem dX3_stays_37 : decode cX3_stays 37 = .ok (.istore 6, 2) := by decide +kernel
theorem dX3_stays_39 : decode cX3_stays 39 = .ok (.iload 6, 2) := by decide +kernel
theorem dX3_stays_41 : decode cX3_stays 41 = .ok (.aload_n 2, 1) := by decide +kernel
theorem dX3_stays_42 : decode cX3_stays 42 = .ok (.getfield 32, 3) := by decide +kernel
theorem dX3_stays_45 : decode cX3_stays 45 = .ok (.if_icmp .ge 73, 3) := by decide +kernel
theorem dX3_stays_48 : decode cX3_stays 48 = .ok (.aload_n 2, 1) := by decide +kernel
theorem dX3_stays_49 : decode cX3_stays 49 = .ok (.getfield 37, 3) := by decide +kernel
theorem dX3_stays_52 : decode cX3_stays 52 = .ok (.iload 6, 2) := by decide +kernel
theorem dX3_stays_54 : decode cX3_stays 54 = .ok (.iaload, 1) := by decide +kernel
theorem dX3_stays_55 : decode cX3_stays 55 = .ok (.istore 7, 2) := by decide +kernel
theorem dX3_stays_57 : decode cX3_stays 57 = .ok (.aload_n 2, 1) := by decide +kernel
theorem dX3_stays_58 : decode cX3_stays 58 = .ok (.getfield 41, 3) := by decide +kernel
theorem dX3_stays_61 : decode cX3_stays 61 = .ok (.iload 6, 2) := by decide +kernel
theorem dX3_stays_63 : decode cX3_stays 63 = .ok (.iaload, 1) := by decide +kernel
theorem dX3_stays_64 : decode cX3_stays 64 = .ok (.istore 8, 2) := by decide +kernel
theorem dX3_stays_66 : decode cX3_stays 66 = .ok (.iload 7, 2) := by decide +kernel
theorem dX3_stays_68 : decode cX3_stays 68 = .ok (.iload 8, 2) := by decide +kernel
theorem dX3_stays_70 : decode cX3_stays 70 = .ok (.if_icmp .eq 17, 3) := by decide +kernel
theorem dX3_stays_73 : decode cX3_stays 73 = .ok (.aload_n 0, 1) := by decide +kernel
theorem dX3_stays_74 : decode cX3_stays 74 = .ok (.aload_n 2, 1) := by decide +kernel
theorem dX3_stays_75 : decode cX3_stays 75 = .ok (.iload 7, 2) := by decide +kernel
theorem dX3_stays_77 : decode cX3_stays 77 = .ok (.iload 8, 2) := by decide +kernel
theorem dX3_stays_79 : decode cX3_stays 79 = .ok (.invokevirtual 44, 3) := by decide +kernel
theorem dX3_stays_82 : decode cX3_stays 82 = .ok (.lconst 0, 1) := by decide +kernel
theorem dX3_stays_83 : decode cX3_stays 83 = .ok (.lcmp, 1) := by decide +kernel
theorem dX3_stays_84 : decode cX3_stays 84 = .ok (.ifCond .eq 28, 3) := by decide +kernel
theorem dX3_stays_87 : decode cX3_stays 87 = .ok (.aload_n 0, 1) := by decide +kernel
theorem dX3_stays_88 : decode cX3_stays 88 = .ok (.aload_n 2, 1) := by decide +kernel
theorem dX3_stays_89 : decode cX3_stays 89 = .ok (.aload_n 2, 1) := by decide +kernel
theorem dX3_stays_90 : decode cX3_stays 90 = .ok (.getfield 48, 3) := by decide +kernel
theorem dX3_stays_93 : decode cX3_stays 93 = .ok (.iload 6, 2) := by decide +kernel
theorem dX3_stays_95 : decode cX3_stays 95 = .ok (.iaload, 1) := by decide +kernel
theorem dX3_stays_96 : decode cX3_stays 96 = .ok (.iload 7, 2) := by decide +kernel
theorem dX3_stays_98 : decode cX3_stays 98 = .ok (.invokevirtual 44, 3) := by decide +kernel
theorem dX3_stays_101 : decode cX3_stays 101 = .ok (.lconst 0, 1) := by decide +kernel
theorem dX3_stays_102 : decode cX3_stays 102 = .ok (.lcmp, 1) := by decide +kernel
theorem dX3_stays_103 : decode cX3_stays 103 = .ok (.ifCond .le 7, 3) := by decide +kernel
theorem dX3_stays_106 : decode cX3_stays 106 = .ok (.iconst 1, 1) := by decide +kernel
theorem dX3_stays_107 : decode cX3_stays 107 = .ok (.goto 4, 3) := by decide +kernel
theorem dX3_stays_110 : decode cX3_stays 110 = .ok (.iconst 0, 1) := by decide +kernel
theorem dX3_stays_111 : decode cX3_stays 111 = .ok (.ireturn, 1) := by decide +kernel
theorem dX3_stays_112 : decode cX3_stays 112 = .ok (.iinc 6 1, 3) := by decide +kernel
theorem dX3_stays_115 : decode cX3_stays 115 = .ok (.goto (-76), 3) := by decide +kernel
theorem dX3_stays_118 : decode cX3_stays 118 = .ok (.iconst 0, 1) := by decide +kernel
theorem dX3_stays_119 : decode cX3_stays 119 = .ok (.ireturn, 1) := by decide +kernel
theorem dX3_lookAt_0 : decode cX3_lookAt 0 = .ok (.iload_n 2, 1) := by decide +kernel
theorem dX3_lookAt_1 : decode cX3_lookAt 1 = .ok (.ifCond .ne 7, 3) := by decide +kernel
theorem dX3_lookAt_4 : decode cX3_lookAt 4 = .ok (.iload_n 3, 1) := by decide +kernel
theorem dX3_lookAt_5 : decode cX3_lookAt 5 = .ok (.goto 5, 3) := by decide +kernel
theorem dX3_lookAt_8 : decode cX3_lookAt 8 = .ok (.iload 4, 2) := by decide +kernel
theorem dX3_lookAt_10 : decode cX3_lookAt 10 = .ok (.istore 5, 2) := by decide +kernel
theorem dX3_lookAt_12 : decode cX3_lookAt 12 = .ok (.aload_n 0, 1) := by decide +kernel
theorem dX3_lookAt_13 : decode cX3_lookAt 13 = .ok (.getfield 11, 3) := by decide +kernel
theorem dX3_lookAt_16 : decode cX3_lookAt 16 = .ok (.iconst 0, 1) := by decide +kernel
theorem dX3_lookAt_17 : decode cX3_lookAt 17 = .ok (.iload_n 2, 1) := by decide +kernel
theorem dX3_lookAt_18 : decode cX3_lookAt 18 = .ok (.i2l, 1) := by decide +kernel
theorem dX3_lookAt_19 : decode cX3_lookAt 19 = .ok (.lastore, 1) := by decide +kernel
theorem dX3_lookAt_20 : decode cX3_lookAt 20 = .ok (.aload_n 0, 1) := by decide +kernel
theorem dX3_lookAt_21 : decode cX3_lookAt 21 = .ok (.getfield 11, 3) := by decide +kernel
theorem dX3_lookAt_24 : decode cX3_lookAt 24 = .ok (.iconst 1, 1) := by decide +kernel
theorem dX3_lookAt_25 : decode cX3_lookAt 25 = .ok (.iload 5, 2) := by decide +kernel
theorem dX3_lookAt_27 : decode cX3_lookAt 27 = .ok (.i2l, 1) := by decide +kernel
theorem dX3_lookAt_28 : decode cX3_lookAt 28 = .ok (.lastore, 1) := by decide +kernel
theorem dX3_lookAt_29 : decode cX3_lookAt 29 = .ok (.aload_n 0, 1) := by decide +kernel
theorem dX3_lookAt_30 : decode cX3_lookAt 30 = .ok (.getfield 11, 3) := by decide +kernel
theorem dX3_lookAt_33 : decode cX3_lookAt 33 = .ok (.iconst 2, 1) := by decide +kernel
theorem dX3_lookAt_34 : decode cX3_lookAt 34 = .ok (.iload_n 2, 1) := by decide +kernel
theorem dX3_lookAt_35 : decode cX3_lookAt 35 = .ok (.ifCond .ne 9, 3) := by decide +kernel
theorem dX3_lookAt_38 : decode cX3_lookAt 38 = .ok (.iload 4, 2) := by decide +kernel
theorem dX3_lookAt_40 : decode cX3_lookAt 40 = .ok (.i2l, 1) := by decide +kernel
theorem dX3_lookAt_41 : decode cX3_lookAt 41 = .ok (.goto 5, 3) := by decide +kernel
theorem dX3_lookAt_44 : decode cX3_lookAt 44 = .ok (.iload_n 3, 1) := by decide +kernel
theorem dX3_lookAt_45 : decode cX3_lookAt 45 = .ok (.i2l, 1) := by decide +kernel
theorem dX3_lookAt_46 : decode cX3_lookAt 46 = .ok (.lastore, 1) := by decide +kernel
theorem dX3_lookAt_47 : decode cX3_lookAt 47 = .ok (.aload_n 0, 1) := by decide +kernel
theorem dX3_lookAt_48 : decode cX3_lookAt 48 = .ok (.getfield 11, 3) := by decide +kernel
theorem dX3_lookAt_51 : decode cX3_lookAt 51 = .ok (.iconst 3, 1) := by decide +kernel
theorem dX3_lookAt_52 : decode cX3_lookAt 52 = .ok (.aload_n 1, 1) := by decide +kernel
theorem dX3_lookAt_53 : decode cX3_lookAt 53 = .ok (.iload_n 2, 1) := by decide +kernel
theorem dX3_lookAt_54 : decode cX3_lookAt 54 = .ok (.iload_n 3, 1) := by decide +kernel
theorem dX3_lookAt_55 : decode cX3_lookAt 55 = .ok (.iload 4, 2) := by decide +kernel
theorem dX3_lookAt_57 : decode cX3_lookAt 57 = .ok (.invokevirtual 18, 3) := by decide +kernel
theorem dX3_lookAt_60 : decode cX3_lookAt 60 = .ok (.i2l, 1) := by decide +kernel
theorem dX3_lookAt_61 : decode cX3_lookAt 61 = .ok (.lastore, 1) := by decide +kernel
theorem dX3_lookAt_62 : decode cX3_lookAt 62 = .ok (.aload_n 0, 1) := by decide +kernel
theorem dX3_lookAt_63 : decode cX3_lookAt 63 = .ok (.getfield 11, 3) := by decide +kernel
theorem dX3_lookAt_66 : decode cX3_lookAt 66 = .ok (.iconst 4, 1) := by decide +kernel
theorem dX3_lookAt_67 : decode cX3_lookAt 67 = .ok (.aload_n 1, 1) := by decide +kernel
theorem dX3_lookAt_68 : decode cX3_lookAt 68 = .ok (.iconst 1, 1) := by decide +kernel
theorem dX3_lookAt_69 : decode cX3_lookAt 69 = .ok (.iload_n 2, 1) := by decide +kernel
theorem dX3_lookAt_70 : decode cX3_lookAt 70 = .ok (.isub, 1) := by decide +kernel
theorem dX3_lookAt_71 : decode cX3_lookAt 71 = .ok (.iload_n 3, 1) := by decide +kernel
theorem dX3_lookAt_72 : decode cX3_lookAt 72 = .ok (.iload 4, 2) := by decide +kernel
theorem dX3_lookAt_74 : decode cX3_lookAt 74 = .ok (.invokevirtual 18, 3) := by decide +kernel
theorem dX3_lookAt_77 : decode cX3_lookAt 77 = .ok (.i2l, 1) := by decide +kernel
theorem dX3_lookAt_78 : decode cX3_lookAt 78 = .ok (.lastore, 1) := by decide +kernel
theorem dX3_lookAt_79 : decode cX3_lookAt 79 = .ok (.aload_n 0, 1) := by decide +kernel
theorem dX3_lookAt_80 : decode cX3_lookAt 80 = .ok (.getfield 11, 3) := by decide +kernel
theorem dX3_lookAt_83 : decode cX3_lookAt 83 = .ok (.iconst 5, 1) := by decide +kernel
theorem dX3_lookAt_84 : decode cX3_lookAt 84 = .ok (.aload_n 1, 1) := by decide +kernel
theorem dX3_lookAt_85 : decode cX3_lookAt 85 = .ok (.getfield 51, 3) := by decide +kernel
theorem dX3_lookAt_88 : decode cX3_lookAt 88 = .ok (.iload_n 3, 1) := by decide +kernel
theorem dX3_lookAt_89 : decode cX3_lookAt 89 = .ok (.iaload, 1) := by decide +kernel
theorem dX3_lookAt_90 : decode cX3_lookAt 90 = .ok (.i2l, 1) := by decide +kernel
theorem dX3_lookAt_91 : decode cX3_lookAt 91 = .ok (.lastore, 1) := by decide +kernel
theorem dX3_lookAt_92 : decode cX3_lookAt 92 = .ok (.aload_n 0, 1) := by decide +kernel
theorem dX3_lookAt_93 : decode cX3_lookAt 93 = .ok (.getfield 11, 3) := by decide +kernel
theorem dX3_lookAt_96 : decode cX3_lookAt 96 = .ok (.bipush 6, 2) := by decide +kernel
theorem dX3_lookAt_98 : decode cX3_lookAt 98 = .ok (.aload_n 1, 1) := by decide +kernel
theorem dX3_lookAt_99 : decode cX3_lookAt 99 = .ok (.iload_n 2, 1) := by decide +kernel
theorem dX3_lookAt_100 : decode cX3_lookAt 100 = .ok (.iload 5, 2) := by decide +kernel
theorem dX3_lookAt_102 : decode cX3_lookAt 102 = .ok (.invokevirtual 54, 3) := by decide +kernel
theorem dX3_lookAt_105 : decode cX3_lookAt 105 = .ok (.i2l, 1) := by decide +kernel
theorem dX3_lookAt_106 : decode cX3_lookAt 106 = .ok (.lastore, 1) := by decide +kernel
theorem dX3_lookAt_107 : decode cX3_lookAt 107 = .ok (.aload_n 0, 1) := by decide +kernel
theorem dX3_lookAt_108 : decode cX3_lookAt 108 = .ok (.getfield 11, 3) := by decide +kernel
theorem dX3_lookAt_111 : decode cX3_lookAt 111 = .ok (.bipush 7, 2) := by decide +kernel
theorem dX3_lookAt_113 : decode cX3_lookAt 113 = .ok (.aload_n 1, 1) := by decide +kernel
theorem dX3_lookAt_114 : decode cX3_lookAt 114 = .ok (.getfield 58, 3) := by decide +kernel
theorem dX3_lookAt_117 : decode cX3_lookAt 117 = .ok (.i2l, 1) := by decide +kernel
theorem dX3_lookAt_118 : decode cX3_lookAt 118 = .ok (.lastore, 1) := by decide +kernel
theorem dX3_lookAt_119 : decode cX3_lookAt 119 = .ok (.aload_n 0, 1) := by decide +kernel
theorem dX3_lookAt_120 : decode cX3_lookAt 120 = .ok (.getfield 11, 3) := by decide +kernel
theorem dX3_lookAt_123 : decode cX3_lookAt 123 = .ok (.bipush 8, 2) := by decide +kernel
theorem dX3_lookAt_125 : decode cX3_lookAt 125 = .ok (.aload_n 1, 1) := by decide +kernel
theorem dX3_lookAt_126 : decode cX3_lookAt 126 = .ok (.iload_n 2, 1) := by decide +kernel
theorem dX3_lookAt_127 : decode cX3_lookAt 127 = .ok (.iload 5, 2) := by decide +kernel
theorem dX3_lookAt_129 : decode cX3_lookAt 129 = .ok (.invokevirtual 61, 3) := by decide +kernel
theorem dX3_lookAt_132 : decode cX3_lookAt 132 = .ok (.i2l, 1) := by decide +kernel
theorem dX3_lookAt_133 : decode cX3_lookAt 133 = .ok (.lastore, 1) := by decide +kernel
theorem dX3_lookAt_134 : decode cX3_lookAt 134 = .ok (.aload_n 0, 1) := by decide +kernel
theorem dX3_lookAt_135 : decode cX3_lookAt 135 = .ok (.getfield 11, 3) := by decide +kernel
theorem dX3_lookAt_138 : decode cX3_lookAt 138 = .ok (.bipush 9, 2) := by decide +kernel
theorem dX3_lookAt_140 : decode cX3_lookAt 140 = .ok (.aload_n 1, 1) := by decide +kernel
theorem dX3_lookAt_141 : decode cX3_lookAt 141 = .ok (.getfield 64, 3) := by decide +kernel
theorem dX3_lookAt_144 : decode cX3_lookAt 144 = .ok (.i2l, 1) := by decide +kernel
theorem dX3_lookAt_145 : decode cX3_lookAt 145 = .ok (.lastore, 1) := by decide +kernel
theorem dX3_lookAt_146 : decode cX3_lookAt 146 = .ok (.aload_n 0, 1) := by decide +kernel
theorem dX3_lookAt_147 : decode cX3_lookAt 147 = .ok (.getfield 11, 3) := by decide +kernel
theorem dX3_lookAt_150 : decode cX3_lookAt 150 = .ok (.bipush 10, 2) := by decide +kernel
theorem dX3_lookAt_152 : decode cX3_lookAt 152 = .ok (.aload_n 1, 1) := by decide +kernel
theorem dX3_lookAt_153 : decode cX3_lookAt 153 = .ok (.iload_n 2, 1) := by decide +kernel
theorem dX3_lookAt_154 : decode cX3_lookAt 154 = .ok (.iload 5, 2) := by decide +kernel
theorem dX3_lookAt_156 : decode cX3_lookAt 156 = .ok (.invokevirtual 67, 3) := by decide +kernel
theorem dX3_lookAt_159 : decode cX3_lookAt 159 = .ok (.i2l, 1) := by decide +kernel
theorem dX3_lookAt_160 : decode cX3_lookAt 160 = .ok (.lastore, 1) := by decide +kernel
theorem dX3_lookAt_161 : decode cX3_lookAt 161 = .ok (.return_, 1) := by decide +kernel
theorem dX3_value_0 : decode cX3_value 0 = .ok (.iconst 0, 1) := by decide +kernel
theorem dX3_value_1 : decode cX3_value 1 = .ok (.istore 4, 2) := by decide +kernel
theorem dX3_value_3 : decode cX3_value 3 = .ok (.iload_n 2, 1) := by decide +kernel
theorem dX3_value_4 : decode cX3_value 4 = .ok (.istore 5, 2) := by decide +kernel
theorem dX3_value_6 : decode cX3_value 6 = .ok (.iload 5, 2) := by decide +kernel
theorem dX3_value_8 : decode cX3_value 8 = .ok (.iload_n 3, 1) := by decide +kernel
theorem dX3_value_9 : decode cX3_value 9 = .ok (.if_icmp .ge 166, 3) := by decide +kernel
theorem dX3_value_12 : decode cX3_value 12 = .ok (.aload_n 1, 1) := by decide +kernel
theorem dX3_value_13 : decode cX3_value 13 = .ok (.getfield 70, 3) := by decide +kernel
theorem dX3_value_16 : decode cX3_value 16 = .ok (.iload 5, 2) := by decide +kernel
theorem dX3_value_18 : decode cX3_value 18 = .ok (.iaload, 1) := by decide +kernel
theorem dX3_value_19 : decode cX3_value 19 = .ok (.bipush 15, 2) := by decide +kernel
theorem dX3_value_21 : decode cX3_value 21 = .ok (.iand, 1) := by decide +kernel
theorem dX3_value_22 : decode cX3_value 22 = .ok (.istore 6, 2) := by decide +kernel
theorem dX3_value_24 : decode cX3_value 24 = .ok (.aload_n 1, 1) := by decide +kernel
theorem dX3_value_25 : decode cX3_value 25 = .ok (.getfield 70, 3) := by decide +kernel
theorem dX3_value_28 : decode cX3_value 28 = .ok (.iload 5, 2) := by decide +kernel
theorem dX3_value_30 : decode cX3_value 30 = .ok (.iaload, 1) := by decide +kernel
theorem dX3_value_31 : decode cX3_value 31 = .ok (.iconst 4, 1) := by decide +kernel
theorem dX3_value_32 : decode cX3_value 32 = .ok (.ishr, 1) := by decide +kernel
theorem dX3_value_33 : decode cX3_value 33 = .ok (.istore 7, 2) := by decide +kernel
theorem dX3_value_35 : decode cX3_value 35 = .ok (.iload 6, 2) := by decide +kernel
theorem dX3_value_37 : decode cX3_value 37 = .ok (.ifCond .eq 9, 3) := by decide +kernel
theorem dX3_value_40 : decode cX3_value 40 = .ok (.iload 6, 2) := by decide +kernel
theorem dX3_value_42 : decode cX3_value 42 = .ok (.iconst 1, 1) := by decide +kernel
theorem dX3_value_43 : decode cX3_value 43 = .ok (.if_icmp .ne 40, 3) := by decide +kernel
theorem dX3_value_46 : decode cX3_value 46 = .ok (.iload 4, 2) := by decide +kernel
theorem dX3_value_48 : decode cX3_value 48 = .ok (.bipush 64, 2) := by decide +kernel
theorem dX3_value_50 : decode cX3_value 50 = .ok (.if_icmp .ge 119, 3) := by decide +kernel
theorem dX3_value_53 : decode cX3_value 53 = .ok (.aload_n 0, 1) := by decide +kernel
theorem dX3_value_54 : decode cX3_value 54 = .ok (.getfield 15, 3) := by decide +kernel
theorem dX3_value_57 : decode cX3_value 57 = .ok (.iload 4, 2) := by decide +kernel
theorem dX3_value_59 : decode cX3_value 59 = .ok (.iload 6, 2) := by decide +kernel
theorem dX3_value_61 : decode cX3_value 61 = .ok (.ifCond .ne 9, 3) := by decide +kernel
theorem dX3_value_64 : decode cX3_value 64 = .ok (.iload 7, 2) := by decide +kernel
theorem dX3_value_66 : decode cX3_value 66 = .ok (.i2l, 1) := by decide +kernel
theorem dX3_value_67 : decode cX3_value 67 = .ok (.goto 9, 3) := by decide +kernel
theorem dX3_value_70 : decode cX3_value 70 = .ok (.aload_n 0, 1) := by decide +kernel
theorem dX3_value_71 : decode cX3_value 71 = .ok (.iload 7, 2) := by decide +kernel
theorem dX3_value_73 : decode cX3_value 73 = .ok (.invokevirtual 73, 3) := by decide +kernel
theorem dX3_value_76 : decode cX3_value 76 = .ok (.lastore, 1) := by decide +kernel
theorem dX3_value_77 : decode cX3_value 77 = .ok (.iinc 4 1, 3) := by decide +kernel
theorem dX3_value_80 : decode cX3_value 80 = .ok (.goto 89, 3) := by decide +kernel
theorem dX3_value_83 : decode cX3_value 83 = .ok (.iload 6, 2) := by decide +kernel
theorem dX3_value_85 : decode cX3_value 85 = .ok (.bipush 14, 2) := by decide +kernel
theorem dX3_value_87 : decode cX3_value 87 = .ok (.if_icmp .ne 40, 3) := by decide +kernel
theorem dX3_value_90 : decode cX3_value 90 = .ok (.iload 4, 2) := by decide +kernel
theorem dX3_value_92 : decode cX3_value 92 = .ok (.iconst 1, 1) := by decide +kernel
theorem dX3_value_93 : decode cX3_value 93 = .ok (.if_icmp .lt 76, 3) := by decide +kernel
theorem dX3_value_96 : decode cX3_value 96 = .ok (.aload_n 0, 1) := by decide +kernel
theorem dX3_value_97 : decode cX3_value 97 = .ok (.getfield 15, 3) := by decide +kernel
theorem dX3_value_100 : decode cX3_value 100 = .ok (.iload 4, 2) := by decide +kernel
theorem dX3_value_102 : decode cX3_value 102 = .ok (.iconst 1, 1) := by decide +kernel
theorem dX3_value_103 : decode cX3_value 103 = .ok (.isub, 1) := by decide +kernel
theorem dX3_value_104 : decode cX3_value 104 = .ok (.aload_n 0, 1) := by decide +kernel
theorem dX3_value_105 : decode cX3_value 105 = .ok (.getfield 15, 3) := by decide +kernel
theorem dX3_value_108 : decode cX3_value 108 = .ok (.iload 4, 2) := by decide +kernel
theorem dX3_value_110 : decode cX3_value 110 = .ok (.iconst 1, 1) := by decide +kernel
theorem dX3_value_111 : decode cX3_value 111 = .ok (.isub, 1) := by decide +kernel
theorem dX3_value_112 : decode cX3_value 112 = .ok (.laload, 1) := by decide +kernel
theorem dX3_value_113 : decode cX3_value 113 = .ok (.lconst 0, 1) := by decide +kernel
theorem dX3_value_114 : decode cX3_value 114 = .ok (.lcmp, 1) := by decide +kernel
theorem dX3_value_115 : decode cX3_value 115 = .ok (.ifCond .ne 7, 3) := by decide +kernel
theorem dX3_value_118 : decode cX3_value 118 = .ok (.lconst 1, 1) := by decide +kernel
theorem dX3_value_119 : decode cX3_value 119 = .ok (.goto 4, 3) := by decide +kernel
theorem dX3_value_122 : decode cX3_value 122 = .ok (.lconst 0, 1) := by decide +kernel
theorem dX3_value_123 : decode cX3_value 123 = .ok (.lastore, 1) := by decide +kernel
theorem dX3_value_124 : decode cX3_value 124 = .ok (.goto 45, 3) := by decide +kernel
theorem dX3_value_127 : decode cX3_value 127 = .ok (.iload 4, 2) := by decide +kernel
theorem dX3_value_129 : decode cX3_value 129 = .ok (.iconst 2, 1) := by decide +kernel
theorem dX3_value_130 : decode cX3_value 130 = .ok (.if_icmp .lt 39, 3) := by decide +kernel
theorem dX3_value_133 : decode cX3_value 133 = .ok (.aload_n 0, 1) := by decide +kernel
theorem dX3_value_134 : decode cX3_value 134 = .ok (.getfield 15, 3) := by decide +kernel
theorem dX3_value_137 : decode cX3_value 137 = .ok (.iload 4, 2) := by decide +kernel
theorem dX3_value_139 : decode cX3_value 139 = .ok (.iconst 2, 1) := by decide +kernel
theorem dX3_value_140 : decode cX3_value 140 = .ok (.isub, 1) := by decide +kernel
theorem dX3_value_141 : decode cX3_value 141 = .ok (.aload_n 0, 1) := by decide +kernel
theorem dX3_value_142 : decode cX3_value 142 = .ok (.iload 6, 2) := by decide +kernel
theorem dX3_value_144 : decode cX3_value 144 = .ok (.aload_n 0, 1) := by decide +kernel
theorem dX3_value_145 : decode cX3_value 145 = .ok (.getfield 15, 3) := by decide +kernel
theorem dX3_value_148 : decode cX3_value 148 = .ok (.iload 4, 2) := by decide +kernel
theorem dX3_value_150 : decode cX3_value 150 = .ok (.iconst 2, 1) := by decide +kernel
theorem dX3_value_151 : decode cX3_value 151 = .ok (.isub, 1) := by decide +kernel
theorem dX3_value_152 : decode cX3_value 152 = .ok (.laload, 1) := by decide +kernel
theorem dX3_value_153 : decode cX3_value 153 = .ok (.aload_n 0, 1) := by decide +kernel
theorem dX3_value_154 : decode cX3_value 154 = .ok (.getfield 15, 3) := by decide +kernel
theorem dX3_value_157 : decode cX3_value 157 = .ok (.iload 4, 2) := by decide +kernel
theorem dX3_value_159 : decode cX3_value 159 = .ok (.iconst 1, 1) := by decide +kernel
theorem dX3_value_160 : decode cX3_value 160 = .ok (.isub, 1) := by decide +kernel
theorem dX3_value_161 : decode cX3_value 161 = .ok (.laload, 1) := by decide +kernel
theorem dX3_value_162 : decode cX3_value 162 = .ok (.invokevirtual 77, 3) := by decide +kernel
theorem dX3_value_165 : decode cX3_value 165 = .ok (.lastore, 1) := by decide +kernel
theorem dX3_value_166 : decode cX3_value 166 = .ok (.iinc 4 (-1), 3) := by decide +kernel
theorem dX3_value_169 : decode cX3_value 169 = .ok (.iinc 5 1, 3) := by decide +kernel
theorem dX3_value_172 : decode cX3_value 172 = .ok (.goto (-166), 3) := by decide +kernel
theorem dX3_value_175 : decode cX3_value 175 = .ok (.aload_n 0, 1) := by decide +kernel
theorem dX3_value_176 : decode cX3_value 176 = .ok (.getfield 15, 3) := by decide +kernel
theorem dX3_value_179 : decode cX3_value 179 = .ok (.iconst 0, 1) := by decide +kernel
theorem dX3_value_180 : decode cX3_value 180 = .ok (.laload, 1) := by decide +kernel
theorem dX3_value_181 : decode cX3_value 181 = .ok (.lreturn, 1) := by decide +kernel
theorem dX3_wordValue_0 : decode cX3_wordValue 0 = .ok (.iload_n 1, 1) := by decide +kernel
theorem dX3_wordValue_1 : decode cX3_wordValue 1 = .ok (.ifCond .lt 18, 3) := by decide +kernel
theorem dX3_wordValue_4 : decode cX3_wordValue 4 = .ok (.iload_n 1, 1) := by decide +kernel
theorem dX3_wordValue_5 : decode cX3_wordValue 5 = .ok (.bipush 11, 2) := by decide +kernel
theorem dX3_wordValue_7 : decode cX3_wordValue 7 = .ok (.if_icmp .ge 12, 3) := by decide +kernel
theorem dX3_wordValue_10 : decode cX3_wordValue 10 = .ok (.aload_n 0, 1) := by decide +kernel
theorem dX3_wordValue_11 : decode cX3_wordValue 11 = .ok (.getfield 11, 3) := by decide +kernel
theorem dX3_wordValue_14 : decode cX3_wordValue 14 = .ok (.iload_n 1, 1) := by decide +kernel
theorem dX3_wordValue_15 : decode cX3_wordValue 15 = .ok (.laload, 1) := by decide +kernel
theorem dX3_wordValue_16 : decode cX3_wordValue 16 = .ok (.goto 4, 3) := by decide +kernel
theorem dX3_wordValue_19 : decode cX3_wordValue 19 = .ok (.lconst 0, 1) := by decide +kernel
theorem dX3_wordValue_20 : decode cX3_wordValue 20 = .ok (.lreturn, 1) := by decide +kernel
theorem dX3_combined_0 : decode cX3_combined 0 = .ok (.iload_n 1, 1) := by decide +kernel
theorem dX3_combined_1 : decode cX3_combined 1 = .ok (.tableswitch 176 2 12 #[59, 64, 69, 74, 90, 106, 119, 132, 145, 158, 171], 59) := by decide +kernel
theorem dX3_combined_60 : decode cX3_combined 60 = .ok (.lload_n 2, 1) := by decide +kernel
theorem dX3_combined_61 : decode cX3_combined 61 = .ok (.lload 4, 2) := by decide +kernel
theorem dX3_combined_63 : decode cX3_combined 63 = .ok (.ladd, 1) := by decide +kernel
theorem dX3_combined_64 : decode cX3_combined 64 = .ok (.lreturn, 1) := by decide +kernel
theorem dX3_combined_65 : decode cX3_combined 65 = .ok (.lload_n 2, 1) := by decide +kernel
theorem dX3_combined_66 : decode cX3_combined 66 = .ok (.lload 4, 2) := by decide +kernel
theorem dX3_combined_68 : decode cX3_combined 68 = .ok (.lsub, 1) := by decide +kernel
theorem dX3_combined_69 : decode cX3_combined 69 = .ok (.lreturn, 1) := by decide +kernel
theorem dX3_combined_70 : decode cX3_combined 70 = .ok (.lload_n 2, 1) := by decide +kernel
theorem dX3_combined_71 : decode cX3_combined 71 = .ok (.lload 4, 2) := by decide +kernel
theorem dX3_combined_73 : decode cX3_combined 73 = .ok (.lmul, 1) := by decide +kernel
theorem dX3_combined_74 : decode cX3_combined 74 = .ok (.lreturn, 1) := by decide +kernel
theorem dX3_combined_75 : decode cX3_combined 75 = .ok (.lload 4, 2) := by decide +kernel
theorem dX3_combined_77 : decode cX3_combined 77 = .ok (.lconst 0, 1) := by decide +kernel
theorem dX3_combined_78 : decode cX3_combined 78 = .ok (.lcmp, 1) := by decide +kernel
theorem dX3_combined_79 : decode cX3_combined 79 = .ok (.ifCond .ne 7, 3) := by decide +kernel
theorem dX3_combined_82 : decode cX3_combined 82 = .ok (.lconst 0, 1) := by decide +kernel
theorem dX3_combined_83 : decode cX3_combined 83 = .ok (.goto 7, 3) := by decide +kernel
theorem dX3_combined_86 : decode cX3_combined 86 = .ok (.lload_n 2, 1) := by decide +kernel
theorem dX3_combined_87 : decode cX3_combined 87 = .ok (.lload 4, 2) := by decide +kernel
theorem dX3_combined_89 : decode cX3_combined 89 = .ok (.ldiv, 1) := by decide +kernel
theorem dX3_combined_90 : decode cX3_combined 90 = .ok (.lreturn, 1) := by decide +kernel
theorem dX3_combined_91 : decode cX3_combined 91 = .ok (.lload 4, 2) := by decide +kernel
theorem dX3_combined_93 : decode cX3_combined 93 = .ok (.lconst 0, 1) := by decide +kernel
theorem dX3_combined_94 : decode cX3_combined 94 = .ok (.lcmp, 1) := by decide +kernel
theorem dX3_combined_95 : decode cX3_combined 95 = .ok (.ifCond .ne 7, 3) := by decide +kernel
theorem dX3_combined_98 : decode cX3_combined 98 = .ok (.lconst 0, 1) := by decide +kernel
theorem dX3_combined_99 : decode cX3_combined 99 = .ok (.goto 7, 3) := by decide +kernel
theorem dX3_combined_102 : decode cX3_combined 102 = .ok (.lload_n 2, 1) := by decide +kernel
theorem dX3_combined_103 : decode cX3_combined 103 = .ok (.lload 4, 2) := by decide +kernel
theorem dX3_combined_105 : decode cX3_combined 105 = .ok (.lrem, 1) := by decide +kernel
theorem dX3_combined_106 : decode cX3_combined 106 = .ok (.lreturn, 1) := by decide +kernel
theorem dX3_combined_107 : decode cX3_combined 107 = .ok (.lload_n 2, 1) := by decide +kernel
theorem dX3_combined_108 : decode cX3_combined 108 = .ok (.lload 4, 2) := by decide +kernel
theorem dX3_combined_110 : decode cX3_combined 110 = .ok (.lcmp, 1) := by decide +kernel
theorem dX3_combined_111 : decode cX3_combined 111 = .ok (.ifCond .ge 7, 3) := by decide +kernel
theorem dX3_combined_114 : decode cX3_combined 114 = .ok (.lconst 1, 1) := by decide +kernel
theorem dX3_combined_115 : decode cX3_combined 115 = .ok (.goto 4, 3) := by decide +kernel
theorem dX3_combined_118 : decode cX3_combined 118 = .ok (.lconst 0, 1) := by decide +kernel
theorem dX3_combined_119 : decode cX3_combined 119 = .ok (.lreturn, 1) := by decide +kernel
theorem dX3_combined_120 : decode cX3_combined 120 = .ok (.lload_n 2, 1) := by decide +kernel
theorem dX3_combined_121 : decode cX3_combined 121 = .ok (.lload 4, 2) := by decide +kernel
theorem dX3_combined_123 : decode cX3_combined 123 = .ok (.lcmp, 1) := by decide +kernel
theorem dX3_combined_124 : decode cX3_combined 124 = .ok (.ifCond .gt 7, 3) := by decide +kernel
theorem dX3_combined_127 : decode cX3_combined 127 = .ok (.lconst 1, 1) := by decide +kernel
theorem dX3_combined_128 : decode cX3_combined 128 = .ok (.goto 4, 3) := by decide +kernel
theorem dX3_combined_131 : decode cX3_combined 131 = .ok (.lconst 0, 1) := by decide +kernel
theorem dX3_combined_132 : decode cX3_combined 132 = .ok (.lreturn, 1) := by decide +kernel
theorem dX3_combined_133 : decode cX3_combined 133 = .ok (.lload_n 2, 1) := by decide +kernel
theorem dX3_combined_134 : decode cX3_combined 134 = .ok (.lload 4, 2) := by decide +kernel
theorem dX3_combined_136 : decode cX3_combined 136 = .ok (.lcmp, 1) := by decide +kernel
theorem dX3_combined_137 : decode cX3_combined 137 = .ok (.ifCond .ne 7, 3) := by decide +kernel
theorem dX3_combined_140 : decode cX3_combined 140 = .ok (.lconst 1, 1) := by decide +kernel
theorem dX3_combined_141 : decode cX3_combined 141 = .ok (.goto 4, 3) := by decide +kernel
theorem dX3_combined_144 : decode cX3_combined 144 = .ok (.lconst 0, 1) := by decide +kernel
theorem dX3_combined_145 : decode cX3_combined 145 = .ok (.lreturn, 1) := by decide +kernel
theorem dX3_combined_146 : decode cX3_combined 146 = .ok (.lload_n 2, 1) := by decide +kernel
theorem dX3_combined_147 : decode cX3_combined 147 = .ok (.lload 4, 2) := by decide +kernel
theorem dX3_combined_149 : decode cX3_combined 149 = .ok (.lcmp, 1) := by decide +kernel
theorem dX3_combined_150 : decode cX3_combined 150 = .ok (.ifCond .lt 7, 3) := by decide +kernel
theorem dX3_combined_153 : decode cX3_combined 153 = .ok (.lconst 1, 1) := by decide +kernel
theorem dX3_combined_154 : decode cX3_combined 154 = .ok (.goto 4, 3) := by decide +kernel
theorem dX3_combined_157 : decode cX3_combined 157 = .ok (.lconst 0, 1) := by decide +kernel
theorem dX3_combined_158 : decode cX3_combined 158 = .ok (.lreturn, 1) := by decide +kernel
theorem dX3_combined_159 : decode cX3_combined 159 = .ok (.lload_n 2, 1) := by decide +kernel
theorem dX3_combined_160 : decode cX3_combined 160 = .ok (.lload 4, 2) := by decide +kernel
theorem dX3_combined_162 : decode cX3_combined 162 = .ok (.lcmp, 1) := by decide +kernel
theorem dX3_combined_163 : decode cX3_combined 163 = .ok (.ifCond .le 7, 3) := by decide +kernel
theorem dX3_combined_166 : decode cX3_combined 166 = .ok (.lconst 1, 1) := by decide +kernel
theorem dX3_combined_167 : decode cX3_combined 167 = .ok (.goto 4, 3) := by decide +kernel
theorem dX3_combined_170 : decode cX3_combined 170 = .ok (.lconst 0, 1) := by decide +kernel
theorem dX3_combined_171 : decode cX3_combined 171 = .ok (.lreturn, 1) := by decide +kernel
theorem dX3_combined_172 : decode cX3_combined 172 = .ok (.lload_n 2, 1) := by decide +kernel
theorem dX3_combined_173 : decode cX3_combined 173 = .ok (.lload 4, 2) := by decide +kernel
theorem dX3_combined_175 : decode cX3_combined 175 = .ok (.land, 1) := by decide +kernel
theorem dX3_combined_176 : decode cX3_combined 176 = .ok (.lreturn, 1) := by decide +kernel
theorem dX3_combined_177 : decode cX3_combined 177 = .ok (.lload_n 2, 1) := by decide +kernel
theorem dX3_combined_178 : decode cX3_combined 178 = .ok (.lload 4, 2) := by decide +kernel
theorem dX3_combined_180 : decode cX3_combined 180 = .ok (.lor, 1) := by decide +kernel
theorem dX3_combined_181 : decode cX3_combined 181 = .ok (.lreturn, 1) := by decide +kernel
theorem dX4_init_0 : decode cX4_init 0 = .ok (.aload_n 0, 1) := by decide +kernel
theorem dX4_init_1 : decode cX4_init 1 = .ok (.invokespecial 5, 3) := by decide +kernel
theorem dX4_init_4 : decode cX4_init 4 = .ok (.aload_n 0, 1) := by decide +kernel
theorem dX4_init_5 : decode cX4_init 5 = .ok (.new 11, 3) := by decide +kernel
theorem dX4_init_8 : decode cX4_init 8 = .ok (.dup, 1) := by decide +kernel
theorem dX4_init_9 : decode cX4_init 9 = .ok (.invokespecial 13, 3) := by decide +kernel
theorem dX4_init_12 : decode cX4_init 12 = .ok (.putfield 14, 3) := by decide +kernel
theorem dX4_init_15 : decode cX4_init 15 = .ok (.aload_n 0, 1) := by decide +kernel
theorem dX4_init_16 : decode cX4_init 16 = .ok (.bipush 28, 2) := by decide +kernel
theorem dX4_init_18 : decode cX4_init 18 = .ok (.newarray .int, 2) := by decide +kernel
theorem dX4_init_20 : decode cX4_init 20 = .ok (.putfield 18, 3) := by decide +kernel
theorem dX4_init_23 : decode cX4_init 23 = .ok (.aload_n 0, 1) := by decide +kernel
theorem dX4_init_24 : decode cX4_init 24 = .ok (.iconst 0, 1) := by decide +kernel
theorem dX4_init_25 : decode cX4_init 25 = .ok (.putfield 22, 3) := by decide +kernel
theorem dX4_init_28 : decode cX4_init 28 = .ok (.aload_n 0, 1) := by decide +kernel
theorem dX4_init_29 : decode cX4_init 29 = .ok (.iconst 0, 1) := by decide +kernel
theorem dX4_init_30 : decode cX4_init 30 = .ok (.putfield 26, 3) := by decide +kernel
theorem dX4_init_33 : decode cX4_init 33 = .ok (.aload_n 0, 1) := by decide +kernel
theorem dX4_init_34 : decode cX4_init 34 = .ok (.bipush (-2), 2) := by decide +kernel
theorem dX4_init_36 : decode cX4_init 36 = .ok (.putfield 29, 3) := by decide +kernel
theorem dX4_init_39 : decode cX4_init 39 = .ok (.aload_n 0, 1) := by decide +kernel
theorem dX4_init_40 : decode cX4_init 40 = .ok (.iconst 0, 1) := by decide +kernel
theorem dX4_init_41 : decode cX4_init 41 = .ok (.putfield 32, 3) := by decide +kernel
theorem dX4_init_44 : decode cX4_init 44 = .ok (.aload_n 0, 1) := by decide +kernel
theorem dX4_init_45 : decode cX4_init 45 = .ok (.bipush (-2), 2) := by decide +kernel
theorem dX4_init_47 : decode cX4_init 47 = .ok (.putfield 35, 3) := by decide +kernel
theorem dX4_init_50 : decode cX4_init 50 = .ok (.aload_n 0, 1) := by decide +kernel
theorem dX4_init_51 : decode cX4_init 51 = .ok (.bipush (-2), 2) := by decide +kernel
theorem dX4_init_53 : decode cX4_init 53 = .ok (.putfield 38, 3) := by decide +kernel
theorem dX4_init_56 : decode cX4_init 56 = .ok (.aload_n 0, 1) := by decide +kernel
theorem dX4_init_57 : decode cX4_init 57 = .ok (.aload_n 1, 1) := by decide +kernel
theorem dX4_init_58 : decode cX4_init 58 = .ok (.putfield 41, 3) := by decide +kernel
theorem dX4_init_61 : decode cX4_init 61 = .ok (.return_, 1) := by decide +kernel
theorem dX4_fits_0 : decode cX4_fits 0 = .ok (.aload_n 0, 1) := by decide +kernel
theorem dX4_fits_1 : decode cX4_fits 1 = .ok (.getfield 14, 3) := by decide +kernel
theorem dX4_fits_4 : decode cX4_fits 4 = .ok (.aload_n 1, 1) := by decide +kernel
theorem dX4_fits_5 : decode cX4_fits 5 = .ok (.getfield 45, 3) := by decide +kernel
theorem dX4_fits_8 : decode cX4_fits 8 = .ok (.invokevirtual 50, 3) := by decide +kernel
theorem dX4_fits_11 : decode cX4_fits 11 = .ok (.aload_n 0, 1) := by decide +kernel
theorem dX4_fits_12 : decode cX4_fits 12 = .ok (.aload_n 1, 1) := by decide +kernel
theorem dX4_fits_13 : decode cX4_fits 13 = .ok (.aload_n 2, 1) := by decide +kernel
theorem dX4_fits_14 : decode cX4_fits 14 = .ok (.invokevirtual 54, 3) := by decide +kernel
theorem dX4_fits_17 : decode cX4_fits 17 = .ok (.ireturn, 1) := by decide +kernel
theorem dX4_fitsFromHere_0 : decode cX4_fitsFromHere 0 = .ok (.aload_n 1, 1) := by decide +kernel
theorem dX4_fitsFromHere_1 : decode cX4_fitsFromHere 1 = .ok (.invokevirtual 58, 3) := by decide +kernel
theorem dX4_fitsFromHere_4 : decode cX4_fitsFromHere 4 = .ok (.istore_n 3, 1) := by decide +kernel
theorem dX4_fitsFromHere_5 : decode cX4_fitsFromHere 5 = .ok (.iconst 0, 1) := by decide +kernel
theorem dX4_fitsFromHere_6 : decode cX4_fitsFromHere 6 = .ok (.istore 4, 2) := by decide +kernel
theorem dX4_fitsFromHere_8 : decode cX4_fitsFromHere 8 = .ok (.iload 4, 2) := by decide +kernel
theorem dX4_fitsFromHere_10 : decode cX4_fitsFromHere 10 = .ok (.iload_n 3, 1) := by decide +kernel
theorem dX4_fitsFromHere_11 : decode cX4_fitsFromHere 11 = .ok (.if_icmp .ge 44, 3) := by decide +kernel
theorem dX4_fitsFromHere_14 : decode cX4_fitsFromHere 14 = .ok (.aload_n 0, 1) := by decide +kernel
theorem dX4_fitsFromHere_15 : decode cX4_fitsFromHere 15 = .ok (.getfield 41, 3) := by decide +kernel
theorem dX4_fitsFromHere_18 : decode cX4_fitsFromHere 18 = .ok (.aload_n 0, 1) := by decide +kernel
theorem dX4_fitsFromHere_19 : decode cX4_fitsFromHere 19 = .ok (.getfield 14, 3) := by decide +kernel
theorem dX4_fitsFromHere_22 : decode cX4_fitsFromHere 22 = .ok (.aload_n 2, 1) := by decide +kernel
theorem dX4_fitsFromHere_23 : decode cX4_fitsFromHere 23 = .ok (.aload_n 0, 1) := by decide +kernel
theorem dX4_fitsFromHere_24 : decode cX4_fitsFromHere 24 = .ok (.getfield 14, 3) := by decide +kernel
theorem dX4_fitsFromHere_27 : decode cX4_fitsFromHere 27 = .ok (.invokevirtual 62, 3) := by decide +kernel
theorem dX4_fitsFromHere_30 : decode cX4_fitsFromHere 30 = .ok (.invokevirtual 66, 3) := by decide +kernel
theorem dX4_fitsFromHere_33 : decode cX4_fitsFromHere 33 = .ok (.pop, 1) := by decide +kernel
theorem dX4_fitsFromHere_34 : decode cX4_fitsFromHere 34 = .ok (.aload_n 1, 1) := by decide +kernel
theorem dX4_fitsFromHere_35 : decode cX4_fitsFromHere 35 = .ok (.aload_n 0, 1) := by decide +kernel
theorem dX4_fitsFromHere_36 : decode cX4_fitsFromHere 36 = .ok (.getfield 14, 3) := by decide +kernel
theorem dX4_fitsFromHere_39 : decode cX4_fitsFromHere 39 = .ok (.iload 4, 2) := by decide +kernel
theorem dX4_fitsFromHere_41 : decode cX4_fitsFromHere 41 = .ok (.invokevirtual 72, 3) := by decide +kernel
theorem dX4_fitsFromHere_44 : decode cX4_fitsFromHere 44 = .ok (.ifCond .ne 5, 3) := by decide +kernel
theorem dX4_fitsFromHere_47 : decode cX4_fitsFromHere 47 = .ok (.iconst 0, 1) := by decide +kernel
theorem dX4_fitsFromHere_48 : decode cX4_fitsFromHere 48 = .ok (.ireturn, 1) := by decide +kernel
theorem dX4_fitsFromHere_49 : decode cX4_fitsFromHere 49 = .ok (.iinc 4 1, 3) := by decide +kernel
theorem dX4_fitsFromHere_52 : decode cX4_fitsFromHere 52 = .ok (.goto (-44), 3) := by decide +kernel
theorem dX4_fitsFromHere_55 : decode cX4_fitsFromHere 55 = .ok (.iconst 1, 1) := by decide +kernel
theorem dX4_fitsFromHere_56 : decode cX4_fitsFromHere 56 = .ok (.ireturn, 1) := by decide +kernel
theorem dX4_searchBoats_0 : decode cX4_searchBoats 0 = .ok (.bipush 8, 2) := by decide +kernel
theorem dX4_searchBoats_2 : decode cX4_searchBoats 2 = .ok (.aload_n 1, 1) := by decide +kernel
theorem dX4_searchBoats_3 : decode cX4_searchBoats 3 = .ok (.invokevirtual 58, 3) := by decide +kernel
theorem dX4_searchBoats_6 : decode cX4_searchBoats 6 = .ok (.invokestatic 76, 3) := by decide +kernel
theorem dX4_searchBoats_9 : decode cX4_searchBoats 9 = .ok (.istore_n 3, 1) := by decide +kernel
theorem dX4_searchBoats_10 : decode cX4_searchBoats 10 = .ok (.iconst 0, 1) := by decide +kernel
theorem dX4_searchBoats_11 : decode cX4_searchBoats 11 = .ok (.istore 4, 2) := by decide +kernel
theorem dX4_searchBoats_13 : decode cX4_searchBoats 13 = .ok (.aload_n 0, 1) := by decide +kernel
theorem dX4_searchBoats_14 : decode cX4_searchBoats 14 = .ok (.bipush (-2), 2) := by decide +kernel
theorem dX4_searchBoats_16 : decode cX4_searchBoats 16 = .ok (.putfield 29, 3) := by decide +kernel
theorem dX4_searchBoats_19 : decode cX4_searchBoats 19 = .ok (.aload_n 0, 1) := by decide +kernel
theorem dX4_searchBoats_20 : decode cX4_searchBoats 20 = .ok (.sipush 255, 3) := by decide +kernel
theorem dX4_searchBoats_23 : decode cX4_searchBoats 23 = .ok (.putfield 32, 3) := by decide +kernel
theorem dX4_searchBoats_26 : decode cX4_searchBoats 26 = .ok (.iconst 0, 1) := by decide +kernel
theorem dX4_searchBoats_27 : decode cX4_searchBoats 27 = .ok (.istore 5, 2) := by decide +kernel
theorem dX4_searchBoats_29 : decode cX4_searchBoats 29 = .ok (.iload 5, 2) := by decide +kernel
theorem dX4_searchBoats_31 : decode cX4_searchBoats 31 = .ok (.iconst 1, 1) := by decide +kernel
theorem dX4_searchBoats_32 : decode cX4_searchBoats 32 = .ok (.iload_n 3, 1) := by decide +kernel
theorem dX4_searchBoats_33 : decode cX4_searchBoats 33 = .ok (.ishl, 1) := by decide +kernel
theorem dX4_searchBoats_34 : decode cX4_searchBoats 34 = .ok (.if_icmp .ge 83, 3) := by decide +kernel
theorem dX4_searchBoats_37 : decode cX4_searchBoats 37 = .ok (.aload_n 0, 1) := by decide +kernel
theorem dX4_searchBoats_38 : decode cX4_searchBoats 38 = .ok (.getfield 14, 3) := by decide +kernel
theorem dX4_searchBoats_41 : decode cX4_searchBoats 41 = .ok (.aload_n 1, 1) := by decide +kernel
theorem dX4_searchBoats_42 : decode cX4_searchBoats 42 = .ok (.getfield 45, 3) := by decide +kernel
theorem dX4_searchBoats_45 : decode cX4_searchBoats 45 = .ok (.invokevirtual 50, 3) := by decide +kernel
theorem dX4_searchBoats_48 : decode cX4_searchBoats 48 = .ok (.aload_n 0, 1) := by decide +kernel
theorem dX4_searchBoats_49 : decode cX4_searchBoats 49 = .ok (.getfield 14, 3) := by decide +kernel
theorem dX4_searchBoats_52 : decode cX4_searchBoats 52 = .ok (.aload_n 1, 1) := by decide +kernel
theorem dX4_searchBoats_53 : decode cX4_searchBoats 53 = .ok (.getfield 45, 3) := by decide +kernel
theorem dX4_searchBoats_56 : decode cX4_searchBoats 56 = .ok (.getfield 82, 3) := by decide +kernel
theorem dX4_searchBoats_59 : decode cX4_searchBoats 59 = .ok (.ldc2_w 86, 3) := by decide +kernel
theorem dX4_searchBoats_62 : decode cX4_searchBoats 62 = .ok (.land, 1) := by decide +kernel
theorem dX4_searchBoats_63 : decode cX4_searchBoats 63 = .ok (.iload 5, 2) := by decide +kernel
theorem dX4_searchBoats_65 : decode cX4_searchBoats 65 = .ok (.i2l, 1) := by decide +kernel
theorem dX4_searchBoats_66 : decode cX4_searchBoats 66 = .ok (.lor, 1) := by decide +kernel
theorem dX4_searchBoats_67 : decode cX4_searchBoats 67 = .ok (.putfield 82, 3) := by decide +kernel
theorem dX4_searchBoats_70 : decode cX4_searchBoats 70 = .ok (.aload_n 0, 1) := by decide +kernel
theorem dX4_searchBoats_71 : decode cX4_searchBoats 71 = .ok (.aload_n 1, 1) := by decide +kernel
theorem dX4_searchBoats_72 : decode cX4_searchBoats 72 = .ok (.aload_n 2, 1) := by decide +kernel
theorem dX4_searchBoats_73 : decode cX4_searchBoats 73 = .ok (.invokevirtual 54, 3) := by decide +kernel
theorem dX4_searchBoats_76 : decode cX4_searchBoats 76 = .ok (.ifCond .eq 35, 3) := by decide +kernel
theorem dX4_searchBoats_79 : decode cX4_searchBoats 79 = .ok (.aload_n 0, 1) := by decide +kernel
theorem dX4_searchBoats_80 : decode cX4_searchBoats 80 = .ok (.iload 4, 2) := by decide +kernel
theorem dX4_searchBoats_82 : decode cX4_searchBoats 82 = .ok (.ifCond .ne 8, 3) := by decide +kernel
theorem dX4_searchBoats_85 : decode cX4_searchBoats 85 = .ok (.iload 5, 2) := by decide +kernel
theorem dX4_searchBoats_87 : decode cX4_searchBoats 87 = .ok (.goto 7, 3) := by decide +kernel
theorem dX4_searchBoats_90 : decode cX4_searchBoats 90 = .ok (.aload_n 0, 1) := by decide +kernel
theorem dX4_searchBoats_91 : decode cX4_searchBoats 91 = .ok (.getfield 29, 3) := by decide +kernel
theorem dX4_searchBoats_94 : decode cX4_searchBoats 94 = .ok (.putfield 29, 3) := by decide +kernel
theorem dX4_searchBoats_97 : decode cX4_searchBoats 97 = .ok (.aload_n 0, 1) := by decide +kernel
theorem dX4_searchBoats_98 : decode cX4_searchBoats 98 = .ok (.dup, 1) := by decide +kernel
theorem dX4_searchBoats_99 : decode cX4_searchBoats 99 = .ok (.getfield 32, 3) := by decide +kernel
theorem dX4_searchBoats_102 : decode cX4_searchBoats 102 = .ok (.iload 5, 2) := by decide +kernel
theorem dX4_searchBoats_104 : decode cX4_searchBoats 104 = .ok (.iand, 1) := by decide +kernel
theorem dX4_searchBoats_105 : decode cX4_searchBoats 105 = .ok (.putfield 32, 3) := by decide +kernel
theorem dX4_searchBoats_108 : decode cX4_searchBoats 108 = .ok (.iinc 4 1, 3) := by decide +kernel
theorem dX4_searchBoats_111 : decode cX4_searchBoats 111 = .ok (.iinc 5 1, 3) := by decide +kernel
theorem dX4_searchBoats_114 : decode cX4_searchBoats 114 = .ok (.goto (-85), 3) := by decide +kernel
theorem dX4_searchBoats_117 : decode cX4_searchBoats 117 = .ok (.aload_n 0, 1) := by decide +kernel
theorem dX4_searchBoats_118 : decode cX4_searchBoats 118 = .ok (.iload 4, 2) := by decide +kernel
theorem dX4_searchBoats_120 : decode cX4_searchBoats 120 = .ok (.bipush 8, 2) := by decide +kernel
theorem dX4_searchBoats_122 : decode cX4_searchBoats 122 = .ok (.iload_n 3, 1) := by decide +kernel
theorem dX4_searchBoats_123 : decode cX4_searchBoats 123 = .ok (.isub, 1) := by decide +kernel
theorem dX4_searchBoats_124 : decode cX4_searchBoats 124 = .ok (.ishl, 1) := by decide +kernel
theorem dX4_searchBoats_125 : decode cX4_searchBoats 125 = .ok (.putfield 26, 3) := by decide +kernel
theorem dX4_searchBoats_128 : decode cX4_searchBoats 128 = .ok (.aload_n 0, 1) := by decide +kernel
theorem dX4_searchBoats_129 : decode cX4_searchBoats 129 = .ok (.iload 4, 2) := by decide +kernel
theorem dX4_searchBoats_131 : decode cX4_searchBoats 131 = .ok (.ifCond .ne 7, 3) := by decide +kernel
theorem dX4_searchBoats_134 : decode cX4_searchBoats 134 = .ok (.iconst 0, 1) := by decide +kernel
theorem dX4_searchBoats_135 : decode cX4_searchBoats 135 = .ok (.goto 7, 3) := by decide +kernel
theorem dX4_searchBoats_138 : decode cX4_searchBoats 138 = .ok (.aload_n 0, 1) := by decide +kernel
theorem dX4_searchBoats_139 : decode cX4_searchBoats 139 = .ok (.getfield 32, 3) := by decide +kernel
theorem dX4_searchBoats_142 : decode cX4_searchBoats 142 = .ok (.putfield 32, 3) := by decide +kernel
theorem dX4_searchBoats_145 : decode cX4_searchBoats 145 = .ok (.return_, 1) := by decide +kernel
theorem dX4_startLook_0 : decode cX4_startLook 0 = .ok (.aload_n 0, 1) := by decide +kernel
theorem dX4_startLook_1 : decode cX4_startLook 1 = .ok (.iconst 0, 1) := by decide +kernel
theorem dX4_startLook_2 : decode cX4_startLook 2 = .ok (.putfield 22, 3) := by decide +kernel
theorem dX4_startLook_5 : decode cX4_startLook 5 = .ok (.return_, 1) := by decide +kernel
theorem dX4_addToLook_0 : decode cX4_addToLook 0 = .ok (.aload_n 0, 1) := by decide +kernel
theorem dX4_addToLook_1 : decode cX4_addToLook 1 = .ok (.getfield 14, 3) := by decide +kernel
theorem dX4_addToLook_4 : decode cX4_addToLook 4 = .ok (.aload_n 1, 1) := by decide +kernel
theorem dX4_addToLook_5 : decode cX4_addToLook 5 = .ok (.getfield 45, 3) := by decide +kernel
theorem dX4_addToLook_8 : decode cX4_addToLook 8 = .ok (.invokevirtual 50, 3) := by decide +kernel
theorem dX4_addToLook_11 : decode cX4_addToLook 11 = .ok (.aload_n 0, 1) := by decide +kernel
theorem dX4_addToLook_12 : decode cX4_addToLook 12 = .ok (.getfield 22, 3) := by decide +kernel
theorem dX4_addToLook_15 : decode cX4_addToLook 15 = .ok (.bipush 7, 2) := by decide +kernel
theorem dX4_addToLook_17 : decode cX4_addToLook 17 = .ok (.if_icmp .ge 12, 3) := by decide +kernel
theorem dX4_addToLook_20 : decode cX4_addToLook 20 = .ok (.aload_n 0, 1) := by decide +kernel
theorem dX4_addToLook_21 : decode cX4_addToLook 21 = .ok (.aload_n 1, 1) := by decide +kernel
theorem dX4_addToLook_22 : decode cX4_addToLook 22 = .ok (.aload_n 2, 1) := by decide +kernel
theorem dX4_addToLook_23 : decode cX4_addToLook 23 = .ok (.invokevirtual 54, 3) := by decide +kernel
theorem dX4_addToLook_26 : decode cX4_addToLook 26 = .ok (.ifCond .ne 4, 3) := by decide +kernel
theorem dX4_addToLook_29 : decode cX4_addToLook 29 = .ok (.return_, 1) := by decide +kernel
theorem dX4_addToLook_30 : decode cX4_addToLook 30 = .ok (.aload_n 0, 1) := by decide +kernel
theorem dX4_addToLook_31 : decode cX4_addToLook 31 = .ok (.getfield 14, 3) := by decide +kernel
theorem dX4_addToLook_34 : decode cX4_addToLook 34 = .ok (.aload_n 1, 1) := by decide +kernel
theorem dX4_addToLook_35 : decode cX4_addToLook 35 = .ok (.getfield 45, 3) := by decide +kernel
theorem dX4_addToLook_38 : decode cX4_addToLook 38 = .ok (.invokevirtual 50, 3) := by decide +kernel
theorem dX4_addToLook_41 : decode cX4_addToLook 41 = .ok (.iconst 0, 1) := by decide +kernel
theorem dX4_addToLook_42 : decode cX4_addToLook 42 = .ok (.istore 4, 2) := by decide +kernel
theorem dX4_addToLook_44 : decode cX4_addToLook 44 = .ok (.iload 4, 2) := by decide +kernel
theorem dX4_addToLook_46 : decode cX4_addToLook 46 = .ok (.iload_n 3, 1) := by decide +kernel
theorem dX4_addToLook_47 : decode cX4_addToLook 47 = .ok (.if_icmp .gt 29, 3) := by decide +kernel
theorem dX4_addToLook_50 : decode cX4_addToLook 50 = .ok (.aload_n 0, 1) := by decide +kernel
theorem dX4_addToLook_51 : decode cX4_addToLook 51 = .ok (.getfield 41, 3) := by decide +kernel
theorem dX4_addToLook_54 : decode cX4_addToLook 54 = .ok (.aload_n 0, 1) := by decide +kernel
theorem dX4_addToLook_55 : decode cX4_addToLook 55 = .ok (.getfield 14, 3) := by decide +kernel
theorem dX4_addToLook_58 : decode cX4_addToLook 58 = .ok (.aload_n 2, 1) := by decide +kernel
theorem dX4_addToLook_59 : decode cX4_addToLook 59 = .ok (.aload_n 0, 1) := by decide +kernel
theorem dX4_addToLook_60 : decode cX4_addToLook 60 = .ok (.getfield 14, 3) := by decide +kernel
theorem dX4_addToLook_63 : decode cX4_addToLook 63 = .ok (.invokevirtual 62, 3) := by decide +kernel
theorem dX4_addToLook_66 : decode cX4_addToLook 66 = .ok (.invokevirtual 66, 3) := by decide +kernel
theorem dX4_addToLook_69 : decode cX4_addToLook 69 = .ok (.pop, 1) := by decide +kernel
theorem dX4_addToLook_70 : decode cX4_addToLook 70 = .ok (.iinc 4 1, 3) := by decide +kernel
theorem dX4_addToLook_73 : decode cX4_addToLook 73 = .ok (.goto (-29), 3) := by decide +kernel
theorem dX4_addToLook_76 : decode cX4_addToLook 76 = .ok (.iconst 0, 1) := by decide +kernel
theorem dX4_addToLook_77 : decode cX4_addToLook 77 = .ok (.istore 4, 2) := by decide +kernel
theorem dX4_addToLook_79 : decode cX4_addToLook 79 = .ok (.iload 4, 2) := by decide +kernel
theorem dX4_addToLook_81 : decode cX4_addToLook 81 = .ok (.iconst 4, 1) := by decide +kernel
theorem dX4_addToLook_82 : decode cX4_addToLook 82 = .ok (.if_icmp .ge 33, 3) := by decide +kernel
theorem dX4_addToLook_85 : decode cX4_addToLook 85 = .ok (.aload_n 0, 1) := by decide +kernel
theorem dX4_addToLook_86 : decode cX4_addToLook 86 = .ok (.getfield 18, 3) := by decide +kernel
theorem dX4_addToLook_89 : decode cX4_addToLook 89 = .ok (.aload_n 0, 1) := by decide +kernel
theorem dX4_addToLook_90 : decode cX4_addToLook 90 = .ok (.getfield 22, 3) := by decide +kernel
theorem dX4_addToLook_93 : decode cX4_addToLook 93 = .ok (.iconst 4, 1) := by decide +kernel
theorem dX4_addToLook_94 : decode cX4_addToLook 94 = .ok (.imul, 1) := by decide +kernel
theorem dX4_addToLook_95 : decode cX4_addToLook 95 = .ok (.iload 4, 2) := by decide +kernel
theorem dX4_addToLook_97 : decode cX4_addToLook 97 = .ok (.iadd, 1) := by decide +kernel
theorem dX4_addToLook_98 : decode cX4_addToLook 98 = .ok (.aload_n 0, 1) := by decide +kernel
theorem dX4_addToLook_99 : decode cX4_addToLook 99 = .ok (.getfield 14, 3) := by decide +kernel
theorem dX4_addToLook_102 : decode cX4_addToLook 102 = .ok (.iconst 0, 1) := by decide +kernel
theorem dX4_addToLook_103 : decode cX4_addToLook 103 = .ok (.iload 4, 2) := by decide +kernel
theorem dX4_addToLook_105 : decode cX4_addToLook 105 = .ok (.invokevirtual 88, 3) := by decide +kernel
theorem dX4_addToLook_108 : decode cX4_addToLook 108 = .ok (.iastore, 1) := by decide +kernel
theorem dX4_addToLook_109 : decode cX4_addToLook 109 = .ok (.iinc 4 1, 3) := by decide +kernel
theorem dX4_addToLook_112 : decode cX4_addToLook 112 = .ok (.goto (-33), 3) := by decide +kernel
theorem dX4_addToLook_115 : decode cX4_addToLook 115 = .ok (.aload_n 0, 1) := by decide +kernel
theorem dX4_addToLook_116 : decode cX4_addToLook 116 = .ok (.dup, 1) := by decide +kernel
theorem dX4_addToLook_117 : decode cX4_addToLook 117 = .ok (.getfield 22, 3) := by decide +kernel
theorem dX4_addToLook_120 : decode cX4_addToLook 120 = .ok (.iconst 1, 1) := by decide +kernel
theorem dX4_addToLook_121 : decode cX4_addToLook 121 = .ok (.iadd, 1) := by decide +kernel
theorem dX4_addToLook_122 : decode cX4_addToLook 122 = .ok (.putfield 22, 3) := by decide +kernel
theorem dX4_addToLook_125 : decode cX4_addToLook 125 = .ok (.return_, 1) := by decide +kernel
theorem dX4_chooseLook_0 : decode cX4_chooseLook 0 = .ok (.aload_n 0, 1) := by decide +kernel
theorem dX4_chooseLook_1 : decode cX4_chooseLook 1 = .ok (.bipush (-2), 2) := by decide +kernel
theorem dX4_chooseLook_3 : decode cX4_chooseLook 3 = .ok (.putfield 35, 3) := by decide +kernel
theorem dX4_chooseLook_6 : decode cX4_chooseLook 6 = .ok (.aload_n 0, 1) := by decide +kernel
theorem dX4_chooseLook_7 : decode cX4_chooseLook 7 = .ok (.bipush (-2), 2) := by decide +kernel
theorem dX4_chooseLook_9 : decode cX4_chooseLook 9 = .ok (.putfield 38, 3) := by decide +kernel
theorem dX4_chooseLook_12 : decode cX4_chooseLook 12 = .ok (.iconst 0, 1) := by decide +kernel
theorem dX4_chooseLook_13 : decode cX4_chooseLook 13 = .ok (.istore_n 2, 1) := by decide +kernel
theorem dX4_chooseLook_14 : decode cX4_chooseLook 14 = .ok (.iload_n 2, 1) := by decide +kernel
theorem dX4_chooseLook_15 : decode cX4_chooseLook 15 = .ok (.iload_n 1, 1) := by decide +kernel
theorem dX4_chooseLook_16 : decode cX4_chooseLook 16 = .ok (.if_icmp .ge 47, 3) := by decide +kernel
theorem dX4_chooseLook_19 : decode cX4_chooseLook 19 = .ok (.aload_n 0, 1) := by decide +kernel
theorem dX4_chooseLook_20 : decode cX4_chooseLook 20 = .ok (.getfield 22, 3) := by decide +kernel
theorem dX4_chooseLook_23 : decode cX4_chooseLook 23 = .ok (.ifCond .le 40, 3) := by decide +kernel
theorem dX4_chooseLook_26 : decode cX4_chooseLook 26 = .ok (.aload_n 0, 1) := by decide +kernel
theorem dX4_chooseLook_27 : decode cX4_chooseLook 27 = .ok (.iload_n 2, 1) := by decide +kernel
theorem dX4_chooseLook_28 : decode cX4_chooseLook 28 = .ok (.invokevirtual 91, 3) := by decide +kernel
theorem dX4_chooseLook_31 : decode cX4_chooseLook 31 = .ok (.istore_n 3, 1) := by decide +kernel
theorem dX4_chooseLook_32 : decode cX4_chooseLook 32 = .ok (.aload_n 0, 1) := by decide +kernel
theorem dX4_chooseLook_33 : decode cX4_chooseLook 33 = .ok (.getfield 35, 3) := by decide +kernel
theorem dX4_chooseLook_36 : decode cX4_chooseLook 36 = .ok (.ifCond .lt 11, 3) := by decide +kernel
theorem dX4_chooseLook_39 : decode cX4_chooseLook 39 = .ok (.iload_n 3, 1) := by decide +kernel
theorem dX4_chooseLook_40 : decode cX4_chooseLook 40 = .ok (.aload_n 0, 1) := by decide +kernel
theorem dX4_chooseLook_41 : decode cX4_chooseLook 41 = .ok (.getfield 38, 3) := by decide +kernel
theorem dX4_chooseLook_44 : decode cX4_chooseLook 44 = .ok (.if_icmp .ge 13, 3) := by decide +kernel
theorem dX4_chooseLook_47 : decode cX4_chooseLook 47 = .ok (.aload_n 0, 1) := by decide +kernel
theorem dX4_chooseLook_48 : decode cX4_chooseLook 48 = .ok (.iload_n 2, 1) := by decide +kernel
theorem dX4_chooseLook_49 : decode cX4_chooseLook 49 = .ok (.putfield 35, 3) := by decide +kernel
theorem dX4_chooseLook_52 : decode cX4_chooseLook 52 = .ok (.aload_n 0, 1) := by decide +kernel
theorem dX4_chooseLook_53 : decode cX4_chooseLook 53 = .ok (.iload_n 3, 1) := by decide +kernel
theorem dX4_chooseLook_54 : decode cX4_chooseLook 54 = .ok (.putfield 38, 3) := by decide +kernel
theorem dX4_chooseLook_57 : decode cX4_chooseLook 57 = .ok (.iinc 2 1, 3) := by decide +kernel
theorem dX4_chooseLook_60 : decode cX4_chooseLook 60 = .ok (.goto (-46), 3) := by decide +kernel
theorem dX4_chooseLook_63 : decode cX4_chooseLook 63 = .ok (.return_, 1) := by decide +kernel
theorem dX4_mostAlikeBy_0 : decode cX4_mostAlikeBy 0 = .ok (.iconst 0, 1) := by decide +kernel
theorem dX4_mostAlikeBy_1 : decode cX4_mostAlikeBy 1 = .ok (.istore_n 2, 1) := by decide +kernel
theorem dX4_mostAlikeBy_2 : decode cX4_mostAlikeBy 2 = .ok (.iconst 0, 1) := by decide +kernel
theorem dX4_mostAlikeBy_3 : decode cX4_mostAlikeBy 3 = .ok (.istore_n 3, 1) := by decide +kernel
theorem dX4_mostAlikeBy_4 : decode cX4_mostAlikeBy 4 = .ok (.iload_n 3, 1) := by decide +kernel
theorem dX4_mostAlikeBy_5 : decode cX4_mostAlikeBy 5 = .ok (.aload_n 0, 1) := by decide +kernel
theorem dX4_mostAlikeBy_6 : decode cX4_mostAlikeBy 6 = .ok (.getfield 22, 3) := by decide +kernel
theorem dX4_mostAlikeBy_9 : decode cX4_mostAlikeBy 9 = .ok (.if_icmp .ge 64, 3) := by decide +kernel
theorem dX4_mostAlikeBy_12 : decode cX4_mostAlikeBy 12 = .ok (.iconst 0, 1) := by decide +kernel
theorem dX4_mostAlikeBy_13 : decode cX4_mostAlikeBy 13 = .ok (.istore 4, 2) := by decide +kernel
theorem dX4_mostAlikeBy_15 : decode cX4_mostAlikeBy 15 = .ok (.iconst 0, 1) := by decide +kernel
theorem dX4_mostAlikeBy_16 : decode cX4_mostAlikeBy 16 = .ok (.istore 5, 2) := by decide +kernel
theorem dX4_mostAlikeBy_18 : decode cX4_mostAlikeBy 18 = .ok (.iload 5, 2) := by decide +kernel
theorem dX4_mostAlikeBy_20 : decode cX4_mostAlikeBy 20 = .ok (.aload_n 0, 1) := by decide +kernel
theorem dX4_mostAlikeBy_21 : decode cX4_mostAlikeBy 21 = .ok (.getfield 22, 3) := by decide +kernel
theorem dX4_mostAlikeBy_24 : decode cX4_mostAlikeBy 24 = .ok (.if_icmp .ge 36, 3) := by decide +kernel
theorem dX4_mostAlikeBy_27 : decode cX4_mostAlikeBy 27 = .ok (.aload_n 0, 1) := by decide +kernel
theorem dX4_mostAlikeBy_28 : decode cX4_mostAlikeBy 28 = .ok (.getfield 18, 3) := by decide +kernel
theorem dX4_mostAlikeBy_31 : decode cX4_mostAlikeBy 31 = .ok (.iload_n 3, 1) := by decide +kernel
theorem dX4_mostAlikeBy_32 : decode cX4_mostAlikeBy 32 = .ok (.iconst 4, 1) := by decide +kernel
theorem dX4_mostAlikeBy_33 : decode cX4_mostAlikeBy 33 = .ok (.imul, 1) := by decide +kernel
theorem dX4_mostAlikeBy_34 : decode cX4_mostAlikeBy 34 = .ok (.iload_n 1, 1) := by decide +kernel
theorem dX4_mostAlikeBy_35 : decode cX4_mostAlikeBy 35 = .ok (.iadd, 1) := by decide +kernel
theorem dX4_mostAlikeBy_36 : decode cX4_mostAlikeBy 36 = .ok (.iaload, 1) := by decide +kernel
theorem dX4_mostAlikeBy_37 : decode cX4_mostAlikeBy 37 = .ok (.aload_n 0, 1) := by decide +kernel
theorem dX4_mostAlikeBy_38 : decode cX4_mostAlikeBy 38 = .ok (.getfield 18, 3) := by decide +kernel
theorem dX4_mostAlikeBy_41 : decode cX4_mostAlikeBy 41 = .ok (.iload 5, 2) := by decide +kernel
theorem dX4_mostAlikeBy_43 : decode cX4_mostAlikeBy 43 = .ok (.iconst 4, 1) := by decide +kernel
theorem dX4_mostAlikeBy_44 : decode cX4_mostAlikeBy 44 = .ok (.imul, 1) := by decide +kernel
theorem dX4_mostAlikeBy_45 : decode cX4_mostAlikeBy 45 = .ok (.iload_n 1, 1) := by decide +kernel
theorem dX4_mostAlikeBy_46 : decode cX4_mostAlikeBy 46 = .ok (.iadd, 1) := by decide +kernel
theorem dX4_mostAlikeBy_47 : decode cX4_mostAlikeBy 47 = .ok (.iaload, 1) := by decide +kernel
theorem dX4_mostAlikeBy_48 : decode cX4_mostAlikeBy 48 = .ok (.if_icmp .ne 6, 3) := by decide +kernel
theorem dX4_mostAlikeBy_51 : decode cX4_mostAlikeBy 51 = .ok (.iinc 4 1, 3) := by decide +kernel
theorem dX4_mostAlikeBy_54 : decode cX4_mostAlikeBy 54 = .ok (.iinc 5 1, 3) := by decide +kernel
theorem dX4_mostAlikeBy_57 : decode cX4_mostAlikeBy 57 = .ok (.goto (-39), 3) := by decide +kernel
theorem dX4_mostAlikeBy_60 : decode cX4_mostAlikeBy 60 = .ok (.iload_n 2, 1) := by decide +kernel
theorem dX4_mostAlikeBy_61 : decode cX4_mostAlikeBy 61 = .ok (.iload 4, 2) := by decide +kernel
theorem dX4_mostAlikeBy_63 : decode cX4_mostAlikeBy 63 = .ok (.invokestatic 95, 3) := by decide +kernel
theorem dX4_mostAlikeBy_66 : decode cX4_mostAlikeBy 66 = .ok (.istore_n 2, 1) := by decide +kernel
theorem dX4_mostAlikeBy_67 : decode cX4_mostAlikeBy 67 = .ok (.iinc 3 1, 3) := by decide +kernel
theorem dX4_mostAlikeBy_70 : decode cX4_mostAlikeBy 70 = .ok (.goto (-66), 3) := by decide +kernel
theorem dX4_mostAlikeBy_73 : decode cX4_mostAlikeBy 73 = .ok (.iload_n 2, 1) := by decide +kernel
theorem dX4_mostAlikeBy_74 : decode cX4_mostAlikeBy 74 = .ok (.ireturn, 1) := by decide +kernel
theorem dX5_init_0 : decode cX5_init 0 = .ok (.aload_n 0, 1) := by decide +kernel
theorem dX5_init_1 : decode cX5_init 1 = .ok (.invokespecial 1, 3) := by decide +kernel
theorem dX5_init_4 : decode cX5_init 4 = .ok (.aload_n 0, 1) := by decide +kernel
theorem dX5_init_5 : decode cX5_init 5 = .ok (.sipush 256, 3) := by decide +kernel
theorem dX5_init_8 : decode cX5_init 8 = .ok (.newarray .int, 2) := by decide +kernel
theorem dX5_init_10 : decode cX5_init 10 = .ok (.putfield 9, 3) := by decide +kernel
theorem dX5_init_13 : decode cX5_init 13 = .ok (.aload_n 0, 1) := by decide +kernel
theorem dX5_init_14 : decode cX5_init 14 = .ok (.bipush 12, 2) := by decide +kernel
theorem dX5_init_16 : decode cX5_init 16 = .ok (.newarray .int, 2) := by decide +kernel
theorem dX5_init_18 : decode cX5_init 18 = .ok (.putfield 13, 3) := by decide +kernel
theorem dX5_init_21 : decode cX5_init 21 = .ok (.aload_n 0, 1) := by decide +kernel
theorem dX5_init_22 : decode cX5_init 22 = .ok (.bipush 12, 2) := by decide +kernel
theorem dX5_init_24 : decode cX5_init 24 = .ok (.newarray .int, 2) := by decide +kernel
theorem dX5_init_26 : decode cX5_init 26 = .ok (.putfield 16, 3) := by decide +kernel
theorem dX5_init_29 : decode cX5_init 29 = .ok (.aload_n 0, 1) := by decide +kernel
theorem dX5_init_30 : decode cX5_init 30 = .ok (.bipush 12, 2) := by decide +kernel
theorem dX5_init_32 : decode cX5_init 32 = .ok (.newarray .int, 2) := by decide +kernel
theorem dX5_init_34 : decode cX5_init 34 = .ok (.putfield 19, 3) := by decide +kernel
theorem dX5_init_37 : decode cX5_init 37 = .ok (.aload_n 0, 1) := by decide +kernel
theorem dX5_init_38 : decode cX5_init 38 = .ok (.iconst 0, 1) := by decide +kernel
theorem dX5_init_39 : decode cX5_init 39 = .ok (.putfield 22, 3) := by decide +kernel
theorem dX5_init_42 : decode cX5_init 42 = .ok (.aload_n 0, 1) := by decide +kernel
theorem dX5_init_43 : decode cX5_init 43 = .ok (.iconst 0, 1) := by decide +kernel
theorem dX5_init_44 : decode cX5_init 44 = .ok (.putfield 26, 3) := by decide +kernel
theorem dX5_init_47 : decode cX5_init 47 = .ok (.return_, 1) := by decide +kernel
theorem dX5_clear_0 : decode cX5_clear 0 = .ok (.aload_n 0, 1) := by decide +kernel
theorem dX5_clear_1 : decode cX5_clear 1 = .ok (.iconst 0, 1) := by decide +kernel
theorem dX5_clear_2 : decode cX5_clear 2 = .ok (.putfield 22, 3) := by decide +kernel
theorem dX5_clear_5 : decode cX5_clear 5 = .ok (.aload_n 0, 1) := by decide +kernel
theorem dX5_clear_6 : decode cX5_clear 6 = .ok (.iconst 0, 1) := by decide +kernel
theorem dX5_clear_7 : decode cX5_clear 7 = .ok (.putfield 26, 3) := by decide +kernel
theorem dX5_clear_10 : decode cX5_clear 10 = .ok (.return_, 1) := by decide +kernel
theorem dX5_emit_0 : decode cX5_emit 0 = .ok (.aload_n 0, 1) := by decide +kernel
theorem dX5_emit_1 : decode cX5_emit 1 = .ok (.getfield 22, 3) := by decide +kernel
theorem dX5_emit_4 : decode cX5_emit 4 = .ok (.sipush 256, 3) := by decide +kernel
theorem dX5_emit_7 : decode cX5_emit 7 = .ok (.if_icmp .ge 27, 3) := by decide +kernel
theorem dX5_emit_10 : decode cX5_emit 10 = .ok (.aload_n 0, 1) := by decide +kernel
theorem dX5_emit_11 : decode cX5_emit 11 = .ok (.getfield 9, 3) := by decide +kernel
theorem dX5_emit_14 : decode cX5_emit 14 = .ok (.aload_n 0, 1) := by decide +kernel
theorem dX5_emit_15 : decode cX5_emit 15 = .ok (.getfield 22, 3) := by decide +kernel
theorem dX5_emit_18 : decode cX5_emit 18 = .ok (.iload_n 1, 1) := by decide +kernel
