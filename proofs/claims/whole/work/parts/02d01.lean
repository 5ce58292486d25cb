theorem dX5_emit_19 : decode cX5_emit 19 = .ok (.iload_n 2, 1) := by decide +kernel
theorem dX5_emit_20 : decode cX5_emit 20 = .ok (.iconst 4, 1) := by decide +kernel
theorem dX5_emit_21 : decode cX5_emit 21 = .ok (.ishl, 1) := by decide +kernel
theorem dX5_emit_22 : decode cX5_emit 22 = .ok (.ior, 1) := by decide +kernel
theorem dX5_emit_23 : decode cX5_emit 23 = .ok (.iastore, 1) := by decide +kernel
theorem dX5_emit_24 : decode cX5_emit 24 = .ok (.aload_n 0, 1) := by decide +kernel
theorem dX5_emit_25 : decode cX5_emit 25 = .ok (.dup, 1) := by decide +kernel
theorem dX5_emit_26 : decode cX5_emit 26 = .ok (.getfield 22, 3) := by decide +kernel
theorem dX5_emit_29 : decode cX5_emit 29 = .ok (.iconst 1, 1) := by decide +kernel
theorem dX5_emit_30 : decode cX5_emit 30 = .ok (.iadd, 1) := by decide +kernel
theorem dX5_emit_31 : decode cX5_emit 31 = .ok (.putfield 22, 3) := by decide +kernel
theorem dX5_emit_34 : decode cX5_emit 34 = .ok (.return_, 1) := by decide +kernel
theorem dX5_addClause_0 : decode cX5_addClause 0 = .ok (.aload_n 0, 1) := by decide +kernel
theorem dX5_addClause_1 : decode cX5_addClause 1 = .ok (.getfield 26, 3) := by decide +kernel
theorem dX5_addClause_4 : decode cX5_addClause 4 = .ok (.bipush 12, 2) := by decide +kernel
theorem dX5_addClause_6 : decode cX5_addClause 6 = .ok (.if_icmp .ge 46, 3) := by decide +kernel
theorem dX5_addClause_9 : decode cX5_addClause 9 = .ok (.aload_n 0, 1) := by decide +kernel
theorem dX5_addClause_10 : decode cX5_addClause 10 = .ok (.getfield 13, 3) := by decide +kernel
theorem dX5_addClause_13 : decode cX5_addClause 13 = .ok (.aload_n 0, 1) := by decide +kernel
theorem dX5_addClause_14 : decode cX5_addClause 14 = .ok (.getfield 26, 3) := by decide +kernel
theorem dX5_addClause_17 : decode cX5_addClause 17 = .ok (.iload_n 1, 1) := by decide +kernel
theorem dX5_addClause_18 : decode cX5_addClause 18 = .ok (.iastore, 1) := by decide +kernel
theorem dX5_addClause_19 : decode cX5_addClause 19 = .ok (.aload_n 0, 1) := by decide +kernel
theorem dX5_addClause_20 : decode cX5_addClause 20 = .ok (.getfield 16, 3) := by decide +kernel
theorem dX5_addClause_23 : decode cX5_addClause 23 = .ok (.aload_n 0, 1) := by decide +kernel
theorem dX5_addClause_24 : decode cX5_addClause 24 = .ok (.getfield 26, 3) := by decide +kernel
theorem dX5_addClause_27 : decode cX5_addClause 27 = .ok (.iload_n 2, 1) := by decide +kernel
theorem dX5_addClause_28 : decode cX5_addClause 28 = .ok (.iastore, 1) := by decide +kernel
theorem dX5_addClause_29 : decode cX5_addClause 29 = .ok (.aload_n 0, 1) := by decide +kernel
theorem dX5_addClause_30 : decode cX5_addClause 30 = .ok (.getfield 19, 3) := by decide +kernel
theorem dX5_addClause_33 : decode cX5_addClause 33 = .ok (.aload_n 0, 1) := by decide +kernel
theorem dX5_addClause_34 : decode cX5_addClause 34 = .ok (.getfield 26, 3) := by decide +kernel
theorem dX5_addClause_37 : decode cX5_addClause 37 = .ok (.aload_n 0, 1) := by decide +kernel
theorem dX5_addClause_38 : decode cX5_addClause 38 = .ok (.getfield 22, 3) := by decide +kernel
theorem dX5_addClause_41 : decode cX5_addClause 41 = .ok (.iastore, 1) := by decide +kernel
theorem dX5_addClause_42 : decode cX5_addClause 42 = .ok (.aload_n 0, 1) := by decide +kernel
theorem dX5_addClause_43 : decode cX5_addClause 43 = .ok (.dup, 1) := by decide +kernel
theorem dX5_addClause_44 : decode cX5_addClause 44 = .ok (.getfield 26, 3) := by decide +kernel
theorem dX5_addClause_47 : decode cX5_addClause 47 = .ok (.iconst 1, 1) := by decide +kernel
theorem dX5_addClause_48 : decode cX5_addClause 48 = .ok (.iadd, 1) := by decide +kernel
theorem dX5_addClause_49 : decode cX5_addClause 49 = .ok (.putfield 26, 3) := by decide +kernel
theorem dX5_addClause_52 : decode cX5_addClause 52 = .ok (.return_, 1) := by decide +kernel
theorem dX6_init_0 : decode cX6_init 0 = .ok (.aload_n 0, 1) := by decide +kernel
theorem dX6_init_1 : decode cX6_init 1 = .ok (.invokespecial 3, 3) := by decide +kernel
theorem dX6_init_4 : decode cX6_init 4 = .ok (.aload_n 0, 1) := by decide +kernel
theorem dX6_init_5 : decode cX6_init 5 = .ok (.new 9, 3) := by decide +kernel
theorem dX6_init_8 : decode cX6_init 8 = .ok (.dup, 1) := by decide +kernel
theorem dX6_init_9 : decode cX6_init 9 = .ok (.invokespecial 11, 3) := by decide +kernel
theorem dX6_init_12 : decode cX6_init 12 = .ok (.putfield 12, 3) := by decide +kernel
theorem dX6_init_15 : decode cX6_init 15 = .ok (.aload_n 0, 1) := by decide +kernel
theorem dX6_init_16 : decode cX6_init 16 = .ok (.iconst 0, 1) := by decide +kernel
theorem dX6_init_17 : decode cX6_init 17 = .ok (.putfield 18, 3) := by decide +kernel
theorem dX6_init_20 : decode cX6_init 20 = .ok (.aload_n 0, 1) := by decide +kernel
theorem dX6_init_21 : decode cX6_init 21 = .ok (.aload_n 1, 1) := by decide +kernel
theorem dX6_init_22 : decode cX6_init 22 = .ok (.putfield 22, 3) := by decide +kernel
theorem dX6_init_25 : decode cX6_init 25 = .ok (.return_, 1) := by decide +kernel
theorem dX6_readInto_0 : decode cX6_readInto 0 = .ok (.aload_n 0, 1) := by decide +kernel
theorem dX6_readInto_1 : decode cX6_readInto 1 = .ok (.aload_n 1, 1) := by decide +kernel
theorem dX6_readInto_2 : decode cX6_readInto 2 = .ok (.putfield 12, 3) := by decide +kernel
theorem dX6_readInto_5 : decode cX6_readInto 5 = .ok (.aload_n 0, 1) := by decide +kernel
theorem dX6_readInto_6 : decode cX6_readInto 6 = .ok (.getfield 12, 3) := by decide +kernel
theorem dX6_readInto_9 : decode cX6_readInto 9 = .ok (.invokevirtual 26, 3) := by decide +kernel
theorem dX6_readInto_12 : decode cX6_readInto 12 = .ok (.aload_n 0, 1) := by decide +kernel
theorem dX6_readInto_13 : decode cX6_readInto 13 = .ok (.iconst 0, 1) := by decide +kernel
theorem dX6_readInto_14 : decode cX6_readInto 14 = .ok (.putfield 18, 3) := by decide +kernel
theorem dX6_readInto_17 : decode cX6_readInto 17 = .ok (.aload_n 0, 1) := by decide +kernel
theorem dX6_readInto_18 : decode cX6_readInto 18 = .ok (.getfield 22, 3) := by decide +kernel
theorem dX6_readInto_21 : decode cX6_readInto 21 = .ok (.invokevirtual 29, 3) := by decide +kernel
theorem dX6_readInto_24 : decode cX6_readInto 24 = .ok (.iconst 1, 1) := by decide +kernel
theorem dX6_readInto_25 : decode cX6_readInto 25 = .ok (.istore_n 2, 1) := by decide +kernel
theorem dX6_readInto_26 : decode cX6_readInto 26 = .ok (.iconst 0, 1) := by decide +kernel
theorem dX6_readInto_27 : decode cX6_readInto 27 = .ok (.istore_n 3, 1) := by decide +kernel
theorem dX6_readInto_28 : decode cX6_readInto 28 = .ok (.iload_n 2, 1) := by decide +kernel
theorem dX6_readInto_29 : decode cX6_readInto 29 = .ok (.ifCond .eq 48, 3) := by decide +kernel
theorem dX6_readInto_32 : decode cX6_readInto 32 = .ok (.iload_n 3, 1) := by decide +kernel
theorem dX6_readInto_33 : decode cX6_readInto 33 = .ok (.bipush 12, 2) := by decide +kernel
theorem dX6_readInto_35 : decode cX6_readInto 35 = .ok (.if_icmp .gt 42, 3) := by decide +kernel
theorem dX6_readInto_38 : decode cX6_readInto 38 = .ok (.aload_n 0, 1) := by decide +kernel
theorem dX6_readInto_39 : decode cX6_readInto 39 = .ok (.iload_n 3, 1) := by decide +kernel
theorem dX6_readInto_40 : decode cX6_readInto 40 = .ok (.invokevirtual 34, 3) := by decide +kernel
theorem dX6_readInto_43 : decode cX6_readInto 43 = .ok (.aload_n 0, 1) := by decide +kernel
theorem dX6_readInto_44 : decode cX6_readInto 44 = .ok (.getfield 22, 3) := by decide +kernel
theorem dX6_readInto_47 : decode cX6_readInto 47 = .ok (.getfield 38, 3) := by decide +kernel
theorem dX6_readInto_50 : decode cX6_readInto 50 = .ok (.ifCond .ne 19, 3) := by decide +kernel
theorem dX6_readInto_53 : decode cX6_readInto 53 = .ok (.aload_n 0, 1) := by decide +kernel
theorem dX6_readInto_54 : decode cX6_readInto 54 = .ok (.getfield 22, 3) := by decide +kernel
theorem dX6_readInto_57 : decode cX6_readInto 57 = .ok (.bipush 59, 2) := by decide +kernel
theorem dX6_readInto_59 : decode cX6_readInto 59 = .ok (.invokevirtual 41, 3) := by decide +kernel
theorem dX6_readInto_62 : decode cX6_readInto 62 = .ok (.ifCond .eq 7, 3) := by decide +kernel
theorem dX6_readInto_65 : decode cX6_readInto 65 = .ok (.iconst 1, 1) := by decide +kernel
theorem dX6_readInto_66 : decode cX6_readInto 66 = .ok (.goto 4, 3) := by decide +kernel
theorem dX6_readInto_69 : decode cX6_readInto 69 = .ok (.iconst 0, 1) := by decide +kernel
theorem dX6_readInto_70 : decode cX6_readInto 70 = .ok (.istore_n 2, 1) := by decide +kernel
theorem dX6_readInto_71 : decode cX6_readInto 71 = .ok (.iinc 3 1, 3) := by decide +kernel
theorem dX6_readInto_74 : decode cX6_readInto 74 = .ok (.goto (-46), 3) := by decide +kernel
theorem dX6_readInto_77 : decode cX6_readInto 77 = .ok (.aload_n 0, 1) := by decide +kernel
theorem dX6_readInto_78 : decode cX6_readInto 78 = .ok (.getfield 22, 3) := by decide +kernel
theorem dX6_readInto_81 : decode cX6_readInto 81 = .ok (.invokevirtual 45, 3) := by decide +kernel
theorem dX6_readInto_84 : decode cX6_readInto 84 = .ok (.iconst (-1), 1) := by decide +kernel
theorem dX6_readInto_85 : decode cX6_readInto 85 = .ok (.if_icmp .eq 18, 3) := by decide +kernel
theorem dX6_readInto_88 : decode cX6_readInto 88 = .ok (.aload_n 0, 1) := by decide +kernel
theorem dX6_readInto_89 : decode cX6_readInto 89 = .ok (.getfield 22, 3) := by decide +kernel
theorem dX6_readInto_92 : decode cX6_readInto 92 = .ok (.aload_n 0, 1) := by decide +kernel
theorem dX6_readInto_93 : decode cX6_readInto 93 = .ok (.getfield 22, 3) := by decide +kernel
theorem dX6_readInto_96 : decode cX6_readInto 96 = .ok (.getfield 49, 3) := by decide +kernel
theorem dX6_readInto_99 : decode cX6_readInto 99 = .ok (.iconst 0, 1) := by decide +kernel
theorem dX6_readInto_100 : decode cX6_readInto 100 = .ok (.invokevirtual 52, 3) := by decide +kernel
theorem dX6_readInto_103 : decode cX6_readInto 103 = .ok (.aload_n 0, 1) := by decide +kernel
theorem dX6_readInto_104 : decode cX6_readInto 104 = .ok (.getfield 22, 3) := by decide +kernel
theorem dX6_readInto_107 : decode cX6_readInto 107 = .ok (.getfield 38, 3) := by decide +kernel
theorem dX6_readInto_110 : decode cX6_readInto 110 = .ok (.ireturn, 1) := by decide +kernel
theorem dX6_readClause_0 : decode cX6_readClause 0 = .ok (.aload_n 0, 1) := by decide +kernel
theorem dX6_readClause_1 : decode cX6_readClause 1 = .ok (.getfield 22, 3) := by decide +kernel
theorem dX6_readClause_4 : decode cX6_readClause 4 = .ok (.invokevirtual 56, 3) := by decide +kernel
theorem dX6_readClause_7 : decode cX6_readClause 7 = .ok (.istore_n 2, 1) := by decide +kernel
theorem dX6_readClause_8 : decode cX6_readClause 8 = .ok (.aload_n 0, 1) := by decide +kernel
theorem dX6_readClause_9 : decode cX6_readClause 9 = .ok (.getfield 22, 3) := by decide +kernel
theorem dX6_readClause_12 : decode cX6_readClause 12 = .ok (.ldc 59, 2) := by decide +kernel
theorem dX6_readClause_14 : decode cX6_readClause 14 = .ok (.invokevirtual 61, 3) := by decide +kernel
theorem dX6_readClause_17 : decode cX6_readClause 17 = .ok (.iconst (-1), 1) := by decide +kernel
theorem dX6_readClause_18 : decode cX6_readClause 18 = .ok (.if_icmp .ne 13, 3) := by decide +kernel
theorem dX6_readClause_21 : decode cX6_readClause 21 = .ok (.aload_n 0, 1) := by decide +kernel
theorem dX6_readClause_22 : decode cX6_readClause 22 = .ok (.getfield 22, 3) := by decide +kernel
theorem dX6_readClause_25 : decode cX6_readClause 25 = .ok (.iload_n 2, 1) := by decide +kernel
theorem dX6_readClause_26 : decode cX6_readClause 26 = .ok (.iconst 0, 1) := by decide +kernel
theorem dX6_readClause_27 : decode cX6_readClause 27 = .ok (.invokevirtual 52, 3) := by decide +kernel
theorem dX6_readClause_30 : decode cX6_readClause 30 = .ok (.return_, 1) := by decide +kernel
theorem dX6_readClause_31 : decode cX6_readClause 31 = .ok (.iload_n 1, 1) := by decide +kernel
theorem dX6_readClause_32 : decode cX6_readClause 32 = .ok (.bipush 12, 2) := by decide +kernel
theorem dX6_readClause_34 : decode cX6_readClause 34 = .ok (.if_icmp .lt 13, 3) := by decide +kernel
theorem dX6_readClause_37 : decode cX6_readClause 37 = .ok (.aload_n 0, 1) := by decide +kernel
theorem dX6_readClause_38 : decode cX6_readClause 38 = .ok (.getfield 22, 3) := by decide +kernel
theorem dX6_readClause_41 : decode cX6_readClause 41 = .ok (.iload_n 2, 1) := by decide +kernel
theorem dX6_readClause_42 : decode cX6_readClause 42 = .ok (.iconst 4, 1) := by decide +kernel
theorem dX6_readClause_43 : decode cX6_readClause 43 = .ok (.invokevirtual 52, 3) := by decide +kernel
theorem dX6_readClause_46 : decode cX6_readClause 46 = .ok (.return_, 1) := by decide +kernel
theorem dX6_readClause_47 : decode cX6_readClause 47 = .ok (.aload_n 0, 1) := by decide +kernel
theorem dX6_readClause_48 : decode cX6_readClause 48 = .ok (.getfield 12, 3) := by decide +kernel
theorem dX6_readClause_51 : decode cX6_readClause 51 = .ok (.getfield 65, 3) := by decide +kernel
theorem dX6_readClause_54 : decode cX6_readClause 54 = .ok (.istore_n 3, 1) := by decide +kernel
theorem dX6_readClause_55 : decode cX6_readClause 55 = .ok (.aload_n 0, 1) := by decide +kernel
theorem dX6_readClause_56 : decode cX6_readClause 56 = .ok (.invokevirtual 68, 3) := by decide +kernel
theorem dX6_readClause_59 : decode cX6_readClause 59 = .ok (.aload_n 0, 1) := by decide +kernel
theorem dX6_readClause_60 : decode cX6_readClause 60 = .ok (.getfield 12, 3) := by decide +kernel
theorem dX6_readClause_63 : decode cX6_readClause 63 = .ok (.getfield 65, 3) := by decide +kernel
theorem dX6_readClause_66 : decode cX6_readClause 66 = .ok (.istore 4, 2) := by decide +kernel
theorem dX6_readClause_68 : decode cX6_readClause 68 = .ok (.aload_n 0, 1) := by decide +kernel
theorem dX6_readClause_69 : decode cX6_readClause 69 = .ok (.ldc 71, 2) := by decide +kernel
theorem dX6_readClause_71 : decode cX6_readClause 71 = .ok (.invokevirtual 73, 3) := by decide +kernel
theorem dX6_readClause_74 : decode cX6_readClause 74 = .ok (.ifCond .eq 8, 3) := by decide +kernel
theorem dX6_readClause_77 : decode cX6_readClause 77 = .ok (.aload_n 0, 1) := by decide +kernel
theorem dX6_readClause_78 : decode cX6_readClause 78 = .ok (.iconst 0, 1) := by decide +kernel
theorem dX6_readClause_79 : decode cX6_readClause 79 = .ok (.invokevirtual 77, 3) := by decide +kernel
theorem dX6_readClause_82 : decode cX6_readClause 82 = .ok (.aload_n 0, 1) := by decide +kernel
theorem dX6_readClause_83 : decode cX6_readClause 83 = .ok (.getfield 12, 3) := by decide +kernel
theorem dX6_readClause_86 : decode cX6_readClause 86 = .ok (.iload_n 3, 1) := by decide +kernel
theorem dX6_readClause_87 : decode cX6_readClause 87 = .ok (.iload 4, 2) := by decide +kernel
theorem dX6_readClause_89 : decode cX6_readClause 89 = .ok (.invokevirtual 80, 3) := by decide +kernel
theorem dX6_readClause_92 : decode cX6_readClause 92 = .ok (.return_, 1) := by decide +kernel
theorem dX6_isNextWord_0 : decode cX6_isNextWord 0 = .ok (.aload_n 0, 1) := by decide +kernel
theorem dX6_isNextWord_1 : decode cX6_isNextWord 1 = .ok (.getfield 22, 3) := by decide +kernel
theorem dX6_isNextWord_4 : decode cX6_isNextWord 4 = .ok (.getfield 38, 3) := by decide +kernel
theorem dX6_isNextWord_7 : decode cX6_isNextWord 7 = .ok (.ifCond .ne 19, 3) := by decide +kernel
theorem dX6_isNextWord_10 : decode cX6_isNextWord 10 = .ok (.aload_n 0, 1) := by decide +kernel
theorem dX6_isNextWord_11 : decode cX6_isNextWord 11 = .ok (.getfield 22, 3) := by decide +kernel
theorem dX6_isNextWord_14 : decode cX6_isNextWord 14 = .ok (.aload_n 1, 1) := by decide +kernel
theorem dX6_isNextWord_15 : decode cX6_isNextWord 15 = .ok (.invokevirtual 61, 3) := by decide +kernel
theorem dX6_isNextWord_18 : decode cX6_isNextWord 18 = .ok (.iconst (-1), 1) := by decide +kernel
theorem dX6_isNextWord_19 : decode cX6_isNextWord 19 = .ok (.if_icmp .eq 7, 3) := by decide +kernel
theorem dX6_isNextWord_22 : decode cX6_isNextWord 22 = .ok (.iconst 1, 1) := by decide +kernel
theorem dX6_isNextWord_23 : decode cX6_isNextWord 23 = .ok (.goto 4, 3) := by decide +kernel
theorem dX6_isNextWord_26 : decode cX6_isNextWord 26 = .ok (.iconst 0, 1) := by decide +kernel
theorem dX6_isNextWord_27 : decode cX6_isNextWord 27 = .ok (.ireturn, 1) := by decide +kernel
theorem dX6_readTest_0 : decode cX6_readTest 0 = .ok (.aload_n 0, 1) := by decide +kernel
theorem dX6_readTest_1 : decode cX6_readTest 1 = .ok (.iload_n 1, 1) := by decide +kernel
theorem dX6_readTest_2 : decode cX6_readTest 2 = .ok (.invokevirtual 83, 3) := by decide +kernel
theorem dX6_readTest_5 : decode cX6_readTest 5 = .ok (.iconst 0, 1) := by decide +kernel
theorem dX6_readTest_6 : decode cX6_readTest 6 = .ok (.istore_n 2, 1) := by decide +kernel
theorem dX6_readTest_7 : decode cX6_readTest 7 = .ok (.iload_n 2, 1) := by decide +kernel
theorem dX6_readTest_8 : decode cX6_readTest 8 = .ok (.sipush 400, 3) := by decide +kernel
theorem dX6_readTest_11 : decode cX6_readTest 11 = .ok (.if_icmp .ge 33, 3) := by decide +kernel
theorem dX6_readTest_14 : decode cX6_readTest 14 = .ok (.aload_n 0, 1) := by decide +kernel
theorem dX6_readTest_15 : decode cX6_readTest 15 = .ok (.ldc 86, 2) := by decide +kernel
theorem dX6_readTest_17 : decode cX6_readTest 17 = .ok (.invokevirtual 73, 3) := by decide +kernel
theorem dX6_readTest_20 : decode cX6_readTest 20 = .ok (.ifCond .eq 24, 3) := by decide +kernel
theorem dX6_readTest_23 : decode cX6_readTest 23 = .ok (.aload_n 0, 1) := by decide +kernel
theorem dX6_readTest_24 : decode cX6_readTest 24 = .ok (.iload_n 1, 1) := by decide +kernel
theorem dX6_readTest_25 : decode cX6_readTest 25 = .ok (.invokevirtual 83, 3) := by decide +kernel
theorem dX6_readTest_28 : decode cX6_readTest 28 = .ok (.aload_n 0, 1) := by decide +kernel
theorem dX6_readTest_29 : decode cX6_readTest 29 = .ok (.getfield 12, 3) := by decide +kernel
theorem dX6_readTest_32 : decode cX6_readTest 32 = .ok (.bipush 13, 2) := by decide +kernel
theorem dX6_readTest_34 : decode cX6_readTest 34 = .ok (.iconst 0, 1) := by decide +kernel
theorem dX6_readTest_35 : decode cX6_readTest 35 = .ok (.invokevirtual 88, 3) := by decide +kernel
theorem dX6_readTest_38 : decode cX6_readTest 38 = .ok (.iinc 2 1, 3) := by decide +kernel
theorem dX6_readTest_41 : decode cX6_readTest 41 = .ok (.goto (-34), 3) := by decide +kernel
theorem dX6_readTest_44 : decode cX6_readTest 44 = .ok (.return_, 1) := by decide +kernel
theorem dX6_readPart_0 : decode cX6_readPart 0 = .ok (.aload_n 0, 1) := by decide +kernel
theorem dX6_readPart_1 : decode cX6_readPart 1 = .ok (.iload_n 1, 1) := by decide +kernel
theorem dX6_readPart_2 : decode cX6_readPart 2 = .ok (.invokevirtual 91, 3) := by decide +kernel
theorem dX6_readPart_5 : decode cX6_readPart 5 = .ok (.iconst 0, 1) := by decide +kernel
theorem dX6_readPart_6 : decode cX6_readPart 6 = .ok (.istore_n 2, 1) := by decide +kernel
theorem dX6_readPart_7 : decode cX6_readPart 7 = .ok (.iload_n 2, 1) := by decide +kernel
theorem dX6_readPart_8 : decode cX6_readPart 8 = .ok (.sipush 400, 3) := by decide +kernel
theorem dX6_readPart_11 : decode cX6_readPart 11 = .ok (.if_icmp .ge 33, 3) := by decide +kernel
theorem dX6_readPart_14 : decode cX6_readPart 14 = .ok (.aload_n 0, 1) := by decide +kernel
theorem dX6_readPart_15 : decode cX6_readPart 15 = .ok (.ldc 94, 2) := by decide +kernel
theorem dX6_readPart_17 : decode cX6_readPart 17 = .ok (.invokevirtual 73, 3) := by decide +kernel
theorem dX6_readPart_20 : decode cX6_readPart 20 = .ok (.ifCond .eq 24, 3) := by decide +kernel
theorem dX6_readPart_23 : decode cX6_readPart 23 = .ok (.aload_n 0, 1) := by decide +kernel
theorem dX6_readPart_24 : decode cX6_readPart 24 = .ok (.iload_n 1, 1) := by decide +kernel
theorem dX6_readPart_25 : decode cX6_readPart 25 = .ok (.invokevirtual 91, 3) := by decide +kernel
theorem dX6_readPart_28 : decode cX6_readPart 28 = .ok (.aload_n 0, 1) := by decide +kernel
theorem dX6_readPart_29 : decode cX6_readPart 29 = .ok (.getfield 12, 3) := by decide +kernel
theorem dX6_readPart_32 : decode cX6_readPart 32 = .ok (.bipush 12, 2) := by decide +kernel
theorem dX6_readPart_34 : decode cX6_readPart 34 = .ok (.iconst 0, 1) := by decide +kernel
theorem dX6_readPart_35 : decode cX6_readPart 35 = .ok (.invokevirtual 88, 3) := by decide +kernel
theorem dX6_readPart_38 : decode cX6_readPart 38 = .ok (.iinc 2 1, 3) := by decide +kernel
theorem dX6_readPart_41 : decode cX6_readPart 41 = .ok (.goto (-34), 3) := by decide +kernel
theorem dX6_readPart_44 : decode cX6_readPart 44 = .ok (.return_, 1) := by decide +kernel
theorem dX6_readFact_0 : decode cX6_readFact 0 = .ok (.aload_n 0, 1) := by decide +kernel
theorem dX6_readFact_1 : decode cX6_readFact 1 = .ok (.getfield 22, 3) := by decide +kernel
theorem dX6_readFact_4 : decode cX6_readFact 4 = .ok (.invokevirtual 56, 3) := by decide +kernel
theorem dX6_readFact_7 : decode cX6_readFact 7 = .ok (.istore_n 2, 1) := by decide +kernel
theorem dX6_readFact_8 : decode cX6_readFact 8 = .ok (.aload_n 0, 1) := by decide +kernel
theorem dX6_readFact_9 : decode cX6_readFact 9 = .ok (.ldc 96, 2) := by decide +kernel
theorem dX6_readFact_11 : decode cX6_readFact 11 = .ok (.invokevirtual 73, 3) := by decide +kernel
theorem dX6_readFact_14 : decode cX6_readFact 14 = .ok (.istore_n 3, 1) := by decide +kernel
theorem dX6_readFact_15 : decode cX6_readFact 15 = .ok (.iload_n 3, 1) := by decide +kernel
theorem dX6_readFact_16 : decode cX6_readFact 16 = .ok (.ifCond .ne 29, 3) := by decide +kernel
theorem dX6_readFact_19 : decode cX6_readFact 19 = .ok (.aload_n 0, 1) := by decide +kernel
theorem dX6_readFact_20 : decode cX6_readFact 20 = .ok (.getfield 22, 3) := by decide +kernel
theorem dX6_readFact_23 : decode cX6_readFact 23 = .ok (.getfield 38, 3) := by decide +kernel
theorem dX6_readFact_26 : decode cX6_readFact 26 = .ok (.ifCond .ne 19, 3) := by decide +kernel
theorem dX6_readFact_29 : decode cX6_readFact 29 = .ok (.aload_n 0, 1) := by decide +kernel
theorem dX6_readFact_30 : decode cX6_readFact 30 = .ok (.getfield 22, 3) := by decide +kernel
theorem dX6_readFact_33 : decode cX6_readFact 33 = .ok (.bipush 91, 2) := by decide +kernel
theorem dX6_readFact_35 : decode cX6_readFact 35 = .ok (.invokevirtual 41, 3) := by decide +kernel
theorem dX6_readFact_38 : decode cX6_readFact 38 = .ok (.ifCond .eq 7, 3) := by decide +kernel
theorem dX6_readFact_41 : decode cX6_readFact 41 = .ok (.iconst 1, 1) := by decide +kernel
theorem dX6_readFact_42 : decode cX6_readFact 42 = .ok (.goto 4, 3) := by decide +kernel
theorem dX6_readFact_45 : decode cX6_readFact 45 = .ok (.iconst 0, 1) := by decide +kernel
theorem dX6_readFact_46 : decode cX6_readFact 46 = .ok (.istore 4, 2) := by decide +kernel
theorem dX6_readFact_48 : decode cX6_readFact 48 = .ok (.iload_n 3, 1) := by decide +kernel
theorem dX6_readFact_49 : decode cX6_readFact 49 = .ok (.ifCond .ne 8, 3) := by decide +kernel
theorem dX6_readFact_52 : decode cX6_readFact 52 = .ok (.iload 4, 2) := by decide +kernel
theorem dX6_readFact_54 : decode cX6_readFact 54 = .ok (.ifCond .eq 21, 3) := by decide +kernel
theorem dX6_readFact_57 : decode cX6_readFact 57 = .ok (.iload_n 1, 1) := by decide +kernel
theorem dX6_readFact_58 : decode cX6_readFact 58 = .ok (.bipush 10, 2) := by decide +kernel
theorem dX6_readFact_60 : decode cX6_readFact 60 = .ok (.if_icmp .lt 15, 3) := by decide +kernel
theorem dX6_readFact_63 : decode cX6_readFact 63 = .ok (.aload_n 0, 1) := by decide +kernel
theorem dX6_readFact_64 : decode cX6_readFact 64 = .ok (.getfield 22, 3) := by decide +kernel
theorem dX6_readFact_67 : decode cX6_readFact 67 = .ok (.iload_n 2, 1) := by decide +kernel
theorem dX6_readFact_68 : decode cX6_readFact 68 = .ok (.iconst 2, 1) := by decide +kernel
theorem dX6_readFact_69 : decode cX6_readFact 69 = .ok (.invokevirtual 52, 3) := by decide +kernel
theorem dX6_readFact_72 : decode cX6_readFact 72 = .ok (.goto 70, 3) := by decide +kernel
theorem dX6_readFact_75 : decode cX6_readFact 75 = .ok (.iload_n 3, 1) := by decide +kernel
theorem dX6_readFact_76 : decode cX6_readFact 76 = .ok (.ifCond .eq 23, 3) := by decide +kernel
theorem dX6_readFact_79 : decode cX6_readFact 79 = .ok (.aload_n 0, 1) := by decide +kernel
theorem dX6_readFact_80 : decode cX6_readFact 80 = .ok (.iload_n 1, 1) := by decide +kernel
theorem dX6_readFact_81 : decode cX6_readFact 81 = .ok (.iconst 1, 1) := by decide +kernel
theorem dX6_readFact_82 : decode cX6_readFact 82 = .ok (.iadd, 1) := by decide +kernel
theorem dX6_readFact_83 : decode cX6_readFact 83 = .ok (.invokevirtual 91, 3) := by decide +kernel
theorem dX6_readFact_86 : decode cX6_readFact 86 = .ok (.aload_n 0, 1) := by decide +kernel
theorem dX6_readFact_87 : decode cX6_readFact 87 = .ok (.getfield 12, 3) := by decide +kernel
theorem dX6_readFact_90 : decode cX6_readFact 90 = .ok (.bipush 14, 2) := by decide +kernel
theorem dX6_readFact_92 : decode cX6_readFact 92 = .ok (.iconst 0, 1) := by decide +kernel
theorem dX6_readFact_93 : decode cX6_readFact 93 = .ok (.invokevirtual 88, 3) := by decide +kernel
theorem dX6_readFact_96 : decode cX6_readFact 96 = .ok (.goto 46, 3) := by decide +kernel
theorem dX6_readFact_99 : decode cX6_readFact 99 = .ok (.iload 4, 2) := by decide +kernel
theorem dX6_readFact_101 : decode cX6_readFact 101 = .ok (.ifCond .eq 17, 3) := by decide +kernel
theorem dX6_readFact_104 : decode cX6_readFact 104 = .ok (.aload_n 0, 1) := by decide +kernel
theorem dX6_readFact_105 : decode cX6_readFact 105 = .ok (.iload_n 1, 1) := by decide +kernel
theorem dX6_readFact_106 : decode cX6_readFact 106 = .ok (.iconst 1, 1) := by decide +kernel
theorem dX6_readFact_107 : decode cX6_readFact 107 = .ok (.iadd, 1) := by decide +kernel
theorem dX6_readFact_108 : decode cX6_readFact 108 = .ok (.invokevirtual 77, 3) := by decide +kernel
theorem dX6_readFact_111 : decode cX6_readFact 111 = .ok (.aload_n 0, 1) := by decide +kernel
theorem dX6_readFact_112 : decode cX6_readFact 112 = .ok (.invokevirtual 98, 3) := by decide +kernel
theorem dX6_readFact_115 : decode cX6_readFact 115 = .ok (.goto 27, 3) := by decide +kernel
theorem dX6_readFact_118 : decode cX6_readFact 118 = .ok (.aload_n 0, 1) := by decide +kernel
theorem dX6_readFact_119 : decode cX6_readFact 119 = .ok (.invokevirtual 68, 3) := by decide +kernel
theorem dX6_readFact_122 : decode cX6_readFact 122 = .ok (.aload_n 0, 1) := by decide +kernel
theorem dX6_readFact_123 : decode cX6_readFact 123 = .ok (.invokevirtual 101, 3) := by decide +kernel
theorem dX6_readFact_126 : decode cX6_readFact 126 = .ok (.istore 5, 2) := by decide +kernel
theorem dX6_readFact_128 : decode cX6_readFact 128 = .ok (.aload_n 0, 1) := by decide +kernel
theorem dX6_readFact_129 : decode cX6_readFact 129 = .ok (.invokevirtual 68, 3) := by decide +kernel
theorem dX6_readFact_132 : decode cX6_readFact 132 = .ok (.aload_n 0, 1) := by decide +kernel
theorem dX6_readFact_133 : decode cX6_readFact 133 = .ok (.getfield 12, 3) := by decide +kernel
theorem dX6_readFact_136 : decode cX6_readFact 136 = .ok (.iload 5, 2) := by decide +kernel
theorem dX6_readFact_138 : decode cX6_readFact 138 = .ok (.iconst 0, 1) := by decide +kernel
theorem dX6_readFact_139 : decode cX6_readFact 139 = .ok (.invokevirtual 88, 3) := by decide +kernel
theorem dX6_readFact_142 : decode cX6_readFact 142 = .ok (.return_, 1) := by decide +kernel
theorem dX6_closeBracket_0 : decode cX6_closeBracket 0 = .ok (.aload_n 0, 1) := by decide +kernel
theorem dX6_closeBracket_1 : decode cX6_closeBracket 1 = .ok (.getfield 22, 3) := by decide +kernel
theorem dX6_closeBracket_4 : decode cX6_closeBracket 4 = .ok (.getfield 38, 3) := by decide +kernel
theorem dX6_closeBracket_7 : decode cX6_closeBracket 7 = .ok (.ifCond .ne 30, 3) := by decide +kernel
theorem dX6_closeBracket_10 : decode cX6_closeBracket 10 = .ok (.aload_n 0, 1) := by decide +kernel
theorem dX6_closeBracket_11 : decode cX6_closeBracket 11 = .ok (.getfield 22, 3) := by decide +kernel
theorem dX6_closeBracket_14 : decode cX6_closeBracket 14 = .ok (.bipush 93, 2) := by decide +kernel
theorem dX6_closeBracket_16 : decode cX6_closeBracket 16 = .ok (.invokevirtual 41, 3) := by decide +kernel
theorem dX6_closeBracket_19 : decode cX6_closeBracket 19 = .ok (.ifCond .ne 18, 3) := by decide +kernel
theorem dX6_closeBracket_22 : decode cX6_closeBracket 22 = .ok (.aload_n 0, 1) := by decide +kernel
theorem dX6_closeBracket_23 : decode cX6_closeBracket 23 = .ok (.getfield 22, 3) := by decide +kernel
theorem dX6_closeBracket_26 : decode cX6_closeBracket 26 = .ok (.aload_n 0, 1) := by decide +kernel
theorem dX6_closeBracket_27 : decode cX6_closeBracket 27 = .ok (.getfield 22, 3) := by decide +kernel
theorem dX6_closeBracket_30 : decode cX6_closeBracket 30 = .ok (.getfield 49, 3) := by decide +kernel
theorem dX6_closeBracket_33 : decode cX6_closeBracket 33 = .ok (.iconst 0, 1) := by decide +kernel
theorem dX6_closeBracket_34 : decode cX6_closeBracket 34 = .ok (.invokevirtual 52, 3) := by decide +kernel
theorem dX6_closeBracket_37 : decode cX6_closeBracket 37 = .ok (.return_, 1) := by decide +kernel
theorem dX6_takeComparer_0 : decode cX6_takeComparer 0 = .ok (.aload_n 0, 1) := by decide +kernel
theorem dX6_takeComparer_1 : decode cX6_takeComparer 1 = .ok (.getfield 22, 3) := by decide +kernel
theorem dX6_takeComparer_4 : decode cX6_takeComparer 4 = .ok (.invokevirtual 56, 3) := by decide +kernel
theorem dX6_takeComparer_7 : decode cX6_takeComparer 7 = .ok (.istore_n 1, 1) := by decide +kernel
theorem dX6_takeComparer_8 : decode cX6_takeComparer 8 = .ok (.bipush 9, 2) := by decide +kernel
theorem dX6_takeComparer_10 : decode cX6_takeComparer 10 = .ok (.istore_n 2, 1) := by decide +kernel
theorem dX6_takeComparer_11 : decode cX6_takeComparer 11 = .ok (.aload_n 0, 1) := by decide +kernel
theorem dX6_takeComparer_12 : decode cX6_takeComparer 12 = .ok (.getfield 22, 3) := by decide +kernel
theorem dX6_takeComparer_15 : decode cX6_takeComparer 15 = .ok (.getfield 38, 3) := by decide +kernel
theorem dX6_takeComparer_18 : decode cX6_takeComparer 18 = .ok (.ifCond .eq 5, 3) := by decide +kernel
theorem dX6_takeComparer_21 : decode cX6_takeComparer 21 = .ok (.iload_n 2, 1) := by decide +kernel
theorem dX6_takeComparer_22 : decode cX6_takeComparer 22 = .ok (.ireturn, 1) := by decide +kernel
theorem dX6_takeComparer_23 : decode cX6_takeComparer 23 = .ok (.aload_n 0, 1) := by decide +kernel
theorem dX6_takeComparer_24 : decode cX6_takeComparer 24 = .ok (.getfield 22, 3) := by decide +kernel
theorem dX6_takeComparer_27 : decode cX6_takeComparer 27 = .ok (.bipush 60, 2) := by decide +kernel
theorem dX6_takeComparer_29 : decode cX6_takeComparer 29 = .ok (.invokevirtual 41, 3) := by decide +kernel
theorem dX6_takeComparer_32 : decode cX6_takeComparer 32 = .ok (.ifCond .eq 26, 3) := by decide +kernel
theorem dX6_takeComparer_35 : decode cX6_takeComparer 35 = .ok (.aload_n 0, 1) := by decide +kernel
theorem dX6_takeComparer_36 : decode cX6_takeComparer 36 = .ok (.getfield 22, 3) := by decide +kernel
theorem dX6_takeComparer_39 : decode cX6_takeComparer 39 = .ok (.bipush 61, 2) := by decide +kernel
theorem dX6_takeComparer_41 : decode cX6_takeComparer 41 = .ok (.invokevirtual 104, 3) := by decide +kernel
theorem dX6_takeComparer_44 : decode cX6_takeComparer 44 = .ok (.ifCond .eq 8, 3) := by decide +kernel
theorem dX6_takeComparer_47 : decode cX6_takeComparer 47 = .ok (.bipush 8, 2) := by decide +kernel
theorem dX6_takeComparer_49 : decode cX6_takeComparer 49 = .ok (.goto 5, 3) := by decide +kernel
theorem dX6_takeComparer_52 : decode cX6_takeComparer 52 = .ok (.bipush 7, 2) := by decide +kernel
theorem dX6_takeComparer_54 : decode cX6_takeComparer 54 = .ok (.istore_n 2, 1) := by decide +kernel
theorem dX6_takeComparer_55 : decode cX6_takeComparer 55 = .ok (.goto 59, 3) := by decide +kernel
theorem dX6_takeComparer_58 : decode cX6_takeComparer 58 = .ok (.aload_n 0, 1) := by decide +kernel
theorem dX6_takeComparer_59 : decode cX6_takeComparer 59 = .ok (.getfield 22, 3) := by decide +kernel
theorem dX6_takeComparer_62 : decode cX6_takeComparer 62 = .ok (.bipush 62, 2) := by decide +kernel
theorem dX6_takeComparer_64 : decode cX6_takeComparer 64 = .ok (.invokevirtual 41, 3) := by decide +kernel
theorem dX6_takeComparer_67 : decode cX6_takeComparer 67 = .ok (.ifCond .eq 26, 3) := by decide +kernel
theorem dX6_takeComparer_70 : decode cX6_takeComparer 70 = .ok (.aload_n 0, 1) := by decide +kernel
theorem dX6_takeComparer_71 : decode cX6_takeComparer 71 = .ok (.getfield 22, 3) := by decide +kernel
theorem dX6_takeComparer_74 : decode cX6_takeComparer 74 = .ok (.bipush 61, 2) := by decide +kernel
theorem dX6_takeComparer_76 : decode cX6_takeComparer 76 = .ok (.invokevirtual 104, 3) := by decide +kernel
theorem dX6_takeComparer_79 : decode cX6_takeComparer 79 = .ok (.ifCond .eq 8, 3) := by decide +kernel
theorem dX6_takeComparer_82 : decode cX6_takeComparer 82 = .ok (.bipush 10, 2) := by decide +kernel
theorem dX6_takeComparer_84 : decode cX6_takeComparer 84 = .ok (.goto 5, 3) := by decide +kernel
theorem dX6_takeComparer_87 : decode cX6_takeComparer 87 = .ok (.bipush 11, 2) := by decide +kernel
theorem dX6_takeComparer_89 : decode cX6_takeComparer 89 = .ok (.istore_n 2, 1) := by decide +kernel
theorem dX6_takeComparer_90 : decode cX6_takeComparer 90 = .ok (.goto 24, 3) := by decide +kernel
theorem dX6_takeComparer_93 : decode cX6_takeComparer 93 = .ok (.aload_n 0, 1) := by decide +kernel
theorem dX6_takeComparer_94 : decode cX6_takeComparer 94 = .ok (.getfield 22, 3) := by decide +kernel
theorem dX6_takeComparer_97 : decode cX6_takeComparer 97 = .ok (.bipush 61, 2) := by decide +kernel
theorem dX6_takeComparer_99 : decode cX6_takeComparer 99 = .ok (.invokevirtual 41, 3) := by decide +kernel
theorem dX6_takeComparer_102 : decode cX6_takeComparer 102 = .ok (.ifCond .ne 12, 3) := by decide +kernel
theorem dX6_takeComparer_105 : decode cX6_takeComparer 105 = .ok (.aload_n 0, 1) := by decide +kernel
theorem dX6_takeComparer_106 : decode cX6_takeComparer 106 = .ok (.getfield 22, 3) := by decide +kernel
theorem dX6_takeComparer_109 : decode cX6_takeComparer 109 = .ok (.iload_n 1, 1) := by decide +kernel
theorem dX6_takeComparer_110 : decode cX6_takeComparer 110 = .ok (.iconst 0, 1) := by decide +kernel
theorem dX6_takeComparer_111 : decode cX6_takeComparer 111 = .ok (.invokevirtual 52, 3) := by decide +kernel
theorem dX6_takeComparer_114 : decode cX6_takeComparer 114 = .ok (.aload_n 0, 1) := by decide +kernel
theorem dX6_takeComparer_115 : decode cX6_takeComparer 115 = .ok (.iload_n 1, 1) := by decide +kernel
theorem dX6_takeComparer_116 : decode cX6_takeComparer 116 = .ok (.invokevirtual 107, 3) := by decide +kernel
theorem dX6_takeComparer_119 : decode cX6_takeComparer 119 = .ok (.iload_n 2, 1) := by decide +kernel
theorem dX6_takeComparer_120 : decode cX6_takeComparer 120 = .ok (.ireturn, 1) := by decide +kernel
theorem dX6_readSum_0 : decode cX6_readSum 0 = .ok (.iconst (-1), 1) := by decide +kernel
theorem dX6_readSum_1 : decode cX6_readSum 1 = .ok (.istore_n 1, 1) := by decide +kernel
theorem dX6_readSum_2 : decode cX6_readSum 2 = .ok (.aload_n 0, 1) := by decide +kernel
theorem dX6_readSum_3 : decode cX6_readSum 3 = .ok (.invokevirtual 110, 3) := by decide +kernel
theorem dX6_readSum_6 : decode cX6_readSum 6 = .ok (.iconst 0, 1) := by decide +kernel
theorem dX6_readSum_7 : decode cX6_readSum 7 = .ok (.istore_n 2, 1) := by decide +kernel
theorem dX6_readSum_8 : decode cX6_readSum 8 = .ok (.iload_n 2, 1) := by decide +kernel
theorem dX6_readSum_9 : decode cX6_readSum 9 = .ok (.sipush 400, 3) := by decide +kernel
theorem dX6_readSum_12 : decode cX6_readSum 12 = .ok (.if_icmp .ge 91, 3) := by decide +kernel
theorem dX6_readSum_15 : decode cX6_readSum 15 = .ok (.aload_n 0, 1) := by decide +kernel
theorem dX6_readSum_16 : decode cX6_readSum 16 = .ok (.getfield 22, 3) := by decide +kernel
theorem dX6_readSum_19 : decode cX6_readSum 19 = .ok (.getfield 38, 3) := by decide +kernel
theorem dX6_readSum_22 : decode cX6_readSum 22 = .ok (.ifCond .ne 81, 3) := by decide +kernel
theorem dX6_readSum_25 : decode cX6_readSum 25 = .ok (.aload_n 0, 1) := by decide +kernel
theorem dX6_readSum_26 : decode cX6_readSum 26 = .ok (.invokevirtual 113, 3) := by decide +kernel
theorem dX6_readSum_29 : decode cX6_readSum 29 = .ok (.istore_n 3, 1) := by decide +kernel
theorem dX6_readSum_30 : decode cX6_readSum 30 = .ok (.iload_n 3, 1) := by decide +kernel
theorem dX6_readSum_31 : decode cX6_readSum 31 = .ok (.iconst (-1), 1) := by decide +kernel
theorem dX6_readSum_32 : decode cX6_readSum 32 = .ok (.if_icmp .ne 6, 3) := by decide +kernel
theorem dX6_readSum_35 : decode cX6_readSum 35 = .ok (.goto 68, 3) := by decide +kernel
theorem dX6_readSum_38 : decode cX6_readSum 38 = .ok (.iload_n 3, 1) := by decide +kernel
theorem dX6_readSum_39 : decode cX6_readSum 39 = .ok (.iconst 2, 1) := by decide +kernel
theorem dX6_readSum_40 : decode cX6_readSum 40 = .ok (.if_icmp .eq 8, 3) := by decide +kernel
theorem dX6_readSum_43 : decode cX6_readSum 43 = .ok (.iload_n 3, 1) := by decide +kernel
theorem dX6_readSum_44 : decode cX6_readSum 44 = .ok (.iconst 3, 1) := by decide +kernel
theorem dX6_readSum_45 : decode cX6_readSum 45 = .ok (.if_icmp .ne 7, 3) := by decide +kernel
theorem dX6_readSum_48 : decode cX6_readSum 48 = .ok (.iconst 1, 1) := by decide +kernel
theorem dX6_readSum_49 : decode cX6_readSum 49 = .ok (.goto 4, 3) := by decide +kernel
theorem dX6_readSum_52 : decode cX6_readSum 52 = .ok (.iconst 0, 1) := by decide +kernel
theorem dX6_readSum_53 : decode cX6_readSum 53 = .ok (.istore 4, 2) := by decide +kernel
theorem dX6_readSum_55 : decode cX6_readSum 55 = .ok (.iload 4, 2) := by decide +kernel
theorem dX6_readSum_57 : decode cX6_readSum 57 = .ok (.ifCond .eq 17, 3) := by decide +kernel
theorem dX6_readSum_60 : decode cX6_readSum 60 = .ok (.iload_n 1, 1) := by decide +kernel
theorem dX6_readSum_61 : decode cX6_readSum 61 = .ok (.iconst (-1), 1) := by decide +kernel
theorem dX6_readSum_62 : decode cX6_readSum 62 = .ok (.if_icmp .eq 12, 3) := by decide +kernel
theorem dX6_readSum_65 : decode cX6_readSum 65 = .ok (.aload_n 0, 1) := by decide +kernel
theorem dX6_readSum_66 : decode cX6_readSum 66 = .ok (.getfield 12, 3) := by decide +kernel
theorem dX6_readSum_69 : decode cX6_readSum 69 = .ok (.iload_n 1, 1) := by decide +kernel
theorem dX6_readSum_70 : decode cX6_readSum 70 = .ok (.iconst 0, 1) := by decide +kernel
theorem dX6_readSum_71 : decode cX6_readSum 71 = .ok (.invokevirtual 88, 3) := by decide +kernel
theorem dX6_readSum_74 : decode cX6_readSum 74 = .ok (.aload_n 0, 1) := by decide +kernel
theorem dX6_readSum_75 : decode cX6_readSum 75 = .ok (.invokevirtual 110, 3) := by decide +kernel
theorem dX6_readSum_78 : decode cX6_readSum 78 = .ok (.iload 4, 2) := by decide +kernel
theorem dX6_readSum_80 : decode cX6_readSum 80 = .ok (.ifCond .eq 8, 3) := by decide +kernel
theorem dX6_readSum_83 : decode cX6_readSum 83 = .ok (.iload_n 3, 1) := by decide +kernel
theorem dX6_readSum_84 : decode cX6_readSum 84 = .ok (.istore_n 1, 1) := by decide +kernel
theorem dX6_readSum_85 : decode cX6_readSum 85 = .ok (.goto 12, 3) := by decide +kernel
theorem dX6_readSum_88 : decode cX6_readSum 88 = .ok (.aload_n 0, 1) := by decide +kernel
theorem dX6_readSum_89 : decode cX6_readSum 89 = .ok (.getfield 12, 3) := by decide +kernel
theorem dX6_readSum_92 : decode cX6_readSum 92 = .ok (.iload_n 3, 1) := by decide +kernel
theorem dX6_readSum_93 : decode cX6_readSum 93 = .ok (.iconst 0, 1) := by decide +kernel
theorem dX6_readSum_94 : decode cX6_readSum 94 = .ok (.invokevirtual 88, 3) := by decide +kernel
theorem dX6_readSum_97 : decode cX6_readSum 97 = .ok (.iinc 2 1, 3) := by decide +kernel
theorem dX6_readSum_100 : decode cX6_readSum 100 = .ok (.goto (-92), 3) := by decide +kernel
theorem dX6_readSum_103 : decode cX6_readSum 103 = .ok (.iload_n 1, 1) := by decide +kernel
theorem dX6_readSum_104 : decode cX6_readSum 104 = .ok (.iconst (-1), 1) := by decide +kernel
theorem dX6_readSum_105 : decode cX6_readSum 105 = .ok (.if_icmp .eq 12, 3) := by decide +kernel
theorem dX6_readSum_108 : decode cX6_readSum 108 = .ok (.aload_n 0, 1) := by decide +kernel
theorem dX6_readSum_109 : decode cX6_readSum 109 = .ok (.getfield 12, 3) := by decide +kernel
theorem dX6_readSum_112 : decode cX6_readSum 112 = .ok (.iload_n 1, 1) := by decide +kernel
theorem dX6_readSum_113 : decode cX6_readSum 113 = .ok (.iconst 0, 1) := by decide +kernel
theorem dX6_readSum_114 : decode cX6_readSum 114 = .ok (.invokevirtual 88, 3) := by decide +kernel
theorem dX6_readSum_117 : decode cX6_readSum 117 = .ok (.return_, 1) := by decide +kernel
theorem dX6_takeOperator_0 : decode cX6_takeOperator 0 = .ok (.iconst (-1), 1) := by decide +kernel
theorem dX6_takeOperator_1 : decode cX6_takeOperator 1 = .ok (.istore_n 1, 1) := by decide +kernel
theorem dX6_takeOperator_2 : decode cX6_takeOperator 2 = .ok (.aload_n 0, 1) := by decide +kernel
theorem dX6_takeOperator_3 : decode cX6_takeOperator 3 = .ok (.getfield 22, 3) := by decide +kernel
theorem dX6_takeOperator_6 : decode cX6_takeOperator 6 = .ok (.invokevirtual 45, 3) := by decide +kernel
theorem dX6_takeOperator_9 : decode cX6_takeOperator 9 = .ok (.tableswitch 85 37 47 #[79, 85, 85, 85, 85, 69, 59, 85, 64, 85, 74], 59) := by decide +kernel
theorem dX6_takeOperator_68 : decode cX6_takeOperator 68 = .ok (.iconst 2, 1) := by decide +kernel
theorem dX6_takeOperator_69 : decode cX6_takeOperator 69 = .ok (.istore_n 1, 1) := by decide +kernel
theorem dX6_takeOperator_70 : decode cX6_takeOperator 70 = .ok (.goto 26, 3) := by decide +kernel
theorem dX6_takeOperator_73 : decode cX6_takeOperator 73 = .ok (.iconst 3, 1) := by decide +kernel
theorem dX6_takeOperator_74 : decode cX6_takeOperator 74 = .ok (.istore_n 1, 1) := by decide +kernel
theorem dX6_takeOperator_75 : decode cX6_takeOperator 75 = .ok (.goto 21, 3) := by decide +kernel
theorem dX6_takeOperator_78 : decode cX6_takeOperator 78 = .ok (.iconst 4, 1) := by decide +kernel
theorem dX6_takeOperator_79 : decode cX6_takeOperator 79 = .ok (.istore_n 1, 1) := by decide +kernel
theorem dX6_takeOperator_80 : decode cX6_takeOperator 80 = .ok (.goto 16, 3) := by decide +kernel
theorem dX6_takeOperator_83 : decode cX6_takeOperator 83 = .ok (.iconst 5, 1) := by decide +kernel
theorem dX6_takeOperator_84 : decode cX6_takeOperator 84 = .ok (.istore_n 1, 1) := by decide +kernel
theorem dX6_takeOperator_85 : decode cX6_takeOperator 85 = .ok (.goto 11, 3) := by decide +kernel
theorem dX6_takeOperator_88 : decode cX6_takeOperator 88 = .ok (.bipush 6, 2) := by decide +kernel
theorem dX6_takeOperator_90 : decode cX6_takeOperator 90 = .ok (.istore_n 1, 1) := by decide +kernel
theorem dX6_takeOperator_91 : decode cX6_takeOperator 91 = .ok (.goto 5, 3) := by decide +kernel
theorem dX6_takeOperator_94 : decode cX6_takeOperator 94 = .ok (.iconst (-1), 1) := by decide +kernel
theorem dX6_takeOperator_95 : decode cX6_takeOperator 95 = .ok (.ireturn, 1) := by decide +kernel
theorem dX6_takeOperator_96 : decode cX6_takeOperator 96 = .ok (.aload_n 0, 1) := by decide +kernel
theorem dX6_takeOperator_97 : decode cX6_takeOperator 97 = .ok (.getfield 22, 3) := by decide +kernel
theorem dX6_takeOperator_100 : decode cX6_takeOperator 100 = .ok (.dup, 1) := by decide +kernel
theorem dX6_takeOperator_101 : decode cX6_takeOperator 101 = .ok (.getfield 49, 3) := by decide +kernel
theorem dX6_takeOperator_104 : decode cX6_takeOperator 104 = .ok (.iconst 1, 1) := by decide +kernel
theorem dX6_takeOperator_105 : decode cX6_takeOperator 105 = .ok (.iadd, 1) := by decide +kernel
theorem dX6_takeOperator_106 : decode cX6_takeOperator 106 = .ok (.putfield 49, 3) := by decide +kernel
theorem dX6_takeOperator_109 : decode cX6_takeOperator 109 = .ok (.iload_n 1, 1) := by decide +kernel
theorem dX6_takeOperator_110 : decode cX6_takeOperator 110 = .ok (.ireturn, 1) := by decide +kernel
theorem dX6_readValue_0 : decode cX6_readValue 0 = .ok (.aload_n 0, 1) := by decide +kernel
theorem dX6_readValue_1 : decode cX6_readValue 1 = .ok (.getfield 22, 3) := by decide +kernel
theorem dX6_readValue_4 : decode cX6_readValue 4 = .ok (.getfield 38, 3) := by decide +kernel
theorem dX6_readValue_7 : decode cX6_readValue 7 = .ok (.ifCond .eq 4, 3) := by decide +kernel
theorem dX6_readValue_10 : decode cX6_readValue 10 = .ok (.return_, 1) := by decide +kernel
theorem dX6_readValue_11 : decode cX6_readValue 11 = .ok (.aload_n 0, 1) := by decide +kernel
theorem dX6_readValue_12 : decode cX6_readValue 12 = .ok (.getfield 22, 3) := by decide +kernel
theorem dX6_readValue_15 : decode cX6_readValue 15 = .ok (.invokevirtual 56, 3) := by decide +kernel
theorem dX6_readValue_18 : decode cX6_readValue 18 = .ok (.istore_n 1, 1) := by decide +kernel
theorem dX6_readValue_19 : decode cX6_readValue 19 = .ok (.aload_n 0, 1) := by decide +kernel
theorem dX6_readValue_20 : decode cX6_readValue 20 = .ok (.getfield 22, 3) := by decide +kernel
theorem dX6_readValue_23 : decode cX6_readValue 23 = .ok (.invokevirtual 116, 3) := by decide +kernel
theorem dX6_readValue_26 : decode cX6_readValue 26 = .ok (.ifCond .eq 23, 3) := by decide +kernel
theorem dX6_readValue_29 : decode cX6_readValue 29 = .ok (.aload_n 0, 1) := by decide +kernel
theorem dX6_readValue_30 : decode cX6_readValue 30 = .ok (.getfield 12, 3) := by decide +kernel
theorem dX6_readValue_33 : decode cX6_readValue 33 = .ok (.iconst 0, 1) := by decide +kernel
theorem dX6_readValue_34 : decode cX6_readValue 34 = .ok (.aload_n 0, 1) := by decide +kernel
theorem dX6_readValue_35 : decode cX6_readValue 35 = .ok (.getfield 22, 3) := by decide +kernel
theorem dX6_readValue_38 : decode cX6_readValue 38 = .ok (.ldc 120, 2) := by decide +kernel
theorem dX6_readValue_40 : decode cX6_readValue 40 = .ok (.invokevirtual 121, 3) := by decide +kernel
theorem dX6_readValue_43 : decode cX6_readValue 43 = .ok (.invokevirtual 88, 3) := by decide +kernel
theorem dX6_readValue_46 : decode cX6_readValue 46 = .ok (.goto 37, 3) := by decide +kernel
theorem dX6_readValue_49 : decode cX6_readValue 49 = .ok (.aload_n 0, 1) := by decide +kernel
theorem dX6_readValue_50 : decode cX6_readValue 50 = .ok (.getfield 22, 3) := by decide +kernel
theorem dX6_readValue_53 : decode cX6_readValue 53 = .ok (.ldc 125, 2) := by decide +kernel
theorem dX6_readValue_55 : decode cX6_readValue 55 = .ok (.invokevirtual 61, 3) := by decide +kernel
theorem dX6_readValue_58 : decode cX6_readValue 58 = .ok (.istore_n 2, 1) := by decide +kernel
theorem dX6_readValue_59 : decode cX6_readValue 59 = .ok (.iload_n 2, 1) := by decide +kernel
theorem dX6_readValue_60 : decode cX6_readValue 60 = .ok (.iconst (-1), 1) := by decide +kernel
theorem dX6_readValue_61 : decode cX6_readValue 61 = .ok (.if_icmp .ne 13, 3) := by decide +kernel
theorem dX6_readValue_64 : decode cX6_readValue 64 = .ok (.aload_n 0, 1) := by decide +kernel
theorem dX6_readValue_65 : decode cX6_readValue 65 = .ok (.getfield 22, 3) := by decide +kernel
theorem dX6_readValue_68 : decode cX6_readValue 68 = .ok (.iload_n 1, 1) := by decide +kernel
theorem dX6_readValue_69 : decode cX6_readValue 69 = .ok (.iconst 0, 1) := by decide +kernel
theorem dX6_readValue_70 : decode cX6_readValue 70 = .ok (.invokevirtual 52, 3) := by decide +kernel
theorem dX6_readValue_73 : decode cX6_readValue 73 = .ok (.return_, 1) := by decide +kernel
theorem dX6_readValue_74 : decode cX6_readValue 74 = .ok (.aload_n 0, 1) := by decide +kernel
theorem dX6_readValue_75 : decode cX6_readValue 75 = .ok (.getfield 12, 3) := by decide +kernel
theorem dX6_readValue_78 : decode cX6_readValue 78 = .ok (.iconst 1, 1) := by decide +kernel
theorem dX6_readValue_79 : decode cX6_readValue 79 = .ok (.iload_n 2, 1) := by decide +kernel
theorem dX6_readValue_80 : decode cX6_readValue 80 = .ok (.invokevirtual 88, 3) := by decide +kernel
theorem dX6_readValue_83 : decode cX6_readValue 83 = .ok (.aload_n 0, 1) := by decide +kernel
theorem dX6_readValue_84 : decode cX6_readValue 84 = .ok (.iload_n 1, 1) := by decide +kernel
theorem dX6_readValue_85 : decode cX6_readValue 85 = .ok (.invokevirtual 107, 3) := by decide +kernel
theorem dX6_readValue_88 : decode cX6_readValue 88 = .ok (.return_, 1) := by decide +kernel
theorem dX6_countValue_0 : decode cX6_countValue 0 = .ok (.aload_n 0, 1) := by decide +kernel
theorem dX6_countValue_1 : decode cX6_countValue 1 = .ok (.getfield 18, 3) := by decide +kernel
theorem dX6_countValue_4 : decode cX6_countValue 4 = .ok (.bipush 60, 2) := by decide +kernel
theorem dX6_countValue_6 : decode cX6_countValue 6 = .ok (.if_icmp .lt 12, 3) := by decide +kernel
theorem dX6_countValue_9 : decode cX6_countValue 9 = .ok (.aload_n 0, 1) := by decide +kernel
theorem dX6_countValue_10 : decode cX6_countValue 10 = .ok (.getfield 22, 3) := by decide +kernel
theorem dX6_countValue_13 : decode cX6_countValue 13 = .ok (.iload_n 1, 1) := by decide +kernel
theorem dX6_countValue_14 : decode cX6_countValue 14 = .ok (.iconst 3, 1) := by decide +kernel
theorem dX6_countValue_15 : decode cX6_countValue 15 = .ok (.invokevirtual 52, 3) := by decide +kernel
theorem dX6_countValue_18 : decode cX6_countValue 18 = .ok (.aload_n 0, 1) := by decide +kernel
theorem dX6_countValue_19 : decode cX6_countValue 19 = .ok (.dup, 1) := by decide +kernel
theorem dX6_countValue_20 : decode cX6_countValue 20 = .ok (.getfield 18, 3) := by decide +kernel
theorem dX6_countValue_23 : decode cX6_countValue 23 = .ok (.iconst 1, 1) := by decide +kernel
theorem dX6_countValue_24 : decode cX6_countValue 24 = .ok (.iadd, 1) := by decide +kernel
theorem dX6_countValue_25 : decode cX6_countValue 25 = .ok (.putfield 18, 3) := by decide +kernel
theorem dX6_countValue_28 : decode cX6_countValue 28 = .ok (.return_, 1) := by decide +kernel
theorem dX7_init_0 : decode cX7_init 0 = .ok (.aload_n 0, 1) := by decide +kernel
theorem dX7_init_1 : decode cX7_init 1 = .ok (.invokespecial 3, 3) := by decide +kernel
theorem dX7_init_4 : decode cX7_init 4 = .ok (.aload_n 0, 1) := by decide +kernel
theorem dX7_init_5 : decode cX7_init 5 = .ok (.iconst 4, 1) := by decide +kernel
theorem dX7_init_6 : decode cX7_init 6 = .ok (.newarray .int, 2) := by decide +kernel
theorem dX7_init_8 : decode cX7_init 8 = .ok (.putfield 9, 3) := by decide +kernel
theorem dX7_init_11 : decode cX7_init 11 = .ok (.aload_n 0, 1) := by decide +kernel
theorem dX7_init_12 : decode cX7_init 12 = .ok (.iconst 4, 1) := by decide +kernel
theorem dX7_init_13 : decode cX7_init 13 = .ok (.newarray .int, 2) := by decide +kernel
theorem dX7_init_15 : decode cX7_init 15 = .ok (.putfield 15, 3) := by decide +kernel
theorem dX7_init_18 : decode cX7_init 18 = .ok (.aload_n 0, 1) := by decide +kernel
theorem dX7_init_19 : decode cX7_init 19 = .ok (.iconst 4, 1) := by decide +kernel
theorem dX7_init_20 : decode cX7_init 20 = .ok (.newarray .int, 2) := by decide +kernel
theorem dX7_init_22 : decode cX7_init 22 = .ok (.putfield 18, 3) := by decide +kernel
theorem dX7_init_25 : decode cX7_init 25 = .ok (.aload_n 0, 1) := by decide +kernel
theorem dX7_init_26 : decode cX7_init 26 = .ok (.iconst 0, 1) := by decide +kernel
theorem dX7_init_27 : decode cX7_init 27 = .ok (.putfield 21, 3) := by decide +kernel
theorem dX7_init_30 : decode cX7_init 30 = .ok (.aload_n 0, 1) := by decide +kernel
theorem dX7_init_31 : decode cX7_init 31 = .ok (.iconst 0, 1) := by decide +kernel
theorem dX7_init_32 : decode cX7_init 32 = .ok (.putfield 25, 3) := by decide +kernel
theorem dX7_init_35 : decode cX7_init 35 = .ok (.return_, 1) := by decide +kernel
theorem dX7_search_0 : decode cX7_search 0 = .ok (.aload_n 0, 1) := by decide +kernel
theorem dX7_search_1 : decode cX7_search 1 = .ok (.iconst 0, 1) := by decide +kernel
theorem dX7_search_2 : decode cX7_search 2 = .ok (.putfield 21, 3) := by decide +kernel
theorem dX7_search_5 : decode cX7_search 5 = .ok (.aload_n 0, 1) := by decide +kernel
theorem dX7_search_6 : decode cX7_search 6 = .ok (.iconst 0, 1) := by decide +kernel
theorem dX7_search_7 : decode cX7_search 7 = .ok (.putfield 25, 3) := by decide +kernel
theorem dX7_search_10 : decode cX7_search 10 = .ok (.iconst 0, 1) := by decide +kernel
theorem dX7_search_11 : decode cX7_search 11 = .ok (.istore_n 2, 1) := by decide +kernel
theorem dX7_search_12 : decode cX7_search 12 = .ok (.iload_n 2, 1) := by decide +kernel
theorem dX7_search_13 : decode cX7_search 13 = .ok (.iconst 4, 1) := by decide +kernel
theorem dX7_search_14 : decode cX7_search 14 = .ok (.if_icmp .ge 30, 3) := by decide +kernel
theorem dX7_search_17 : decode cX7_search 17 = .ok (.aload_n 0, 1) := by decide +kernel
theorem dX7_search_18 : decode cX7_search 18 = .ok (.getfield 9, 3) := by decide +kernel
theorem dX7_search_21 : decode cX7_search 21 = .ok (.iload_n 2, 1) := by decide +kernel
theorem dX7_search_22 : decode cX7_search 22 = .ok (.iconst (-1), 1) := by decide +kernel
theorem dX7_search_23 : decode cX7_search 23 = .ok (.iastore, 1) := by decide +kernel
theorem dX7_search_24 : decode cX7_search 24 = .ok (.aload_n 0, 1) := by decide +kernel
theorem dX7_search_25 : decode cX7_search 25 = .ok (.getfield 15, 3) := by decide +kernel
theorem dX7_search_28 : decode cX7_search 28 = .ok (.iload_n 2, 1) := by decide +kernel
theorem dX7_search_29 : decode cX7_search 29 = .ok (.iconst (-1), 1) := by decide +kernel
theorem dX7_search_30 : decode cX7_search 30 = .ok (.iastore, 1) := by decide +kernel
theorem dX7_search_31 : decode cX7_search 31 = .ok (.aload_n 0, 1) := by decide +kernel
theorem dX7_search_32 : decode cX7_search 32 = .ok (.getfield 18, 3) := by decide +kernel
theorem dX7_search_35 : decode cX7_search 35 = .ok (.iload_n 2, 1) := by decide +kernel
theorem dX7_search_36 : decode cX7_search 36 = .ok (.iconst (-1), 1) := by decide +kernel
theorem dX7_search_37 : decode cX7_search 37 = .ok (.iastore, 1) := by decide +kernel
theorem dX7_search_38 : decode cX7_search 38 = .ok (.iinc 2 1, 3) := by decide +kernel
theorem dX7_search_41 : decode cX7_search 41 = .ok (.goto (-29), 3) := by decide +kernel
theorem dX7_search_44 : decode cX7_search 44 = .ok (.aload_n 0, 1) := by decide +kernel
theorem dX7_search_45 : decode cX7_search 45 = .ok (.aload_n 1, 1) := by decide +kernel
theorem dX7_search_46 : decode cX7_search 46 = .ok (.iconst 0, 1) := by decide +kernel
theorem dX7_search_47 : decode cX7_search 47 = .ok (.invokevirtual 28, 3) := by decide +kernel
theorem dX7_search_50 : decode cX7_search 50 = .ok (.return_, 1) := by decide +kernel
theorem dX7_choose_0 : decode cX7_choose 0 = .ok (.iload_n 2, 1) := by decide +kernel
theorem dX7_choose_1 : decode cX7_choose 1 = .ok (.aload_n 1, 1) := by decide +kernel
theorem dX7_choose_2 : decode cX7_choose 2 = .ok (.getfield 32, 3) := by decide +kernel
theorem dX7_choose_5 : decode cX7_choose 5 = .ok (.if_icmp .ge 8, 3) := by decide +kernel
theorem dX7_choose_8 : decode cX7_choose 8 = .ok (.iload_n 2, 1) := by decide +kernel
theorem dX7_choose_9 : decode cX7_choose 9 = .ok (.iconst 4, 1) := by decide +kernel
theorem dX7_choose_10 : decode cX7_choose 10 = .ok (.if_icmp .lt 9, 3) := by decide +kernel
theorem dX7_choose_13 : decode cX7_choose 13 = .ok (.aload_n 0, 1) := by decide +kernel
theorem dX7_choose_14 : decode cX7_choose 14 = .ok (.aload_n 1, 1) := by decide +kernel
theorem dX7_choose_15 : decode cX7_choose 15 = .ok (.invokevirtual 37, 3) := by decide +kernel
theorem dX7_choose_18 : decode cX7_choose 18 = .ok (.return_, 1) := by decide +kernel
theorem dX7_choose_19 : decode cX7_choose 19 = .ok (.aload_n 0, 1) := by decide +kernel
theorem dX7_choose_20 : decode cX7_choose 20 = .ok (.aload_n 1, 1) := by decide +kernel
theorem dX7_choose_21 : decode cX7_choose 21 = .ok (.iload_n 2, 1) := by decide +kernel
theorem dX7_choose_22 : decode cX7_choose 22 = .ok (.iconst 1, 1) := by decide +kernel
theorem dX7_choose_23 : decode cX7_choose 23 = .ok (.iadd, 1) := by decide +kernel
theorem dX7_choose_24 : decode cX7_choose 24 = .ok (.invokevirtual 28, 3) := by decide +kernel
theorem dX7_choose_27 : decode cX7_choose 27 = .ok (.aload_n 1, 1) := by decide +kernel
theorem dX7_choose_28 : decode cX7_choose 28 = .ok (.iconst 0, 1) := by decide +kernel
theorem dX7_choose_29 : decode cX7_choose 29 = .ok (.iload_n 2, 1) := by decide +kernel
theorem dX7_choose_30 : decode cX7_choose 30 = .ok (.invokevirtual 41, 3) := by decide +kernel
theorem dX7_choose_33 : decode cX7_choose 33 = .ok (.ifCond .ne 4, 3) := by decide +kernel
theorem dX7_choose_36 : decode cX7_choose 36 = .ok (.return_, 1) := by decide +kernel
theorem dX7_choose_37 : decode cX7_choose 37 = .ok (.iconst 0, 1) := by decide +kernel
theorem dX7_choose_38 : decode cX7_choose 38 = .ok (.istore_n 3, 1) := by decide +kernel
theorem dX7_choose_39 : decode cX7_choose 39 = .ok (.iload_n 3, 1) := by decide +kernel
theorem dX7_choose_40 : decode cX7_choose 40 = .ok (.aload_n 1, 1) := by decide +kernel
theorem dX7_choose_41 : decode cX7_choose 41 = .ok (.getfield 45, 3) := by decide +kernel
theorem dX7_choose_44 : decode cX7_choose 44 = .ok (.if_icmp .ge 63, 3) := by decide +kernel
theorem dX7_choose_47 : decode cX7_choose 47 = .ok (.aload_n 0, 1) := by decide +kernel
theorem dX7_choose_48 : decode cX7_choose 48 = .ok (.getfield 15, 3) := by decide +kernel
theorem dX7_choose_51 : decode cX7_choose 51 = .ok (.iload_n 3, 1) := by decide +kernel
theorem dX7_choose_52 : decode cX7_choose 52 = .ok (.iaload, 1) := by decide +kernel
theorem dX7_choose_53 : decode cX7_choose 53 = .ok (.ifCond .ge 48, 3) := by decide +kernel
theorem dX7_choose_56 : decode cX7_choose 56 = .ok (.aload_n 1, 1) := by decide +kernel
theorem dX7_choose_57 : decode cX7_choose 57 = .ok (.iload_n 2, 1) := by decide +kernel
theorem dX7_choose_58 : decode cX7_choose 58 = .ok (.iload_n 3, 1) := by decide +kernel
theorem dX7_choose_59 : decode cX7_choose 59 = .ok (.invokevirtual 48, 3) := by decide +kernel
theorem dX7_choose_62 : decode cX7_choose 62 = .ok (.ifCond .eq 39, 3) := by decide +kernel
theorem dX7_choose_65 : decode cX7_choose 65 = .ok (.aload_n 0, 1) := by decide +kernel
theorem dX7_choose_66 : decode cX7_choose 66 = .ok (.getfield 9, 3) := by decide +kernel
theorem dX7_choose_69 : decode cX7_choose 69 = .ok (.iload_n 2, 1) := by decide +kernel
theorem dX7_choose_70 : decode cX7_choose 70 = .ok (.iload_n 3, 1) := by decide +kernel
theorem dX7_choose_71 : decode cX7_choose 71 = .ok (.iastore, 1) := by decide +kernel
theorem dX7_choose_72 : decode cX7_choose 72 = .ok (.aload_n 0, 1) := by decide +kernel
theorem dX7_choose_73 : decode cX7_choose 73 = .ok (.getfield 15, 3) := by decide +kernel
theorem dX7_choose_76 : decode cX7_choose 76 = .ok (.iload_n 3, 1) := by decide +kernel
theorem dX7_choose_77 : decode cX7_choose 77 = .ok (.iload_n 2, 1) := by decide +kernel
theorem dX7_choose_78 : decode cX7_choose 78 = .ok (.iastore, 1) := by decide +kernel
theorem dX7_choose_79 : decode cX7_choose 79 = .ok (.aload_n 0, 1) := by decide +kernel
theorem dX7_choose_80 : decode cX7_choose 80 = .ok (.aload_n 1, 1) := by decide +kernel
theorem dX7_choose_81 : decode cX7_choose 81 = .ok (.iload_n 2, 1) := by decide +kernel
theorem dX7_choose_82 : decode cX7_choose 82 = .ok (.iconst 1, 1) := by decide +kernel
theorem dX7_choose_83 : decode cX7_choose 83 = .ok (.iadd, 1) := by decide +kernel
theorem dX7_choose_84 : decode cX7_choose 84 = .ok (.invokevirtual 28, 3) := by decide +kernel
theorem dX7_choose_87 : decode cX7_choose 87 = .ok (.aload_n 0, 1) := by decide +kernel
theorem dX7_choose_88 : decode cX7_choose 88 = .ok (.getfield 9, 3) := by decide +kernel
theorem dX7_choose_91 : decode cX7_choose 91 = .ok (.iload_n 2, 1) := by decide +kernel
theorem dX7_choose_92 : decode cX7_choose 92 = .ok (.iconst (-1), 1) := by decide +kernel
theorem dX7_choose_93 : decode cX7_choose 93 = .ok (.iastore, 1) := by decide +kernel
theorem dX7_choose_94 : decode cX7_choose 94 = .ok (.aload_n 0, 1) := by decide +kernel
theorem dX7_choose_95 : decode cX7_choose 95 = .ok (.getfield 15, 3) := by decide +kernel
theorem dX7_choose_98 : decode cX7_choose 98 = .ok (.iload_n 3, 1) := by decide +kernel
theorem dX7_choose_99 : decode cX7_choose 99 = .ok (.iconst (-1), 1) := by decide +kernel
theorem dX7_choose_100 : decode cX7_choose 100 = .ok (.iastore, 1) := by decide +kernel
theorem dX7_choose_101 : decode cX7_choose 101 = .ok (.iinc 3 1, 3) := by decide +kernel
theorem dX7_choose_104 : decode cX7_choose 104 = .ok (.goto (-65), 3) := by decide +kernel
theorem dX7_choose_107 : decode cX7_choose 107 = .ok (.return_, 1) := by decide +kernel
theorem dX7_takeIfSettled_0 : decode cX7_takeIfSettled 0 = .ok (.iconst 0, 1) := by decide +kernel
theorem dX7_takeIfSettled_1 : decode cX7_takeIfSettled 1 = .ok (.istore_n 2, 1) := by decide +kernel
theorem dX7_takeIfSettled_2 : decode cX7_takeIfSettled 2 = .ok (.iconst 0, 1) := by decide +kernel
theorem dX7_takeIfSettled_3 : decode cX7_takeIfSettled 3 = .ok (.istore_n 3, 1) := by decide +kernel
theorem dX7_takeIfSettled_4 : decode cX7_takeIfSettled 4 = .ok (.iload_n 3, 1) := by decide +kernel
theorem dX7_takeIfSettled_5 : decode cX7_takeIfSettled 5 = .ok (.aload_n 1, 1) := by decide +kernel
theorem dX7_takeIfSettled_6 : decode cX7_takeIfSettled 6 = .ok (.getfield 32, 3) := by decide +kernel
theorem dX7_takeIfSettled_9 : decode cX7_takeIfSettled 9 = .ok (.if_icmp .ge 86, 3) := by decide +kernel
theorem dX7_takeIfSettled_12 : decode cX7_takeIfSettled 12 = .ok (.iconst 0, 1) := by decide +kernel
theorem dX7_takeIfSettled_13 : decode cX7_takeIfSettled 13 = .ok (.istore 4, 2) := by decide +kernel
theorem dX7_takeIfSettled_15 : decode cX7_takeIfSettled 15 = .ok (.iload 4, 2) := by decide +kernel
theorem dX7_takeIfSettled_17 : decode cX7_takeIfSettled 17 = .ok (.aload_n 1, 1) := by decide +kernel
theorem dX7_takeIfSettled_18 : decode cX7_takeIfSettled 18 = .ok (.getfield 45, 3) := by decide +kernel
theorem dX7_takeIfSettled_21 : decode cX7_takeIfSettled 21 = .ok (.if_icmp .ge 31, 3) := by decide +kernel
theorem dX7_takeIfSettled_24 : decode cX7_takeIfSettled 24 = .ok (.aload_n 1, 1) := by decide +kernel
theorem dX7_takeIfSettled_25 : decode cX7_takeIfSettled 25 = .ok (.iload_n 3, 1) := by decide +kernel
theorem dX7_takeIfSettled_26 : decode cX7_takeIfSettled 26 = .ok (.iload 4, 2) := by decide +kernel
theorem dX7_takeIfSettled_28 : decode cX7_takeIfSettled 28 = .ok (.invokevirtual 48, 3) := by decide +kernel
theorem dX7_takeIfSettled_31 : decode cX7_takeIfSettled 31 = .ok (.ifCond .eq 15, 3) := by decide +kernel
theorem dX7_takeIfSettled_34 : decode cX7_takeIfSettled 34 = .ok (.aload_n 0, 1) := by decide +kernel
theorem dX7_takeIfSettled_35 : decode cX7_takeIfSettled 35 = .ok (.aload_n 1, 1) := by decide +kernel
theorem dX7_takeIfSettled_36 : decode cX7_takeIfSettled 36 = .ok (.iload_n 3, 1) := by decide +kernel
theorem dX7_takeIfSettled_37 : decode cX7_takeIfSettled 37 = .ok (.iload 4, 2) := by decide +kernel
theorem dX7_takeIfSettled_39 : decode cX7_takeIfSettled 39 = .ok (.invokevirtual 51, 3) := by decide +kernel
theorem dX7_takeIfSettled_42 : decode cX7_takeIfSettled 42 = .ok (.ifCond .eq 4, 3) := by decide +kernel
theorem dX7_takeIfSettled_45 : decode cX7_takeIfSettled 45 = .ok (.return_, 1) := by decide +kernel
theorem dX7_takeIfSettled_46 : decode cX7_takeIfSettled 46 = .ok (.iinc 4 1, 3) := by decide +kernel
theorem dX7_takeIfSettled_49 : decode cX7_takeIfSettled 49 = .ok (.goto (-34), 3) := by decide +kernel
theorem dX7_takeIfSettled_52 : decode cX7_takeIfSettled 52 = .ok (.aload_n 0, 1) := by decide +kernel
theorem dX7_takeIfSettled_53 : decode cX7_takeIfSettled 53 = .ok (.getfield 9, 3) := by decide +kernel
theorem dX7_takeIfSettled_56 : decode cX7_takeIfSettled 56 = .ok (.iload_n 3, 1) := by decide +kernel
theorem dX7_takeIfSettled_57 : decode cX7_takeIfSettled 57 = .ok (.iaload, 1) := by decide +kernel
theorem dX7_takeIfSettled_58 : decode cX7_takeIfSettled 58 = .ok (.ifCond .lt 31, 3) := by decide +kernel
theorem dX7_takeIfSettled_61 : decode cX7_takeIfSettled 61 = .ok (.iload_n 2, 1) := by decide +kernel
theorem dX7_takeIfSettled_62 : decode cX7_takeIfSettled 62 = .ok (.aload_n 1, 1) := by decide +kernel
theorem dX7_takeIfSettled_63 : decode cX7_takeIfSettled 63 = .ok (.iconst 0, 1) := by decide +kernel
theorem dX7_takeIfSettled_64 : decode cX7_takeIfSettled 64 = .ok (.iload_n 3, 1) := by decide +kernel
theorem dX7_takeIfSettled_65 : decode cX7_takeIfSettled 65 = .ok (.aload_n 0, 1) := by decide +kernel
theorem dX7_takeIfSettled_66 : decode cX7_takeIfSettled 66 = .ok (.getfield 9, 3) := by decide +kernel
theorem dX7_takeIfSettled_69 : decode cX7_takeIfSettled 69 = .ok (.iload_n 3, 1) := by decide +kernel
theorem dX7_takeIfSettled_70 : decode cX7_takeIfSettled 70 = .ok (.iaload, 1) := by decide +kernel
theorem dX7_takeIfSettled_71 : decode cX7_takeIfSettled 71 = .ok (.invokevirtual 55, 3) := by decide +kernel
theorem dX7_takeIfSettled_74 : decode cX7_takeIfSettled 74 = .ok (.aload_n 1, 1) := by decide +kernel
theorem dX7_takeIfSettled_75 : decode cX7_takeIfSettled 75 = .ok (.iconst 1, 1) := by decide +kernel
theorem dX7_takeIfSettled_76 : decode cX7_takeIfSettled 76 = .ok (.iload_n 3, 1) := by decide +kernel
theorem dX7_takeIfSettled_77 : decode cX7_takeIfSettled 77 = .ok (.aload_n 0, 1) := by decide +kernel
theorem dX7_takeIfSettled_78 : decode cX7_takeIfSettled 78 = .ok (.getfield 9, 3) := by decide +kernel
theorem dX7_takeIfSettled_81 : decode cX7_takeIfSettled 81 = .ok (.iload_n 3, 1) := by decide +kernel
theorem dX7_takeIfSettled_82 : decode cX7_takeIfSettled 82 = .ok (.iaload, 1) := by decide +kernel
theorem dX7_takeIfSettled_83 : decode cX7_takeIfSettled 83 = .ok (.invokevirtual 55, 3) := by decide +kernel
theorem dX7_takeIfSettled_86 : decode cX7_takeIfSettled 86 = .ok (.iadd, 1) := by decide +kernel
theorem dX7_takeIfSettled_87 : decode cX7_takeIfSettled 87 = .ok (.iadd, 1) := by decide +kernel
theorem dX7_takeIfSettled_88 : decode cX7_takeIfSettled 88 = .ok (.istore_n 2, 1) := by decide +kernel
theorem dX7_takeIfSettled_89 : decode cX7_takeIfSettled 89 = .ok (.iinc 3 1, 3) := by decide +kernel
theorem dX7_takeIfSettled_92 : decode cX7_takeIfSettled 92 = .ok (.goto (-88), 3) := by decide +kernel
theorem dX7_takeIfSettled_95 : decode cX7_takeIfSettled 95 = .ok (.aload_n 0, 1) := by decide +kernel
theorem dX7_takeIfSettled_96 : decode cX7_takeIfSettled 96 = .ok (.getfield 21, 3) := by decide +kernel
theorem dX7_takeIfSettled_99 : decode cX7_takeIfSettled 99 = .ok (.ifCond .ne 17, 3) := by decide +kernel
theorem dX7_takeIfSettled_102 : decode cX7_takeIfSettled 102 = .ok (.aload_n 0, 1) := by decide +kernel
theorem dX7_takeIfSettled_103 : decode cX7_takeIfSettled 103 = .ok (.getfield 9, 3) := by decide +kernel
theorem dX7_takeIfSettled_106 : decode cX7_takeIfSettled 106 = .ok (.iconst 0, 1) := by decide +kernel
theorem dX7_takeIfSettled_107 : decode cX7_takeIfSettled 107 = .ok (.aload_n 0, 1) := by decide +kernel
theorem dX7_takeIfSettled_108 : decode cX7_takeIfSettled 108 = .ok (.getfield 18, 3) := by decide +kernel
theorem dX7_takeIfSettled_111 : decode cX7_takeIfSettled 111 = .ok (.iconst 0, 1) := by decide +kernel
theorem dX7_takeIfSettled_112 : decode cX7_takeIfSettled 112 = .ok (.iconst 4, 1) := by decide +kernel
theorem dX7_takeIfSettled_113 : decode cX7_takeIfSettled 113 = .ok (.invokestatic 59, 3) := by decide +kernel
theorem dX7_takeIfSettled_116 : decode cX7_takeIfSettled 116 = .ok (.aload_n 0, 1) := by decide +kernel
theorem dX7_takeIfSettled_117 : decode cX7_takeIfSettled 117 = .ok (.dup, 1) := by decide +kernel
theorem dX7_takeIfSettled_118 : decode cX7_takeIfSettled 118 = .ok (.getfield 21, 3) := by decide +kernel
theorem dX7_takeIfSettled_121 : decode cX7_takeIfSettled 121 = .ok (.iconst 1, 1) := by decide +kernel
theorem dX7_takeIfSettled_122 : decode cX7_takeIfSettled 122 = .ok (.iadd, 1) := by decide +kernel
theorem dX7_takeIfSettled_123 : decode cX7_takeIfSettled 123 = .ok (.putfield 21, 3) := by decide +kernel
theorem dX7_takeIfSettled_126 : decode cX7_takeIfSettled 126 = .ok (.aload_n 0, 1) := by decide +kernel
theorem dX7_takeIfSettled_127 : decode cX7_takeIfSettled 127 = .ok (.aload_n 0, 1) := by decide +kernel
theorem dX7_takeIfSettled_128 : decode cX7_takeIfSettled 128 = .ok (.getfield 25, 3) := by decide +kernel
theorem dX7_takeIfSettled_131 : decode cX7_takeIfSettled 131 = .ok (.iload_n 2, 1) := by decide +kernel
theorem dX7_takeIfSettled_132 : decode cX7_takeIfSettled 132 = .ok (.invokestatic 65, 3) := by decide +kernel
theorem dX7_takeIfSettled_135 : decode cX7_takeIfSettled 135 = .ok (.putfield 25, 3) := by decide +kernel
theorem dX7_takeIfSettled_138 : decode cX7_takeIfSettled 138 = .ok (.return_, 1) := by decide +kernel
theorem dX7_wouldRather_0 : decode cX7_wouldRather 0 = .ok (.aload_n 0, 1) := by decide +kernel
theorem dX7_wouldRather_1 : decode cX7_wouldRather 1 = .ok (.getfield 9, 3) := by decide +kernel
theorem dX7_wouldRather_4 : decode cX7_wouldRather 4 = .ok (.iload_n 2, 1) := by decide +kernel
theorem dX7_wouldRather_5 : decode cX7_wouldRather 5 = .ok (.iaload, 1) := by decide +kernel
theorem dX7_wouldRather_6 : decode cX7_wouldRather 6 = .ok (.istore 4, 2) := by decide +kernel
theorem dX7_wouldRather_8 : decode cX7_wouldRather 8 = .ok (.aload_n 0, 1) := by decide +kernel
theorem dX7_wouldRather_9 : decode cX7_wouldRather 9 = .ok (.getfield 15, 3) := by decide +kernel
theorem dX7_wouldRather_12 : decode cX7_wouldRather 12 = .ok (.iload_n 3, 1) := by decide +kernel
theorem dX7_wouldRather_13 : decode cX7_wouldRather 13 = .ok (.iaload, 1) := by decide +kernel
theorem dX7_wouldRather_14 : decode cX7_wouldRather 14 = .ok (.istore 5, 2) := by decide +kernel
theorem dX7_wouldRather_16 : decode cX7_wouldRather 16 = .ok (.iload 4, 2) := by decide +kernel
theorem dX7_wouldRather_18 : decode cX7_wouldRather 18 = .ok (.ifCond .lt 21, 3) := by decide +kernel
theorem dX7_wouldRather_21 : decode cX7_wouldRather 21 = .ok (.aload_n 1, 1) := by decide +kernel
theorem dX7_wouldRather_22 : decode cX7_wouldRather 22 = .ok (.iconst 0, 1) := by decide +kernel
theorem dX7_wouldRather_23 : decode cX7_wouldRather 23 = .ok (.iload_n 2, 1) := by decide +kernel
theorem dX7_wouldRather_24 : decode cX7_wouldRather 24 = .ok (.iload_n 3, 1) := by decide +kernel
theorem dX7_wouldRather_25 : decode cX7_wouldRather 25 = .ok (.invokevirtual 55, 3) := by decide +kernel
theorem dX7_wouldRather_28 : decode cX7_wouldRather 28 = .ok (.aload_n 1, 1) := by decide +kernel
theorem dX7_wouldRather_29 : decode cX7_wouldRather 29 = .ok (.iconst 0, 1) := by decide +kernel
theorem dX7_wouldRather_30 : decode cX7_wouldRather 30 = .ok (.iload_n 2, 1) := by decide +kernel
theorem dX7_wouldRather_31 : decode cX7_wouldRather 31 = .ok (.iload 4, 2) := by decide +kernel
theorem dX7_wouldRather_33 : decode cX7_wouldRather 33 = .ok (.invokevirtual 55, 3) := by decide +kernel
theorem dX7_wouldRather_36 : decode cX7_wouldRather 36 = .ok (.if_icmp .le 7, 3) := by decide +kernel
theorem dX7_wouldRather_39 : decode cX7_wouldRather 39 = .ok (.iconst 1, 1) := by decide +kernel
theorem dX7_wouldRather_40 : decode cX7_wouldRather 40 = .ok (.goto 4, 3) := by decide +kernel
theorem dX7_wouldRather_43 : decode cX7_wouldRather 43 = .ok (.iconst 0, 1) := by decide +kernel
theorem dX7_wouldRather_44 : decode cX7_wouldRather 44 = .ok (.istore 6, 2) := by decide +kernel
theorem dX7_wouldRather_46 : decode cX7_wouldRather 46 = .ok (.iload 5, 2) := by decide +kernel
theorem dX7_wouldRather_48 : decode cX7_wouldRather 48 = .ok (.ifCond .lt 21, 3) := by decide +kernel
theorem dX7_wouldRather_51 : decode cX7_wouldRather 51 = .ok (.aload_n 1, 1) := by decide +kernel
theorem dX7_wouldRather_52 : decode cX7_wouldRather 52 = .ok (.iconst 1, 1) := by decide +kernel
theorem dX7_wouldRather_53 : decode cX7_wouldRather 53 = .ok (.iload_n 2, 1) := by decide +kernel
theorem dX7_wouldRather_54 : decode cX7_wouldRather 54 = .ok (.iload_n 3, 1) := by decide +kernel
theorem dX7_wouldRather_55 : decode cX7_wouldRather 55 = .ok (.invokevirtual 55, 3) := by decide +kernel
theorem dX7_wouldRather_58 : decode cX7_wouldRather 58 = .ok (.aload_n 1, 1) := by decide +kernel
theorem dX7_wouldRather_59 : decode cX7_wouldRather 59 = .ok (.iconst 1, 1) := by decide +kernel
theorem dX7_wouldRather_60 : decode cX7_wouldRather 60 = .ok (.iload 5, 2) := by decide +kernel
theorem dX7_wouldRather_62 : decode cX7_wouldRather 62 = .ok (.iload_n 3, 1) := by decide +kernel
theorem dX7_wouldRather_63 : decode cX7_wouldRather 63 = .ok (.invokevirtual 55, 3) := by decide +kernel
theorem dX7_wouldRather_66 : decode cX7_wouldRather 66 = .ok (.if_icmp .le 7, 3) := by decide +kernel
theorem dX7_wouldRather_69 : decode cX7_wouldRather 69 = .ok (.iconst 1, 1) := by decide +kernel
theorem dX7_wouldRather_70 : decode cX7_wouldRather 70 = .ok (.goto 4, 3) := by decide +kernel
theorem dX7_wouldRather_73 : decode cX7_wouldRather 73 = .ok (.iconst 0, 1) := by decide +kernel
theorem dX7_wouldRather_74 : decode cX7_wouldRather 74 = .ok (.istore 7, 2) := by decide +kernel
theorem dX7_wouldRather_76 : decode cX7_wouldRather 76 = .ok (.iload 6, 2) := by decide +kernel
theorem dX7_wouldRather_78 : decode cX7_wouldRather 78 = .ok (.ifCond .eq 12, 3) := by decide +kernel
theorem dX7_wouldRather_81 : decode cX7_wouldRather 81 = .ok (.iload 7, 2) := by decide +kernel
theorem dX7_wouldRather_83 : decode cX7_wouldRather 83 = .ok (.ifCond .eq 7, 3) := by decide +kernel
theorem dX7_wouldRather_86 : decode cX7_wouldRather 86 = .ok (.iconst 1, 1) := by decide +kernel
theorem dX7_wouldRather_87 : decode cX7_wouldRather 87 = .ok (.goto 4, 3) := by decide +kernel
theorem dX7_wouldRather_90 : decode cX7_wouldRather 90 = .ok (.iconst 0, 1) := by decide +kernel
theorem dX7_wouldRather_91 : decode cX7_wouldRather 91 = .ok (.ireturn, 1) := by decide +kernel
theorem dX8_init_0 : decode cX8_init 0 = .ok (.aload_n 0, 1) := by decide +kernel
theorem dX8_init_1 : decode cX8_init 1 = .ok (.invokespecial 3, 3) := by decide +kernel
theorem dX8_init_4 : decode cX8_init 4 = .ok (.aload_n 0, 1) := by decide +kernel
theorem dX8_init_5 : decode cX8_init 5 = .ok (.iconst 0, 1) := by decide +kernel
theorem dX8_init_6 : decode cX8_init 6 = .ok (.putfield 9, 3) := by decide +kernel
theorem dX8_init_9 : decode cX8_init 9 = .ok (.aload_n 0, 1) := by decide +kernel
theorem dX8_init_10 : decode cX8_init 10 = .ok (.iconst 0, 1) := by decide +kernel
theorem dX8_init_11 : decode cX8_init 11 = .ok (.putfield 15, 3) := by decide +kernel
theorem dX8_init_14 : decode cX8_init 14 = .ok (.aload_n 0, 1) := by decide +kernel
theorem dX8_init_15 : decode cX8_init 15 = .ok (.iconst 0, 1) := by decide +kernel
theorem dX8_init_16 : decode cX8_init 16 = .ok (.putfield 19, 3) := by decide +kernel
theorem dX8_init_19 : decode cX8_init 19 = .ok (.aload_n 0, 1) := by decide +kernel
theorem dX8_init_20 : decode cX8_init 20 = .ok (.iconst 0, 1) := by decide +kernel
theorem dX8_init_21 : decode cX8_init 21 = .ok (.putfield 22, 3) := by decide +kernel
theorem dX8_init_24 : decode cX8_init 24 = .ok (.aload_n 0, 1) := by decide +kernel
theorem dX8_init_25 : decode cX8_init 25 = .ok (.iconst 0, 1) := by decide +kernel
theorem dX8_init_26 : decode cX8_init 26 = .ok (.putfield 25, 3) := by decide +kernel
theorem dX8_init_29 : decode cX8_init 29 = .ok (.aload_n 0, 1) := by decide +kernel
theorem dX8_init_30 : decode cX8_init 30 = .ok (.iconst 0, 1) := by decide +kernel
theorem dX8_init_31 : decode cX8_init 31 = .ok (.putfield 28, 3) := by decide +kernel
theorem dX8_init_34 : decode cX8_init 34 = .ok (.aload_n 0, 1) := by decide +kernel
theorem dX8_init_35 : decode cX8_init 35 = .ok (.lconst 0, 1) := by decide +kernel
theorem dX8_init_36 : decode cX8_init 36 = .ok (.putfield 31, 3) := by decide +kernel
theorem dX8_init_39 : decode cX8_init 39 = .ok (.aload_n 0, 1) := by decide +kernel
theorem dX8_init_40 : decode cX8_init 40 = .ok (.bipush 8, 2) := by decide +kernel
theorem dX8_init_42 : decode cX8_init 42 = .ok (.newarray .int, 2) := by decide +kernel
theorem dX8_init_44 : decode cX8_init 44 = .ok (.putfield 35, 3) := by decide +kernel
theorem dX8_init_47 : decode cX8_init 47 = .ok (.aload_n 0, 1) := by decide +kernel
theorem dX8_init_48 : decode cX8_init 48 = .ok (.bipush 8, 2) := by decide +kernel
theorem dX8_init_50 : decode cX8_init 50 = .ok (.newarray .int, 2) := by decide +kernel
theorem dX8_init_52 : decode cX8_init 52 = .ok (.putfield 39, 3) := by decide +kernel
theorem dX8_init_55 : decode cX8_init 55 = .ok (.aload_n 0, 1) := by decide +kernel
theorem dX8_init_56 : decode cX8_init 56 = .ok (.bipush 8, 2) := by decide +kernel
theorem dX8_init_58 : decode cX8_init 58 = .ok (.newarray .int, 2) := by decide +kernel
theorem dX8_init_60 : decode cX8_init 60 = .ok (.putfield 42, 3) := by decide +kernel
theorem dX8_init_63 : decode cX8_init 63 = .ok (.aload_n 0, 1) := by decide +kernel
theorem dX8_init_64 : decode cX8_init 64 = .ok (.iconst 4, 1) := by decide +kernel
theorem dX8_init_65 : decode cX8_init 65 = .ok (.newarray .int, 2) := by decide +kernel
theorem dX8_init_67 : decode cX8_init 67 = .ok (.putfield 45, 3) := by decide +kernel
theorem dX8_init_70 : decode cX8_init 70 = .ok (.aload_n 0, 1) := by decide +kernel
theorem dX8_init_71 : decode cX8_init 71 = .ok (.bipush 32, 2) := by decide +kernel
theorem dX8_init_73 : decode cX8_init 73 = .ok (.newarray .int, 2) := by decide +kernel
theorem dX8_init_75 : decode cX8_init 75 = .ok (.putfield 48, 3) := by decide +kernel
theorem dX8_init_78 : decode cX8_init 78 = .ok (.aload_n 0, 1) := by decide +kernel
theorem dX8_init_79 : decode cX8_init 79 = .ok (.bipush 32, 2) := by decide +kernel
theorem dX8_init_81 : decode cX8_init 81 = .ok (.newarray .int, 2) := by decide +kernel
theorem dX8_init_83 : decode cX8_init 83 = .ok (.putfield 51, 3) := by decide +kernel
theorem dX8_init_86 : decode cX8_init 86 = .ok (.return_, 1) := by decide +kernel
theorem dX8_cell_0 : decode cX8_cell 0 = .ok (.iload_n 0, 1) := by decide +kernel
theorem dX8_cell_1 : decode cX8_cell 1 = .ok (.bipush 16, 2) := by decide +kernel
theorem dX8_cell_3 : decode cX8_cell 3 = .ok (.imul, 1) := by decide +kernel
theorem dX8_cell_4 : decode cX8_cell 4 = .ok (.iload_n 1, 1) := by decide +kernel
theorem dX8_cell_5 : decode cX8_cell 5 = .ok (.iconst 4, 1) := by decide +kernel
theorem dX8_cell_6 : decode cX8_cell 6 = .ok (.imul, 1) := by decide +kernel
theorem dX8_cell_7 : decode cX8_cell 7 = .ok (.iadd, 1) := by decide +kernel
theorem dX8_cell_8 : decode cX8_cell 8 = .ok (.iload_n 2, 1) := by decide +kernel
theorem dX8_cell_9 : decode cX8_cell 9 = .ok (.iadd, 1) := by decide +kernel
theorem dX8_cell_10 : decode cX8_cell 10 = .ok (.ireturn, 1) := by decide +kernel
theorem dX8_clear_0 : decode cX8_clear 0 = .ok (.aload_n 0, 1) := by decide +kernel
theorem dX8_clear_1 : decode cX8_clear 1 = .ok (.iconst 0, 1) := by decide +kernel
theorem dX8_clear_2 : decode cX8_clear 2 = .ok (.putfield 9, 3) := by decide +kernel
theorem dX8_clear_5 : decode cX8_clear 5 = .ok (.aload_n 0, 1) := by decide +kernel
theorem dX8_clear_6 : decode cX8_clear 6 = .ok (.iconst 0, 1) := by decide +kernel
theorem dX8_clear_7 : decode cX8_clear 7 = .ok (.putfield 15, 3) := by decide +kernel
theorem dX8_clear_10 : decode cX8_clear 10 = .ok (.aload_n 0, 1) := by decide +kernel
theorem dX8_clear_11 : decode cX8_clear 11 = .ok (.iconst 0, 1) := by decide +kernel
theorem dX8_clear_12 : decode cX8_clear 12 = .ok (.putfield 19, 3) := by decide +kernel
theorem dX8_clear_15 : decode cX8_clear 15 = .ok (.aload_n 0, 1) := by decide +kernel
theorem dX8_clear_16 : decode cX8_clear 16 = .ok (.iconst 0, 1) := by decide +kernel
theorem dX8_clear_17 : decode cX8_clear 17 = .ok (.putfield 22, 3) := by decide +kernel
theorem dX8_clear_20 : decode cX8_clear 20 = .ok (.aload_n 0, 1) := by decide +kernel
theorem dX8_clear_21 : decode cX8_clear 21 = .ok (.iconst 0, 1) := by decide +kernel
theorem dX8_clear_22 : decode cX8_clear 22 = .ok (.putfield 25, 3) := by decide +kernel
theorem dX8_clear_25 : decode cX8_clear 25 = .ok (.aload_n 0, 1) := by decide +kernel
theorem dX8_clear_26 : decode cX8_clear 26 = .ok (.iconst 0, 1) := by decide +kernel
theorem dX8_clear_27 : decode cX8_clear 27 = .ok (.putfield 28, 3) := by decide +kernel
theorem dX8_clear_30 : decode cX8_clear 30 = .ok (.aload_n 0, 1) := by decide +kernel
theorem dX8_clear_31 : decode cX8_clear 31 = .ok (.lconst 0, 1) := by decide +kernel
theorem dX8_clear_32 : decode cX8_clear 32 = .ok (.putfield 31, 3) := by decide +kernel
theorem dX8_clear_35 : decode cX8_clear 35 = .ok (.iconst 0, 1) := by decide +kernel
theorem dX8_clear_36 : decode cX8_clear 36 = .ok (.istore_n 1, 1) := by decide +kernel
theorem dX8_clear_37 : decode cX8_clear 37 = .ok (.iload_n 1, 1) := by decide +kernel
theorem dX8_clear_38 : decode cX8_clear 38 = .ok (.bipush 8, 2) := by decide +kernel
theorem dX8_clear_40 : decode cX8_clear 40 = .ok (.if_icmp .ge 30, 3) := by decide +kernel
theorem dX8_clear_43 : decode cX8_clear 43 = .ok (.aload_n 0, 1) := by decide +kernel
theorem dX8_clear_44 : decode cX8_clear 44 = .ok (.getfield 35, 3) := by decide +kernel
theorem dX8_clear_47 : decode cX8_clear 47 = .ok (.iload_n 1, 1) := by decide +kernel
theorem dX8_clear_48 : decode cX8_clear 48 = .ok (.iconst 0, 1) := by decide +kernel
theorem dX8_clear_49 : decode cX8_clear 49 = .ok (.iastore, 1) := by decide +kernel
theorem dX8_clear_50 : decode cX8_clear 50 = .ok (.aload_n 0, 1) := by decide +kernel
theorem dX8_clear_51 : decode cX8_clear 51 = .ok (.getfield 39, 3) := by decide +kernel
theorem dX8_clear_54 : decode cX8_clear 54 = .ok (.iload_n 1, 1) := by decide +kernel
theorem dX8_clear_55 : decode cX8_clear 55 = .ok (.iconst (-1), 1) := by decide +kernel
theorem dX8_clear_56 : decode cX8_clear 56 = .ok (.iastore, 1) := by decide +kernel
theorem dX8_clear_57 : decode cX8_clear 57 = .ok (.aload_n 0, 1) := by decide +kernel
theorem dX8_clear_58 : decode cX8_clear 58 = .ok (.getfield 42, 3) := by decide +kernel
theorem dX8_clear_61 : decode cX8_clear 61 = .ok (.iload_n 1, 1) := by decide +kernel
theorem dX8_clear_62 : decode cX8_clear 62 = .ok (.iconst 0, 1) := by decide +kernel
theorem dX8_clear_63 : decode cX8_clear 63 = .ok (.iastore, 1) := by decide +kernel
theorem dX8_clear_64 : decode cX8_clear 64 = .ok (.iinc 1 1, 3) := by decide +kernel
theorem dX8_clear_67 : decode cX8_clear 67 = .ok (.goto (-30), 3) := by decide +kernel
theorem dX8_clear_70 : decode cX8_clear 70 = .ok (.iconst 0, 1) := by decide +kernel
theorem dX8_clear_71 : decode cX8_clear 71 = .ok (.istore_n 1, 1) := by decide +kernel
theorem dX8_clear_72 : decode cX8_clear 72 = .ok (.iload_n 1, 1) := by decide +kernel
theorem dX8_clear_73 : decode cX8_clear 73 = .ok (.iconst 4, 1) := by decide +kernel
theorem dX8_clear_74 : decode cX8_clear 74 = .ok (.if_icmp .ge 16, 3) := by decide +kernel
theorem dX8_clear_77 : decode cX8_clear 77 = .ok (.aload_n 0, 1) := by decide +kernel
theorem dX8_clear_78 : decode cX8_clear 78 = .ok (.getfield 45, 3) := by decide +kernel
theorem dX8_clear_81 : decode cX8_clear 81 = .ok (.iload_n 1, 1) := by decide +kernel
theorem dX8_clear_82 : decode cX8_clear 82 = .ok (.iconst 0, 1) := by decide +kernel
theorem dX8_clear_83 : decode cX8_clear 83 = .ok (.iastore, 1) := by decide +kernel
theorem dX8_clear_84 : decode cX8_clear 84 = .ok (.iinc 1 1, 3) := by decide +kernel
theorem dX8_clear_87 : decode cX8_clear 87 = .ok (.goto (-15), 3) := by decide +kernel
theorem dX8_clear_90 : decode cX8_clear 90 = .ok (.iconst 0, 1) := by decide +kernel
theorem dX8_clear_91 : decode cX8_clear 91 = .ok (.istore_n 1, 1) := by decide +kernel
theorem dX8_clear_92 : decode cX8_clear 92 = .ok (.iload_n 1, 1) := by decide +kernel
theorem dX8_clear_93 : decode cX8_clear 93 = .ok (.bipush 32, 2) := by decide +kernel
theorem dX8_clear_95 : decode cX8_clear 95 = .ok (.if_icmp .ge 23, 3) := by decide +kernel
theorem dX8_clear_98 : decode cX8_clear 98 = .ok (.aload_n 0, 1) := by decide +kernel
theorem dX8_clear_99 : decode cX8_clear 99 = .ok (.getfield 48, 3) := by decide +kernel
theorem dX8_clear_102 : decode cX8_clear 102 = .ok (.iload_n 1, 1) := by decide +kernel
theorem dX8_clear_103 : decode cX8_clear 103 = .ok (.iconst 0, 1) := by decide +kernel
theorem dX8_clear_104 : decode cX8_clear 104 = .ok (.iastore, 1) := by decide +kernel
theorem dX8_clear_105 : decode cX8_clear 105 = .ok (.aload_n 0, 1) := by decide +kernel
theorem dX8_clear_106 : decode cX8_clear 106 = .ok (.getfield 51, 3) := by decide +kernel
theorem dX8_clear_109 : decode cX8_clear 109 = .ok (.iload_n 1, 1) := by decide +kernel
theorem dX8_clear_110 : decode cX8_clear 110 = .ok (.iconst (-1), 1) := by decide +kernel
theorem dX8_clear_111 : decode cX8_clear 111 = .ok (.iastore, 1) := by decide +kernel
theorem dX8_clear_112 : decode cX8_clear 112 = .ok (.iinc 1 1, 3) := by decide +kernel
theorem dX8_clear_115 : decode cX8_clear 115 = .ok (.goto (-23), 3) := by decide +kernel
theorem dX8_clear_118 : decode cX8_clear 118 = .ok (.return_, 1) := by decide +kernel
theorem dX8_copyFrom_0 : decode cX8_copyFrom 0 = .ok (.aload_n 0, 1) := by decide +kernel
theorem dX8_copyFrom_1 : decode cX8_copyFrom 1 = .ok (.aload_n 1, 1) := by decide +kernel
theorem dX8_copyFrom_2 : decode cX8_copyFrom 2 = .ok (.getfield 9, 3) := by decide +kernel
theorem dX8_copyFrom_5 : decode cX8_copyFrom 5 = .ok (.putfield 9, 3) := by decide +kernel
theorem dX8_copyFrom_8 : decode cX8_copyFrom 8 = .ok (.aload_n 0, 1) := by decide +kernel
theorem dX8_copyFrom_9 : decode cX8_copyFrom 9 = .ok (.aload_n 1, 1) := by decide +kernel
theorem dX8_copyFrom_10 : decode cX8_copyFrom 10 = .ok (.getfield 15, 3) := by decide +kernel
theorem dX8_copyFrom_13 : decode cX8_copyFrom 13 = .ok (.putfield 15, 3) := by decide +kernel
theorem dX8_copyFrom_16 : decode cX8_copyFrom 16 = .ok (.aload_n 0, 1) := by decide +kernel
theorem dX8_copyFrom_17 : decode cX8_copyFrom 17 = .ok (.aload_n 1, 1) := by decide +kernel
theorem dX8_copyFrom_18 : decode cX8_copyFrom 18 = .ok (.getfield 19, 3) := by decide +kernel
theorem dX8_copyFrom_21 : decode cX8_copyFrom 21 = .ok (.putfield 19, 3) := by decide +kernel
theorem dX8_copyFrom_24 : decode cX8_copyFrom 24 = .ok (.aload_n 0, 1) := by decide +kernel
theorem dX8_copyFrom_25 : decode cX8_copyFrom 25 = .ok (.aload_n 1, 1) := by decide +kernel
theorem dX8_copyFrom_26 : decode cX8_copyFrom 26 = .ok (.getfield 22, 3) := by decide +kernel
theorem dX8_copyFrom_29 : decode cX8_copyFrom 29 = .ok (.putfield 22, 3) := by decide +kernel
theorem dX8_copyFrom_32 : decode cX8_copyFrom 32 = .ok (.aload_n 0, 1) := by decide +kernel
theorem dX8_copyFrom_33 : decode cX8_copyFrom 33 = .ok (.aload_n 1, 1) := by decide +kernel
theorem dX8_copyFrom_34 : decode cX8_copyFrom 34 = .ok (.getfield 25, 3) := by decide +kernel
theorem dX8_copyFrom_37 : decode cX8_copyFrom 37 = .ok (.putfield 25, 3) := by decide +kernel
theorem dX8_copyFrom_40 : decode cX8_copyFrom 40 = .ok (.aload_n 0, 1) := by decide +kernel
theorem dX8_copyFrom_41 : decode cX8_copyFrom 41 = .ok (.aload_n 1, 1) := by decide +kernel
theorem dX8_copyFrom_42 : decode cX8_copyFrom 42 = .ok (.getfield 28, 3) := by decide +kernel
theorem dX8_copyFrom_45 : decode cX8_copyFrom 45 = .ok (.putfield 28, 3) := by decide +kernel
theorem dX8_copyFrom_48 : decode cX8_copyFrom 48 = .ok (.aload_n 0, 1) := by decide +kernel
theorem dX8_copyFrom_49 : decode cX8_copyFrom 49 = .ok (.aload_n 1, 1) := by decide +kernel
theorem dX8_copyFrom_50 : decode cX8_copyFrom 50 = .ok (.getfield 31, 3) := by decide +kernel
theorem dX8_copyFrom_53 : decode cX8_copyFrom 53 = .ok (.putfield 31, 3) := by decide +kernel
theorem dX8_copyFrom_56 : decode cX8_copyFrom 56 = .ok (.aload_n 1, 1) := by decide +kernel
theorem dX8_copyFrom_57 : decode cX8_copyFrom 57 = .ok (.getfield 35, 3) := by decide +kernel
theorem dX8_copyFrom_60 : decode cX8_copyFrom 60 = .ok (.iconst 0, 1) := by decide +kernel
theorem dX8_copyFrom_61 : decode cX8_copyFrom 61 = .ok (.aload_n 0, 1) := by decide +kernel
theorem dX8_copyFrom_62 : decode cX8_copyFrom 62 = .ok (.getfield 35, 3) := by decide +kernel
theorem dX8_copyFrom_65 : decode cX8_copyFrom 65 = .ok (.iconst 0, 1) := by decide +kernel
theorem dX8_copyFrom_66 : decode cX8_copyFrom 66 = .ok (.bipush 8, 2) := by decide +kernel
theorem dX8_copyFrom_68 : decode cX8_copyFrom 68 = .ok (.invokestatic 54, 3) := by decide +kernel
theorem dX8_copyFrom_71 : decode cX8_copyFrom 71 = .ok (.aload_n 1, 1) := by decide +kernel
theorem dX8_copyFrom_72 : decode cX8_copyFrom 72 = .ok (.getfield 39, 3) := by decide +kernel
theorem dX8_copyFrom_75 : decode cX8_copyFrom 75 = .ok (.iconst 0, 1) := by decide +kernel
theorem dX8_copyFrom_76 : decode cX8_copyFrom 76 = .ok (.aload_n 0, 1) := by decide +kernel
theorem dX8_copyFrom_77 : decode cX8_copyFrom 77 = .ok (.getfield 39, 3) := by decide +kernel
theorem dX8_copyFrom_80 : decode cX8_copyFrom 80 = .ok (.iconst 0, 1) := by decide +kernel
theorem dX8_copyFrom_81 : decode cX8_copyFrom 81 = .ok (.bipush 8, 2) := by decide +kernel
theorem dX8_copyFrom_83 : decode cX8_copyFrom 83 = .ok (.invokestatic 54, 3) := by decide +kernel
theorem dX8_copyFrom_86 : decode cX8_copyFrom 86 = .ok (.aload_n 1, 1) := by decide +kernel
theorem dX8_copyFrom_87 : decode cX8_copyFrom 87 = .ok (.getfield 42, 3) := by decide +kernel
theorem dX8_copyFrom_90 : decode cX8_copyFrom 90 = .ok (.iconst 0, 1) := by decide +kernel
theorem dX8_copyFrom_91 : decode cX8_copyFrom 91 = .ok (.aload_n 0, 1) := by decide +kernel
theorem dX8_copyFrom_92 : decode cX8_copyFrom 92 = .ok (.getfield 42, 3) := by decide +kernel
theorem dX8_copyFrom_95 : decode cX8_copyFrom 95 = .ok (.iconst 0, 1) := by decide +kernel
theorem dX8_copyFrom_96 : decode cX8_copyFrom 96 = .ok (.bipush 8, 2) := by decide +kernel
theorem dX8_copyFrom_98 : decode cX8_copyFrom 98 = .ok (.invokestatic 54, 3) := by decide +kernel
theorem dX8_copyFrom_101 : decode cX8_copyFrom 101 = .ok (.aload_n 1, 1) := by decide +kernel
theorem dX8_copyFrom_102 : decode cX8_copyFrom 102 = .ok (.getfield 45, 3) := by decide +kernel
theorem dX8_copyFrom_105 : decode cX8_copyFrom 105 = .ok (.iconst 0, 1) := by decide +kernel
theorem dX8_copyFrom_106 : decode cX8_copyFrom 106 = .ok (.aload_n 0, 1) := by decide +kernel
theorem dX8_copyFrom_107 : decode cX8_copyFrom 107 = .ok (.getfield 45, 3) := by decide +kernel
theorem dX8_copyFrom_110 : decode cX8_copyFrom 110 = .ok (.iconst 0, 1) := by decide +kernel
theorem dX8_copyFrom_111 : decode cX8_copyFrom 111 = .ok (.iconst 4, 1) := by decide +kernel
theorem dX8_copyFrom_112 : decode cX8_copyFrom 112 = .ok (.invokestatic 54, 3) := by decide +kernel
theorem dX8_copyFrom_115 : decode cX8_copyFrom 115 = .ok (.aload_n 1, 1) := by decide +kernel
theorem dX8_copyFrom_116 : decode cX8_copyFrom 116 = .ok (.getfield 48, 3) := by decide +kernel
theorem dX8_copyFrom_119 : decode cX8_copyFrom 119 = .ok (.iconst 0, 1) := by decide +kernel
theorem dX8_copyFrom_120 : decode cX8_copyFrom 120 = .ok (.aload_n 0, 1) := by decide +kernel
theorem dX8_copyFrom_121 : decode cX8_copyFrom 121 = .ok (.getfield 48, 3) := by decide +kernel
theorem dX8_copyFrom_124 : decode cX8_copyFrom 124 = .ok (.iconst 0, 1) := by decide +kernel
theorem dX8_copyFrom_125 : decode cX8_copyFrom 125 = .ok (.bipush 32, 2) := by decide +kernel
theorem dX8_copyFrom_127 : decode cX8_copyFrom 127 = .ok (.invokestatic 54, 3) := by decide +kernel
theorem dX8_copyFrom_130 : decode cX8_copyFrom 130 = .ok (.aload_n 1, 1) := by decide +kernel
theorem dX8_copyFrom_131 : decode cX8_copyFrom 131 = .ok (.getfield 51, 3) := by decide +kernel
theorem dX8_copyFrom_134 : decode cX8_copyFrom 134 = .ok (.iconst 0, 1) := by decide +kernel
theorem dX8_copyFrom_135 : decode cX8_copyFrom 135 = .ok (.aload_n 0, 1) := by decide +kernel
theorem dX8_copyFrom_136 : decode cX8_copyFrom 136 = .ok (.getfield 51, 3) := by decide +kernel
theorem dX8_copyFrom_139 : decode cX8_copyFrom 139 = .ok (.iconst 0, 1) := by decide +kernel
theorem dX8_copyFrom_140 : decode cX8_copyFrom 140 = .ok (.bipush 32, 2) := by decide +kernel
theorem dX8_copyFrom_142 : decode cX8_copyFrom 142 = .ok (.invokestatic 54, 3) := by decide +kernel
theorem dX8_copyFrom_145 : decode cX8_copyFrom 145 = .ok (.return_, 1) := by decide +kernel
theorem dX8_addEast_0 : decode cX8_addEast 0 = .ok (.aload_n 0, 1) := by decide +kernel
theorem dX8_addEast_1 : decode cX8_addEast 1 = .ok (.getfield 22, 3) := by decide +kernel
theorem dX8_addEast_4 : decode cX8_addEast 4 = .ok (.iconst 4, 1) := by decide +kernel
theorem dX8_addEast_5 : decode cX8_addEast 5 = .ok (.if_icmp .ge 23, 3) := by decide +kernel
theorem dX8_addEast_8 : decode cX8_addEast 8 = .ok (.aload_n 0, 1) := by decide +kernel
theorem dX8_addEast_9 : decode cX8_addEast 9 = .ok (.getfield 35, 3) := by decide +kernel
theorem dX8_addEast_12 : decode cX8_addEast 12 = .ok (.aload_n 0, 1) := by decide +kernel
theorem dX8_addEast_13 : decode cX8_addEast 13 = .ok (.getfield 22, 3) := by decide +kernel
theorem dX8_addEast_16 : decode cX8_addEast 16 = .ok (.iload_n 1, 1) := by decide +kernel
theorem dX8_addEast_17 : decode cX8_addEast 17 = .ok (.iastore, 1) := by decide +kernel
theorem dX8_addEast_18 : decode cX8_addEast 18 = .ok (.aload_n 0, 1) := by decide +kernel
theorem dX8_addEast_19 : decode cX8_addEast 19 = .ok (.dup, 1) := by decide +kernel
theorem dX8_addEast_20 : decode cX8_addEast 20 = .ok (.getfield 22, 3) := by decide +kernel
theorem dX8_addEast_23 : decode cX8_addEast 23 = .ok (.iconst 1, 1) := by decide +kernel
theorem dX8_addEast_24 : decode cX8_addEast 24 = .ok (.iadd, 1) := by decide +kernel
theorem dX8_addEast_25 : decode cX8_addEast 25 = .ok (.putfield 22, 3) := by decide +kernel
theorem dX8_addEast_28 : decode cX8_addEast 28 = .ok (.return_, 1) := by decide +kernel
theorem dX8_addWest_0 : decode cX8_addWest 0 = .ok (.aload_n 0, 1) := by decide +kernel
theorem dX8_addWest_1 : decode cX8_addWest 1 = .ok (.getfield 25, 3) := by decide +kernel
theorem dX8_addWest_4 : decode cX8_addWest 4 = .ok (.iconst 4, 1) := by decide +kernel
theorem dX8_addWest_5 : decode cX8_addWest 5 = .ok (.if_icmp .ge 25, 3) := by decide +kernel
theorem dX8_addWest_8 : decode cX8_addWest 8 = .ok (.aload_n 0, 1) := by decide +kernel
theorem dX8_addWest_9 : decode cX8_addWest 9 = .ok (.getfield 35, 3) := by decide +kernel
theorem dX8_addWest_12 : decode cX8_addWest 12 = .ok (.iconst 4, 1) := by decide +kernel
theorem dX8_addWest_13 : decode cX8_addWest 13 = .ok (.aload_n 0, 1) := by decide +kernel
theorem dX8_addWest_14 : decode cX8_addWest 14 = .ok (.getfield 25, 3) := by decide +kernel
theorem dX8_addWest_17 : decode cX8_addWest 17 = .ok (.iadd, 1) := by decide +kernel
theorem dX8_addWest_18 : decode cX8_addWest 18 = .ok (.iload_n 1, 1) := by decide +kernel
theorem dX8_addWest_19 : decode cX8_addWest 19 = .ok (.iastore, 1) := by decide +kernel
theorem dX8_addWest_20 : decode cX8_addWest 20 = .ok (.aload_n 0, 1) := by decide +kernel
theorem dX8_addWest_21 : decode cX8_addWest 21 = .ok (.dup, 1) := by decide +kernel
theorem dX8_addWest_22 : decode cX8_addWest 22 = .ok (.getfield 25, 3) := by decide +kernel
theorem dX8_addWest_25 : decode cX8_addWest 25 = .ok (.iconst 1, 1) := by decide +kernel
theorem dX8_addWest_26 : decode cX8_addWest 26 = .ok (.iadd, 1) := by decide +kernel
theorem dX8_addWest_27 : decode cX8_addWest 27 = .ok (.putfield 25, 3) := by decide +kernel
theorem dX8_addWest_30 : decode cX8_addWest 30 = .ok (.return_, 1) := by decide +kernel
theorem dX8_fillUntoldTruth_0 : decode cX8_fillUntoldTruth 0 = .ok (.iconst 0, 1) := by decide +kernel
theorem dX8_fillUntoldTruth_1 : decode cX8_fillUntoldTruth 1 = .ok (.istore_n 1, 1) := by decide +kernel
theorem dX8_fillUntoldTruth_2 : decode cX8_fillUntoldTruth 2 = .ok (.iload_n 1, 1) := by decide +kernel
theorem dX8_fillUntoldTruth_3 : decode cX8_fillUntoldTruth 3 = .ok (.bipush 32, 2) := by decide +kernel
theorem dX8_fillUntoldTruth_5 : decode cX8_fillUntoldTruth 5 = .ok (.if_icmp .ge 31, 3) := by decide +kernel
theorem dX8_fillUntoldTruth_8 : decode cX8_fillUntoldTruth 8 = .ok (.aload_n 0, 1) := by decide +kernel
theorem dX8_fillUntoldTruth_9 : decode cX8_fillUntoldTruth 9 = .ok (.getfield 51, 3) := by decide +kernel
theorem dX8_fillUntoldTruth_12 : decode cX8_fillUntoldTruth 12 = .ok (.iload_n 1, 1) := by decide +kernel
theorem dX8_fillUntoldTruth_13 : decode cX8_fillUntoldTruth 13 = .ok (.iaload, 1) := by decide +kernel
theorem dX8_fillUntoldTruth_14 : decode cX8_fillUntoldTruth 14 = .ok (.iconst (-1), 1) := by decide +kernel
theorem dX8_fillUntoldTruth_15 : decode cX8_fillUntoldTruth 15 = .ok (.if_icmp .ne 15, 3) := by decide +kernel
theorem dX8_fillUntoldTruth_18 : decode cX8_fillUntoldTruth 18 = .ok (.aload_n 0, 1) := by decide +kernel
theorem dX8_fillUntoldTruth_19 : decode cX8_fillUntoldTruth 19 = .ok (.getfield 51, 3) := by decide +kernel
theorem dX8_fillUntoldTruth_22 : decode cX8_fillUntoldTruth 22 = .ok (.iload_n 1, 1) := by decide +kernel
theorem dX8_fillUntoldTruth_23 : decode cX8_fillUntoldTruth 23 = .ok (.aload_n 0, 1) := by decide +kernel
theorem dX8_fillUntoldTruth_24 : decode cX8_fillUntoldTruth 24 = .ok (.getfield 48, 3) := by decide +kernel
theorem dX8_fillUntoldTruth_27 : decode cX8_fillUntoldTruth 27 = .ok (.iload_n 1, 1) := by decide +kernel
theorem dX8_fillUntoldTruth_28 : decode cX8_fillUntoldTruth 28 = .ok (.iaload, 1) := by decide +kernel
theorem dX8_fillUntoldTruth_29 : decode cX8_fillUntoldTruth 29 = .ok (.iastore, 1) := by decide +kernel
theorem dX8_fillUntoldTruth_30 : decode cX8_fillUntoldTruth 30 = .ok (.iinc 1 1, 3) := by decide +kernel
theorem dX8_fillUntoldTruth_33 : decode cX8_fillUntoldTruth 33 = .ok (.goto (-31), 3) := by decide +kernel
theorem dX8_fillUntoldTruth_36 : decode cX8_fillUntoldTruth 36 = .ok (.return_, 1) := by decide +kernel
theorem dX8_hasEast_0 : decode cX8_hasEast 0 = .ok (.iload_n 1, 1) := by decide +kernel
theorem dX8_hasEast_1 : decode cX8_hasEast 1 = .ok (.ifCond .lt 15, 3) := by decide +kernel
theorem dX8_hasEast_4 : decode cX8_hasEast 4 = .ok (.iload_n 1, 1) := by decide +kernel
theorem dX8_hasEast_5 : decode cX8_hasEast 5 = .ok (.aload_n 0, 1) := by decide +kernel
theorem dX8_hasEast_6 : decode cX8_hasEast 6 = .ok (.getfield 22, 3) := by decide +kernel
theorem dX8_hasEast_9 : decode cX8_hasEast 9 = .ok (.if_icmp .ge 7, 3) := by decide +kernel
theorem dX8_hasEast_12 : decode cX8_hasEast 12 = .ok (.iconst 1, 1) := by decide +kernel
theorem dX8_hasEast_13 : decode cX8_hasEast 13 = .ok (.goto 4, 3) := by decide +kernel
theorem dX8_hasEast_16 : decode cX8_hasEast 16 = .ok (.iconst 0, 1) := by decide +kernel
theorem dX8_hasEast_17 : decode cX8_hasEast 17 = .ok (.ireturn, 1) := by decide +kernel
theorem dX8_hasWest_0 : decode cX8_hasWest 0 = .ok (.iload_n 1, 1) := by decide +kernel
theorem dX8_hasWest_1 : decode cX8_hasWest 1 = .ok (.ifCond .lt 15, 3) := by decide +kernel
theorem dX8_hasWest_4 : decode cX8_hasWest 4 = .ok (.iload_n 1, 1) := by decide +kernel
theorem dX8_hasWest_5 : decode cX8_hasWest 5 = .ok (.aload_n 0, 1) := by decide +kernel
theorem dX8_hasWest_6 : decode cX8_hasWest 6 = .ok (.getfield 25, 3) := by decide +kernel
theorem dX8_hasWest_9 : decode cX8_hasWest 9 = .ok (.if_icmp .ge 7, 3) := by decide +kernel
theorem dX8_hasWest_12 : decode cX8_hasWest 12 = .ok (.iconst 1, 1) := by decide +kernel
theorem dX8_hasWest_13 : decode cX8_hasWest 13 = .ok (.goto 4, 3) := by decide +kernel
theorem dX8_hasWest_16 : decode cX8_hasWest 16 = .ok (.iconst 0, 1) := by decide +kernel
theorem dX8_hasWest_17 : decode cX8_hasWest 17 = .ok (.ireturn, 1) := by decide +kernel
theorem dX8_isJoinedEast_0 : decode cX8_isJoinedEast 0 = .ok (.aload_n 0, 1) := by decide +kernel
theorem dX8_isJoinedEast_1 : decode cX8_isJoinedEast 1 = .ok (.iload_n 1, 1) := by decide +kernel
theorem dX8_isJoinedEast_2 : decode cX8_isJoinedEast 2 = .ok (.invokevirtual 60, 3) := by decide +kernel
theorem dX8_isJoinedEast_5 : decode cX8_isJoinedEast 5 = .ok (.ifCond .eq 16, 3) := by decide +kernel
theorem dX8_isJoinedEast_8 : decode cX8_isJoinedEast 8 = .ok (.aload_n 0, 1) := by decide +kernel
theorem dX8_isJoinedEast_9 : decode cX8_isJoinedEast 9 = .ok (.iconst 0, 1) := by decide +kernel
theorem dX8_isJoinedEast_10 : decode cX8_isJoinedEast 10 = .ok (.iload_n 1, 1) := by decide +kernel
theorem dX8_isJoinedEast_11 : decode cX8_isJoinedEast 11 = .ok (.invokevirtual 64, 3) := by decide +kernel
theorem dX8_isJoinedEast_14 : decode cX8_isJoinedEast 14 = .ok (.ifCond .lt 7, 3) := by decide +kernel
theorem dX8_isJoinedEast_17 : decode cX8_isJoinedEast 17 = .ok (.iconst 1, 1) := by decide +kernel
theorem dX8_isJoinedEast_18 : decode cX8_isJoinedEast 18 = .ok (.goto 4, 3) := by decide +kernel
theorem dX8_isJoinedEast_21 : decode cX8_isJoinedEast 21 = .ok (.iconst 0, 1) := by decide +kernel
theorem dX8_isJoinedEast_22 : decode cX8_isJoinedEast 22 = .ok (.ireturn, 1) := by decide +kernel
theorem dX8_isFreeEast_0 : decode cX8_isFreeEast 0 = .ok (.aload_n 0, 1) := by decide +kernel
theorem dX8_isFreeEast_1 : decode cX8_isFreeEast 1 = .ok (.iload_n 1, 1) := by decide +kernel
theorem dX8_isFreeEast_2 : decode cX8_isFreeEast 2 = .ok (.invokevirtual 60, 3) := by decide +kernel
theorem dX8_isFreeEast_5 : decode cX8_isFreeEast 5 = .ok (.ifCond .eq 16, 3) := by decide +kernel
theorem dX8_isFreeEast_8 : decode cX8_isFreeEast 8 = .ok (.aload_n 0, 1) := by decide +kernel
theorem dX8_isFreeEast_9 : decode cX8_isFreeEast 9 = .ok (.iconst 0, 1) := by decide +kernel
theorem dX8_isFreeEast_10 : decode cX8_isFreeEast 10 = .ok (.iload_n 1, 1) := by decide +kernel
theorem dX8_isFreeEast_11 : decode cX8_isFreeEast 11 = .ok (.invokevirtual 64, 3) := by decide +kernel
theorem dX8_isFreeEast_14 : decode cX8_isFreeEast 14 = .ok (.ifCond .ge 7, 3) := by decide +kernel
theorem dX8_isFreeEast_17 : decode cX8_isFreeEast 17 = .ok (.iconst 1, 1) := by decide +kernel
theorem dX8_isFreeEast_18 : decode cX8_isFreeEast 18 = .ok (.goto 4, 3) := by decide +kernel
theorem dX8_isFreeEast_21 : decode cX8_isFreeEast 21 = .ok (.iconst 0, 1) := by decide +kernel
theorem dX8_isFreeEast_22 : decode cX8_isFreeEast 22 = .ok (.ireturn, 1) := by decide +kernel
theorem dX8_isFree_0 : decode cX8_isFree 0 = .ok (.aload_n 0, 1) := by decide +kernel
theorem dX8_isFree_1 : decode cX8_isFree 1 = .ok (.getfield 39, 3) := by decide +kernel
theorem dX8_isFree_4 : decode cX8_isFree 4 = .ok (.iload_n 1, 1) := by decide +kernel
theorem dX8_isFree_5 : decode cX8_isFree 5 = .ok (.iconst 4, 1) := by decide +kernel
theorem dX8_isFree_6 : decode cX8_isFree 6 = .ok (.imul, 1) := by decide +kernel
theorem dX8_isFree_7 : decode cX8_isFree 7 = .ok (.iload_n 2, 1) := by decide +kernel
theorem dX8_isFree_8 : decode cX8_isFree 8 = .ok (.iadd, 1) := by decide +kernel
theorem dX8_isFree_9 : decode cX8_isFree 9 = .ok (.iaload, 1) := by decide +kernel
theorem dX8_isFree_10 : decode cX8_isFree 10 = .ok (.ifCond .ge 7, 3) := by decide +kernel
theorem dX8_isFree_13 : decode cX8_isFree 13 = .ok (.iconst 1, 1) := by decide +kernel
theorem dX8_isFree_14 : decode cX8_isFree 14 = .ok (.goto 4, 3) := by decide +kernel
theorem dX8_isFree_17 : decode cX8_isFree 17 = .ok (.iconst 0, 1) := by decide +kernel
theorem dX8_isFree_18 : decode cX8_isFree 18 = .ok (.ireturn, 1) := by decide +kernel
theorem dX8_partnerOf_0 : decode cX8_partnerOf 0 = .ok (.aload_n 0, 1) := by decide +kernel
theorem dX8_partnerOf_1 : decode cX8_partnerOf 1 = .ok (.getfield 39, 3) := by decide +kernel
theorem dX8_partnerOf_4 : decode cX8_partnerOf 4 = .ok (.iload_n 1, 1) := by decide +kernel
theorem dX8_partnerOf_5 : decode cX8_partnerOf 5 = .ok (.iconst 4, 1) := by decide +kernel
theorem dX8_partnerOf_6 : decode cX8_partnerOf 6 = .ok (.imul, 1) := by decide +kernel
theorem dX8_partnerOf_7 : decode cX8_partnerOf 7 = .ok (.iload_n 2, 1) := by decide +kernel
theorem dX8_partnerOf_8 : decode cX8_partnerOf 8 = .ok (.iadd, 1) := by decide +kernel
theorem dX8_partnerOf_9 : decode cX8_partnerOf 9 = .ok (.iaload, 1) := by decide +kernel
theorem dX8_partnerOf_10 : decode cX8_partnerOf 10 = .ok (.ireturn, 1) := by decide +kernel
theorem dX8_purseOf_0 : decode cX8_purseOf 0 = .ok (.aload_n 0, 1) := by decide +kernel
theorem dX8_purseOf_1 : decode cX8_purseOf 1 = .ok (.getfield 35, 3) := by decide +kernel
theorem dX8_purseOf_4 : decode cX8_purseOf 4 = .ok (.iload_n 1, 1) := by decide +kernel
theorem dX8_purseOf_5 : decode cX8_purseOf 5 = .ok (.iconst 4, 1) := by decide +kernel
theorem dX8_purseOf_6 : decode cX8_purseOf 6 = .ok (.imul, 1) := by decide +kernel
theorem dX8_purseOf_7 : decode cX8_purseOf 7 = .ok (.iload_n 2, 1) := by decide +kernel
theorem dX8_purseOf_8 : decode cX8_purseOf 8 = .ok (.iadd, 1) := by decide +kernel
theorem dX8_purseOf_9 : decode cX8_purseOf 9 = .ok (.iaload, 1) := by decide +kernel
theorem dX8_purseOf_10 : decode cX8_purseOf 10 = .ok (.ireturn, 1) := by decide +kernel
theorem dX8_joiningsOf_0 : decode cX8_joiningsOf 0 = .ok (.aload_n 0, 1) := by decide +kernel
theorem dX8_joiningsOf_1 : decode cX8_joiningsOf 1 = .ok (.getfield 42, 3) := by decide +kernel
theorem dX8_joiningsOf_4 : decode cX8_joiningsOf 4 = .ok (.iload_n 1, 1) := by decide +kernel
theorem dX8_joiningsOf_5 : decode cX8_joiningsOf 5 = .ok (.iconst 4, 1) := by decide +kernel
theorem dX8_joiningsOf_6 : decode cX8_joiningsOf 6 = .ok (.imul, 1) := by decide +kernel
theorem dX8_joiningsOf_7 : decode cX8_joiningsOf 7 = .ok (.iload_n 2, 1) := by decide +kernel
theorem dX8_joiningsOf_8 : decode cX8_joiningsOf 8 = .ok (.iadd, 1) := by decide +kernel
theorem dX8_joiningsOf_9 : decode cX8_joiningsOf 9 = .ok (.iaload, 1) := by decide +kernel
theorem dX8_joiningsOf_10 : decode cX8_joiningsOf 10 = .ok (.ireturn, 1) := by decide +kernel
theorem dX8_like_0 : decode cX8_like 0 = .ok (.aload_n 0, 1) := by decide +kernel
theorem dX8_like_1 : decode cX8_like 1 = .ok (.getfield 48, 3) := by decide +kernel
theorem dX8_like_4 : decode cX8_like 4 = .ok (.iload_n 1, 1) := by decide +kernel
theorem dX8_like_5 : decode cX8_like 5 = .ok (.bipush 16, 2) := by decide +kernel
theorem dX8_like_7 : decode cX8_like 7 = .ok (.imul, 1) := by decide +kernel
theorem dX8_like_8 : decode cX8_like 8 = .ok (.iload_n 2, 1) := by decide +kernel
theorem dX8_like_9 : decode cX8_like 9 = .ok (.iconst 4, 1) := by decide +kernel
theorem dX8_like_10 : decode cX8_like 10 = .ok (.imul, 1) := by decide +kernel
theorem dX8_like_11 : decode cX8_like 11 = .ok (.iadd, 1) := by decide +kernel
theorem dX8_like_12 : decode cX8_like 12 = .ok (.iload_n 3, 1) := by decide +kernel
theorem dX8_like_13 : decode cX8_like 13 = .ok (.iadd, 1) := by decide +kernel
theorem dX8_like_14 : decode cX8_like 14 = .ok (.iaload, 1) := by decide +kernel
theorem dX8_like_15 : decode cX8_like 15 = .ok (.ireturn, 1) := by decide +kernel
theorem dX8_trueLike_0 : decode cX8_trueLike 0 = .ok (.aload_n 0, 1) := by decide +kernel
theorem dX8_trueLike_1 : decode cX8_trueLike 1 = .ok (.getfield 51, 3) := by decide +kernel
theorem dX8_trueLike_4 : decode cX8_trueLike 4 = .ok (.iload_n 1, 1) := by decide +kernel
theorem dX8_trueLike_5 : decode cX8_trueLike 5 = .ok (.bipush 16, 2) := by decide +kernel
theorem dX8_trueLike_7 : decode cX8_trueLike 7 = .ok (.imul, 1) := by decide +kernel
theorem dX8_trueLike_8 : decode cX8_trueLike 8 = .ok (.iload_n 2, 1) := by decide +kernel
theorem dX8_trueLike_9 : decode cX8_trueLike 9 = .ok (.iconst 4, 1) := by decide +kernel
theorem dX8_trueLike_10 : decode cX8_trueLike 10 = .ok (.imul, 1) := by decide +kernel
theorem dX8_trueLike_11 : decode cX8_trueLike 11 = .ok (.iadd, 1) := by decide +kernel
theorem dX8_trueLike_12 : decode cX8_trueLike 12 = .ok (.iload_n 3, 1) := by decide +kernel
theorem dX8_trueLike_13 : decode cX8_trueLike 13 = .ok (.iadd, 1) := by decide +kernel
theorem dX8_trueLike_14 : decode cX8_trueLike 14 = .ok (.iaload, 1) := by decide +kernel
theorem dX8_trueLike_15 : decode cX8_trueLike 15 = .ok (.ireturn, 1) := by decide +kernel
theorem dX8_likeEachOther_0 : decode cX8_likeEachOther 0 = .ok (.aload_n 0, 1) := by decide +kernel
theorem dX8_likeEachOther_1 : decode cX8_likeEachOther 1 = .ok (.iconst 0, 1) := by decide +kernel
theorem dX8_likeEachOther_2 : decode cX8_likeEachOther 2 = .ok (.iload_n 1, 1) := by decide +kernel
theorem dX8_likeEachOther_3 : decode cX8_likeEachOther 3 = .ok (.iload_n 2, 1) := by decide +kernel
theorem dX8_likeEachOther_4 : decode cX8_likeEachOther 4 = .ok (.invokevirtual 68, 3) := by decide +kernel
theorem dX8_likeEachOther_7 : decode cX8_likeEachOther 7 = .ok (.ifCond .le 17, 3) := by decide +kernel
theorem dX8_likeEachOther_10 : decode cX8_likeEachOther 10 = .ok (.aload_n 0, 1) := by decide +kernel
theorem dX8_likeEachOther_11 : decode cX8_likeEachOther 11 = .ok (.iconst 1, 1) := by decide +kernel
theorem dX8_likeEachOther_12 : decode cX8_likeEachOther 12 = .ok (.iload_n 1, 1) := by decide +kernel
theorem dX8_likeEachOther_13 : decode cX8_likeEachOther 13 = .ok (.iload_n 2, 1) := by decide +kernel
theorem dX8_likeEachOther_14 : decode cX8_likeEachOther 14 = .ok (.invokevirtual 68, 3) := by decide +kernel
theorem dX8_likeEachOther_17 : decode cX8_likeEachOther 17 = .ok (.ifCond .le 7, 3) := by decide +kernel
theorem dX8_likeEachOther_20 : decode cX8_likeEachOther 20 = .ok (.iconst 1, 1) := by decide +kernel
theorem dX8_likeEachOther_21 : decode cX8_likeEachOther 21 = .ok (.goto 4, 3) := by decide +kernel
theorem dX8_likeEachOther_24 : decode cX8_likeEachOther 24 = .ok (.iconst 0, 1) := by decide +kernel
theorem dX8_likeEachOther_25 : decode cX8_likeEachOther 25 = .ok (.ireturn, 1) := by decide +kernel
theorem dX8_couldJoin_0 : decode cX8_couldJoin 0 = .ok (.aload_n 0, 1) := by decide +kernel
theorem dX8_couldJoin_1 : decode cX8_couldJoin 1 = .ok (.iconst 0, 1) := by decide +kernel
theorem dX8_couldJoin_2 : decode cX8_couldJoin 2 = .ok (.iload_n 1, 1) := by decide +kernel
theorem dX8_couldJoin_3 : decode cX8_couldJoin 3 = .ok (.invokevirtual 72, 3) := by decide +kernel
theorem dX8_couldJoin_6 : decode cX8_couldJoin 6 = .ok (.ifCond .eq 25, 3) := by decide +kernel
theorem dX8_couldJoin_9 : decode cX8_couldJoin 9 = .ok (.aload_n 0, 1) := by decide +kernel
theorem dX8_couldJoin_10 : decode cX8_couldJoin 10 = .ok (.iconst 1, 1) := by decide +kernel
theorem dX8_couldJoin_11 : decode cX8_couldJoin 11 = .ok (.iload_n 2, 1) := by decide +kernel
theorem dX8_couldJoin_12 : decode cX8_couldJoin 12 = .ok (.invokevirtual 72, 3) := by decide +kernel
theorem dX8_couldJoin_15 : decode cX8_couldJoin 15 = .ok (.ifCond .eq 16, 3) := by decide +kernel
theorem dX8_couldJoin_18 : decode cX8_couldJoin 18 = .ok (.aload_n 0, 1) := by decide +kernel
theorem dX8_couldJoin_19 : decode cX8_couldJoin 19 = .ok (.iload_n 1, 1) := by decide +kernel
theorem dX8_couldJoin_20 : decode cX8_couldJoin 20 = .ok (.iload_n 2, 1) := by decide +kernel
theorem dX8_couldJoin_21 : decode cX8_couldJoin 21 = .ok (.invokevirtual 76, 3) := by decide +kernel
theorem dX8_couldJoin_24 : decode cX8_couldJoin 24 = .ok (.ifCond .eq 7, 3) := by decide +kernel
theorem dX8_couldJoin_27 : decode cX8_couldJoin 27 = .ok (.iconst 1, 1) := by decide +kernel
theorem dX8_couldJoin_28 : decode cX8_couldJoin 28 = .ok (.goto 4, 3) := by decide +kernel
theorem dX8_couldJoin_31 : decode cX8_couldJoin 31 = .ok (.iconst 0, 1) := by decide +kernel
theorem dX8_couldJoin_32 : decode cX8_couldJoin 32 = .ok (.ireturn, 1) := by decide +kernel
theorem dX8_likeOfPartner_0 : decode cX8_likeOfPartner 0 = .ok (.aload_n 0, 1) := by decide +kernel
theorem dX8_likeOfPartner_1 : decode cX8_likeOfPartner 1 = .ok (.iconst 0, 1) := by decide +kernel
theorem dX8_likeOfPartner_2 : decode cX8_likeOfPartner 2 = .ok (.iload_n 1, 1) := by decide +kernel
theorem dX8_likeOfPartner_3 : decode cX8_likeOfPartner 3 = .ok (.invokevirtual 64, 3) := by decide +kernel
theorem dX8_likeOfPartner_6 : decode cX8_likeOfPartner 6 = .ok (.istore_n 2, 1) := by decide +kernel
theorem dX8_likeOfPartner_7 : decode cX8_likeOfPartner 7 = .ok (.iload_n 2, 1) := by decide +kernel
theorem dX8_likeOfPartner_8 : decode cX8_likeOfPartner 8 = .ok (.ifCond .ge 7, 3) := by decide +kernel
theorem dX8_likeOfPartner_11 : decode cX8_likeOfPartner 11 = .ok (.iconst 0, 1) := by decide +kernel
theorem dX8_likeOfPartner_12 : decode cX8_likeOfPartner 12 = .ok (.goto 10, 3) := by decide +kernel
theorem dX8_likeOfPartner_15 : decode cX8_likeOfPartner 15 = .ok (.aload_n 0, 1) := by decide +kernel
theorem dX8_likeOfPartner_16 : decode cX8_likeOfPartner 16 = .ok (.iconst 0, 1) := by decide +kernel
theorem dX8_likeOfPartner_17 : decode cX8_likeOfPartner 17 = .ok (.iload_n 1, 1) := by decide +kernel
theorem dX8_likeOfPartner_18 : decode cX8_likeOfPartner 18 = .ok (.iload_n 2, 1) := by decide +kernel
theorem dX8_likeOfPartner_19 : decode cX8_likeOfPartner 19 = .ok (.invokevirtual 68, 3) := by decide +kernel
theorem dX8_likeOfPartner_22 : decode cX8_likeOfPartner 22 = .ok (.ireturn, 1) := by decide +kernel
theorem dX8_bestFree_0 : decode cX8_bestFree 0 = .ok (.iconst 0, 1) := by decide +kernel
theorem dX8_bestFree_1 : decode cX8_bestFree 1 = .ok (.istore_n 3, 1) := by decide +kernel
theorem dX8_bestFree_2 : decode cX8_bestFree 2 = .ok (.iload_n 1, 1) := by decide +kernel
theorem dX8_bestFree_3 : decode cX8_bestFree 3 = .ok (.bipush 16, 2) := by decide +kernel
theorem dX8_bestFree_5 : decode cX8_bestFree 5 = .ok (.imul, 1) := by decide +kernel
theorem dX8_bestFree_6 : decode cX8_bestFree 6 = .ok (.iload_n 2, 1) := by decide +kernel
theorem dX8_bestFree_7 : decode cX8_bestFree 7 = .ok (.iload_n 1, 1) := by decide +kernel
theorem dX8_bestFree_8 : decode cX8_bestFree 8 = .ok (.ifCond .ne 7, 3) := by decide +kernel
theorem dX8_bestFree_11 : decode cX8_bestFree 11 = .ok (.iconst 4, 1) := by decide +kernel
theorem dX8_bestFree_12 : decode cX8_bestFree 12 = .ok (.goto 4, 3) := by decide +kernel
theorem dX8_bestFree_15 : decode cX8_bestFree 15 = .ok (.iconst 1, 1) := by decide +kernel
theorem dX8_bestFree_16 : decode cX8_bestFree 16 = .ok (.imul, 1) := by decide +kernel
theorem dX8_bestFree_17 : decode cX8_bestFree 17 = .ok (.iadd, 1) := by decide +kernel
theorem dX8_bestFree_18 : decode cX8_bestFree 18 = .ok (.istore 4, 2) := by decide +kernel
theorem dX8_bestFree_20 : decode cX8_bestFree 20 = .ok (.iload_n 1, 1) := by decide +kernel
theorem dX8_bestFree_21 : decode cX8_bestFree 21 = .ok (.ifCond .ne 7, 3) := by decide +kernel
theorem dX8_bestFree_24 : decode cX8_bestFree 24 = .ok (.iconst 1, 1) := by decide +kernel
theorem dX8_bestFree_25 : decode cX8_bestFree 25 = .ok (.goto 4, 3) := by decide +kernel
theorem dX8_bestFree_28 : decode cX8_bestFree 28 = .ok (.iconst 4, 1) := by decide +kernel
theorem dX8_bestFree_29 : decode cX8_bestFree 29 = .ok (.istore 5, 2) := by decide +kernel
theorem dX8_bestFree_31 : decode cX8_bestFree 31 = .ok (.iload_n 1, 1) := by decide +kernel
theorem dX8_bestFree_32 : decode cX8_bestFree 32 = .ok (.ifCond .ne 10, 3) := by decide +kernel
theorem dX8_bestFree_35 : decode cX8_bestFree 35 = .ok (.aload_n 0, 1) := by decide +kernel
theorem dX8_bestFree_36 : decode cX8_bestFree 36 = .ok (.getfield 25, 3) := by decide +kernel
theorem dX8_bestFree_39 : decode cX8_bestFree 39 = .ok (.goto 7, 3) := by decide +kernel
theorem dX8_bestFree_42 : decode cX8_bestFree 42 = .ok (.aload_n 0, 1) := by decide +kernel
theorem dX8_bestFree_43 : decode cX8_bestFree 43 = .ok (.getfield 22, 3) := by decide +kernel
theorem dX8_bestFree_46 : decode cX8_bestFree 46 = .ok (.istore 6, 2) := by decide +kernel
theorem dX8_bestFree_48 : decode cX8_bestFree 48 = .ok (.iconst 0, 1) := by decide +kernel
theorem dX8_bestFree_49 : decode cX8_bestFree 49 = .ok (.istore 7, 2) := by decide +kernel
theorem dX8_bestFree_51 : decode cX8_bestFree 51 = .ok (.iload 7, 2) := by decide +kernel
theorem dX8_bestFree_53 : decode cX8_bestFree 53 = .ok (.iload 6, 2) := by decide +kernel
theorem dX8_bestFree_55 : decode cX8_bestFree 55 = .ok (.if_icmp .ge 56, 3) := by decide +kernel
theorem dX8_bestFree_58 : decode cX8_bestFree 58 = .ok (.aload_n 0, 1) := by decide +kernel
theorem dX8_bestFree_59 : decode cX8_bestFree 59 = .ok (.getfield 39, 3) := by decide +kernel
theorem dX8_bestFree_62 : decode cX8_bestFree 62 = .ok (.iconst 1, 1) := by decide +kernel
theorem dX8_bestFree_63 : decode cX8_bestFree 63 = .ok (.iload_n 1, 1) := by decide +kernel
theorem dX8_bestFree_64 : decode cX8_bestFree 64 = .ok (.isub, 1) := by decide +kernel
theorem dX8_bestFree_65 : decode cX8_bestFree 65 = .ok (.iconst 4, 1) := by decide +kernel
theorem dX8_bestFree_66 : decode cX8_bestFree 66 = .ok (.imul, 1) := by decide +kernel
theorem dX8_bestFree_67 : decode cX8_bestFree 67 = .ok (.iload 7, 2) := by decide +kernel
theorem dX8_bestFree_69 : decode cX8_bestFree 69 = .ok (.iadd, 1) := by decide +kernel
theorem dX8_bestFree_70 : decode cX8_bestFree 70 = .ok (.iaload, 1) := by decide +kernel
theorem dX8_bestFree_71 : decode cX8_bestFree 71 = .ok (.ifCond .ge 34, 3) := by decide +kernel
theorem dX8_bestFree_74 : decode cX8_bestFree 74 = .ok (.aload_n 0, 1) := by decide +kernel
theorem dX8_bestFree_75 : decode cX8_bestFree 75 = .ok (.getfield 48, 3) := by decide +kernel
theorem dX8_bestFree_78 : decode cX8_bestFree 78 = .ok (.iload 4, 2) := by decide +kernel
theorem dX8_bestFree_80 : decode cX8_bestFree 80 = .ok (.iload 7, 2) := by decide +kernel
theorem dX8_bestFree_82 : decode cX8_bestFree 82 = .ok (.iload 5, 2) := by decide +kernel
theorem dX8_bestFree_84 : decode cX8_bestFree 84 = .ok (.imul, 1) := by decide +kernel
theorem dX8_bestFree_85 : decode cX8_bestFree 85 = .ok (.iadd, 1) := by decide +kernel
theorem dX8_bestFree_86 : decode cX8_bestFree 86 = .ok (.iaload, 1) := by decide +kernel
theorem dX8_bestFree_87 : decode cX8_bestFree 87 = .ok (.iload_n 3, 1) := by decide +kernel
theorem dX8_bestFree_88 : decode cX8_bestFree 88 = .ok (.if_icmp .le 17, 3) := by decide +kernel
theorem dX8_bestFree_91 : decode cX8_bestFree 91 = .ok (.aload_n 0, 1) := by decide +kernel
theorem dX8_bestFree_92 : decode cX8_bestFree 92 = .ok (.getfield 48, 3) := by decide +kernel
theorem dX8_bestFree_95 : decode cX8_bestFree 95 = .ok (.iload 4, 2) := by decide +kernel
theorem dX8_bestFree_97 : decode cX8_bestFree 97 = .ok (.iload 7, 2) := by decide +kernel
theorem dX8_bestFree_99 : decode cX8_bestFree 99 = .ok (.iload 5, 2) := by decide +kernel
theorem dX8_bestFree_101 : decode cX8_bestFree 101 = .ok (.imul, 1) := by decide +kernel
theorem dX8_bestFree_102 : decode cX8_bestFree 102 = .ok (.iadd, 1) := by decide +kernel
theorem dX8_bestFree_103 : decode cX8_bestFree 103 = .ok (.iaload, 1) := by decide +kernel
theorem dX8_bestFree_104 : decode cX8_bestFree 104 = .ok (.istore_n 3, 1) := by decide +kernel
theorem dX8_bestFree_105 : decode cX8_bestFree 105 = .ok (.iinc 7 1, 3) := by decide +kernel
theorem dX8_bestFree_108 : decode cX8_bestFree 108 = .ok (.goto (-57), 3) := by decide +kernel
theorem dX8_bestFree_111 : decode cX8_bestFree 111 = .ok (.iload_n 3, 1) := by decide +kernel
theorem dX8_bestFree_112 : decode cX8_bestFree 112 = .ok (.ireturn, 1) := by decide +kernel
theorem dX8_yearsOf_0 : decode cX8_yearsOf 0 = .ok (.iload_n 1, 1) := by decide +kernel
theorem dX8_yearsOf_1 : decode cX8_yearsOf 1 = .ok (.ifCond .ne 7, 3) := by decide +kernel
theorem dX8_yearsOf_4 : decode cX8_yearsOf 4 = .ok (.iload_n 2, 1) := by decide +kernel
theorem dX8_yearsOf_5 : decode cX8_yearsOf 5 = .ok (.goto 9, 3) := by decide +kernel
theorem dX8_yearsOf_8 : decode cX8_yearsOf 8 = .ok (.aload_n 0, 1) := by decide +kernel
theorem dX8_yearsOf_9 : decode cX8_yearsOf 9 = .ok (.iconst 1, 1) := by decide +kernel
theorem dX8_yearsOf_10 : decode cX8_yearsOf 10 = .ok (.iload_n 2, 1) := by decide +kernel
theorem dX8_yearsOf_11 : decode cX8_yearsOf 11 = .ok (.invokevirtual 64, 3) := by decide +kernel
theorem dX8_yearsOf_14 : decode cX8_yearsOf 14 = .ok (.istore_n 3, 1) := by decide +kernel
theorem dX8_yearsOf_15 : decode cX8_yearsOf 15 = .ok (.iload_n 3, 1) := by decide +kernel
theorem dX8_yearsOf_16 : decode cX8_yearsOf 16 = .ok (.ifCond .ge 7, 3) := by decide +kernel
theorem dX8_yearsOf_19 : decode cX8_yearsOf 19 = .ok (.iconst 0, 1) := by decide +kernel
theorem dX8_yearsOf_20 : decode cX8_yearsOf 20 = .ok (.goto 9, 3) := by decide +kernel
theorem dX8_yearsOf_23 : decode cX8_yearsOf 23 = .ok (.aload_n 0, 1) := by decide +kernel
theorem dX8_yearsOf_24 : decode cX8_yearsOf 24 = .ok (.getfield 45, 3) := by decide +kernel
theorem dX8_yearsOf_27 : decode cX8_yearsOf 27 = .ok (.iload_n 3, 1) := by decide +kernel
theorem dX8_yearsOf_28 : decode cX8_yearsOf 28 = .ok (.iaload, 1) := by decide +kernel
theorem dX8_yearsOf_29 : decode cX8_yearsOf 29 = .ok (.ireturn, 1) := by decide +kernel
theorem dX8_fact_0 : decode cX8_fact 0 = .ok (.iload_n 3, 1) := by decide +kernel
theorem dX8_fact_1 : decode cX8_fact 1 = .ok (.tableswitch 59 0 3 #[31, 38, 45, 52], 31) := by decide +kernel
theorem dX8_fact_32 : decode cX8_fact 32 = .ok (.aload_n 0, 1) := by decide +kernel
theorem dX8_fact_33 : decode cX8_fact 33 = .ok (.iload_n 1, 1) := by decide +kernel
theorem dX8_fact_34 : decode cX8_fact 34 = .ok (.iload_n 2, 1) := by decide +kernel
theorem dX8_fact_35 : decode cX8_fact 35 = .ok (.invokevirtual 79, 3) := by decide +kernel
theorem dX8_fact_38 : decode cX8_fact 38 = .ok (.ireturn, 1) := by decide +kernel
theorem dX8_fact_39 : decode cX8_fact 39 = .ok (.aload_n 0, 1) := by decide +kernel
theorem dX8_fact_40 : decode cX8_fact 40 = .ok (.iload_n 1, 1) := by decide +kernel
theorem dX8_fact_41 : decode cX8_fact 41 = .ok (.iload_n 2, 1) := by decide +kernel
theorem dX8_fact_42 : decode cX8_fact 42 = .ok (.invokevirtual 64, 3) := by decide +kernel
theorem dX8_fact_45 : decode cX8_fact 45 = .ok (.ireturn, 1) := by decide +kernel
theorem dX8_fact_46 : decode cX8_fact 46 = .ok (.aload_n 0, 1) := by decide +kernel
theorem dX8_fact_47 : decode cX8_fact 47 = .ok (.iload_n 1, 1) := by decide +kernel
theorem dX8_fact_48 : decode cX8_fact 48 = .ok (.iload_n 2, 1) := by decide +kernel
theorem dX8_fact_49 : decode cX8_fact 49 = .ok (.invokevirtual 82, 3) := by decide +kernel
theorem dX8_fact_52 : decode cX8_fact 52 = .ok (.ireturn, 1) := by decide +kernel
theorem dX8_fact_53 : decode cX8_fact 53 = .ok (.aload_n 0, 1) := by decide +kernel
theorem dX8_fact_54 : decode cX8_fact 54 = .ok (.iload_n 1, 1) := by decide +kernel
theorem dX8_fact_55 : decode cX8_fact 55 = .ok (.iload_n 2, 1) := by decide +kernel
theorem dX8_fact_56 : decode cX8_fact 56 = .ok (.invokevirtual 85, 3) := by decide +kernel
theorem dX8_fact_59 : decode cX8_fact 59 = .ok (.ireturn, 1) := by decide +kernel
theorem dX8_fact_60 : decode cX8_fact 60 = .ok (.bipush (-2), 2) := by decide +kernel
theorem dX8_fact_62 : decode cX8_fact 62 = .ok (.ireturn, 1) := by decide +kernel
theorem dX8_isLate_0 : decode cX8_isLate 0 = .ok (.aload_n 0, 1) := by decide +kernel
theorem dX8_isLate_1 : decode cX8_isLate 1 = .ok (.getfield 28, 3) := by decide +kernel
theorem dX8_isLate_4 : decode cX8_isLate 4 = .ok (.bipush 60, 2) := by decide +kernel
theorem dX8_isLate_6 : decode cX8_isLate 6 = .ok (.if_icmp .gt 23, 3) := by decide +kernel
theorem dX8_isLate_9 : decode cX8_isLate 9 = .ok (.aload_n 0, 1) := by decide +kernel
theorem dX8_isLate_10 : decode cX8_isLate 10 = .ok (.getfield 31, 3) := by decide +kernel
theorem dX8_isLate_13 : decode cX8_isLate 13 = .ok (.aload_n 0, 1) := by decide +kernel
theorem dX8_isLate_14 : decode cX8_isLate 14 = .ok (.getfield 28, 3) := by decide +kernel
theorem dX8_isLate_17 : decode cX8_isLate 17 = .ok (.lushr, 1) := by decide +kernel
theorem dX8_isLate_18 : decode cX8_isLate 18 = .ok (.lconst 1, 1) := by decide +kernel
theorem dX8_isLate_19 : decode cX8_isLate 19 = .ok (.land, 1) := by decide +kernel
theorem dX8_isLate_20 : decode cX8_isLate 20 = .ok (.lconst 0, 1) := by decide +kernel
theorem dX8_isLate_21 : decode cX8_isLate 21 = .ok (.lcmp, 1) := by decide +kernel
theorem dX8_isLate_22 : decode cX8_isLate 22 = .ok (.ifCond .eq 7, 3) := by decide +kernel
theorem dX8_isLate_25 : decode cX8_isLate 25 = .ok (.iconst 1, 1) := by decide +kernel
theorem dX8_isLate_26 : decode cX8_isLate 26 = .ok (.goto 4, 3) := by decide +kernel
theorem dX8_isLate_29 : decode cX8_isLate 29 = .ok (.iconst 0, 1) := by decide +kernel
theorem dX8_isLate_30 : decode cX8_isLate 30 = .ok (.ireturn, 1) := by decide +kernel
theorem dX8_joinedBits_0 : decode cX8_joinedBits 0 = .ok (.iconst 0, 1) := by decide +kernel
theorem dX8_joinedBits_1 : decode cX8_joinedBits 1 = .ok (.istore_n 3, 1) := by decide +kernel
theorem dX8_joinedBits_2 : decode cX8_joinedBits 2 = .ok (.iconst 0, 1) := by decide +kernel
theorem dX8_joinedBits_3 : decode cX8_joinedBits 3 = .ok (.istore 4, 2) := by decide +kernel
theorem dX8_joinedBits_5 : decode cX8_joinedBits 5 = .ok (.iload 4, 2) := by decide +kernel
theorem dX8_joinedBits_7 : decode cX8_joinedBits 7 = .ok (.iload_n 2, 1) := by decide +kernel
theorem dX8_joinedBits_8 : decode cX8_joinedBits 8 = .ok (.if_icmp .ge 26, 3) := by decide +kernel
theorem dX8_joinedBits_11 : decode cX8_joinedBits 11 = .ok (.aload_n 0, 1) := by decide +kernel
theorem dX8_joinedBits_12 : decode cX8_joinedBits 12 = .ok (.iload_n 1, 1) := by decide +kernel
theorem dX8_joinedBits_13 : decode cX8_joinedBits 13 = .ok (.iload 4, 2) := by decide +kernel
theorem dX8_joinedBits_15 : decode cX8_joinedBits 15 = .ok (.invokevirtual 72, 3) := by decide +kernel
theorem dX8_joinedBits_18 : decode cX8_joinedBits 18 = .ok (.ifCond .ne 10, 3) := by decide +kernel
theorem dX8_joinedBits_21 : decode cX8_joinedBits 21 = .ok (.iload_n 3, 1) := by decide +kernel
theorem dX8_joinedBits_22 : decode cX8_joinedBits 22 = .ok (.iconst 1, 1) := by decide +kernel
theorem dX8_joinedBits_23 : decode cX8_joinedBits 23 = .ok (.iload 4, 2) := by decide +kernel
theorem dX8_joinedBits_25 : decode cX8_joinedBits 25 = .ok (.ishl, 1) := by decide +kernel
theorem dX8_joinedBits_26 : decode cX8_joinedBits 26 = .ok (.ior, 1) := by decide +kernel
theorem dX8_joinedBits_27 : decode cX8_joinedBits 27 = .ok (.istore_n 3, 1) := by decide +kernel
theorem dX8_joinedBits_28 : decode cX8_joinedBits 28 = .ok (.iinc 4 1, 3) := by decide +kernel
theorem dX8_joinedBits_31 : decode cX8_joinedBits 31 = .ok (.goto (-26), 3) := by decide +kernel
theorem dX8_joinedBits_34 : decode cX8_joinedBits 34 = .ok (.iload_n 3, 1) := by decide +kernel
theorem dX8_joinedBits_35 : decode cX8_joinedBits 35 = .ok (.ireturn, 1) := by decide +kernel
theorem dX8_give_0 : decode cX8_give 0 = .ok (.aload_n 0, 1) := by decide +kernel
theorem dX8_give_1 : decode cX8_give 1 = .ok (.getfield 35, 3) := by decide +kernel
theorem dX8_give_4 : decode cX8_give 4 = .ok (.iload_n 1, 1) := by decide +kernel
theorem dX8_give_5 : decode cX8_give 5 = .ok (.dup2, 1) := by decide +kernel
theorem dX8_give_6 : decode cX8_give 6 = .ok (.iaload, 1) := by decide +kernel
theorem dX8_give_7 : decode cX8_give 7 = .ok (.iload_n 3, 1) := by decide +kernel
theorem dX8_give_8 : decode cX8_give 8 = .ok (.isub, 1) := by decide +kernel
theorem dX8_give_9 : decode cX8_give 9 = .ok (.iastore, 1) := by decide +kernel
theorem dX8_give_10 : decode cX8_give 10 = .ok (.aload_n 0, 1) := by decide +kernel
theorem dX8_give_11 : decode cX8_give 11 = .ok (.getfield 35, 3) := by decide +kernel
theorem dX8_give_14 : decode cX8_give 14 = .ok (.iload_n 2, 1) := by decide +kernel
theorem dX8_give_15 : decode cX8_give 15 = .ok (.sipush 9999, 3) := by decide +kernel
theorem dX8_give_18 : decode cX8_give 18 = .ok (.aload_n 0, 1) := by decide +kernel
theorem dX8_give_19 : decode cX8_give 19 = .ok (.getfield 35, 3) := by decide +kernel
theorem dX8_give_22 : decode cX8_give 22 = .ok (.iload_n 2, 1) := by decide +kernel
theorem dX8_give_23 : decode cX8_give 23 = .ok (.iaload, 1) := by decide +kernel
theorem dX8_give_24 : decode cX8_give 24 = .ok (.iload_n 3, 1) := by decide +kernel
theorem dX8_give_25 : decode cX8_give 25 = .ok (.iadd, 1) := by decide +kernel
theorem dX8_give_26 : decode cX8_give 26 = .ok (.invokestatic 88, 3) := by decide +kernel
theorem dX8_give_29 : decode cX8_give 29 = .ok (.iastore, 1) := by decide +kernel
theorem dX8_give_30 : decode cX8_give 30 = .ok (.return_, 1) := by decide +kernel
theorem dX8_joinTwo_0 : decode cX8_joinTwo 0 = .ok (.iload_n 1, 1) := by decide +kernel
theorem dX8_joinTwo_1 : decode cX8_joinTwo 1 = .ok (.istore_n 3, 1) := by decide +kernel
theorem dX8_joinTwo_2 : decode cX8_joinTwo 2 = .ok (.iconst 4, 1) := by decide +kernel
theorem dX8_joinTwo_3 : decode cX8_joinTwo 3 = .ok (.iload_n 2, 1) := by decide +kernel
theorem dX8_joinTwo_4 : decode cX8_joinTwo 4 = .ok (.iadd, 1) := by decide +kernel
theorem dX8_joinTwo_5 : decode cX8_joinTwo 5 = .ok (.istore 4, 2) := by decide +kernel
theorem dX8_joinTwo_7 : decode cX8_joinTwo 7 = .ok (.aload_n 0, 1) := by decide +kernel
theorem dX8_joinTwo_8 : decode cX8_joinTwo 8 = .ok (.getfield 15, 3) := by decide +kernel
theorem dX8_joinTwo_11 : decode cX8_joinTwo 11 = .ok (.aload_n 0, 1) := by decide +kernel
theorem dX8_joinTwo_12 : decode cX8_joinTwo 12 = .ok (.getfield 35, 3) := by decide +kernel
theorem dX8_joinTwo_15 : decode cX8_joinTwo 15 = .ok (.iload_n 3, 1) := by decide +kernel
theorem dX8_joinTwo_16 : decode cX8_joinTwo 16 = .ok (.iaload, 1) := by decide +kernel
theorem dX8_joinTwo_17 : decode cX8_joinTwo 17 = .ok (.invokestatic 88, 3) := by decide +kernel
theorem dX8_joinTwo_20 : decode cX8_joinTwo 20 = .ok (.istore 5, 2) := by decide +kernel
theorem dX8_joinTwo_22 : decode cX8_joinTwo 22 = .ok (.aload_n 0, 1) := by decide +kernel
theorem dX8_joinTwo_23 : decode cX8_joinTwo 23 = .ok (.iload_n 3, 1) := by decide +kernel
theorem dX8_joinTwo_24 : decode cX8_joinTwo 24 = .ok (.iload 4, 2) := by decide +kernel
theorem dX8_joinTwo_26 : decode cX8_joinTwo 26 = .ok (.iload 5, 2) := by decide +kernel
theorem dX8_joinTwo_28 : decode cX8_joinTwo 28 = .ok (.invokevirtual 93, 3) := by decide +kernel
theorem dX8_joinTwo_31 : decode cX8_joinTwo 31 = .ok (.aload_n 0, 1) := by decide +kernel
theorem dX8_joinTwo_32 : decode cX8_joinTwo 32 = .ok (.getfield 42, 3) := by decide +kernel
theorem dX8_joinTwo_35 : decode cX8_joinTwo 35 = .ok (.iload_n 3, 1) := by decide +kernel
theorem dX8_joinTwo_36 : decode cX8_joinTwo 36 = .ok (.dup2, 1) := by decide +kernel
theorem dX8_joinTwo_37 : decode cX8_joinTwo 37 = .ok (.iaload, 1) := by decide +kernel
theorem dX8_joinTwo_38 : decode cX8_joinTwo 38 = .ok (.iconst 1, 1) := by decide +kernel
theorem dX8_joinTwo_39 : decode cX8_joinTwo 39 = .ok (.iadd, 1) := by decide +kernel
theorem dX8_joinTwo_40 : decode cX8_joinTwo 40 = .ok (.iastore, 1) := by decide +kernel
theorem dX8_joinTwo_41 : decode cX8_joinTwo 41 = .ok (.aload_n 0, 1) := by decide +kernel
theorem dX8_joinTwo_42 : decode cX8_joinTwo 42 = .ok (.getfield 42, 3) := by decide +kernel
theorem dX8_joinTwo_45 : decode cX8_joinTwo 45 = .ok (.iload 4, 2) := by decide +kernel
theorem dX8_joinTwo_47 : decode cX8_joinTwo 47 = .ok (.dup2, 1) := by decide +kernel
theorem dX8_joinTwo_48 : decode cX8_joinTwo 48 = .ok (.iaload, 1) := by decide +kernel
theorem dX8_joinTwo_49 : decode cX8_joinTwo 49 = .ok (.iconst 1, 1) := by decide +kernel
theorem dX8_joinTwo_50 : decode cX8_joinTwo 50 = .ok (.iadd, 1) := by decide +kernel
theorem dX8_joinTwo_51 : decode cX8_joinTwo 51 = .ok (.iastore, 1) := by decide +kernel
theorem dX8_joinTwo_52 : decode cX8_joinTwo 52 = .ok (.aload_n 0, 1) := by decide +kernel
theorem dX8_joinTwo_53 : decode cX8_joinTwo 53 = .ok (.getfield 39, 3) := by decide +kernel
theorem dX8_joinTwo_56 : decode cX8_joinTwo 56 = .ok (.iload_n 3, 1) := by decide +kernel
theorem dX8_joinTwo_57 : decode cX8_joinTwo 57 = .ok (.iload_n 2, 1) := by decide +kernel
theorem dX8_joinTwo_58 : decode cX8_joinTwo 58 = .ok (.iastore, 1) := by decide +kernel
theorem dX8_joinTwo_59 : decode cX8_joinTwo 59 = .ok (.aload_n 0, 1) := by decide +kernel
theorem dX8_joinTwo_60 : decode cX8_joinTwo 60 = .ok (.getfield 39, 3) := by decide +kernel
theorem dX8_joinTwo_63 : decode cX8_joinTwo 63 = .ok (.iload 4, 2) := by decide +kernel
theorem dX8_joinTwo_65 : decode cX8_joinTwo 65 = .ok (.iload_n 1, 1) := by decide +kernel
theorem dX8_joinTwo_66 : decode cX8_joinTwo 66 = .ok (.iastore, 1) := by decide +kernel
theorem dX8_joinTwo_67 : decode cX8_joinTwo 67 = .ok (.aload_n 0, 1) := by decide +kernel
theorem dX8_joinTwo_68 : decode cX8_joinTwo 68 = .ok (.getfield 45, 3) := by decide +kernel
theorem dX8_joinTwo_71 : decode cX8_joinTwo 71 = .ok (.iload_n 1, 1) := by decide +kernel
theorem dX8_joinTwo_72 : decode cX8_joinTwo 72 = .ok (.iconst 0, 1) := by decide +kernel
theorem dX8_joinTwo_73 : decode cX8_joinTwo 73 = .ok (.iastore, 1) := by decide +kernel
theorem dX8_joinTwo_74 : decode cX8_joinTwo 74 = .ok (.iload 5, 2) := by decide +kernel
theorem dX8_joinTwo_76 : decode cX8_joinTwo 76 = .ok (.ireturn, 1) := by decide +kernel
theorem dX8_partTwo_0 : decode cX8_partTwo 0 = .ok (.aload_n 0, 1) := by decide +kernel
theorem dX8_partTwo_1 : decode cX8_partTwo 1 = .ok (.iconst 0, 1) := by decide +kernel
theorem dX8_partTwo_2 : decode cX8_partTwo 2 = .ok (.iload_n 1, 1) := by decide +kernel
theorem dX8_partTwo_3 : decode cX8_partTwo 3 = .ok (.invokevirtual 64, 3) := by decide +kernel
theorem dX8_partTwo_6 : decode cX8_partTwo 6 = .ok (.istore_n 2, 1) := by decide +kernel
theorem dX8_partTwo_7 : decode cX8_partTwo 7 = .ok (.iload_n 2, 1) := by decide +kernel
theorem dX8_partTwo_8 : decode cX8_partTwo 8 = .ok (.ifCond .ge 5, 3) := by decide +kernel
theorem dX8_partTwo_11 : decode cX8_partTwo 11 = .ok (.iconst 0, 1) := by decide +kernel
theorem dX8_partTwo_12 : decode cX8_partTwo 12 = .ok (.ireturn, 1) := by decide +kernel
theorem dX8_partTwo_13 : decode cX8_partTwo 13 = .ok (.iconst 4, 1) := by decide +kernel
theorem dX8_partTwo_14 : decode cX8_partTwo 14 = .ok (.iload_n 2, 1) := by decide +kernel
theorem dX8_partTwo_15 : decode cX8_partTwo 15 = .ok (.iadd, 1) := by decide +kernel
theorem dX8_partTwo_16 : decode cX8_partTwo 16 = .ok (.istore_n 3, 1) := by decide +kernel
theorem dX8_partTwo_17 : decode cX8_partTwo 17 = .ok (.iload_n 1, 1) := by decide +kernel
theorem dX8_partTwo_18 : decode cX8_partTwo 18 = .ok (.istore 4, 2) := by decide +kernel
theorem dX8_partTwo_20 : decode cX8_partTwo 20 = .ok (.aload_n 0, 1) := by decide +kernel
theorem dX8_partTwo_21 : decode cX8_partTwo 21 = .ok (.getfield 15, 3) := by decide +kernel
theorem dX8_partTwo_24 : decode cX8_partTwo 24 = .ok (.iconst 2, 1) := by decide +kernel
theorem dX8_partTwo_25 : decode cX8_partTwo 25 = .ok (.idiv, 1) := by decide +kernel
theorem dX8_partTwo_26 : decode cX8_partTwo 26 = .ok (.aload_n 0, 1) := by decide +kernel
theorem dX8_partTwo_27 : decode cX8_partTwo 27 = .ok (.getfield 35, 3) := by decide +kernel
theorem dX8_partTwo_30 : decode cX8_partTwo 30 = .ok (.iload_n 3, 1) := by decide +kernel
theorem dX8_partTwo_31 : decode cX8_partTwo 31 = .ok (.iaload, 1) := by decide +kernel
theorem dX8_partTwo_32 : decode cX8_partTwo 32 = .ok (.invokestatic 88, 3) := by decide +kernel
theorem dX8_partTwo_35 : decode cX8_partTwo 35 = .ok (.istore 5, 2) := by decide +kernel
theorem dX8_partTwo_37 : decode cX8_partTwo 37 = .ok (.aload_n 0, 1) := by decide +kernel
theorem dX8_partTwo_38 : decode cX8_partTwo 38 = .ok (.iload_n 3, 1) := by decide +kernel
theorem dX8_partTwo_39 : decode cX8_partTwo 39 = .ok (.iload 4, 2) := by decide +kernel
theorem dX8_partTwo_41 : decode cX8_partTwo 41 = .ok (.iload 5, 2) := by decide +kernel
theorem dX8_partTwo_43 : decode cX8_partTwo 43 = .ok (.invokevirtual 93, 3) := by decide +kernel
theorem dX8_partTwo_46 : decode cX8_partTwo 46 = .ok (.aload_n 0, 1) := by decide +kernel
theorem dX8_partTwo_47 : decode cX8_partTwo 47 = .ok (.getfield 39, 3) := by decide +kernel
theorem dX8_partTwo_50 : decode cX8_partTwo 50 = .ok (.iload_n 3, 1) := by decide +kernel
theorem dX8_partTwo_51 : decode cX8_partTwo 51 = .ok (.iconst (-1), 1) := by decide +kernel
theorem dX8_partTwo_52 : decode cX8_partTwo 52 = .ok (.iastore, 1) := by decide +kernel
theorem dX8_partTwo_53 : decode cX8_partTwo 53 = .ok (.aload_n 0, 1) := by decide +kernel
theorem dX8_partTwo_54 : decode cX8_partTwo 54 = .ok (.getfield 39, 3) := by decide +kernel
theorem dX8_partTwo_57 : decode cX8_partTwo 57 = .ok (.iload 4, 2) := by decide +kernel
theorem dX8_partTwo_59 : decode cX8_partTwo 59 = .ok (.iconst (-1), 1) := by decide +kernel
theorem dX8_partTwo_60 : decode cX8_partTwo 60 = .ok (.iastore, 1) := by decide +kernel
theorem dX8_partTwo_61 : decode cX8_partTwo 61 = .ok (.aload_n 0, 1) := by decide +kernel
theorem dX8_partTwo_62 : decode cX8_partTwo 62 = .ok (.getfield 45, 3) := by decide +kernel
theorem dX8_partTwo_65 : decode cX8_partTwo 65 = .ok (.iload_n 1, 1) := by decide +kernel
theorem dX8_partTwo_66 : decode cX8_partTwo 66 = .ok (.iconst 0, 1) := by decide +kernel
theorem dX8_partTwo_67 : decode cX8_partTwo 67 = .ok (.iastore, 1) := by decide +kernel
theorem dX8_partTwo_68 : decode cX8_partTwo 68 = .ok (.iload 5, 2) := by decide +kernel
theorem dX8_partTwo_70 : decode cX8_partTwo 70 = .ok (.ireturn, 1) := by decide +kernel
theorem dX8_passYear_0 : decode cX8_passYear 0 = .ok (.iconst 0, 1) := by decide +kernel
theorem dX8_passYear_1 : decode cX8_passYear 1 = .ok (.istore_n 1, 1) := by decide +kernel
theorem dX8_passYear_2 : decode cX8_passYear 2 = .ok (.iload_n 1, 1) := by decide +kernel
theorem dX8_passYear_3 : decode cX8_passYear 3 = .ok (.aload_n 0, 1) := by decide +kernel
theorem dX8_passYear_4 : decode cX8_passYear 4 = .ok (.getfield 22, 3) := by decide +kernel
theorem dX8_passYear_7 : decode cX8_passYear 7 = .ok (.if_icmp .ge 50, 3) := by decide +kernel
theorem dX8_passYear_10 : decode cX8_passYear 10 = .ok (.aload_n 0, 1) := by decide +kernel
theorem dX8_passYear_11 : decode cX8_passYear 11 = .ok (.iconst 0, 1) := by decide +kernel
theorem dX8_passYear_12 : decode cX8_passYear 12 = .ok (.iload_n 1, 1) := by decide +kernel
theorem dX8_passYear_13 : decode cX8_passYear 13 = .ok (.invokevirtual 64, 3) := by decide +kernel
theorem dX8_passYear_16 : decode cX8_passYear 16 = .ok (.istore_n 2, 1) := by decide +kernel
theorem dX8_passYear_17 : decode cX8_passYear 17 = .ok (.iload_n 2, 1) := by decide +kernel
theorem dX8_passYear_18 : decode cX8_passYear 18 = .ok (.ifCond .lt 33, 3) := by decide +kernel
theorem dX8_passYear_21 : decode cX8_passYear 21 = .ok (.aload_n 0, 1) := by decide +kernel
theorem dX8_passYear_22 : decode cX8_passYear 22 = .ok (.getfield 45, 3) := by decide +kernel
theorem dX8_passYear_25 : decode cX8_passYear 25 = .ok (.iload_n 1, 1) := by decide +kernel
theorem dX8_passYear_26 : decode cX8_passYear 26 = .ok (.dup2, 1) := by decide +kernel
theorem dX8_passYear_27 : decode cX8_passYear 27 = .ok (.iaload, 1) := by decide +kernel
theorem dX8_passYear_28 : decode cX8_passYear 28 = .ok (.iconst 1, 1) := by decide +kernel
theorem dX8_passYear_29 : decode cX8_passYear 29 = .ok (.iadd, 1) := by decide +kernel
theorem dX8_passYear_30 : decode cX8_passYear 30 = .ok (.iastore, 1) := by decide +kernel
theorem dX8_passYear_31 : decode cX8_passYear 31 = .ok (.aload_n 0, 1) := by decide +kernel
theorem dX8_passYear_32 : decode cX8_passYear 32 = .ok (.iconst 0, 1) := by decide +kernel
theorem dX8_passYear_33 : decode cX8_passYear 33 = .ok (.iload_n 1, 1) := by decide +kernel
theorem dX8_passYear_34 : decode cX8_passYear 34 = .ok (.iload_n 2, 1) := by decide +kernel
theorem dX8_passYear_35 : decode cX8_passYear 35 = .ok (.invokestatic 97, 3) := by decide +kernel
theorem dX8_passYear_38 : decode cX8_passYear 38 = .ok (.invokevirtual 100, 3) := by decide +kernel
theorem dX8_passYear_41 : decode cX8_passYear 41 = .ok (.aload_n 0, 1) := by decide +kernel
theorem dX8_passYear_42 : decode cX8_passYear 42 = .ok (.iconst 1, 1) := by decide +kernel
