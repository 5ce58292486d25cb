theorem dX12_isIsleHere_52 : decode cX12_isIsleHere 52 = .ok (.istore_n 2, 1) := by decide +kernel
theorem dX12_isIsleHere_53 : decode cX12_isIsleHere 53 = .ok (.iload_n 2, 1) := by decide +kernel
theorem dX12_isIsleHere_54 : decode cX12_isIsleHere 54 = .ok (.bipush 32, 2) := by decide +kernel
theorem dX12_isIsleHere_56 : decode cX12_isIsleHere 56 = .ok (.if_icmp .ge 19, 3) := by decide +kernel
theorem dX12_isIsleHere_59 : decode cX12_isIsleHere 59 = .ok (.aload_n 0, 1) := by decide +kernel
theorem dX12_isIsleHere_60 : decode cX12_isIsleHere 60 = .ok (.getfield 26, 3) := by decide +kernel
theorem dX12_isIsleHere_63 : decode cX12_isIsleHere 63 = .ok (.bipush 78, 2) := by decide +kernel
theorem dX12_isIsleHere_65 : decode cX12_isIsleHere 65 = .ok (.iload_n 2, 1) := by decide +kernel
theorem dX12_isIsleHere_66 : decode cX12_isIsleHere 66 = .ok (.iadd, 1) := by decide +kernel
theorem dX12_isIsleHere_67 : decode cX12_isIsleHere 67 = .ok (.iconst (-1), 1) := by decide +kernel
theorem dX12_isIsleHere_68 : decode cX12_isIsleHere 68 = .ok (.iastore, 1) := by decide +kernel
theorem dX12_isIsleHere_69 : decode cX12_isIsleHere 69 = .ok (.iinc 2 1, 3) := by decide +kernel
theorem dX12_isIsleHere_72 : decode cX12_isIsleHere 72 = .ok (.goto (-19), 3) := by decide +kernel
theorem dX12_isIsleHere_75 : decode cX12_isIsleHere 75 = .ok (.iconst 1, 1) := by decide +kernel
theorem dX12_isIsleHere_76 : decode cX12_isIsleHere 76 = .ok (.ireturn, 1) := by decide +kernel
theorem dX12_isOneHere_0 : decode cX12_isOneHere 0 = .ok (.aload_n 0, 1) := by decide +kernel
theorem dX12_isOneHere_1 : decode cX12_isOneHere 1 = .ok (.getfield 26, 3) := by decide +kernel
theorem dX12_isOneHere_4 : decode cX12_isOneHere 4 = .ok (.iconst 3, 1) := by decide +kernel
theorem dX12_isOneHere_5 : decode cX12_isOneHere 5 = .ok (.iload_n 1, 1) := by decide +kernel
theorem dX12_isOneHere_6 : decode cX12_isOneHere 6 = .ok (.iadd, 1) := by decide +kernel
theorem dX12_isOneHere_7 : decode cX12_isOneHere 7 = .ok (.iaload, 1) := by decide +kernel
theorem dX12_isOneHere_8 : decode cX12_isOneHere 8 = .ok (.iconst 4, 1) := by decide +kernel
theorem dX12_isOneHere_9 : decode cX12_isOneHere 9 = .ok (.if_icmp .ne 10, 3) := by decide +kernel
theorem dX12_isOneHere_12 : decode cX12_isOneHere 12 = .ok (.aload_n 0, 1) := by decide +kernel
theorem dX12_isOneHere_13 : decode cX12_isOneHere 13 = .ok (.iconst 4, 1) := by decide +kernel
theorem dX12_isOneHere_14 : decode cX12_isOneHere 14 = .ok (.iload_n 2, 1) := by decide +kernel
theorem dX12_isOneHere_15 : decode cX12_isOneHere 15 = .ok (.invokevirtual 120, 3) := by decide +kernel
theorem dX12_isOneHere_18 : decode cX12_isOneHere 18 = .ok (.ireturn, 1) := by decide +kernel
theorem dX12_isOneHere_19 : decode cX12_isOneHere 19 = .ok (.aload_n 0, 1) := by decide +kernel
theorem dX12_isOneHere_20 : decode cX12_isOneHere 20 = .ok (.invokevirtual 114, 3) := by decide +kernel
theorem dX12_isOneHere_23 : decode cX12_isOneHere 23 = .ok (.aload_n 0, 1) := by decide +kernel
theorem dX12_isOneHere_24 : decode cX12_isOneHere 24 = .ok (.sipush 142, 3) := by decide +kernel
theorem dX12_isOneHere_27 : decode cX12_isOneHere 27 = .ok (.iconst 4, 1) := by decide +kernel
theorem dX12_isOneHere_28 : decode cX12_isOneHere 28 = .ok (.iload_n 1, 1) := by decide +kernel
theorem dX12_isOneHere_29 : decode cX12_isOneHere 29 = .ok (.imul, 1) := by decide +kernel
theorem dX12_isOneHere_30 : decode cX12_isOneHere 30 = .ok (.iadd, 1) := by decide +kernel
theorem dX12_isOneHere_31 : decode cX12_isOneHere 31 = .ok (.aload_n 0, 1) := by decide +kernel
theorem dX12_isOneHere_32 : decode cX12_isOneHere 32 = .ok (.getfield 26, 3) := by decide +kernel
theorem dX12_isOneHere_35 : decode cX12_isOneHere 35 = .ok (.iconst 3, 1) := by decide +kernel
theorem dX12_isOneHere_36 : decode cX12_isOneHere 36 = .ok (.iload_n 1, 1) := by decide +kernel
theorem dX12_isOneHere_37 : decode cX12_isOneHere 37 = .ok (.iadd, 1) := by decide +kernel
theorem dX12_isOneHere_38 : decode cX12_isOneHere 38 = .ok (.iaload, 1) := by decide +kernel
theorem dX12_isOneHere_39 : decode cX12_isOneHere 39 = .ok (.iadd, 1) := by decide +kernel
theorem dX12_isOneHere_40 : decode cX12_isOneHere 40 = .ok (.iconst 0, 1) := by decide +kernel
theorem dX12_isOneHere_41 : decode cX12_isOneHere 41 = .ok (.sipush 999, 3) := by decide +kernel
theorem dX12_isOneHere_44 : decode cX12_isOneHere 44 = .ok (.invokevirtual 225, 3) := by decide +kernel
theorem dX12_isOneHere_47 : decode cX12_isOneHere 47 = .ok (.ifCond .ne 5, 3) := by decide +kernel
theorem dX12_isOneHere_50 : decode cX12_isOneHere 50 = .ok (.iconst 0, 1) := by decide +kernel
theorem dX12_isOneHere_51 : decode cX12_isOneHere 51 = .ok (.ireturn, 1) := by decide +kernel
theorem dX12_isOneHere_52 : decode cX12_isOneHere 52 = .ok (.aload_n 0, 1) := by decide +kernel
theorem dX12_isOneHere_53 : decode cX12_isOneHere 53 = .ok (.getfield 26, 3) := by decide +kernel
theorem dX12_isOneHere_56 : decode cX12_isOneHere 56 = .ok (.iconst 3, 1) := by decide +kernel
theorem dX12_isOneHere_57 : decode cX12_isOneHere 57 = .ok (.iload_n 1, 1) := by decide +kernel
theorem dX12_isOneHere_58 : decode cX12_isOneHere 58 = .ok (.iadd, 1) := by decide +kernel
theorem dX12_isOneHere_59 : decode cX12_isOneHere 59 = .ok (.dup2, 1) := by decide +kernel
theorem dX12_isOneHere_60 : decode cX12_isOneHere 60 = .ok (.iaload, 1) := by decide +kernel
theorem dX12_isOneHere_61 : decode cX12_isOneHere 61 = .ok (.iconst 1, 1) := by decide +kernel
theorem dX12_isOneHere_62 : decode cX12_isOneHere 62 = .ok (.iadd, 1) := by decide +kernel
theorem dX12_isOneHere_63 : decode cX12_isOneHere 63 = .ok (.iastore, 1) := by decide +kernel
theorem dX12_isOneHere_64 : decode cX12_isOneHere 64 = .ok (.iconst 1, 1) := by decide +kernel
theorem dX12_isOneHere_65 : decode cX12_isOneHere 65 = .ok (.ireturn, 1) := by decide +kernel
theorem dX12_areLikesHere_0 : decode cX12_areLikesHere 0 = .ok (.aload_n 0, 1) := by decide +kernel
theorem dX12_areLikesHere_1 : decode cX12_areLikesHere 1 = .ok (.invokevirtual 114, 3) := by decide +kernel
theorem dX12_areLikesHere_4 : decode cX12_areLikesHere 4 = .ok (.aload_n 0, 1) := by decide +kernel
theorem dX12_areLikesHere_5 : decode cX12_areLikesHere 5 = .ok (.iconst 0, 1) := by decide +kernel
theorem dX12_areLikesHere_6 : decode cX12_areLikesHere 6 = .ok (.aload_n 0, 1) := by decide +kernel
theorem dX12_areLikesHere_7 : decode cX12_areLikesHere 7 = .ok (.getfield 26, 3) := by decide +kernel
theorem dX12_areLikesHere_10 : decode cX12_areLikesHere 10 = .ok (.iconst 3, 1) := by decide +kernel
theorem dX12_areLikesHere_11 : decode cX12_areLikesHere 11 = .ok (.iaload, 1) := by decide +kernel
theorem dX12_areLikesHere_12 : decode cX12_areLikesHere 12 = .ok (.iconst 1, 1) := by decide +kernel
theorem dX12_areLikesHere_13 : decode cX12_areLikesHere 13 = .ok (.isub, 1) := by decide +kernel
theorem dX12_areLikesHere_14 : decode cX12_areLikesHere 14 = .ok (.invokevirtual 174, 3) := by decide +kernel
theorem dX12_areLikesHere_17 : decode cX12_areLikesHere 17 = .ok (.ifCond .ne 5, 3) := by decide +kernel
theorem dX12_areLikesHere_20 : decode cX12_areLikesHere 20 = .ok (.iconst 0, 1) := by decide +kernel
theorem dX12_areLikesHere_21 : decode cX12_areLikesHere 21 = .ok (.ireturn, 1) := by decide +kernel
theorem dX12_areLikesHere_22 : decode cX12_areLikesHere 22 = .ok (.iconst 4, 1) := by decide +kernel
theorem dX12_areLikesHere_23 : decode cX12_areLikesHere 23 = .ok (.aload_n 0, 1) := by decide +kernel
theorem dX12_areLikesHere_24 : decode cX12_areLikesHere 24 = .ok (.getfield 124, 3) := by decide +kernel
theorem dX12_areLikesHere_27 : decode cX12_areLikesHere 27 = .ok (.imul, 1) := by decide +kernel
theorem dX12_areLikesHere_28 : decode cX12_areLikesHere 28 = .ok (.istore_n 2, 1) := by decide +kernel
theorem dX12_areLikesHere_29 : decode cX12_areLikesHere 29 = .ok (.aload_n 0, 1) := by decide +kernel
theorem dX12_areLikesHere_30 : decode cX12_areLikesHere 30 = .ok (.iconst 0, 1) := by decide +kernel
theorem dX12_areLikesHere_31 : decode cX12_areLikesHere 31 = .ok (.aload_n 0, 1) := by decide +kernel
theorem dX12_areLikesHere_32 : decode cX12_areLikesHere 32 = .ok (.getfield 26, 3) := by decide +kernel
theorem dX12_areLikesHere_35 : decode cX12_areLikesHere 35 = .ok (.iconst 4, 1) := by decide +kernel
theorem dX12_areLikesHere_36 : decode cX12_areLikesHere 36 = .ok (.iaload, 1) := by decide +kernel
theorem dX12_areLikesHere_37 : decode cX12_areLikesHere 37 = .ok (.iconst 1, 1) := by decide +kernel
theorem dX12_areLikesHere_38 : decode cX12_areLikesHere 38 = .ok (.isub, 1) := by decide +kernel
theorem dX12_areLikesHere_39 : decode cX12_areLikesHere 39 = .ok (.invokevirtual 174, 3) := by decide +kernel
theorem dX12_areLikesHere_42 : decode cX12_areLikesHere 42 = .ok (.ifCond .ne 5, 3) := by decide +kernel
theorem dX12_areLikesHere_45 : decode cX12_areLikesHere 45 = .ok (.iconst 0, 1) := by decide +kernel
theorem dX12_areLikesHere_46 : decode cX12_areLikesHere 46 = .ok (.ireturn, 1) := by decide +kernel
theorem dX12_areLikesHere_47 : decode cX12_areLikesHere 47 = .ok (.iload_n 2, 1) := by decide +kernel
theorem dX12_areLikesHere_48 : decode cX12_areLikesHere 48 = .ok (.aload_n 0, 1) := by decide +kernel
theorem dX12_areLikesHere_49 : decode cX12_areLikesHere 49 = .ok (.getfield 124, 3) := by decide +kernel
theorem dX12_areLikesHere_52 : decode cX12_areLikesHere 52 = .ok (.iadd, 1) := by decide +kernel
theorem dX12_areLikesHere_53 : decode cX12_areLikesHere 53 = .ok (.istore_n 2, 1) := by decide +kernel
theorem dX12_areLikesHere_54 : decode cX12_areLikesHere 54 = .ok (.aload_n 0, 1) := by decide +kernel
theorem dX12_areLikesHere_55 : decode cX12_areLikesHere 55 = .ok (.iload_n 1, 1) := by decide +kernel
theorem dX12_areLikesHere_56 : decode cX12_areLikesHere 56 = .ok (.iload_n 2, 1) := by decide +kernel
theorem dX12_areLikesHere_57 : decode cX12_areLikesHere 57 = .ok (.iadd, 1) := by decide +kernel
theorem dX12_areLikesHere_58 : decode cX12_areLikesHere 58 = .ok (.iconst 0, 1) := by decide +kernel
theorem dX12_areLikesHere_59 : decode cX12_areLikesHere 59 = .ok (.bipush 20, 2) := by decide +kernel
theorem dX12_areLikesHere_61 : decode cX12_areLikesHere 61 = .ok (.invokevirtual 225, 3) := by decide +kernel
theorem dX12_areLikesHere_64 : decode cX12_areLikesHere 64 = .ok (.ifCond .eq 23, 3) := by decide +kernel
theorem dX12_areLikesHere_67 : decode cX12_areLikesHere 67 = .ok (.aload_n 0, 1) := by decide +kernel
theorem dX12_areLikesHere_68 : decode cX12_areLikesHere 68 = .ok (.iload_n 1, 1) := by decide +kernel
theorem dX12_areLikesHere_69 : decode cX12_areLikesHere 69 = .ok (.bipush 16, 2) := by decide +kernel
theorem dX12_areLikesHere_71 : decode cX12_areLikesHere 71 = .ok (.iadd, 1) := by decide +kernel
theorem dX12_areLikesHere_72 : decode cX12_areLikesHere 72 = .ok (.iload_n 2, 1) := by decide +kernel
theorem dX12_areLikesHere_73 : decode cX12_areLikesHere 73 = .ok (.iadd, 1) := by decide +kernel
theorem dX12_areLikesHere_74 : decode cX12_areLikesHere 74 = .ok (.iconst 0, 1) := by decide +kernel
theorem dX12_areLikesHere_75 : decode cX12_areLikesHere 75 = .ok (.bipush 20, 2) := by decide +kernel
theorem dX12_areLikesHere_77 : decode cX12_areLikesHere 77 = .ok (.invokevirtual 225, 3) := by decide +kernel
theorem dX12_areLikesHere_80 : decode cX12_areLikesHere 80 = .ok (.ifCond .eq 7, 3) := by decide +kernel
theorem dX12_areLikesHere_83 : decode cX12_areLikesHere 83 = .ok (.iconst 1, 1) := by decide +kernel
theorem dX12_areLikesHere_84 : decode cX12_areLikesHere 84 = .ok (.goto 4, 3) := by decide +kernel
theorem dX12_areLikesHere_87 : decode cX12_areLikesHere 87 = .ok (.iconst 0, 1) := by decide +kernel
theorem dX12_areLikesHere_88 : decode cX12_areLikesHere 88 = .ok (.ireturn, 1) := by decide +kernel
theorem dX12_isLateHere_0 : decode cX12_isLateHere 0 = .ok (.aload_n 0, 1) := by decide +kernel
theorem dX12_isLateHere_1 : decode cX12_isLateHere 1 = .ok (.invokevirtual 114, 3) := by decide +kernel
theorem dX12_isLateHere_4 : decode cX12_isLateHere 4 = .ok (.aload_n 0, 1) := by decide +kernel
theorem dX12_isLateHere_5 : decode cX12_isLateHere 5 = .ok (.iconst 0, 1) := by decide +kernel
theorem dX12_isLateHere_6 : decode cX12_isLateHere 6 = .ok (.bipush 60, 2) := by decide +kernel
theorem dX12_isLateHere_8 : decode cX12_isLateHere 8 = .ok (.invokevirtual 174, 3) := by decide +kernel
theorem dX12_isLateHere_11 : decode cX12_isLateHere 11 = .ok (.ifCond .ne 5, 3) := by decide +kernel
theorem dX12_isLateHere_14 : decode cX12_isLateHere 14 = .ok (.iconst 0, 1) := by decide +kernel
theorem dX12_isLateHere_15 : decode cX12_isLateHere 15 = .ok (.ireturn, 1) := by decide +kernel
theorem dX12_isLateHere_16 : decode cX12_isLateHere 16 = .ok (.aload_n 0, 1) := by decide +kernel
theorem dX12_isLateHere_17 : decode cX12_isLateHere 17 = .ok (.getfield 26, 3) := by decide +kernel
theorem dX12_isLateHere_20 : decode cX12_isLateHere 20 = .ok (.sipush 150, 3) := by decide +kernel
theorem dX12_isLateHere_23 : decode cX12_isLateHere 23 = .ok (.aload_n 0, 1) := by decide +kernel
theorem dX12_isLateHere_24 : decode cX12_isLateHere 24 = .ok (.getfield 124, 3) := by decide +kernel
theorem dX12_isLateHere_27 : decode cX12_isLateHere 27 = .ok (.bipush 21, 2) := by decide +kernel
theorem dX12_isLateHere_29 : decode cX12_isLateHere 29 = .ok (.idiv, 1) := by decide +kernel
theorem dX12_isLateHere_30 : decode cX12_isLateHere 30 = .ok (.iadd, 1) := by decide +kernel
theorem dX12_isLateHere_31 : decode cX12_isLateHere 31 = .ok (.dup2, 1) := by decide +kernel
theorem dX12_isLateHere_32 : decode cX12_isLateHere 32 = .ok (.iaload, 1) := by decide +kernel
theorem dX12_isLateHere_33 : decode cX12_isLateHere 33 = .ok (.iconst 1, 1) := by decide +kernel
theorem dX12_isLateHere_34 : decode cX12_isLateHere 34 = .ok (.aload_n 0, 1) := by decide +kernel
theorem dX12_isLateHere_35 : decode cX12_isLateHere 35 = .ok (.getfield 124, 3) := by decide +kernel
theorem dX12_isLateHere_38 : decode cX12_isLateHere 38 = .ok (.bipush 21, 2) := by decide +kernel
theorem dX12_isLateHere_40 : decode cX12_isLateHere 40 = .ok (.irem, 1) := by decide +kernel
theorem dX12_isLateHere_41 : decode cX12_isLateHere 41 = .ok (.ishl, 1) := by decide +kernel
theorem dX12_isLateHere_42 : decode cX12_isLateHere 42 = .ok (.ior, 1) := by decide +kernel
theorem dX12_isLateHere_43 : decode cX12_isLateHere 43 = .ok (.iastore, 1) := by decide +kernel
theorem dX12_isLateHere_44 : decode cX12_isLateHere 44 = .ok (.iconst 1, 1) := by decide +kernel
theorem dX12_isLateHere_45 : decode cX12_isLateHere 45 = .ok (.ireturn, 1) := by decide +kernel
theorem dX12_isleLineHere_0 : decode cX12_isleLineHere 0 = .ok (.aload_n 0, 1) := by decide +kernel
theorem dX12_isleLineHere_1 : decode cX12_isleLineHere 1 = .ok (.ldc2_w 229, 3) := by decide +kernel
theorem dX12_isleLineHere_4 : decode cX12_isleLineHere 4 = .ok (.invokevirtual 110, 3) := by decide +kernel
theorem dX12_isleLineHere_7 : decode cX12_isleLineHere 7 = .ok (.ifCond .eq 9, 3) := by decide +kernel
theorem dX12_isleLineHere_10 : decode cX12_isleLineHere 10 = .ok (.aload_n 0, 1) := by decide +kernel
theorem dX12_isleLineHere_11 : decode cX12_isleLineHere 11 = .ok (.iload_n 1, 1) := by decide +kernel
theorem dX12_isleLineHere_12 : decode cX12_isleLineHere 12 = .ok (.invokevirtual 231, 3) := by decide +kernel
theorem dX12_isleLineHere_15 : decode cX12_isleLineHere 15 = .ok (.ireturn, 1) := by decide +kernel
theorem dX12_isleLineHere_16 : decode cX12_isleLineHere 16 = .ok (.aload_n 0, 1) := by decide +kernel
theorem dX12_isleLineHere_17 : decode cX12_isleLineHere 17 = .ok (.getfield 26, 3) := by decide +kernel
theorem dX12_isleLineHere_20 : decode cX12_isleLineHere 20 = .ok (.iconst 0, 1) := by decide +kernel
theorem dX12_isleLineHere_21 : decode cX12_isleLineHere 21 = .ok (.iaload, 1) := by decide +kernel
theorem dX12_isleLineHere_22 : decode cX12_isleLineHere 22 = .ok (.ifCond .ne 10, 3) := by decide +kernel
theorem dX12_isleLineHere_25 : decode cX12_isleLineHere 25 = .ok (.aload_n 0, 1) := by decide +kernel
theorem dX12_isleLineHere_26 : decode cX12_isleLineHere 26 = .ok (.iconst 4, 1) := by decide +kernel
theorem dX12_isleLineHere_27 : decode cX12_isleLineHere 27 = .ok (.iload_n 1, 1) := by decide +kernel
theorem dX12_isleLineHere_28 : decode cX12_isleLineHere 28 = .ok (.invokevirtual 120, 3) := by decide +kernel
theorem dX12_isleLineHere_31 : decode cX12_isleLineHere 31 = .ok (.ireturn, 1) := by decide +kernel
theorem dX12_isleLineHere_32 : decode cX12_isleLineHere 32 = .ok (.aload_n 0, 1) := by decide +kernel
theorem dX12_isleLineHere_33 : decode cX12_isleLineHere 33 = .ok (.ldc2_w 234, 3) := by decide +kernel
theorem dX12_isleLineHere_36 : decode cX12_isleLineHere 36 = .ok (.invokevirtual 110, 3) := by decide +kernel
theorem dX12_isleLineHere_39 : decode cX12_isleLineHere 39 = .ok (.ifCond .eq 10, 3) := by decide +kernel
theorem dX12_isleLineHere_42 : decode cX12_isleLineHere 42 = .ok (.aload_n 0, 1) := by decide +kernel
theorem dX12_isleLineHere_43 : decode cX12_isleLineHere 43 = .ok (.iconst 0, 1) := by decide +kernel
theorem dX12_isleLineHere_44 : decode cX12_isleLineHere 44 = .ok (.iload_n 1, 1) := by decide +kernel
theorem dX12_isleLineHere_45 : decode cX12_isleLineHere 45 = .ok (.invokevirtual 236, 3) := by decide +kernel
theorem dX12_isleLineHere_48 : decode cX12_isleLineHere 48 = .ok (.ireturn, 1) := by decide +kernel
theorem dX12_isleLineHere_49 : decode cX12_isleLineHere 49 = .ok (.aload_n 0, 1) := by decide +kernel
theorem dX12_isleLineHere_50 : decode cX12_isleLineHere 50 = .ok (.ldc2_w 239, 3) := by decide +kernel
theorem dX12_isleLineHere_53 : decode cX12_isleLineHere 53 = .ok (.invokevirtual 110, 3) := by decide +kernel
theorem dX12_isleLineHere_56 : decode cX12_isleLineHere 56 = .ok (.ifCond .eq 10, 3) := by decide +kernel
theorem dX12_isleLineHere_59 : decode cX12_isleLineHere 59 = .ok (.aload_n 0, 1) := by decide +kernel
theorem dX12_isleLineHere_60 : decode cX12_isleLineHere 60 = .ok (.iconst 1, 1) := by decide +kernel
theorem dX12_isleLineHere_61 : decode cX12_isleLineHere 61 = .ok (.iload_n 1, 1) := by decide +kernel
theorem dX12_isleLineHere_62 : decode cX12_isleLineHere 62 = .ok (.invokevirtual 236, 3) := by decide +kernel
theorem dX12_isleLineHere_65 : decode cX12_isleLineHere 65 = .ok (.ireturn, 1) := by decide +kernel
theorem dX12_isleLineHere_66 : decode cX12_isleLineHere 66 = .ok (.aload_n 0, 1) := by decide +kernel
theorem dX12_isleLineHere_67 : decode cX12_isleLineHere 67 = .ok (.ldc2_w 241, 3) := by decide +kernel
theorem dX12_isleLineHere_70 : decode cX12_isleLineHere 70 = .ok (.invokevirtual 110, 3) := by decide +kernel
theorem dX12_isleLineHere_73 : decode cX12_isleLineHere 73 = .ok (.ifCond .eq 8, 3) := by decide +kernel
theorem dX12_isleLineHere_76 : decode cX12_isleLineHere 76 = .ok (.aload_n 0, 1) := by decide +kernel
theorem dX12_isleLineHere_77 : decode cX12_isleLineHere 77 = .ok (.invokevirtual 243, 3) := by decide +kernel
theorem dX12_isleLineHere_80 : decode cX12_isleLineHere 80 = .ok (.ireturn, 1) := by decide +kernel
theorem dX12_isleLineHere_81 : decode cX12_isleLineHere 81 = .ok (.aload_n 0, 1) := by decide +kernel
theorem dX12_isleLineHere_82 : decode cX12_isleLineHere 82 = .ok (.aload_n 0, 1) := by decide +kernel
theorem dX12_isleLineHere_83 : decode cX12_isleLineHere 83 = .ok (.ldc2_w 246, 3) := by decide +kernel
theorem dX12_isleLineHere_86 : decode cX12_isleLineHere 86 = .ok (.invokevirtual 110, 3) := by decide +kernel
theorem dX12_isleLineHere_89 : decode cX12_isleLineHere 89 = .ok (.ifCond .eq 8, 3) := by decide +kernel
theorem dX12_isleLineHere_92 : decode cX12_isleLineHere 92 = .ok (.bipush 110, 2) := by decide +kernel
theorem dX12_isleLineHere_94 : decode cX12_isleLineHere 94 = .ok (.goto 5, 3) := by decide +kernel
theorem dX12_isleLineHere_97 : decode cX12_isleLineHere 97 = .ok (.bipush 78, 2) := by decide +kernel
theorem dX12_isleLineHere_99 : decode cX12_isleLineHere 99 = .ok (.invokevirtual 248, 3) := by decide +kernel
theorem dX12_isleLineHere_102 : decode cX12_isleLineHere 102 = .ok (.ireturn, 1) := by decide +kernel
theorem dX12_isIsleWord_0 : decode cX12_isIsleWord 0 = .ok (.aload_n 0, 1) := by decide +kernel
theorem dX12_isIsleWord_1 : decode cX12_isIsleWord 1 = .ok (.ldc2_w 229, 3) := by decide +kernel
theorem dX12_isIsleWord_4 : decode cX12_isIsleWord 4 = .ok (.invokevirtual 110, 3) := by decide +kernel
theorem dX12_isIsleWord_7 : decode cX12_isIsleWord 7 = .ok (.ifCond .ne 53, 3) := by decide +kernel
theorem dX12_isIsleWord_10 : decode cX12_isIsleWord 10 = .ok (.aload_n 0, 1) := by decide +kernel
theorem dX12_isIsleWord_11 : decode cX12_isIsleWord 11 = .ok (.ldc2_w 234, 3) := by decide +kernel
theorem dX12_isIsleWord_14 : decode cX12_isIsleWord 14 = .ok (.invokevirtual 110, 3) := by decide +kernel
theorem dX12_isIsleWord_17 : decode cX12_isIsleWord 17 = .ok (.ifCond .ne 43, 3) := by decide +kernel
theorem dX12_isIsleWord_20 : decode cX12_isIsleWord 20 = .ok (.aload_n 0, 1) := by decide +kernel
theorem dX12_isIsleWord_21 : decode cX12_isIsleWord 21 = .ok (.ldc2_w 239, 3) := by decide +kernel
theorem dX12_isIsleWord_24 : decode cX12_isIsleWord 24 = .ok (.invokevirtual 110, 3) := by decide +kernel
theorem dX12_isIsleWord_27 : decode cX12_isIsleWord 27 = .ok (.ifCond .ne 33, 3) := by decide +kernel
theorem dX12_isIsleWord_30 : decode cX12_isIsleWord 30 = .ok (.aload_n 0, 1) := by decide +kernel
theorem dX12_isIsleWord_31 : decode cX12_isIsleWord 31 = .ok (.ldc2_w 246, 3) := by decide +kernel
theorem dX12_isIsleWord_34 : decode cX12_isIsleWord 34 = .ok (.invokevirtual 110, 3) := by decide +kernel
theorem dX12_isIsleWord_37 : decode cX12_isIsleWord 37 = .ok (.ifCond .ne 23, 3) := by decide +kernel
theorem dX12_isIsleWord_40 : decode cX12_isIsleWord 40 = .ok (.aload_n 0, 1) := by decide +kernel
theorem dX12_isIsleWord_41 : decode cX12_isIsleWord 41 = .ok (.ldc2_w 251, 3) := by decide +kernel
theorem dX12_isIsleWord_44 : decode cX12_isIsleWord 44 = .ok (.invokevirtual 110, 3) := by decide +kernel
theorem dX12_isIsleWord_47 : decode cX12_isIsleWord 47 = .ok (.ifCond .ne 13, 3) := by decide +kernel
theorem dX12_isIsleWord_50 : decode cX12_isIsleWord 50 = .ok (.aload_n 0, 1) := by decide +kernel
theorem dX12_isIsleWord_51 : decode cX12_isIsleWord 51 = .ok (.ldc2_w 241, 3) := by decide +kernel
theorem dX12_isIsleWord_54 : decode cX12_isIsleWord 54 = .ok (.invokevirtual 110, 3) := by decide +kernel
theorem dX12_isIsleWord_57 : decode cX12_isIsleWord 57 = .ok (.ifCond .eq 7, 3) := by decide +kernel
theorem dX12_isIsleWord_60 : decode cX12_isIsleWord 60 = .ok (.iconst 1, 1) := by decide +kernel
theorem dX12_isIsleWord_61 : decode cX12_isIsleWord 61 = .ok (.goto 4, 3) := by decide +kernel
theorem dX12_isIsleWord_64 : decode cX12_isIsleWord 64 = .ok (.iconst 0, 1) := by decide +kernel
theorem dX12_isIsleWord_65 : decode cX12_isIsleWord 65 = .ok (.ireturn, 1) := by decide +kernel
theorem dX12_clauseHere_0 : decode cX12_clauseHere 0 = .ok (.aload_n 0, 1) := by decide +kernel
theorem dX12_clauseHere_1 : decode cX12_clauseHere 1 = .ok (.invokevirtual 102, 3) := by decide +kernel
theorem dX12_clauseHere_4 : decode cX12_clauseHere 4 = .ok (.pop, 1) := by decide +kernel
theorem dX12_clauseHere_5 : decode cX12_clauseHere 5 = .ok (.aload_n 0, 1) := by decide +kernel
theorem dX12_clauseHere_6 : decode cX12_clauseHere 6 = .ok (.getfield 99, 3) := by decide +kernel
theorem dX12_clauseHere_9 : decode cX12_clauseHere 9 = .ok (.istore_n 1, 1) := by decide +kernel
theorem dX12_clauseHere_10 : decode cX12_clauseHere 10 = .ok (.aload_n 0, 1) := by decide +kernel
theorem dX12_clauseHere_11 : decode cX12_clauseHere 11 = .ok (.getfield 153, 3) := by decide +kernel
theorem dX12_clauseHere_14 : decode cX12_clauseHere 14 = .ok (.bipush 6, 2) := by decide +kernel
theorem dX12_clauseHere_16 : decode cX12_clauseHere 16 = .ok (.if_icmp .ne 7, 3) := by decide +kernel
theorem dX12_clauseHere_19 : decode cX12_clauseHere 19 = .ok (.iconst 1, 1) := by decide +kernel
theorem dX12_clauseHere_20 : decode cX12_clauseHere 20 = .ok (.goto 4, 3) := by decide +kernel
theorem dX12_clauseHere_23 : decode cX12_clauseHere 23 = .ok (.iconst 0, 1) := by decide +kernel
theorem dX12_clauseHere_24 : decode cX12_clauseHere 24 = .ok (.istore_n 2, 1) := by decide +kernel
theorem dX12_clauseHere_25 : decode cX12_clauseHere 25 = .ok (.iload_n 2, 1) := by decide +kernel
theorem dX12_clauseHere_26 : decode cX12_clauseHere 26 = .ok (.ifCond .eq 13, 3) := by decide +kernel
theorem dX12_clauseHere_29 : decode cX12_clauseHere 29 = .ok (.aload_n 0, 1) := by decide +kernel
theorem dX12_clauseHere_30 : decode cX12_clauseHere 30 = .ok (.invokevirtual 253, 3) := by decide +kernel
theorem dX12_clauseHere_33 : decode cX12_clauseHere 33 = .ok (.ifCond .ne 23, 3) := by decide +kernel
theorem dX12_clauseHere_36 : decode cX12_clauseHere 36 = .ok (.goto 13, 3) := by decide +kernel
theorem dX12_clauseHere_39 : decode cX12_clauseHere 39 = .ok (.aload_n 0, 1) := by decide +kernel
theorem dX12_clauseHere_40 : decode cX12_clauseHere 40 = .ok (.ldc2_w 256, 3) := by decide +kernel
theorem dX12_clauseHere_43 : decode cX12_clauseHere 43 = .ok (.invokevirtual 110, 3) := by decide +kernel
theorem dX12_clauseHere_46 : decode cX12_clauseHere 46 = .ok (.ifCond .ne 10, 3) := by decide +kernel
theorem dX12_clauseHere_49 : decode cX12_clauseHere 49 = .ok (.aload_n 0, 1) := by decide +kernel
theorem dX12_clauseHere_50 : decode cX12_clauseHere 50 = .ok (.iconst 0, 1) := by decide +kernel
theorem dX12_clauseHere_51 : decode cX12_clauseHere 51 = .ok (.iload_n 1, 1) := by decide +kernel
theorem dX12_clauseHere_52 : decode cX12_clauseHere 52 = .ok (.invokevirtual 120, 3) := by decide +kernel
theorem dX12_clauseHere_55 : decode cX12_clauseHere 55 = .ok (.ireturn, 1) := by decide +kernel
theorem dX12_clauseHere_56 : decode cX12_clauseHere 56 = .ok (.aload_n 0, 1) := by decide +kernel
theorem dX12_clauseHere_57 : decode cX12_clauseHere 57 = .ok (.getfield 258, 3) := by decide +kernel
theorem dX12_clauseHere_60 : decode cX12_clauseHere 60 = .ok (.iload_n 2, 1) := by decide +kernel
theorem dX12_clauseHere_61 : decode cX12_clauseHere 61 = .ok (.ifCond .eq 8, 3) := by decide +kernel
theorem dX12_clauseHere_64 : decode cX12_clauseHere 64 = .ok (.bipush 40, 2) := by decide +kernel
theorem dX12_clauseHere_66 : decode cX12_clauseHere 66 = .ok (.goto 5, 3) := by decide +kernel
theorem dX12_clauseHere_69 : decode cX12_clauseHere 69 = .ok (.bipush 12, 2) := by decide +kernel
theorem dX12_clauseHere_71 : decode cX12_clauseHere 71 = .ok (.if_icmp .ne 10, 3) := by decide +kernel
theorem dX12_clauseHere_74 : decode cX12_clauseHere 74 = .ok (.aload_n 0, 1) := by decide +kernel
theorem dX12_clauseHere_75 : decode cX12_clauseHere 75 = .ok (.iconst 4, 1) := by decide +kernel
theorem dX12_clauseHere_76 : decode cX12_clauseHere 76 = .ok (.iload_n 1, 1) := by decide +kernel
theorem dX12_clauseHere_77 : decode cX12_clauseHere 77 = .ok (.invokevirtual 120, 3) := by decide +kernel
theorem dX12_clauseHere_80 : decode cX12_clauseHere 80 = .ok (.ireturn, 1) := by decide +kernel
theorem dX12_clauseHere_81 : decode cX12_clauseHere 81 = .ok (.aload_n 0, 1) := by decide +kernel
theorem dX12_clauseHere_82 : decode cX12_clauseHere 82 = .ok (.dup, 1) := by decide +kernel
theorem dX12_clauseHere_83 : decode cX12_clauseHere 83 = .ok (.getfield 258, 3) := by decide +kernel
theorem dX12_clauseHere_86 : decode cX12_clauseHere 86 = .ok (.iconst 1, 1) := by decide +kernel
theorem dX12_clauseHere_87 : decode cX12_clauseHere 87 = .ok (.iadd, 1) := by decide +kernel
theorem dX12_clauseHere_88 : decode cX12_clauseHere 88 = .ok (.putfield 258, 3) := by decide +kernel
theorem dX12_clauseHere_91 : decode cX12_clauseHere 91 = .ok (.iload_n 2, 1) := by decide +kernel
theorem dX12_clauseHere_92 : decode cX12_clauseHere 92 = .ok (.ifCond .eq 11, 3) := by decide +kernel
theorem dX12_clauseHere_95 : decode cX12_clauseHere 95 = .ok (.aload_n 0, 1) := by decide +kernel
theorem dX12_clauseHere_96 : decode cX12_clauseHere 96 = .ok (.iload_n 1, 1) := by decide +kernel
theorem dX12_clauseHere_97 : decode cX12_clauseHere 97 = .ok (.invokevirtual 261, 3) := by decide +kernel
theorem dX12_clauseHere_100 : decode cX12_clauseHere 100 = .ok (.goto 7, 3) := by decide +kernel
theorem dX12_clauseHere_103 : decode cX12_clauseHere 103 = .ok (.aload_n 0, 1) := by decide +kernel
theorem dX12_clauseHere_104 : decode cX12_clauseHere 104 = .ok (.invokevirtual 264, 3) := by decide +kernel
theorem dX12_clauseHere_107 : decode cX12_clauseHere 107 = .ok (.ireturn, 1) := by decide +kernel
theorem dX12_readsAll_0 : decode cX12_readsAll 0 = .ok (.aload_n 0, 1) := by decide +kernel
theorem dX12_readsAll_1 : decode cX12_readsAll 1 = .ok (.getfield 17, 3) := by decide +kernel
theorem dX12_readsAll_4 : decode cX12_readsAll 4 = .ok (.aload_n 0, 1) := by decide +kernel
theorem dX12_readsAll_5 : decode cX12_readsAll 5 = .ok (.getfield 153, 3) := by decide +kernel
theorem dX12_readsAll_8 : decode cX12_readsAll 8 = .ok (.iconst 0, 1) := by decide +kernel
theorem dX12_readsAll_9 : decode cX12_readsAll 9 = .ok (.iastore, 1) := by decide +kernel
theorem dX12_readsAll_10 : decode cX12_readsAll 10 = .ok (.aload_n 0, 1) := by decide +kernel
theorem dX12_readsAll_11 : decode cX12_readsAll 11 = .ok (.iconst 0, 1) := by decide +kernel
theorem dX12_readsAll_12 : decode cX12_readsAll 12 = .ok (.putfield 258, 3) := by decide +kernel
theorem dX12_readsAll_15 : decode cX12_readsAll 15 = .ok (.aload_n 0, 1) := by decide +kernel
theorem dX12_readsAll_16 : decode cX12_readsAll 16 = .ok (.iconst 0, 1) := by decide +kernel
theorem dX12_readsAll_17 : decode cX12_readsAll 17 = .ok (.putfield 99, 3) := by decide +kernel
theorem dX12_readsAll_20 : decode cX12_readsAll 20 = .ok (.aload_n 0, 1) := by decide +kernel
theorem dX12_readsAll_21 : decode cX12_readsAll 21 = .ok (.iconst 0, 1) := by decide +kernel
theorem dX12_readsAll_22 : decode cX12_readsAll 22 = .ok (.putfield 96, 3) := by decide +kernel
theorem dX12_readsAll_25 : decode cX12_readsAll 25 = .ok (.aload_n 0, 1) := by decide +kernel
theorem dX12_readsAll_26 : decode cX12_readsAll 26 = .ok (.iconst 0, 1) := by decide +kernel
theorem dX12_readsAll_27 : decode cX12_readsAll 27 = .ok (.putfield 156, 3) := by decide +kernel
theorem dX12_readsAll_30 : decode cX12_readsAll 30 = .ok (.aload_n 0, 1) := by decide +kernel
theorem dX12_readsAll_31 : decode cX12_readsAll 31 = .ok (.invokevirtual 267, 3) := by decide +kernel
theorem dX12_readsAll_34 : decode cX12_readsAll 34 = .ok (.istore_n 1, 1) := by decide +kernel
theorem dX12_readsAll_35 : decode cX12_readsAll 35 = .ok (.iload_n 1, 1) := by decide +kernel
theorem dX12_readsAll_36 : decode cX12_readsAll 36 = .ok (.ifCond .eq 30, 3) := by decide +kernel
theorem dX12_readsAll_39 : decode cX12_readsAll 39 = .ok (.aload_n 0, 1) := by decide +kernel
theorem dX12_readsAll_40 : decode cX12_readsAll 40 = .ok (.invokevirtual 102, 3) := by decide +kernel
theorem dX12_readsAll_43 : decode cX12_readsAll 43 = .ok (.bipush 59, 2) := by decide +kernel
theorem dX12_readsAll_45 : decode cX12_readsAll 45 = .ok (.if_icmp .ne 21, 3) := by decide +kernel
theorem dX12_readsAll_48 : decode cX12_readsAll 48 = .ok (.aload_n 0, 1) := by decide +kernel
theorem dX12_readsAll_49 : decode cX12_readsAll 49 = .ok (.dup, 1) := by decide +kernel
theorem dX12_readsAll_50 : decode cX12_readsAll 50 = .ok (.getfield 99, 3) := by decide +kernel
theorem dX12_readsAll_53 : decode cX12_readsAll 53 = .ok (.iconst 1, 1) := by decide +kernel
theorem dX12_readsAll_54 : decode cX12_readsAll 54 = .ok (.iadd, 1) := by decide +kernel
theorem dX12_readsAll_55 : decode cX12_readsAll 55 = .ok (.putfield 99, 3) := by decide +kernel
theorem dX12_readsAll_58 : decode cX12_readsAll 58 = .ok (.aload_n 0, 1) := by decide +kernel
theorem dX12_readsAll_59 : decode cX12_readsAll 59 = .ok (.invokevirtual 267, 3) := by decide +kernel
theorem dX12_readsAll_62 : decode cX12_readsAll 62 = .ok (.istore_n 1, 1) := by decide +kernel
theorem dX12_readsAll_63 : decode cX12_readsAll 63 = .ok (.goto (-28), 3) := by decide +kernel
theorem dX12_readsAll_66 : decode cX12_readsAll 66 = .ok (.iload_n 1, 1) := by decide +kernel
theorem dX12_readsAll_67 : decode cX12_readsAll 67 = .ok (.ifCond .eq 21, 3) := by decide +kernel
theorem dX12_readsAll_70 : decode cX12_readsAll 70 = .ok (.aload_n 0, 1) := by decide +kernel
theorem dX12_readsAll_71 : decode cX12_readsAll 71 = .ok (.invokevirtual 102, 3) := by decide +kernel
theorem dX12_readsAll_74 : decode cX12_readsAll 74 = .ok (.iconst (-1), 1) := by decide +kernel
theorem dX12_readsAll_75 : decode cX12_readsAll 75 = .ok (.if_icmp .eq 13, 3) := by decide +kernel
theorem dX12_readsAll_78 : decode cX12_readsAll 78 = .ok (.aload_n 0, 1) := by decide +kernel
theorem dX12_readsAll_79 : decode cX12_readsAll 79 = .ok (.iconst 0, 1) := by decide +kernel
theorem dX12_readsAll_80 : decode cX12_readsAll 80 = .ok (.aload_n 0, 1) := by decide +kernel
theorem dX12_readsAll_81 : decode cX12_readsAll 81 = .ok (.getfield 99, 3) := by decide +kernel
theorem dX12_readsAll_84 : decode cX12_readsAll 84 = .ok (.invokevirtual 120, 3) := by decide +kernel
theorem dX12_readsAll_87 : decode cX12_readsAll 87 = .ok (.pop, 1) := by decide +kernel
theorem dX12_readsAll_88 : decode cX12_readsAll 88 = .ok (.aload_n 0, 1) := by decide +kernel
theorem dX12_readsAll_89 : decode cX12_readsAll 89 = .ok (.iconst 0, 1) := by decide +kernel
theorem dX12_readsAll_90 : decode cX12_readsAll 90 = .ok (.putfield 89, 3) := by decide +kernel
theorem dX12_readsAll_93 : decode cX12_readsAll 93 = .ok (.aload_n 0, 1) := by decide +kernel
theorem dX12_readsAll_94 : decode cX12_readsAll 94 = .ok (.getfield 96, 3) := by decide +kernel
theorem dX12_readsAll_97 : decode cX12_readsAll 97 = .ok (.ifCond .ne 7, 3) := by decide +kernel
theorem dX12_readsAll_100 : decode cX12_readsAll 100 = .ok (.iconst 1, 1) := by decide +kernel
theorem dX12_readsAll_101 : decode cX12_readsAll 101 = .ok (.goto 4, 3) := by decide +kernel
theorem dX12_readsAll_104 : decode cX12_readsAll 104 = .ok (.iconst 0, 1) := by decide +kernel
theorem dX12_readsAll_105 : decode cX12_readsAll 105 = .ok (.ireturn, 1) := by decide +kernel
theorem dX12_rule_0 : decode cX12_rule 0 = .ok (.aload_n 0, 1) := by decide +kernel
theorem dX12_rule_1 : decode cX12_rule 1 = .ok (.getfield 270, 3) := by decide +kernel
theorem dX12_rule_4 : decode cX12_rule 4 = .ok (.bipush 6, 2) := by decide +kernel
theorem dX12_rule_6 : decode cX12_rule 6 = .ok (.if_icmp .ne 5, 3) := by decide +kernel
theorem dX12_rule_9 : decode cX12_rule 9 = .ok (.iconst (-1), 1) := by decide +kernel
theorem dX12_rule_10 : decode cX12_rule 10 = .ok (.ireturn, 1) := by decide +kernel
theorem dX12_rule_11 : decode cX12_rule 11 = .ok (.aload_n 0, 1) := by decide +kernel
theorem dX12_rule_12 : decode cX12_rule 12 = .ok (.aload_n 0, 1) := by decide +kernel
theorem dX12_rule_13 : decode cX12_rule 13 = .ok (.getfield 270, 3) := by decide +kernel
theorem dX12_rule_16 : decode cX12_rule 16 = .ok (.putfield 153, 3) := by decide +kernel
theorem dX12_rule_19 : decode cX12_rule 19 = .ok (.aload_n 0, 1) := by decide +kernel
theorem dX12_rule_20 : decode cX12_rule 20 = .ok (.getfield 23, 3) := by decide +kernel
theorem dX12_rule_23 : decode cX12_rule 23 = .ok (.aload_n 0, 1) := by decide +kernel
theorem dX12_rule_24 : decode cX12_rule 24 = .ok (.getfield 153, 3) := by decide +kernel
theorem dX12_rule_27 : decode cX12_rule 27 = .ok (.iconst 0, 1) := by decide +kernel
theorem dX12_rule_28 : decode cX12_rule 28 = .ok (.iastore, 1) := by decide +kernel
theorem dX12_rule_29 : decode cX12_rule 29 = .ok (.aload_n 0, 1) := by decide +kernel
theorem dX12_rule_30 : decode cX12_rule 30 = .ok (.invokevirtual 273, 3) := by decide +kernel
theorem dX12_rule_33 : decode cX12_rule 33 = .ok (.ifCond .ne 11, 3) := by decide +kernel
theorem dX12_rule_36 : decode cX12_rule 36 = .ok (.bipush (-2), 2) := by decide +kernel
theorem dX12_rule_38 : decode cX12_rule 38 = .ok (.aload_n 0, 1) := by decide +kernel
theorem dX12_rule_39 : decode cX12_rule 39 = .ok (.getfield 96, 3) := by decide +kernel
theorem dX12_rule_42 : decode cX12_rule 42 = .ok (.isub, 1) := by decide +kernel
theorem dX12_rule_43 : decode cX12_rule 43 = .ok (.ireturn, 1) := by decide +kernel
theorem dX12_rule_44 : decode cX12_rule 44 = .ok (.aload_n 0, 1) := by decide +kernel
theorem dX12_rule_45 : decode cX12_rule 45 = .ok (.dup, 1) := by decide +kernel
theorem dX12_rule_46 : decode cX12_rule 46 = .ok (.getfield 270, 3) := by decide +kernel
theorem dX12_rule_49 : decode cX12_rule 49 = .ok (.iconst 1, 1) := by decide +kernel
theorem dX12_rule_50 : decode cX12_rule 50 = .ok (.iadd, 1) := by decide +kernel
theorem dX12_rule_51 : decode cX12_rule 51 = .ok (.putfield 270, 3) := by decide +kernel
theorem dX12_rule_54 : decode cX12_rule 54 = .ok (.aload_n 0, 1) := by decide +kernel
theorem dX12_rule_55 : decode cX12_rule 55 = .ok (.getfield 270, 3) := by decide +kernel
theorem dX12_rule_58 : decode cX12_rule 58 = .ok (.iconst 1, 1) := by decide +kernel
theorem dX12_rule_59 : decode cX12_rule 59 = .ok (.isub, 1) := by decide +kernel
theorem dX12_rule_60 : decode cX12_rule 60 = .ok (.ireturn, 1) := by decide +kernel
theorem dX12_isle_0 : decode cX12_isle 0 = .ok (.aload_n 0, 1) := by decide +kernel
theorem dX12_isle_1 : decode cX12_isle 1 = .ok (.bipush 6, 2) := by decide +kernel
theorem dX12_isle_3 : decode cX12_isle 3 = .ok (.putfield 153, 3) := by decide +kernel
theorem dX12_isle_6 : decode cX12_isle 6 = .ok (.iconst 0, 1) := by decide +kernel
theorem dX12_isle_7 : decode cX12_isle 7 = .ok (.istore_n 1, 1) := by decide +kernel
theorem dX12_isle_8 : decode cX12_isle 8 = .ok (.iload_n 1, 1) := by decide +kernel
theorem dX12_isle_9 : decode cX12_isle 9 = .ok (.sipush 153, 3) := by decide +kernel
theorem dX12_isle_12 : decode cX12_isle 12 = .ok (.if_icmp .ge 16, 3) := by decide +kernel
theorem dX12_isle_15 : decode cX12_isle 15 = .ok (.aload_n 0, 1) := by decide +kernel
theorem dX12_isle_16 : decode cX12_isle 16 = .ok (.getfield 26, 3) := by decide +kernel
theorem dX12_isle_19 : decode cX12_isle 19 = .ok (.iload_n 1, 1) := by decide +kernel
theorem dX12_isle_20 : decode cX12_isle 20 = .ok (.iconst 0, 1) := by decide +kernel
theorem dX12_isle_21 : decode cX12_isle 21 = .ok (.iastore, 1) := by decide +kernel
theorem dX12_isle_22 : decode cX12_isle 22 = .ok (.iinc 1 1, 3) := by decide +kernel
theorem dX12_isle_25 : decode cX12_isle 25 = .ok (.goto (-17), 3) := by decide +kernel
theorem dX12_isle_28 : decode cX12_isle 28 = .ok (.aload_n 0, 1) := by decide +kernel
theorem dX12_isle_29 : decode cX12_isle 29 = .ok (.invokevirtual 273, 3) := by decide +kernel
theorem dX12_isle_32 : decode cX12_isle 32 = .ok (.ifCond .ne 11, 3) := by decide +kernel
theorem dX12_isle_35 : decode cX12_isle 35 = .ok (.bipush (-2), 2) := by decide +kernel
theorem dX12_isle_37 : decode cX12_isle 37 = .ok (.aload_n 0, 1) := by decide +kernel
theorem dX12_isle_38 : decode cX12_isle 38 = .ok (.getfield 96, 3) := by decide +kernel
theorem dX12_isle_41 : decode cX12_isle 41 = .ok (.isub, 1) := by decide +kernel
theorem dX12_isle_42 : decode cX12_isle 42 = .ok (.ireturn, 1) := by decide +kernel
theorem dX12_isle_43 : decode cX12_isle 43 = .ok (.iconst 0, 1) := by decide +kernel
theorem dX12_isle_44 : decode cX12_isle 44 = .ok (.istore_n 1, 1) := by decide +kernel
theorem dX12_isle_45 : decode cX12_isle 45 = .ok (.iload_n 1, 1) := by decide +kernel
theorem dX12_isle_46 : decode cX12_isle 46 = .ok (.sipush 184, 3) := by decide +kernel
theorem dX12_isle_49 : decode cX12_isle 49 = .ok (.if_icmp .ge 32, 3) := by decide +kernel
theorem dX12_isle_52 : decode cX12_isle 52 = .ok (.aload_n 0, 1) := by decide +kernel
theorem dX12_isle_53 : decode cX12_isle 53 = .ok (.getfield 39, 3) := by decide +kernel
theorem dX12_isle_56 : decode cX12_isle 56 = .ok (.iload_n 1, 1) := by decide +kernel
theorem dX12_isle_57 : decode cX12_isle 57 = .ok (.iload_n 1, 1) := by decide +kernel
theorem dX12_isle_58 : decode cX12_isle 58 = .ok (.sipush 153, 3) := by decide +kernel
theorem dX12_isle_61 : decode cX12_isle 61 = .ok (.if_icmp .ge 12, 3) := by decide +kernel
theorem dX12_isle_64 : decode cX12_isle 64 = .ok (.aload_n 0, 1) := by decide +kernel
theorem dX12_isle_65 : decode cX12_isle 65 = .ok (.getfield 26, 3) := by decide +kernel
theorem dX12_isle_68 : decode cX12_isle 68 = .ok (.iload_n 1, 1) := by decide +kernel
theorem dX12_isle_69 : decode cX12_isle 69 = .ok (.iaload, 1) := by decide +kernel
theorem dX12_isle_70 : decode cX12_isle 70 = .ok (.goto 4, 3) := by decide +kernel
theorem dX12_isle_73 : decode cX12_isle 73 = .ok (.iconst 0, 1) := by decide +kernel
theorem dX12_isle_74 : decode cX12_isle 74 = .ok (.iastore, 1) := by decide +kernel
theorem dX12_isle_75 : decode cX12_isle 75 = .ok (.iinc 1 1, 3) := by decide +kernel
theorem dX12_isle_78 : decode cX12_isle 78 = .ok (.goto (-33), 3) := by decide +kernel
theorem dX12_isle_81 : decode cX12_isle 81 = .ok (.iconst 0, 1) := by decide +kernel
theorem dX12_isle_82 : decode cX12_isle 82 = .ok (.istore_n 1, 1) := by decide +kernel
theorem dX12_isle_83 : decode cX12_isle 83 = .ok (.iload_n 1, 1) := by decide +kernel
theorem dX12_isle_84 : decode cX12_isle 84 = .ok (.bipush 32, 2) := by decide +kernel
theorem dX12_isle_86 : decode cX12_isle 86 = .ok (.if_icmp .ge 39, 3) := by decide +kernel
theorem dX12_isle_89 : decode cX12_isle 89 = .ok (.aload_n 0, 1) := by decide +kernel
theorem dX12_isle_90 : decode cX12_isle 90 = .ok (.getfield 39, 3) := by decide +kernel
theorem dX12_isle_93 : decode cX12_isle 93 = .ok (.bipush 78, 2) := by decide +kernel
theorem dX12_isle_95 : decode cX12_isle 95 = .ok (.iload_n 1, 1) := by decide +kernel
theorem dX12_isle_96 : decode cX12_isle 96 = .ok (.iadd, 1) := by decide +kernel
theorem dX12_isle_97 : decode cX12_isle 97 = .ok (.iaload, 1) := by decide +kernel
theorem dX12_isle_98 : decode cX12_isle 98 = .ok (.ifCond .ge 21, 3) := by decide +kernel
theorem dX12_isle_101 : decode cX12_isle 101 = .ok (.aload_n 0, 1) := by decide +kernel
theorem dX12_isle_102 : decode cX12_isle 102 = .ok (.getfield 39, 3) := by decide +kernel
theorem dX12_isle_105 : decode cX12_isle 105 = .ok (.bipush 78, 2) := by decide +kernel
theorem dX12_isle_107 : decode cX12_isle 107 = .ok (.iload_n 1, 1) := by decide +kernel
theorem dX12_isle_108 : decode cX12_isle 108 = .ok (.iadd, 1) := by decide +kernel
theorem dX12_isle_109 : decode cX12_isle 109 = .ok (.aload_n 0, 1) := by decide +kernel
theorem dX12_isle_110 : decode cX12_isle 110 = .ok (.getfield 39, 3) := by decide +kernel
theorem dX12_isle_113 : decode cX12_isle 113 = .ok (.bipush 110, 2) := by decide +kernel
theorem dX12_isle_115 : decode cX12_isle 115 = .ok (.iload_n 1, 1) := by decide +kernel
theorem dX12_isle_116 : decode cX12_isle 116 = .ok (.iadd, 1) := by decide +kernel
theorem dX12_isle_117 : decode cX12_isle 117 = .ok (.iaload, 1) := by decide +kernel
theorem dX12_isle_118 : decode cX12_isle 118 = .ok (.iastore, 1) := by decide +kernel
theorem dX12_isle_119 : decode cX12_isle 119 = .ok (.iinc 1 1, 3) := by decide +kernel
theorem dX12_isle_122 : decode cX12_isle 122 = .ok (.goto (-39), 3) := by decide +kernel
theorem dX12_isle_125 : decode cX12_isle 125 = .ok (.aload_n 0, 1) := by decide +kernel
theorem dX12_isle_126 : decode cX12_isle 126 = .ok (.invokevirtual 276, 3) := by decide +kernel
theorem dX12_isle_129 : decode cX12_isle 129 = .ok (.aload_n 0, 1) := by decide +kernel
theorem dX12_isle_130 : decode cX12_isle 130 = .ok (.iconst 0, 1) := by decide +kernel
theorem dX12_isle_131 : decode cX12_isle 131 = .ok (.putfield 279, 3) := by decide +kernel
theorem dX12_isle_134 : decode cX12_isle 134 = .ok (.aload_n 0, 1) := by decide +kernel
theorem dX12_isle_135 : decode cX12_isle 135 = .ok (.getfield 39, 3) := by decide +kernel
theorem dX12_isle_138 : decode cX12_isle 138 = .ok (.iconst 3, 1) := by decide +kernel
theorem dX12_isle_139 : decode cX12_isle 139 = .ok (.iaload, 1) := by decide +kernel
theorem dX12_isle_140 : decode cX12_isle 140 = .ok (.ireturn, 1) := by decide +kernel
theorem dX12_isRule_0 : decode cX12_isRule 0 = .ok (.iload_n 1, 1) := by decide +kernel
theorem dX12_isRule_1 : decode cX12_isRule 1 = .ok (.ifCond .lt 15, 3) := by decide +kernel
theorem dX12_isRule_4 : decode cX12_isRule 4 = .ok (.iload_n 1, 1) := by decide +kernel
theorem dX12_isRule_5 : decode cX12_isRule 5 = .ok (.aload_n 0, 1) := by decide +kernel
theorem dX12_isRule_6 : decode cX12_isRule 6 = .ok (.getfield 270, 3) := by decide +kernel
theorem dX12_isRule_9 : decode cX12_isRule 9 = .ok (.if_icmp .ge 7, 3) := by decide +kernel
theorem dX12_isRule_12 : decode cX12_isRule 12 = .ok (.iconst 1, 1) := by decide +kernel
theorem dX12_isRule_13 : decode cX12_isRule 13 = .ok (.goto 4, 3) := by decide +kernel
theorem dX12_isRule_16 : decode cX12_isRule 16 = .ok (.iconst 0, 1) := by decide +kernel
theorem dX12_isRule_17 : decode cX12_isRule 17 = .ok (.ireturn, 1) := by decide +kernel
theorem dX12_push_0 : decode cX12_push 0 = .ok (.aload_n 0, 1) := by decide +kernel
theorem dX12_push_1 : decode cX12_push 1 = .ok (.getfield 32, 3) := by decide +kernel
theorem dX12_push_4 : decode cX12_push 4 = .ok (.aload_n 0, 1) := by decide +kernel
theorem dX12_push_5 : decode cX12_push 5 = .ok (.getfield 282, 3) := by decide +kernel
theorem dX12_push_8 : decode cX12_push 8 = .ok (.lload_n 1, 1) := by decide +kernel
theorem dX12_push_9 : decode cX12_push 9 = .ok (.lastore, 1) := by decide +kernel
theorem dX12_push_10 : decode cX12_push 10 = .ok (.aload_n 0, 1) := by decide +kernel
theorem dX12_push_11 : decode cX12_push 11 = .ok (.dup, 1) := by decide +kernel
theorem dX12_push_12 : decode cX12_push 12 = .ok (.getfield 282, 3) := by decide +kernel
theorem dX12_push_15 : decode cX12_push 15 = .ok (.iconst 1, 1) := by decide +kernel
theorem dX12_push_16 : decode cX12_push 16 = .ok (.iadd, 1) := by decide +kernel
theorem dX12_push_17 : decode cX12_push 17 = .ok (.putfield 282, 3) := by decide +kernel
theorem dX12_push_20 : decode cX12_push 20 = .ok (.return_, 1) := by decide +kernel
theorem dX12_pop_0 : decode cX12_pop 0 = .ok (.aload_n 0, 1) := by decide +kernel
theorem dX12_pop_1 : decode cX12_pop 1 = .ok (.dup, 1) := by decide +kernel
theorem dX12_pop_2 : decode cX12_pop 2 = .ok (.getfield 282, 3) := by decide +kernel
theorem dX12_pop_5 : decode cX12_pop 5 = .ok (.iconst 1, 1) := by decide +kernel
theorem dX12_pop_6 : decode cX12_pop 6 = .ok (.isub, 1) := by decide +kernel
theorem dX12_pop_7 : decode cX12_pop 7 = .ok (.putfield 282, 3) := by decide +kernel
theorem dX12_pop_10 : decode cX12_pop 10 = .ok (.aload_n 0, 1) := by decide +kernel
theorem dX12_pop_11 : decode cX12_pop 11 = .ok (.getfield 32, 3) := by decide +kernel
theorem dX12_pop_14 : decode cX12_pop 14 = .ok (.aload_n 0, 1) := by decide +kernel
theorem dX12_pop_15 : decode cX12_pop 15 = .ok (.getfield 282, 3) := by decide +kernel
theorem dX12_pop_18 : decode cX12_pop 18 = .ok (.laload, 1) := by decide +kernel
theorem dX12_pop_19 : decode cX12_pop 19 = .ok (.lreturn, 1) := by decide +kernel
theorem dX12_one_0 : decode cX12_one 0 = .ok (.iload_n 0, 1) := by decide +kernel
theorem dX12_one_1 : decode cX12_one 1 = .ok (.tableswitch 171 2 14 #[67, 71, 75, 79, 107, 119, 131, 143, 155, 171, 167, 171, 93], 67) := by decide +kernel
theorem dX12_one_68 : decode cX12_one 68 = .ok (.lload_n 1, 1) := by decide +kernel
theorem dX12_one_69 : decode cX12_one 69 = .ok (.lload_n 3, 1) := by decide +kernel
theorem dX12_one_70 : decode cX12_one 70 = .ok (.ladd, 1) := by decide +kernel
theorem dX12_one_71 : decode cX12_one 71 = .ok (.lreturn, 1) := by decide +kernel
theorem dX12_one_72 : decode cX12_one 72 = .ok (.lload_n 1, 1) := by decide +kernel
theorem dX12_one_73 : decode cX12_one 73 = .ok (.lload_n 3, 1) := by decide +kernel
theorem dX12_one_74 : decode cX12_one 74 = .ok (.lsub, 1) := by decide +kernel
theorem dX12_one_75 : decode cX12_one 75 = .ok (.lreturn, 1) := by decide +kernel
theorem dX12_one_76 : decode cX12_one 76 = .ok (.lload_n 1, 1) := by decide +kernel
theorem dX12_one_77 : decode cX12_one 77 = .ok (.lload_n 3, 1) := by decide +kernel
theorem dX12_one_78 : decode cX12_one 78 = .ok (.lmul, 1) := by decide +kernel
theorem dX12_one_79 : decode cX12_one 79 = .ok (.lreturn, 1) := by decide +kernel
theorem dX12_one_80 : decode cX12_one 80 = .ok (.lload_n 3, 1) := by decide +kernel
theorem dX12_one_81 : decode cX12_one 81 = .ok (.lconst 0, 1) := by decide +kernel
theorem dX12_one_82 : decode cX12_one 82 = .ok (.lcmp, 1) := by decide +kernel
theorem dX12_one_83 : decode cX12_one 83 = .ok (.ifCond .ne 7, 3) := by decide +kernel
theorem dX12_one_86 : decode cX12_one 86 = .ok (.lconst 0, 1) := by decide +kernel
theorem dX12_one_87 : decode cX12_one 87 = .ok (.goto 6, 3) := by decide +kernel
theorem dX12_one_90 : decode cX12_one 90 = .ok (.lload_n 1, 1) := by decide +kernel
theorem dX12_one_91 : decode cX12_one 91 = .ok (.lload_n 3, 1) := by decide +kernel
theorem dX12_one_92 : decode cX12_one 92 = .ok (.ldiv, 1) := by decide +kernel
theorem dX12_one_93 : decode cX12_one 93 = .ok (.lreturn, 1) := by decide +kernel
theorem dX12_one_94 : decode cX12_one 94 = .ok (.lload_n 3, 1) := by decide +kernel
theorem dX12_one_95 : decode cX12_one 95 = .ok (.lconst 0, 1) := by decide +kernel
theorem dX12_one_96 : decode cX12_one 96 = .ok (.lcmp, 1) := by decide +kernel
theorem dX12_one_97 : decode cX12_one 97 = .ok (.ifCond .ne 7, 3) := by decide +kernel
theorem dX12_one_100 : decode cX12_one 100 = .ok (.lconst 0, 1) := by decide +kernel
theorem dX12_one_101 : decode cX12_one 101 = .ok (.goto 6, 3) := by decide +kernel
theorem dX12_one_104 : decode cX12_one 104 = .ok (.lload_n 1, 1) := by decide +kernel
theorem dX12_one_105 : decode cX12_one 105 = .ok (.lload_n 3, 1) := by decide +kernel
theorem dX12_one_106 : decode cX12_one 106 = .ok (.lrem, 1) := by decide +kernel
theorem dX12_one_107 : decode cX12_one 107 = .ok (.lreturn, 1) := by decide +kernel
theorem dX12_one_108 : decode cX12_one 108 = .ok (.lload_n 1, 1) := by decide +kernel
theorem dX12_one_109 : decode cX12_one 109 = .ok (.lload_n 3, 1) := by decide +kernel
theorem dX12_one_110 : decode cX12_one 110 = .ok (.lcmp, 1) := by decide +kernel
theorem dX12_one_111 : decode cX12_one 111 = .ok (.ifCond .ge 7, 3) := by decide +kernel
theorem dX12_one_114 : decode cX12_one 114 = .ok (.lconst 1, 1) := by decide +kernel
theorem dX12_one_115 : decode cX12_one 115 = .ok (.goto 4, 3) := by decide +kernel
theorem dX12_one_118 : decode cX12_one 118 = .ok (.lconst 0, 1) := by decide +kernel
theorem dX12_one_119 : decode cX12_one 119 = .ok (.lreturn, 1) := by decide +kernel
theorem dX12_one_120 : decode cX12_one 120 = .ok (.lload_n 1, 1) := by decide +kernel
theorem dX12_one_121 : decode cX12_one 121 = .ok (.lload_n 3, 1) := by decide +kernel
theorem dX12_one_122 : decode cX12_one 122 = .ok (.lcmp, 1) := by decide +kernel
theorem dX12_one_123 : decode cX12_one 123 = .ok (.ifCond .gt 7, 3) := by decide +kernel
theorem dX12_one_126 : decode cX12_one 126 = .ok (.lconst 1, 1) := by decide +kernel
theorem dX12_one_127 : decode cX12_one 127 = .ok (.goto 4, 3) := by decide +kernel
theorem dX12_one_130 : decode cX12_one 130 = .ok (.lconst 0, 1) := by decide +kernel
theorem dX12_one_131 : decode cX12_one 131 = .ok (.lreturn, 1) := by decide +kernel
theorem dX12_one_132 : decode cX12_one 132 = .ok (.lload_n 1, 1) := by decide +kernel
theorem dX12_one_133 : decode cX12_one 133 = .ok (.lload_n 3, 1) := by decide +kernel
theorem dX12_one_134 : decode cX12_one 134 = .ok (.lcmp, 1) := by decide +kernel
theorem dX12_one_135 : decode cX12_one 135 = .ok (.ifCond .ne 7, 3) := by decide +kernel
theorem dX12_one_138 : decode cX12_one 138 = .ok (.lconst 1, 1) := by decide +kernel
theorem dX12_one_139 : decode cX12_one 139 = .ok (.goto 4, 3) := by decide +kernel
theorem dX12_one_142 : decode cX12_one 142 = .ok (.lconst 0, 1) := by decide +kernel
theorem dX12_one_143 : decode cX12_one 143 = .ok (.lreturn, 1) := by decide +kernel
theorem dX12_one_144 : decode cX12_one 144 = .ok (.lload_n 1, 1) := by decide +kernel
theorem dX12_one_145 : decode cX12_one 145 = .ok (.lload_n 3, 1) := by decide +kernel
theorem dX12_one_146 : decode cX12_one 146 = .ok (.lcmp, 1) := by decide +kernel
theorem dX12_one_147 : decode cX12_one 147 = .ok (.ifCond .lt 7, 3) := by decide +kernel
theorem dX12_one_150 : decode cX12_one 150 = .ok (.lconst 1, 1) := by decide +kernel
theorem dX12_one_151 : decode cX12_one 151 = .ok (.goto 4, 3) := by decide +kernel
theorem dX12_one_154 : decode cX12_one 154 = .ok (.lconst 0, 1) := by decide +kernel
theorem dX12_one_155 : decode cX12_one 155 = .ok (.lreturn, 1) := by decide +kernel
theorem dX12_one_156 : decode cX12_one 156 = .ok (.lload_n 1, 1) := by decide +kernel
theorem dX12_one_157 : decode cX12_one 157 = .ok (.lload_n 3, 1) := by decide +kernel
theorem dX12_one_158 : decode cX12_one 158 = .ok (.lcmp, 1) := by decide +kernel
theorem dX12_one_159 : decode cX12_one 159 = .ok (.ifCond .le 7, 3) := by decide +kernel
theorem dX12_one_162 : decode cX12_one 162 = .ok (.lconst 1, 1) := by decide +kernel
theorem dX12_one_163 : decode cX12_one 163 = .ok (.goto 4, 3) := by decide +kernel
theorem dX12_one_166 : decode cX12_one 166 = .ok (.lconst 0, 1) := by decide +kernel
theorem dX12_one_167 : decode cX12_one 167 = .ok (.lreturn, 1) := by decide +kernel
theorem dX12_one_168 : decode cX12_one 168 = .ok (.lload_n 1, 1) := by decide +kernel
theorem dX12_one_169 : decode cX12_one 169 = .ok (.lload_n 3, 1) := by decide +kernel
theorem dX12_one_170 : decode cX12_one 170 = .ok (.land, 1) := by decide +kernel
theorem dX12_one_171 : decode cX12_one 171 = .ok (.lreturn, 1) := by decide +kernel
theorem dX12_one_172 : decode cX12_one 172 = .ok (.lload_n 1, 1) := by decide +kernel
theorem dX12_one_173 : decode cX12_one 173 = .ok (.lload_n 3, 1) := by decide +kernel
theorem dX12_one_174 : decode cX12_one 174 = .ok (.lor, 1) := by decide +kernel
theorem dX12_one_175 : decode cX12_one 175 = .ok (.lreturn, 1) := by decide +kernel
theorem dX12_reckons_0 : decode cX12_reckons 0 = .ok (.aload_n 0, 1) := by decide +kernel
theorem dX12_reckons_1 : decode cX12_reckons 1 = .ok (.iconst 0, 1) := by decide +kernel
theorem dX12_reckons_2 : decode cX12_reckons 2 = .ok (.putfield 282, 3) := by decide +kernel
theorem dX12_reckons_5 : decode cX12_reckons 5 = .ok (.iload_n 2, 1) := by decide +kernel
theorem dX12_reckons_6 : decode cX12_reckons 6 = .ok (.istore 4, 2) := by decide +kernel
theorem dX12_reckons_8 : decode cX12_reckons 8 = .ok (.iload 4, 2) := by decide +kernel
theorem dX12_reckons_10 : decode cX12_reckons 10 = .ok (.iload_n 3, 1) := by decide +kernel
theorem dX12_reckons_11 : decode cX12_reckons 11 = .ok (.if_icmp .ge 124, 3) := by decide +kernel
theorem dX12_reckons_14 : decode cX12_reckons 14 = .ok (.aload_n 0, 1) := by decide +kernel
theorem dX12_reckons_15 : decode cX12_reckons 15 = .ok (.getfield 13, 3) := by decide +kernel
theorem dX12_reckons_18 : decode cX12_reckons 18 = .ok (.sipush 400, 3) := by decide +kernel
theorem dX12_reckons_21 : decode cX12_reckons 21 = .ok (.iload_n 1, 1) := by decide +kernel
theorem dX12_reckons_22 : decode cX12_reckons 22 = .ok (.imul, 1) := by decide +kernel
theorem dX12_reckons_23 : decode cX12_reckons 23 = .ok (.iload 4, 2) := by decide +kernel
theorem dX12_reckons_25 : decode cX12_reckons 25 = .ok (.iadd, 1) := by decide +kernel
theorem dX12_reckons_26 : decode cX12_reckons 26 = .ok (.iaload, 1) := by decide +kernel
theorem dX12_reckons_27 : decode cX12_reckons 27 = .ok (.bipush 15, 2) := by decide +kernel
theorem dX12_reckons_29 : decode cX12_reckons 29 = .ok (.iand, 1) := by decide +kernel
theorem dX12_reckons_30 : decode cX12_reckons 30 = .ok (.istore 5, 2) := by decide +kernel
theorem dX12_reckons_32 : decode cX12_reckons 32 = .ok (.aload_n 0, 1) := by decide +kernel
theorem dX12_reckons_33 : decode cX12_reckons 33 = .ok (.getfield 13, 3) := by decide +kernel
theorem dX12_reckons_36 : decode cX12_reckons 36 = .ok (.sipush 400, 3) := by decide +kernel
theorem dX12_reckons_39 : decode cX12_reckons 39 = .ok (.iload_n 1, 1) := by decide +kernel
theorem dX12_reckons_40 : decode cX12_reckons 40 = .ok (.imul, 1) := by decide +kernel
theorem dX12_reckons_41 : decode cX12_reckons 41 = .ok (.iload 4, 2) := by decide +kernel
theorem dX12_reckons_43 : decode cX12_reckons 43 = .ok (.iadd, 1) := by decide +kernel
theorem dX12_reckons_44 : decode cX12_reckons 44 = .ok (.iaload, 1) := by decide +kernel
theorem dX12_reckons_45 : decode cX12_reckons 45 = .ok (.iconst 4, 1) := by decide +kernel
theorem dX12_reckons_46 : decode cX12_reckons 46 = .ok (.ishr, 1) := by decide +kernel
theorem dX12_reckons_47 : decode cX12_reckons 47 = .ok (.istore 6, 2) := by decide +kernel
theorem dX12_reckons_49 : decode cX12_reckons 49 = .ok (.iload 5, 2) := by decide +kernel
theorem dX12_reckons_51 : decode cX12_reckons 51 = .ok (.ifCond .ne 13, 3) := by decide +kernel
theorem dX12_reckons_54 : decode cX12_reckons 54 = .ok (.aload_n 0, 1) := by decide +kernel
theorem dX12_reckons_55 : decode cX12_reckons 55 = .ok (.iload 6, 2) := by decide +kernel
theorem dX12_reckons_57 : decode cX12_reckons 57 = .ok (.i2l, 1) := by decide +kernel
theorem dX12_reckons_58 : decode cX12_reckons 58 = .ok (.invokevirtual 285, 3) := by decide +kernel
theorem dX12_reckons_61 : decode cX12_reckons 61 = .ok (.goto 68, 3) := by decide +kernel
theorem dX12_reckons_64 : decode cX12_reckons 64 = .ok (.iload 5, 2) := by decide +kernel
theorem dX12_reckons_66 : decode cX12_reckons 66 = .ok (.iconst 1, 1) := by decide +kernel
theorem dX12_reckons_67 : decode cX12_reckons 67 = .ok (.if_icmp .ne 17, 3) := by decide +kernel
theorem dX12_reckons_70 : decode cX12_reckons 70 = .ok (.aload_n 0, 1) := by decide +kernel
theorem dX12_reckons_71 : decode cX12_reckons 71 = .ok (.aload_n 0, 1) := by decide +kernel
theorem dX12_reckons_72 : decode cX12_reckons 72 = .ok (.getfield 36, 3) := by decide +kernel
theorem dX12_reckons_75 : decode cX12_reckons 75 = .ok (.iload 6, 2) := by decide +kernel
theorem dX12_reckons_77 : decode cX12_reckons 77 = .ok (.laload, 1) := by decide +kernel
theorem dX12_reckons_78 : decode cX12_reckons 78 = .ok (.invokevirtual 285, 3) := by decide +kernel
theorem dX12_reckons_81 : decode cX12_reckons 81 = .ok (.goto 48, 3) := by decide +kernel
theorem dX12_reckons_84 : decode cX12_reckons 84 = .ok (.iload 5, 2) := by decide +kernel
theorem dX12_reckons_86 : decode cX12_reckons 86 = .ok (.bipush 11, 2) := by decide +kernel
theorem dX12_reckons_88 : decode cX12_reckons 88 = .ok (.if_icmp .ne 16, 3) := by decide +kernel
theorem dX12_reckons_91 : decode cX12_reckons 91 = .ok (.aload_n 0, 1) := by decide +kernel
theorem dX12_reckons_92 : decode cX12_reckons 92 = .ok (.lconst 1, 1) := by decide +kernel
theorem dX12_reckons_93 : decode cX12_reckons 93 = .ok (.aload_n 0, 1) := by decide +kernel
theorem dX12_reckons_94 : decode cX12_reckons 94 = .ok (.invokevirtual 289, 3) := by decide +kernel
theorem dX12_reckons_97 : decode cX12_reckons 97 = .ok (.lsub, 1) := by decide +kernel
theorem dX12_reckons_98 : decode cX12_reckons 98 = .ok (.invokevirtual 285, 3) := by decide +kernel
theorem dX12_reckons_101 : decode cX12_reckons 101 = .ok (.goto 28, 3) := by decide +kernel
theorem dX12_reckons_104 : decode cX12_reckons 104 = .ok (.aload_n 0, 1) := by decide +kernel
theorem dX12_reckons_105 : decode cX12_reckons 105 = .ok (.invokevirtual 289, 3) := by decide +kernel
theorem dX12_reckons_108 : decode cX12_reckons 108 = .ok (.lstore 7, 2) := by decide +kernel
theorem dX12_reckons_110 : decode cX12_reckons 110 = .ok (.aload_n 0, 1) := by decide +kernel
theorem dX12_reckons_111 : decode cX12_reckons 111 = .ok (.invokevirtual 289, 3) := by decide +kernel
theorem dX12_reckons_114 : decode cX12_reckons 114 = .ok (.lstore 9, 2) := by decide +kernel
theorem dX12_reckons_116 : decode cX12_reckons 116 = .ok (.aload_n 0, 1) := by decide +kernel
theorem dX12_reckons_117 : decode cX12_reckons 117 = .ok (.iload 5, 2) := by decide +kernel
theorem dX12_reckons_119 : decode cX12_reckons 119 = .ok (.lload 9, 2) := by decide +kernel
theorem dX12_reckons_121 : decode cX12_reckons 121 = .ok (.lload 7, 2) := by decide +kernel
theorem dX12_reckons_123 : decode cX12_reckons 123 = .ok (.invokestatic 293, 3) := by decide +kernel
theorem dX12_reckons_126 : decode cX12_reckons 126 = .ok (.invokevirtual 285, 3) := by decide +kernel
theorem dX12_reckons_129 : decode cX12_reckons 129 = .ok (.iinc 4 1, 3) := by decide +kernel
theorem dX12_reckons_132 : decode cX12_reckons 132 = .ok (.goto (-124), 3) := by decide +kernel
theorem dX12_reckons_135 : decode cX12_reckons 135 = .ok (.aload_n 0, 1) := by decide +kernel
theorem dX12_reckons_136 : decode cX12_reckons 136 = .ok (.invokevirtual 289, 3) := by decide +kernel
theorem dX12_reckons_139 : decode cX12_reckons 139 = .ok (.lreturn, 1) := by decide +kernel
theorem dX12_isIsle_0 : decode cX12_isIsle 0 = .ok (.aload_n 0, 1) := by decide +kernel
theorem dX12_isIsle_1 : decode cX12_isIsle 1 = .ok (.getfield 39, 3) := by decide +kernel
theorem dX12_isIsle_4 : decode cX12_isIsle 4 = .ok (.iconst 0, 1) := by decide +kernel
theorem dX12_isIsle_5 : decode cX12_isIsle 5 = .ok (.iaload, 1) := by decide +kernel
theorem dX12_isIsle_6 : decode cX12_isIsle 6 = .ok (.iconst 1, 1) := by decide +kernel
theorem dX12_isIsle_7 : decode cX12_isIsle 7 = .ok (.if_icmp .ne 7, 3) := by decide +kernel
theorem dX12_isIsle_10 : decode cX12_isIsle 10 = .ok (.iconst 1, 1) := by decide +kernel
theorem dX12_isIsle_11 : decode cX12_isIsle 11 = .ok (.goto 4, 3) := by decide +kernel
theorem dX12_isIsle_14 : decode cX12_isIsle 14 = .ok (.iconst 0, 1) := by decide +kernel
theorem dX12_isIsle_15 : decode cX12_isIsle 15 = .ok (.ireturn, 1) := by decide +kernel
theorem dX12_isEast_0 : decode cX12_isEast 0 = .ok (.iload_n 1, 1) := by decide +kernel
theorem dX12_isEast_1 : decode cX12_isEast 1 = .ok (.ifCond .lt 17, 3) := by decide +kernel
theorem dX12_isEast_4 : decode cX12_isEast 4 = .ok (.iload_n 1, 1) := by decide +kernel
theorem dX12_isEast_5 : decode cX12_isEast 5 = .ok (.aload_n 0, 1) := by decide +kernel
theorem dX12_isEast_6 : decode cX12_isEast 6 = .ok (.getfield 39, 3) := by decide +kernel
theorem dX12_isEast_9 : decode cX12_isEast 9 = .ok (.iconst 3, 1) := by decide +kernel
theorem dX12_isEast_10 : decode cX12_isEast 10 = .ok (.iaload, 1) := by decide +kernel
theorem dX12_isEast_11 : decode cX12_isEast 11 = .ok (.if_icmp .ge 7, 3) := by decide +kernel
theorem dX12_isEast_14 : decode cX12_isEast 14 = .ok (.iconst 1, 1) := by decide +kernel
theorem dX12_isEast_15 : decode cX12_isEast 15 = .ok (.goto 4, 3) := by decide +kernel
theorem dX12_isEast_18 : decode cX12_isEast 18 = .ok (.iconst 0, 1) := by decide +kernel
theorem dX12_isEast_19 : decode cX12_isEast 19 = .ok (.ireturn, 1) := by decide +kernel
theorem dX12_isWest_0 : decode cX12_isWest 0 = .ok (.iload_n 1, 1) := by decide +kernel
theorem dX12_isWest_1 : decode cX12_isWest 1 = .ok (.ifCond .lt 17, 3) := by decide +kernel
theorem dX12_isWest_4 : decode cX12_isWest 4 = .ok (.iload_n 1, 1) := by decide +kernel
theorem dX12_isWest_5 : decode cX12_isWest 5 = .ok (.aload_n 0, 1) := by decide +kernel
theorem dX12_isWest_6 : decode cX12_isWest 6 = .ok (.getfield 39, 3) := by decide +kernel
theorem dX12_isWest_9 : decode cX12_isWest 9 = .ok (.iconst 4, 1) := by decide +kernel
theorem dX12_isWest_10 : decode cX12_isWest 10 = .ok (.iaload, 1) := by decide +kernel
theorem dX12_isWest_11 : decode cX12_isWest 11 = .ok (.if_icmp .ge 7, 3) := by decide +kernel
theorem dX12_isWest_14 : decode cX12_isWest 14 = .ok (.iconst 1, 1) := by decide +kernel
theorem dX12_isWest_15 : decode cX12_isWest 15 = .ok (.goto 4, 3) := by decide +kernel
theorem dX12_isWest_18 : decode cX12_isWest 18 = .ok (.iconst 0, 1) := by decide +kernel
theorem dX12_isWest_19 : decode cX12_isWest 19 = .ok (.ireturn, 1) := by decide +kernel
theorem dX12_placeOf_0 : decode cX12_placeOf 0 = .ok (.bipush 11, 2) := by decide +kernel
theorem dX12_placeOf_2 : decode cX12_placeOf 2 = .ok (.bipush 16, 2) := by decide +kernel
theorem dX12_placeOf_4 : decode cX12_placeOf 4 = .ok (.iload_n 0, 1) := by decide +kernel
theorem dX12_placeOf_5 : decode cX12_placeOf 5 = .ok (.imul, 1) := by decide +kernel
theorem dX12_placeOf_6 : decode cX12_placeOf 6 = .ok (.iadd, 1) := by decide +kernel
theorem dX12_placeOf_7 : decode cX12_placeOf 7 = .ok (.iconst 4, 1) := by decide +kernel
theorem dX12_placeOf_8 : decode cX12_placeOf 8 = .ok (.iload_n 1, 1) := by decide +kernel
theorem dX12_placeOf_9 : decode cX12_placeOf 9 = .ok (.imul, 1) := by decide +kernel
theorem dX12_placeOf_10 : decode cX12_placeOf 10 = .ok (.iadd, 1) := by decide +kernel
theorem dX12_placeOf_11 : decode cX12_placeOf 11 = .ok (.ireturn, 1) := by decide +kernel
theorem dX12_personOf_0 : decode cX12_personOf 0 = .ok (.aload_n 0, 1) := by decide +kernel
theorem dX12_personOf_1 : decode cX12_personOf 1 = .ok (.getfield 39, 3) := by decide +kernel
theorem dX12_personOf_4 : decode cX12_personOf 4 = .ok (.iload_n 1, 1) := by decide +kernel
theorem dX12_personOf_5 : decode cX12_personOf 5 = .ok (.iload_n 2, 1) := by decide +kernel
theorem dX12_personOf_6 : decode cX12_personOf 6 = .ok (.invokestatic 297, 3) := by decide +kernel
theorem dX12_personOf_9 : decode cX12_personOf 9 = .ok (.iload_n 3, 1) := by decide +kernel
theorem dX12_personOf_10 : decode cX12_personOf 10 = .ok (.iadd, 1) := by decide +kernel
theorem dX12_personOf_11 : decode cX12_personOf 11 = .ok (.iaload, 1) := by decide +kernel
theorem dX12_personOf_12 : decode cX12_personOf 12 = .ok (.ireturn, 1) := by decide +kernel
theorem dX12_isFree_0 : decode cX12_isFree 0 = .ok (.aload_n 0, 1) := by decide +kernel
theorem dX12_isFree_1 : decode cX12_isFree 1 = .ok (.iload_n 1, 1) := by decide +kernel
theorem dX12_isFree_2 : decode cX12_isFree 2 = .ok (.iload_n 2, 1) := by decide +kernel
theorem dX12_isFree_3 : decode cX12_isFree 3 = .ok (.iconst 1, 1) := by decide +kernel
theorem dX12_isFree_4 : decode cX12_isFree 4 = .ok (.invokevirtual 301, 3) := by decide +kernel
theorem dX12_isFree_7 : decode cX12_isFree 7 = .ok (.ifCond .ge 7, 3) := by decide +kernel
theorem dX12_isFree_10 : decode cX12_isFree 10 = .ok (.iconst 1, 1) := by decide +kernel
theorem dX12_isFree_11 : decode cX12_isFree 11 = .ok (.goto 4, 3) := by decide +kernel
theorem dX12_isFree_14 : decode cX12_isFree 14 = .ok (.iconst 0, 1) := by decide +kernel
theorem dX12_isFree_15 : decode cX12_isFree 15 = .ok (.ireturn, 1) := by decide +kernel
theorem dX12_likesOf_0 : decode cX12_likesOf 0 = .ok (.aload_n 0, 1) := by decide +kernel
theorem dX12_likesOf_1 : decode cX12_likesOf 1 = .ok (.getfield 39, 3) := by decide +kernel
theorem dX12_likesOf_4 : decode cX12_likesOf 4 = .ok (.bipush 43, 2) := by decide +kernel
theorem dX12_likesOf_6 : decode cX12_likesOf 6 = .ok (.bipush 16, 2) := by decide +kernel
theorem dX12_likesOf_8 : decode cX12_likesOf 8 = .ok (.iload_n 1, 1) := by decide +kernel
theorem dX12_likesOf_9 : decode cX12_likesOf 9 = .ok (.imul, 1) := by decide +kernel
theorem dX12_likesOf_10 : decode cX12_likesOf 10 = .ok (.iadd, 1) := by decide +kernel
theorem dX12_likesOf_11 : decode cX12_likesOf 11 = .ok (.iload_n 1, 1) := by decide +kernel
theorem dX12_likesOf_12 : decode cX12_likesOf 12 = .ok (.ifCond .ne 11, 3) := by decide +kernel
theorem dX12_likesOf_15 : decode cX12_likesOf 15 = .ok (.iconst 4, 1) := by decide +kernel
theorem dX12_likesOf_16 : decode cX12_likesOf 16 = .ok (.iload_n 2, 1) := by decide +kernel
theorem dX12_likesOf_17 : decode cX12_likesOf 17 = .ok (.imul, 1) := by decide +kernel
theorem dX12_likesOf_18 : decode cX12_likesOf 18 = .ok (.iload_n 3, 1) := by decide +kernel
theorem dX12_likesOf_19 : decode cX12_likesOf 19 = .ok (.iadd, 1) := by decide +kernel
theorem dX12_likesOf_20 : decode cX12_likesOf 20 = .ok (.goto 8, 3) := by decide +kernel
theorem dX12_likesOf_23 : decode cX12_likesOf 23 = .ok (.iconst 4, 1) := by decide +kernel
theorem dX12_likesOf_24 : decode cX12_likesOf 24 = .ok (.iload_n 3, 1) := by decide +kernel
theorem dX12_likesOf_25 : decode cX12_likesOf 25 = .ok (.imul, 1) := by decide +kernel
theorem dX12_likesOf_26 : decode cX12_likesOf 26 = .ok (.iload_n 2, 1) := by decide +kernel
theorem dX12_likesOf_27 : decode cX12_likesOf 27 = .ok (.iadd, 1) := by decide +kernel
theorem dX12_likesOf_28 : decode cX12_likesOf 28 = .ok (.iadd, 1) := by decide +kernel
theorem dX12_likesOf_29 : decode cX12_likesOf 29 = .ok (.iaload, 1) := by decide +kernel
theorem dX12_likesOf_30 : decode cX12_likesOf 30 = .ok (.ireturn, 1) := by decide +kernel
theorem dX12_areFond_0 : decode cX12_areFond 0 = .ok (.aload_n 0, 1) := by decide +kernel
theorem dX12_areFond_1 : decode cX12_areFond 1 = .ok (.iconst 0, 1) := by decide +kernel
theorem dX12_areFond_2 : decode cX12_areFond 2 = .ok (.iload_n 1, 1) := by decide +kernel
theorem dX12_areFond_3 : decode cX12_areFond 3 = .ok (.iload_n 2, 1) := by decide +kernel
theorem dX12_areFond_4 : decode cX12_areFond 4 = .ok (.invokevirtual 305, 3) := by decide +kernel
theorem dX12_areFond_7 : decode cX12_areFond 7 = .ok (.ifCond .le 17, 3) := by decide +kernel
theorem dX12_areFond_10 : decode cX12_areFond 10 = .ok (.aload_n 0, 1) := by decide +kernel
theorem dX12_areFond_11 : decode cX12_areFond 11 = .ok (.iconst 1, 1) := by decide +kernel
theorem dX12_areFond_12 : decode cX12_areFond 12 = .ok (.iload_n 2, 1) := by decide +kernel
theorem dX12_areFond_13 : decode cX12_areFond 13 = .ok (.iload_n 1, 1) := by decide +kernel
theorem dX12_areFond_14 : decode cX12_areFond 14 = .ok (.invokevirtual 305, 3) := by decide +kernel
theorem dX12_areFond_17 : decode cX12_areFond 17 = .ok (.ifCond .le 7, 3) := by decide +kernel
theorem dX12_areFond_20 : decode cX12_areFond 20 = .ok (.iconst 1, 1) := by decide +kernel
theorem dX12_areFond_21 : decode cX12_areFond 21 = .ok (.goto 4, 3) := by decide +kernel
theorem dX12_areFond_24 : decode cX12_areFond 24 = .ok (.iconst 0, 1) := by decide +kernel
theorem dX12_areFond_25 : decode cX12_areFond 25 = .ok (.ireturn, 1) := by decide +kernel
theorem dX12_isLate_0 : decode cX12_isLate 0 = .ok (.iload_n 1, 1) := by decide +kernel
theorem dX12_isLate_1 : decode cX12_isLate 1 = .ok (.bipush 60, 2) := by decide +kernel
theorem dX12_isLate_3 : decode cX12_isLate 3 = .ok (.if_icmp .gt 29, 3) := by decide +kernel
theorem dX12_isLate_6 : decode cX12_isLate 6 = .ok (.aload_n 0, 1) := by decide +kernel
theorem dX12_isLate_7 : decode cX12_isLate 7 = .ok (.getfield 39, 3) := by decide +kernel
theorem dX12_isLate_10 : decode cX12_isLate 10 = .ok (.bipush 75, 2) := by decide +kernel
theorem dX12_isLate_12 : decode cX12_isLate 12 = .ok (.iload_n 1, 1) := by decide +kernel
theorem dX12_isLate_13 : decode cX12_isLate 13 = .ok (.bipush 21, 2) := by decide +kernel
theorem dX12_isLate_15 : decode cX12_isLate 15 = .ok (.idiv, 1) := by decide +kernel
theorem dX12_isLate_16 : decode cX12_isLate 16 = .ok (.iadd, 1) := by decide +kernel
theorem dX12_isLate_17 : decode cX12_isLate 17 = .ok (.iaload, 1) := by decide +kernel
theorem dX12_isLate_18 : decode cX12_isLate 18 = .ok (.iload_n 1, 1) := by decide +kernel
theorem dX12_isLate_19 : decode cX12_isLate 19 = .ok (.bipush 21, 2) := by decide +kernel
theorem dX12_isLate_21 : decode cX12_isLate 21 = .ok (.irem, 1) := by decide +kernel
theorem dX12_isLate_22 : decode cX12_isLate 22 = .ok (.invokestatic 308, 3) := by decide +kernel
theorem dX12_isLate_25 : decode cX12_isLate 25 = .ok (.ifCond .eq 7, 3) := by decide +kernel
theorem dX12_isLate_28 : decode cX12_isLate 28 = .ok (.iconst 1, 1) := by decide +kernel
theorem dX12_isLate_29 : decode cX12_isLate 29 = .ok (.goto 4, 3) := by decide +kernel
theorem dX12_isLate_32 : decode cX12_isLate 32 = .ok (.iconst 0, 1) := by decide +kernel
theorem dX12_isLate_33 : decode cX12_isLate 33 = .ok (.ireturn, 1) := by decide +kernel
theorem dX12_isLateNow_0 : decode cX12_isLateNow 0 = .ok (.aload_n 0, 1) := by decide +kernel
theorem dX12_isLateNow_1 : decode cX12_isLateNow 1 = .ok (.getfield 311, 3) := by decide +kernel
theorem dX12_isLateNow_4 : decode cX12_isLateNow 4 = .ok (.ifCond .ne 17, 3) := by decide +kernel
theorem dX12_isLateNow_7 : decode cX12_isLateNow 7 = .ok (.aload_n 0, 1) := by decide +kernel
theorem dX12_isLateNow_8 : decode cX12_isLateNow 8 = .ok (.aload_n 0, 1) := by decide +kernel
theorem dX12_isLateNow_9 : decode cX12_isLateNow 9 = .ok (.getfield 39, 3) := by decide +kernel
theorem dX12_isLateNow_12 : decode cX12_isLateNow 12 = .ok (.bipush 10, 2) := by decide +kernel
theorem dX12_isLateNow_14 : decode cX12_isLateNow 14 = .ok (.iaload, 1) := by decide +kernel
theorem dX12_isLateNow_15 : decode cX12_isLateNow 15 = .ok (.invokevirtual 315, 3) := by decide +kernel
theorem dX12_isLateNow_18 : decode cX12_isLateNow 18 = .ok (.ifCond .eq 7, 3) := by decide +kernel
theorem dX12_isLateNow_21 : decode cX12_isLateNow 21 = .ok (.iconst 1, 1) := by decide +kernel
theorem dX12_isLateNow_22 : decode cX12_isLateNow 22 = .ok (.goto 4, 3) := by decide +kernel
theorem dX12_isLateNow_25 : decode cX12_isLateNow 25 = .ok (.iconst 0, 1) := by decide +kernel
theorem dX12_isLateNow_26 : decode cX12_isLateNow 26 = .ok (.ireturn, 1) := by decide +kernel
theorem dX12_joinedOf_0 : decode cX12_joinedOf 0 = .ok (.iconst 0, 1) := by decide +kernel
theorem dX12_joinedOf_1 : decode cX12_joinedOf 1 = .ok (.istore_n 2, 1) := by decide +kernel
theorem dX12_joinedOf_2 : decode cX12_joinedOf 2 = .ok (.iconst 0, 1) := by decide +kernel
theorem dX12_joinedOf_3 : decode cX12_joinedOf 3 = .ok (.istore_n 3, 1) := by decide +kernel
theorem dX12_joinedOf_4 : decode cX12_joinedOf 4 = .ok (.iload_n 3, 1) := by decide +kernel
theorem dX12_joinedOf_5 : decode cX12_joinedOf 5 = .ok (.aload_n 0, 1) := by decide +kernel
theorem dX12_joinedOf_6 : decode cX12_joinedOf 6 = .ok (.getfield 39, 3) := by decide +kernel
theorem dX12_joinedOf_9 : decode cX12_joinedOf 9 = .ok (.iconst 3, 1) := by decide +kernel
theorem dX12_joinedOf_10 : decode cX12_joinedOf 10 = .ok (.iload_n 1, 1) := by decide +kernel
theorem dX12_joinedOf_11 : decode cX12_joinedOf 11 = .ok (.iadd, 1) := by decide +kernel
theorem dX12_joinedOf_12 : decode cX12_joinedOf 12 = .ok (.iaload, 1) := by decide +kernel
theorem dX12_joinedOf_13 : decode cX12_joinedOf 13 = .ok (.if_icmp .ge 28, 3) := by decide +kernel
theorem dX12_joinedOf_16 : decode cX12_joinedOf 16 = .ok (.iload_n 2, 1) := by decide +kernel
theorem dX12_joinedOf_17 : decode cX12_joinedOf 17 = .ok (.aload_n 0, 1) := by decide +kernel
theorem dX12_joinedOf_18 : decode cX12_joinedOf 18 = .ok (.iload_n 1, 1) := by decide +kernel
theorem dX12_joinedOf_19 : decode cX12_joinedOf 19 = .ok (.iload_n 3, 1) := by decide +kernel
theorem dX12_joinedOf_20 : decode cX12_joinedOf 20 = .ok (.invokevirtual 318, 3) := by decide +kernel
theorem dX12_joinedOf_23 : decode cX12_joinedOf 23 = .ok (.ifCond .eq 7, 3) := by decide +kernel
theorem dX12_joinedOf_26 : decode cX12_joinedOf 26 = .ok (.iconst 0, 1) := by decide +kernel
theorem dX12_joinedOf_27 : decode cX12_joinedOf 27 = .ok (.goto 6, 3) := by decide +kernel
theorem dX12_joinedOf_30 : decode cX12_joinedOf 30 = .ok (.iconst 1, 1) := by decide +kernel
theorem dX12_joinedOf_31 : decode cX12_joinedOf 31 = .ok (.iload_n 3, 1) := by decide +kernel
theorem dX12_joinedOf_32 : decode cX12_joinedOf 32 = .ok (.ishl, 1) := by decide +kernel
theorem dX12_joinedOf_33 : decode cX12_joinedOf 33 = .ok (.ior, 1) := by decide +kernel
theorem dX12_joinedOf_34 : decode cX12_joinedOf 34 = .ok (.istore_n 2, 1) := by decide +kernel
theorem dX12_joinedOf_35 : decode cX12_joinedOf 35 = .ok (.iinc 3 1, 3) := by decide +kernel
theorem dX12_joinedOf_38 : decode cX12_joinedOf 38 = .ok (.goto (-34), 3) := by decide +kernel
theorem dX12_joinedOf_41 : decode cX12_joinedOf 41 = .ok (.iload_n 2, 1) := by decide +kernel
theorem dX12_joinedOf_42 : decode cX12_joinedOf 42 = .ok (.ireturn, 1) := by decide +kernel
theorem dX12_begins_0 : decode cX12_begins 0 = .ok (.aload_n 0, 1) := by decide +kernel
theorem dX12_begins_1 : decode cX12_begins 1 = .ok (.getfield 39, 3) := by decide +kernel
theorem dX12_begins_4 : decode cX12_begins 4 = .ok (.bipush 10, 2) := by decide +kernel
theorem dX12_begins_6 : decode cX12_begins 6 = .ok (.iconst 0, 1) := by decide +kernel
theorem dX12_begins_7 : decode cX12_begins 7 = .ok (.iastore, 1) := by decide +kernel
theorem dX12_begins_8 : decode cX12_begins 8 = .ok (.iconst 0, 1) := by decide +kernel
theorem dX12_begins_9 : decode cX12_begins 9 = .ok (.istore_n 1, 1) := by decide +kernel
theorem dX12_begins_10 : decode cX12_begins 10 = .ok (.iload_n 1, 1) := by decide +kernel
theorem dX12_begins_11 : decode cX12_begins 11 = .ok (.bipush 8, 2) := by decide +kernel
theorem dX12_begins_13 : decode cX12_begins 13 = .ok (.if_icmp .ge 59, 3) := by decide +kernel
theorem dX12_begins_16 : decode cX12_begins 16 = .ok (.bipush 11, 2) := by decide +kernel
theorem dX12_begins_18 : decode cX12_begins 18 = .ok (.iconst 4, 1) := by decide +kernel
theorem dX12_begins_19 : decode cX12_begins 19 = .ok (.iload_n 1, 1) := by decide +kernel
theorem dX12_begins_20 : decode cX12_begins 20 = .ok (.imul, 1) := by decide +kernel
theorem dX12_begins_21 : decode cX12_begins 21 = .ok (.iadd, 1) := by decide +kernel
theorem dX12_begins_22 : decode cX12_begins 22 = .ok (.istore_n 2, 1) := by decide +kernel
theorem dX12_begins_23 : decode cX12_begins 23 = .ok (.aload_n 0, 1) := by decide +kernel
theorem dX12_begins_24 : decode cX12_begins 24 = .ok (.getfield 39, 3) := by decide +kernel
theorem dX12_begins_27 : decode cX12_begins 27 = .ok (.iload_n 2, 1) := by decide +kernel
theorem dX12_begins_28 : decode cX12_begins 28 = .ok (.aload_n 0, 1) := by decide +kernel
theorem dX12_begins_29 : decode cX12_begins 29 = .ok (.getfield 39, 3) := by decide +kernel
theorem dX12_begins_32 : decode cX12_begins 32 = .ok (.sipush 142, 3) := by decide +kernel
theorem dX12_begins_35 : decode cX12_begins 35 = .ok (.iload_n 1, 1) := by decide +kernel
theorem dX12_begins_36 : decode cX12_begins 36 = .ok (.iadd, 1) := by decide +kernel
theorem dX12_begins_37 : decode cX12_begins 37 = .ok (.iaload, 1) := by decide +kernel
theorem dX12_begins_38 : decode cX12_begins 38 = .ok (.iastore, 1) := by decide +kernel
theorem dX12_begins_39 : decode cX12_begins 39 = .ok (.aload_n 0, 1) := by decide +kernel
theorem dX12_begins_40 : decode cX12_begins 40 = .ok (.getfield 39, 3) := by decide +kernel
theorem dX12_begins_43 : decode cX12_begins 43 = .ok (.iload_n 2, 1) := by decide +kernel
theorem dX12_begins_44 : decode cX12_begins 44 = .ok (.iconst 1, 1) := by decide +kernel
theorem dX12_begins_45 : decode cX12_begins 45 = .ok (.iadd, 1) := by decide +kernel
theorem dX12_begins_46 : decode cX12_begins 46 = .ok (.iconst (-1), 1) := by decide +kernel
theorem dX12_begins_47 : decode cX12_begins 47 = .ok (.iastore, 1) := by decide +kernel
theorem dX12_begins_48 : decode cX12_begins 48 = .ok (.aload_n 0, 1) := by decide +kernel
theorem dX12_begins_49 : decode cX12_begins 49 = .ok (.getfield 39, 3) := by decide +kernel
theorem dX12_begins_52 : decode cX12_begins 52 = .ok (.iload_n 2, 1) := by decide +kernel
theorem dX12_begins_53 : decode cX12_begins 53 = .ok (.iconst 2, 1) := by decide +kernel
theorem dX12_begins_54 : decode cX12_begins 54 = .ok (.iadd, 1) := by decide +kernel
theorem dX12_begins_55 : decode cX12_begins 55 = .ok (.iconst 0, 1) := by decide +kernel
theorem dX12_begins_56 : decode cX12_begins 56 = .ok (.iastore, 1) := by decide +kernel
theorem dX12_begins_57 : decode cX12_begins 57 = .ok (.aload_n 0, 1) := by decide +kernel
theorem dX12_begins_58 : decode cX12_begins 58 = .ok (.getfield 39, 3) := by decide +kernel
theorem dX12_begins_61 : decode cX12_begins 61 = .ok (.iload_n 2, 1) := by decide +kernel
theorem dX12_begins_62 : decode cX12_begins 62 = .ok (.iconst 3, 1) := by decide +kernel
theorem dX12_begins_63 : decode cX12_begins 63 = .ok (.iadd, 1) := by decide +kernel
theorem dX12_begins_64 : decode cX12_begins 64 = .ok (.iconst 0, 1) := by decide +kernel
theorem dX12_begins_65 : decode cX12_begins 65 = .ok (.iastore, 1) := by decide +kernel
theorem dX12_begins_66 : decode cX12_begins 66 = .ok (.iinc 1 1, 3) := by decide +kernel
theorem dX12_begins_69 : decode cX12_begins 69 = .ok (.goto (-59), 3) := by decide +kernel
theorem dX12_begins_72 : decode cX12_begins 72 = .ok (.iconst 0, 1) := by decide +kernel
theorem dX12_begins_73 : decode cX12_begins 73 = .ok (.istore_n 1, 1) := by decide +kernel
theorem dX12_begins_74 : decode cX12_begins 74 = .ok (.iload_n 1, 1) := by decide +kernel
theorem dX12_begins_75 : decode cX12_begins 75 = .ok (.bipush 32, 2) := by decide +kernel
theorem dX12_begins_77 : decode cX12_begins 77 = .ok (.if_icmp .ge 27, 3) := by decide +kernel
theorem dX12_begins_80 : decode cX12_begins 80 = .ok (.aload_n 0, 1) := by decide +kernel
theorem dX12_begins_81 : decode cX12_begins 81 = .ok (.getfield 39, 3) := by decide +kernel
theorem dX12_begins_84 : decode cX12_begins 84 = .ok (.bipush 43, 2) := by decide +kernel
theorem dX12_begins_86 : decode cX12_begins 86 = .ok (.iload_n 1, 1) := by decide +kernel
theorem dX12_begins_87 : decode cX12_begins 87 = .ok (.iadd, 1) := by decide +kernel
theorem dX12_begins_88 : decode cX12_begins 88 = .ok (.aload_n 0, 1) := by decide +kernel
theorem dX12_begins_89 : decode cX12_begins 89 = .ok (.getfield 39, 3) := by decide +kernel
theorem dX12_begins_92 : decode cX12_begins 92 = .ok (.bipush 110, 2) := by decide +kernel
theorem dX12_begins_94 : decode cX12_begins 94 = .ok (.iload_n 1, 1) := by decide +kernel
theorem dX12_begins_95 : decode cX12_begins 95 = .ok (.iadd, 1) := by decide +kernel
theorem dX12_begins_96 : decode cX12_begins 96 = .ok (.iaload, 1) := by decide +kernel
theorem dX12_begins_97 : decode cX12_begins 97 = .ok (.iastore, 1) := by decide +kernel
theorem dX12_begins_98 : decode cX12_begins 98 = .ok (.iinc 1 1, 3) := by decide +kernel
theorem dX12_begins_101 : decode cX12_begins 101 = .ok (.goto (-27), 3) := by decide +kernel
theorem dX12_begins_104 : decode cX12_begins 104 = .ok (.iconst 0, 1) := by decide +kernel
theorem dX12_begins_105 : decode cX12_begins 105 = .ok (.istore_n 1, 1) := by decide +kernel
theorem dX12_begins_106 : decode cX12_begins 106 = .ok (.iload_n 1, 1) := by decide +kernel
theorem dX12_begins_107 : decode cX12_begins 107 = .ok (.iconst 3, 1) := by decide +kernel
theorem dX12_begins_108 : decode cX12_begins 108 = .ok (.if_icmp .ge 28, 3) := by decide +kernel
theorem dX12_begins_111 : decode cX12_begins 111 = .ok (.aload_n 0, 1) := by decide +kernel
theorem dX12_begins_112 : decode cX12_begins 112 = .ok (.getfield 39, 3) := by decide +kernel
theorem dX12_begins_115 : decode cX12_begins 115 = .ok (.bipush 75, 2) := by decide +kernel
theorem dX12_begins_117 : decode cX12_begins 117 = .ok (.iload_n 1, 1) := by decide +kernel
theorem dX12_begins_118 : decode cX12_begins 118 = .ok (.iadd, 1) := by decide +kernel
theorem dX12_begins_119 : decode cX12_begins 119 = .ok (.aload_n 0, 1) := by decide +kernel
theorem dX12_begins_120 : decode cX12_begins 120 = .ok (.getfield 39, 3) := by decide +kernel
theorem dX12_begins_123 : decode cX12_begins 123 = .ok (.sipush 150, 3) := by decide +kernel
theorem dX12_begins_126 : decode cX12_begins 126 = .ok (.iload_n 1, 1) := by decide +kernel
theorem dX12_begins_127 : decode cX12_begins 127 = .ok (.iadd, 1) := by decide +kernel
theorem dX12_begins_128 : decode cX12_begins 128 = .ok (.iaload, 1) := by decide +kernel
theorem dX12_begins_129 : decode cX12_begins 129 = .ok (.iastore, 1) := by decide +kernel
theorem dX12_begins_130 : decode cX12_begins 130 = .ok (.iinc 1 1, 3) := by decide +kernel
theorem dX12_begins_133 : decode cX12_begins 133 = .ok (.goto (-27), 3) := by decide +kernel
theorem dX12_begins_136 : decode cX12_begins 136 = .ok (.return_, 1) := by decide +kernel
theorem dX12_force_0 : decode cX12_force 0 = .ok (.iload_n 1, 1) := by decide +kernel
theorem dX12_force_1 : decode cX12_force 1 = .ok (.iconst (-1), 1) := by decide +kernel
theorem dX12_force_2 : decode cX12_force 2 = .ok (.if_icmp .eq 14, 3) := by decide +kernel
theorem dX12_force_5 : decode cX12_force 5 = .ok (.aload_n 0, 1) := by decide +kernel
theorem dX12_force_6 : decode cX12_force 6 = .ok (.iload_n 1, 1) := by decide +kernel
theorem dX12_force_7 : decode cX12_force 7 = .ok (.invokevirtual 321, 3) := by decide +kernel
theorem dX12_force_10 : decode cX12_force 10 = .ok (.ifCond .ne 6, 3) := by decide +kernel
theorem dX12_force_13 : decode cX12_force 13 = .ok (.bipush (-2), 2) := by decide +kernel
theorem dX12_force_15 : decode cX12_force 15 = .ok (.ireturn, 1) := by decide +kernel
theorem dX12_force_16 : decode cX12_force 16 = .ok (.aload_n 0, 1) := by decide +kernel
theorem dX12_force_17 : decode cX12_force 17 = .ok (.getfield 42, 3) := by decide +kernel
theorem dX12_force_20 : decode cX12_force 20 = .ok (.istore_n 2, 1) := by decide +kernel
theorem dX12_force_21 : decode cX12_force 21 = .ok (.aload_n 0, 1) := by decide +kernel
theorem dX12_force_22 : decode cX12_force 22 = .ok (.iload_n 1, 1) := by decide +kernel
theorem dX12_force_23 : decode cX12_force 23 = .ok (.putfield 42, 3) := by decide +kernel
theorem dX12_force_26 : decode cX12_force 26 = .ok (.iload_n 2, 1) := by decide +kernel
theorem dX12_force_27 : decode cX12_force 27 = .ok (.ireturn, 1) := by decide +kernel
theorem dX12_east_0 : decode cX12_east 0 = .ok (.aload_n 0, 1) := by decide +kernel
theorem dX12_east_1 : decode cX12_east 1 = .ok (.iload_n 1, 1) := by decide +kernel
theorem dX12_east_2 : decode cX12_east 2 = .ok (.invokevirtual 324, 3) := by decide +kernel
theorem dX12_east_5 : decode cX12_east 5 = .ok (.ifCond .eq 25, 3) := by decide +kernel
theorem dX12_east_8 : decode cX12_east 8 = .ok (.iload_n 2, 1) := by decide +kernel
theorem dX12_east_9 : decode cX12_east 9 = .ok (.i2l, 1) := by decide +kernel
theorem dX12_east_10 : decode cX12_east 10 = .ok (.lconst 0, 1) := by decide +kernel
theorem dX12_east_11 : decode cX12_east 11 = .ok (.ldc2_w 327, 3) := by decide +kernel
theorem dX12_east_14 : decode cX12_east 14 = .ok (.invokestatic 127, 3) := by decide +kernel
theorem dX12_east_17 : decode cX12_east 17 = .ok (.ifCond .eq 13, 3) := by decide +kernel
theorem dX12_east_20 : decode cX12_east 20 = .ok (.aload_n 0, 1) := by decide +kernel
theorem dX12_east_21 : decode cX12_east 21 = .ok (.iconst 0, 1) := by decide +kernel
theorem dX12_east_22 : decode cX12_east 22 = .ok (.iload_n 1, 1) := by decide +kernel
theorem dX12_east_23 : decode cX12_east 23 = .ok (.iload_n 2, 1) := by decide +kernel
theorem dX12_east_24 : decode cX12_east 24 = .ok (.invokevirtual 301, 3) := by decide +kernel
theorem dX12_east_27 : decode cX12_east 27 = .ok (.goto 5, 3) := by decide +kernel
theorem dX12_east_30 : decode cX12_east 30 = .ok (.bipush (-2), 2) := by decide +kernel
theorem dX12_east_32 : decode cX12_east 32 = .ok (.ireturn, 1) := by decide +kernel
theorem dX12_west_0 : decode cX12_west 0 = .ok (.aload_n 0, 1) := by decide +kernel
theorem dX12_west_1 : decode cX12_west 1 = .ok (.iload_n 1, 1) := by decide +kernel
theorem dX12_west_2 : decode cX12_west 2 = .ok (.invokevirtual 329, 3) := by decide +kernel
theorem dX12_west_5 : decode cX12_west 5 = .ok (.ifCond .eq 25, 3) := by decide +kernel
theorem dX12_west_8 : decode cX12_west 8 = .ok (.iload_n 2, 1) := by decide +kernel
theorem dX12_west_9 : decode cX12_west 9 = .ok (.i2l, 1) := by decide +kernel
theorem dX12_west_10 : decode cX12_west 10 = .ok (.lconst 0, 1) := by decide +kernel
theorem dX12_west_11 : decode cX12_west 11 = .ok (.ldc2_w 327, 3) := by decide +kernel
theorem dX12_west_14 : decode cX12_west 14 = .ok (.invokestatic 127, 3) := by decide +kernel
theorem dX12_west_17 : decode cX12_west 17 = .ok (.ifCond .eq 13, 3) := by decide +kernel
theorem dX12_west_20 : decode cX12_west 20 = .ok (.aload_n 0, 1) := by decide +kernel
theorem dX12_west_21 : decode cX12_west 21 = .ok (.iconst 1, 1) := by decide +kernel
theorem dX12_west_22 : decode cX12_west 22 = .ok (.iload_n 1, 1) := by decide +kernel
theorem dX12_west_23 : decode cX12_west 23 = .ok (.iload_n 2, 1) := by decide +kernel
theorem dX12_west_24 : decode cX12_west 24 = .ok (.invokevirtual 301, 3) := by decide +kernel
theorem dX12_west_27 : decode cX12_west 27 = .ok (.goto 5, 3) := by decide +kernel
theorem dX12_west_30 : decode cX12_west 30 = .ok (.bipush (-2), 2) := by decide +kernel
theorem dX12_west_32 : decode cX12_west 32 = .ok (.ireturn, 1) := by decide +kernel
theorem dX12_likes_0 : decode cX12_likes 0 = .ok (.aload_n 0, 1) := by decide +kernel
theorem dX12_likes_1 : decode cX12_likes 1 = .ok (.iload_n 1, 1) := by decide +kernel
theorem dX12_likes_2 : decode cX12_likes 2 = .ok (.invokevirtual 324, 3) := by decide +kernel
theorem dX12_likes_5 : decode cX12_likes 5 = .ok (.ifCond .eq 23, 3) := by decide +kernel
theorem dX12_likes_8 : decode cX12_likes 8 = .ok (.aload_n 0, 1) := by decide +kernel
theorem dX12_likes_9 : decode cX12_likes 9 = .ok (.iload_n 2, 1) := by decide +kernel
theorem dX12_likes_10 : decode cX12_likes 10 = .ok (.invokevirtual 329, 3) := by decide +kernel
theorem dX12_likes_13 : decode cX12_likes 13 = .ok (.ifCond .eq 15, 3) := by decide +kernel
theorem dX12_likes_16 : decode cX12_likes 16 = .ok (.iload_n 3, 1) := by decide +kernel
theorem dX12_likes_17 : decode cX12_likes 17 = .ok (.i2l, 1) := by decide +kernel
theorem dX12_likes_18 : decode cX12_likes 18 = .ok (.lconst 0, 1) := by decide +kernel
theorem dX12_likes_19 : decode cX12_likes 19 = .ok (.ldc2_w 327, 3) := by decide +kernel
theorem dX12_likes_22 : decode cX12_likes 22 = .ok (.invokestatic 127, 3) := by decide +kernel
theorem dX12_likes_25 : decode cX12_likes 25 = .ok (.ifCond .ne 5, 3) := by decide +kernel
theorem dX12_likes_28 : decode cX12_likes 28 = .ok (.iconst (-1), 1) := by decide +kernel
theorem dX12_likes_29 : decode cX12_likes 29 = .ok (.ireturn, 1) := by decide +kernel
theorem dX12_likes_30 : decode cX12_likes 30 = .ok (.aload_n 0, 1) := by decide +kernel
theorem dX12_likes_31 : decode cX12_likes 31 = .ok (.getfield 39, 3) := by decide +kernel
theorem dX12_likes_34 : decode cX12_likes 34 = .ok (.iload_n 3, 1) := by decide +kernel
theorem dX12_likes_35 : decode cX12_likes 35 = .ok (.iconst 2, 1) := by decide +kernel
theorem dX12_likes_36 : decode cX12_likes 36 = .ok (.if_icmp .ge 8, 3) := by decide +kernel
theorem dX12_likes_39 : decode cX12_likes 39 = .ok (.bipush 43, 2) := by decide +kernel
theorem dX12_likes_41 : decode cX12_likes 41 = .ok (.goto 5, 3) := by decide +kernel
theorem dX12_likes_44 : decode cX12_likes 44 = .ok (.bipush 78, 2) := by decide +kernel
theorem dX12_likes_46 : decode cX12_likes 46 = .ok (.bipush 16, 2) := by decide +kernel
theorem dX12_likes_48 : decode cX12_likes 48 = .ok (.iload_n 3, 1) := by decide +kernel
theorem dX12_likes_49 : decode cX12_likes 49 = .ok (.iconst 2, 1) := by decide +kernel
theorem dX12_likes_50 : decode cX12_likes 50 = .ok (.irem, 1) := by decide +kernel
theorem dX12_likes_51 : decode cX12_likes 51 = .ok (.imul, 1) := by decide +kernel
theorem dX12_likes_52 : decode cX12_likes 52 = .ok (.iadd, 1) := by decide +kernel
theorem dX12_likes_53 : decode cX12_likes 53 = .ok (.iconst 4, 1) := by decide +kernel
theorem dX12_likes_54 : decode cX12_likes 54 = .ok (.iload_n 1, 1) := by decide +kernel
theorem dX12_likes_55 : decode cX12_likes 55 = .ok (.imul, 1) := by decide +kernel
theorem dX12_likes_56 : decode cX12_likes 56 = .ok (.iadd, 1) := by decide +kernel
theorem dX12_likes_57 : decode cX12_likes 57 = .ok (.iload_n 2, 1) := by decide +kernel
theorem dX12_likes_58 : decode cX12_likes 58 = .ok (.iadd, 1) := by decide +kernel
theorem dX12_likes_59 : decode cX12_likes 59 = .ok (.iaload, 1) := by decide +kernel
theorem dX12_likes_60 : decode cX12_likes 60 = .ok (.ireturn, 1) := by decide +kernel
theorem dX12_pays_0 : decode cX12_pays 0 = .ok (.aload_n 0, 1) := by decide +kernel
theorem dX12_pays_1 : decode cX12_pays 1 = .ok (.getfield 39, 3) := by decide +kernel
theorem dX12_pays_4 : decode cX12_pays 4 = .ok (.iload_n 1, 1) := by decide +kernel
theorem dX12_pays_5 : decode cX12_pays 5 = .ok (.dup2, 1) := by decide +kernel
theorem dX12_pays_6 : decode cX12_pays 6 = .ok (.iaload, 1) := by decide +kernel
theorem dX12_pays_7 : decode cX12_pays 7 = .ok (.iload_n 3, 1) := by decide +kernel
theorem dX12_pays_8 : decode cX12_pays 8 = .ok (.isub, 1) := by decide +kernel
theorem dX12_pays_9 : decode cX12_pays 9 = .ok (.iastore, 1) := by decide +kernel
theorem dX12_pays_10 : decode cX12_pays 10 = .ok (.aload_n 0, 1) := by decide +kernel
theorem dX12_pays_11 : decode cX12_pays 11 = .ok (.getfield 39, 3) := by decide +kernel
theorem dX12_pays_14 : decode cX12_pays 14 = .ok (.iload_n 2, 1) := by decide +kernel
theorem dX12_pays_15 : decode cX12_pays 15 = .ok (.aload_n 0, 1) := by decide +kernel
theorem dX12_pays_16 : decode cX12_pays 16 = .ok (.getfield 39, 3) := by decide +kernel
theorem dX12_pays_19 : decode cX12_pays 19 = .ok (.iload_n 2, 1) := by decide +kernel
theorem dX12_pays_20 : decode cX12_pays 20 = .ok (.iaload, 1) := by decide +kernel
theorem dX12_pays_21 : decode cX12_pays 21 = .ok (.iload_n 3, 1) := by decide +kernel
theorem dX12_pays_22 : decode cX12_pays 22 = .ok (.iadd, 1) := by decide +kernel
theorem dX12_pays_23 : decode cX12_pays 23 = .ok (.sipush 9999, 3) := by decide +kernel
theorem dX12_pays_26 : decode cX12_pays 26 = .ok (.if_icmp .le 9, 3) := by decide +kernel
theorem dX12_pays_29 : decode cX12_pays 29 = .ok (.sipush 9999, 3) := by decide +kernel
theorem dX12_pays_32 : decode cX12_pays 32 = .ok (.goto 11, 3) := by decide +kernel
theorem dX12_pays_35 : decode cX12_pays 35 = .ok (.aload_n 0, 1) := by decide +kernel
theorem dX12_pays_36 : decode cX12_pays 36 = .ok (.getfield 39, 3) := by decide +kernel
theorem dX12_pays_39 : decode cX12_pays 39 = .ok (.iload_n 2, 1) := by decide +kernel
theorem dX12_pays_40 : decode cX12_pays 40 = .ok (.iaload, 1) := by decide +kernel
theorem dX12_pays_41 : decode cX12_pays 41 = .ok (.iload_n 3, 1) := by decide +kernel
theorem dX12_pays_42 : decode cX12_pays 42 = .ok (.iadd, 1) := by decide +kernel
theorem dX12_pays_43 : decode cX12_pays 43 = .ok (.iastore, 1) := by decide +kernel
theorem dX12_pays_44 : decode cX12_pays 44 = .ok (.return_, 1) := by decide +kernel
theorem dX12_joins_0 : decode cX12_joins 0 = .ok (.iconst 0, 1) := by decide +kernel
theorem dX12_joins_1 : decode cX12_joins 1 = .ok (.iload_n 1, 1) := by decide +kernel
theorem dX12_joins_2 : decode cX12_joins 2 = .ok (.invokestatic 297, 3) := by decide +kernel
theorem dX12_joins_5 : decode cX12_joins 5 = .ok (.istore_n 3, 1) := by decide +kernel
theorem dX12_joins_6 : decode cX12_joins 6 = .ok (.iconst 1, 1) := by decide +kernel
theorem dX12_joins_7 : decode cX12_joins 7 = .ok (.iload_n 2, 1) := by decide +kernel
theorem dX12_joins_8 : decode cX12_joins 8 = .ok (.invokestatic 297, 3) := by decide +kernel
theorem dX12_joins_11 : decode cX12_joins 11 = .ok (.istore 4, 2) := by decide +kernel
theorem dX12_joins_13 : decode cX12_joins 13 = .ok (.aload_n 0, 1) := by decide +kernel
theorem dX12_joins_14 : decode cX12_joins 14 = .ok (.getfield 39, 3) := by decide +kernel
theorem dX12_joins_17 : decode cX12_joins 17 = .ok (.iload_n 3, 1) := by decide +kernel
theorem dX12_joins_18 : decode cX12_joins 18 = .ok (.iaload, 1) := by decide +kernel
theorem dX12_joins_19 : decode cX12_joins 19 = .ok (.aload_n 0, 1) := by decide +kernel
theorem dX12_joins_20 : decode cX12_joins 20 = .ok (.getfield 39, 3) := by decide +kernel
theorem dX12_joins_23 : decode cX12_joins 23 = .ok (.iconst 1, 1) := by decide +kernel
theorem dX12_joins_24 : decode cX12_joins 24 = .ok (.iaload, 1) := by decide +kernel
theorem dX12_joins_25 : decode cX12_joins 25 = .ok (.if_icmp .ge 12, 3) := by decide +kernel
theorem dX12_joins_28 : decode cX12_joins 28 = .ok (.aload_n 0, 1) := by decide +kernel
theorem dX12_joins_29 : decode cX12_joins 29 = .ok (.getfield 39, 3) := by decide +kernel
theorem dX12_joins_32 : decode cX12_joins 32 = .ok (.iload_n 3, 1) := by decide +kernel
theorem dX12_joins_33 : decode cX12_joins 33 = .ok (.iaload, 1) := by decide +kernel
theorem dX12_joins_34 : decode cX12_joins 34 = .ok (.goto 9, 3) := by decide +kernel
theorem dX12_joins_37 : decode cX12_joins 37 = .ok (.aload_n 0, 1) := by decide +kernel
theorem dX12_joins_38 : decode cX12_joins 38 = .ok (.getfield 39, 3) := by decide +kernel
theorem dX12_joins_41 : decode cX12_joins 41 = .ok (.iconst 1, 1) := by decide +kernel
theorem dX12_joins_42 : decode cX12_joins 42 = .ok (.iaload, 1) := by decide +kernel
theorem dX12_joins_43 : decode cX12_joins 43 = .ok (.istore 5, 2) := by decide +kernel
theorem dX12_joins_45 : decode cX12_joins 45 = .ok (.aload_n 0, 1) := by decide +kernel
theorem dX12_joins_46 : decode cX12_joins 46 = .ok (.iload_n 3, 1) := by decide +kernel
theorem dX12_joins_47 : decode cX12_joins 47 = .ok (.iload 4, 2) := by decide +kernel
theorem dX12_joins_49 : decode cX12_joins 49 = .ok (.iload 5, 2) := by decide +kernel
theorem dX12_joins_51 : decode cX12_joins 51 = .ok (.invokevirtual 332, 3) := by decide +kernel
theorem dX12_joins_54 : decode cX12_joins 54 = .ok (.aload_n 0, 1) := by decide +kernel
theorem dX12_joins_55 : decode cX12_joins 55 = .ok (.getfield 39, 3) := by decide +kernel
theorem dX12_joins_58 : decode cX12_joins 58 = .ok (.iload_n 3, 1) := by decide +kernel
theorem dX12_joins_59 : decode cX12_joins 59 = .ok (.iconst 1, 1) := by decide +kernel
theorem dX12_joins_60 : decode cX12_joins 60 = .ok (.iadd, 1) := by decide +kernel
theorem dX12_joins_61 : decode cX12_joins 61 = .ok (.iload_n 2, 1) := by decide +kernel
theorem dX12_joins_62 : decode cX12_joins 62 = .ok (.iastore, 1) := by decide +kernel
theorem dX12_joins_63 : decode cX12_joins 63 = .ok (.aload_n 0, 1) := by decide +kernel
theorem dX12_joins_64 : decode cX12_joins 64 = .ok (.getfield 39, 3) := by decide +kernel
theorem dX12_joins_67 : decode cX12_joins 67 = .ok (.iload 4, 2) := by decide +kernel
theorem dX12_joins_69 : decode cX12_joins 69 = .ok (.iconst 1, 1) := by decide +kernel
theorem dX12_joins_70 : decode cX12_joins 70 = .ok (.iadd, 1) := by decide +kernel
theorem dX12_joins_71 : decode cX12_joins 71 = .ok (.iload_n 1, 1) := by decide +kernel
theorem dX12_joins_72 : decode cX12_joins 72 = .ok (.iastore, 1) := by decide +kernel
theorem dX12_joins_73 : decode cX12_joins 73 = .ok (.aload_n 0, 1) := by decide +kernel
theorem dX12_joins_74 : decode cX12_joins 74 = .ok (.getfield 39, 3) := by decide +kernel
theorem dX12_joins_77 : decode cX12_joins 77 = .ok (.iload_n 3, 1) := by decide +kernel
theorem dX12_joins_78 : decode cX12_joins 78 = .ok (.iconst 2, 1) := by decide +kernel
theorem dX12_joins_79 : decode cX12_joins 79 = .ok (.iadd, 1) := by decide +kernel
theorem dX12_joins_80 : decode cX12_joins 80 = .ok (.iconst 0, 1) := by decide +kernel
theorem dX12_joins_81 : decode cX12_joins 81 = .ok (.iastore, 1) := by decide +kernel
theorem dX12_joins_82 : decode cX12_joins 82 = .ok (.aload_n 0, 1) := by decide +kernel
theorem dX12_joins_83 : decode cX12_joins 83 = .ok (.getfield 39, 3) := by decide +kernel
theorem dX12_joins_86 : decode cX12_joins 86 = .ok (.iload 4, 2) := by decide +kernel
theorem dX12_joins_88 : decode cX12_joins 88 = .ok (.iconst 2, 1) := by decide +kernel
theorem dX12_joins_89 : decode cX12_joins 89 = .ok (.iadd, 1) := by decide +kernel
theorem dX12_joins_90 : decode cX12_joins 90 = .ok (.iconst 0, 1) := by decide +kernel
theorem dX12_joins_91 : decode cX12_joins 91 = .ok (.iastore, 1) := by decide +kernel
theorem dX12_joins_92 : decode cX12_joins 92 = .ok (.aload_n 0, 1) := by decide +kernel
theorem dX12_joins_93 : decode cX12_joins 93 = .ok (.getfield 39, 3) := by decide +kernel
theorem dX12_joins_96 : decode cX12_joins 96 = .ok (.iload_n 3, 1) := by decide +kernel
theorem dX12_joins_97 : decode cX12_joins 97 = .ok (.iconst 3, 1) := by decide +kernel
theorem dX12_joins_98 : decode cX12_joins 98 = .ok (.iadd, 1) := by decide +kernel
theorem dX12_joins_99 : decode cX12_joins 99 = .ok (.dup2, 1) := by decide +kernel
theorem dX12_joins_100 : decode cX12_joins 100 = .ok (.iaload, 1) := by decide +kernel
theorem dX12_joins_101 : decode cX12_joins 101 = .ok (.iconst 1, 1) := by decide +kernel
theorem dX12_joins_102 : decode cX12_joins 102 = .ok (.iadd, 1) := by decide +kernel
theorem dX12_joins_103 : decode cX12_joins 103 = .ok (.iastore, 1) := by decide +kernel
theorem dX12_joins_104 : decode cX12_joins 104 = .ok (.aload_n 0, 1) := by decide +kernel
theorem dX12_joins_105 : decode cX12_joins 105 = .ok (.getfield 39, 3) := by decide +kernel
theorem dX12_joins_108 : decode cX12_joins 108 = .ok (.iload 4, 2) := by decide +kernel
theorem dX12_joins_110 : decode cX12_joins 110 = .ok (.iconst 3, 1) := by decide +kernel
theorem dX12_joins_111 : decode cX12_joins 111 = .ok (.iadd, 1) := by decide +kernel
theorem dX12_joins_112 : decode cX12_joins 112 = .ok (.dup2, 1) := by decide +kernel
theorem dX12_joins_113 : decode cX12_joins 113 = .ok (.iaload, 1) := by decide +kernel
theorem dX12_joins_114 : decode cX12_joins 114 = .ok (.iconst 1, 1) := by decide +kernel
theorem dX12_joins_115 : decode cX12_joins 115 = .ok (.iadd, 1) := by decide +kernel
theorem dX12_joins_116 : decode cX12_joins 116 = .ok (.iastore, 1) := by decide +kernel
theorem dX12_joins_117 : decode cX12_joins 117 = .ok (.iload 5, 2) := by decide +kernel
theorem dX12_joins_119 : decode cX12_joins 119 = .ok (.ireturn, 1) := by decide +kernel
theorem dX12_partsFrom_0 : decode cX12_partsFrom 0 = .ok (.iconst 0, 1) := by decide +kernel
theorem dX12_partsFrom_1 : decode cX12_partsFrom 1 = .ok (.iload_n 1, 1) := by decide +kernel
theorem dX12_partsFrom_2 : decode cX12_partsFrom 2 = .ok (.invokestatic 297, 3) := by decide +kernel
theorem dX12_partsFrom_5 : decode cX12_partsFrom 5 = .ok (.istore_n 2, 1) := by decide +kernel
theorem dX12_partsFrom_6 : decode cX12_partsFrom 6 = .ok (.iconst 1, 1) := by decide +kernel
theorem dX12_partsFrom_7 : decode cX12_partsFrom 7 = .ok (.aload_n 0, 1) := by decide +kernel
theorem dX12_partsFrom_8 : decode cX12_partsFrom 8 = .ok (.getfield 39, 3) := by decide +kernel
theorem dX12_partsFrom_11 : decode cX12_partsFrom 11 = .ok (.iload_n 2, 1) := by decide +kernel
theorem dX12_partsFrom_12 : decode cX12_partsFrom 12 = .ok (.iconst 1, 1) := by decide +kernel
theorem dX12_partsFrom_13 : decode cX12_partsFrom 13 = .ok (.iadd, 1) := by decide +kernel
theorem dX12_partsFrom_14 : decode cX12_partsFrom 14 = .ok (.iaload, 1) := by decide +kernel
theorem dX12_partsFrom_15 : decode cX12_partsFrom 15 = .ok (.invokestatic 297, 3) := by decide +kernel
theorem dX12_partsFrom_18 : decode cX12_partsFrom 18 = .ok (.istore_n 3, 1) := by decide +kernel
theorem dX12_partsFrom_19 : decode cX12_partsFrom 19 = .ok (.aload_n 0, 1) := by decide +kernel
theorem dX12_partsFrom_20 : decode cX12_partsFrom 20 = .ok (.getfield 39, 3) := by decide +kernel
theorem dX12_partsFrom_23 : decode cX12_partsFrom 23 = .ok (.iload_n 3, 1) := by decide +kernel
theorem dX12_partsFrom_24 : decode cX12_partsFrom 24 = .ok (.iaload, 1) := by decide +kernel
theorem dX12_partsFrom_25 : decode cX12_partsFrom 25 = .ok (.aload_n 0, 1) := by decide +kernel
theorem dX12_partsFrom_26 : decode cX12_partsFrom 26 = .ok (.getfield 39, 3) := by decide +kernel
theorem dX12_partsFrom_29 : decode cX12_partsFrom 29 = .ok (.iconst 1, 1) := by decide +kernel
theorem dX12_partsFrom_30 : decode cX12_partsFrom 30 = .ok (.iaload, 1) := by decide +kernel
theorem dX12_partsFrom_31 : decode cX12_partsFrom 31 = .ok (.iconst 2, 1) := by decide +kernel
theorem dX12_partsFrom_32 : decode cX12_partsFrom 32 = .ok (.idiv, 1) := by decide +kernel
theorem dX12_partsFrom_33 : decode cX12_partsFrom 33 = .ok (.if_icmp .ge 12, 3) := by decide +kernel
theorem dX12_partsFrom_36 : decode cX12_partsFrom 36 = .ok (.aload_n 0, 1) := by decide +kernel
theorem dX12_partsFrom_37 : decode cX12_partsFrom 37 = .ok (.getfield 39, 3) := by decide +kernel
theorem dX12_partsFrom_40 : decode cX12_partsFrom 40 = .ok (.iload_n 3, 1) := by decide +kernel
theorem dX12_partsFrom_41 : decode cX12_partsFrom 41 = .ok (.iaload, 1) := by decide +kernel
theorem dX12_partsFrom_42 : decode cX12_partsFrom 42 = .ok (.goto 11, 3) := by decide +kernel
theorem dX12_partsFrom_45 : decode cX12_partsFrom 45 = .ok (.aload_n 0, 1) := by decide +kernel
theorem dX12_partsFrom_46 : decode cX12_partsFrom 46 = .ok (.getfield 39, 3) := by decide +kernel
theorem dX12_partsFrom_49 : decode cX12_partsFrom 49 = .ok (.iconst 1, 1) := by decide +kernel
theorem dX12_partsFrom_50 : decode cX12_partsFrom 50 = .ok (.iaload, 1) := by decide +kernel
theorem dX12_partsFrom_51 : decode cX12_partsFrom 51 = .ok (.iconst 2, 1) := by decide +kernel
theorem dX12_partsFrom_52 : decode cX12_partsFrom 52 = .ok (.idiv, 1) := by decide +kernel
theorem dX12_partsFrom_53 : decode cX12_partsFrom 53 = .ok (.istore 4, 2) := by decide +kernel
theorem dX12_partsFrom_55 : decode cX12_partsFrom 55 = .ok (.aload_n 0, 1) := by decide +kernel
theorem dX12_partsFrom_56 : decode cX12_partsFrom 56 = .ok (.iload_n 3, 1) := by decide +kernel
theorem dX12_partsFrom_57 : decode cX12_partsFrom 57 = .ok (.iload_n 2, 1) := by decide +kernel
theorem dX12_partsFrom_58 : decode cX12_partsFrom 58 = .ok (.iload 4, 2) := by decide +kernel
theorem dX12_partsFrom_60 : decode cX12_partsFrom 60 = .ok (.invokevirtual 332, 3) := by decide +kernel
theorem dX12_partsFrom_63 : decode cX12_partsFrom 63 = .ok (.aload_n 0, 1) := by decide +kernel
theorem dX12_partsFrom_64 : decode cX12_partsFrom 64 = .ok (.getfield 39, 3) := by decide +kernel
theorem dX12_partsFrom_67 : decode cX12_partsFrom 67 = .ok (.iload_n 2, 1) := by decide +kernel
theorem dX12_partsFrom_68 : decode cX12_partsFrom 68 = .ok (.iconst 1, 1) := by decide +kernel
theorem dX12_partsFrom_69 : decode cX12_partsFrom 69 = .ok (.iadd, 1) := by decide +kernel
theorem dX12_partsFrom_70 : decode cX12_partsFrom 70 = .ok (.iconst (-1), 1) := by decide +kernel
theorem dX12_partsFrom_71 : decode cX12_partsFrom 71 = .ok (.iastore, 1) := by decide +kernel
theorem dX12_partsFrom_72 : decode cX12_partsFrom 72 = .ok (.aload_n 0, 1) := by decide +kernel
theorem dX12_partsFrom_73 : decode cX12_partsFrom 73 = .ok (.getfield 39, 3) := by decide +kernel
theorem dX12_partsFrom_76 : decode cX12_partsFrom 76 = .ok (.iload_n 3, 1) := by decide +kernel
theorem dX12_partsFrom_77 : decode cX12_partsFrom 77 = .ok (.iconst 1, 1) := by decide +kernel
theorem dX12_partsFrom_78 : decode cX12_partsFrom 78 = .ok (.iadd, 1) := by decide +kernel
theorem dX12_partsFrom_79 : decode cX12_partsFrom 79 = .ok (.iconst (-1), 1) := by decide +kernel
theorem dX12_partsFrom_80 : decode cX12_partsFrom 80 = .ok (.iastore, 1) := by decide +kernel
theorem dX12_partsFrom_81 : decode cX12_partsFrom 81 = .ok (.aload_n 0, 1) := by decide +kernel
theorem dX12_partsFrom_82 : decode cX12_partsFrom 82 = .ok (.getfield 39, 3) := by decide +kernel
theorem dX12_partsFrom_85 : decode cX12_partsFrom 85 = .ok (.iload_n 2, 1) := by decide +kernel
theorem dX12_partsFrom_86 : decode cX12_partsFrom 86 = .ok (.iconst 2, 1) := by decide +kernel
theorem dX12_partsFrom_87 : decode cX12_partsFrom 87 = .ok (.iadd, 1) := by decide +kernel
theorem dX12_partsFrom_88 : decode cX12_partsFrom 88 = .ok (.iconst 0, 1) := by decide +kernel
theorem dX12_partsFrom_89 : decode cX12_partsFrom 89 = .ok (.iastore, 1) := by decide +kernel
theorem dX12_partsFrom_90 : decode cX12_partsFrom 90 = .ok (.aload_n 0, 1) := by decide +kernel
theorem dX12_partsFrom_91 : decode cX12_partsFrom 91 = .ok (.getfield 39, 3) := by decide +kernel
theorem dX12_partsFrom_94 : decode cX12_partsFrom 94 = .ok (.iload_n 3, 1) := by decide +kernel
theorem dX12_partsFrom_95 : decode cX12_partsFrom 95 = .ok (.iconst 2, 1) := by decide +kernel
theorem dX12_partsFrom_96 : decode cX12_partsFrom 96 = .ok (.iadd, 1) := by decide +kernel
theorem dX12_partsFrom_97 : decode cX12_partsFrom 97 = .ok (.iconst 0, 1) := by decide +kernel
theorem dX12_partsFrom_98 : decode cX12_partsFrom 98 = .ok (.iastore, 1) := by decide +kernel
theorem dX12_partsFrom_99 : decode cX12_partsFrom 99 = .ok (.iload 4, 2) := by decide +kernel
theorem dX12_partsFrom_101 : decode cX12_partsFrom 101 = .ok (.ireturn, 1) := by decide +kernel
theorem dX12_summedBy_0 : decode cX12_summedBy 0 = .ok (.iconst 0, 1) := by decide +kernel
theorem dX12_summedBy_1 : decode cX12_summedBy 1 = .ok (.istore_n 2, 1) := by decide +kernel
theorem dX12_summedBy_2 : decode cX12_summedBy 2 = .ok (.iload_n 2, 1) := by decide +kernel
theorem dX12_summedBy_3 : decode cX12_summedBy 3 = .ok (.aload_n 0, 1) := by decide +kernel
theorem dX12_summedBy_4 : decode cX12_summedBy 4 = .ok (.getfield 23, 3) := by decide +kernel
theorem dX12_summedBy_7 : decode cX12_summedBy 7 = .ok (.iload_n 1, 1) := by decide +kernel
theorem dX12_summedBy_8 : decode cX12_summedBy 8 = .ok (.iaload, 1) := by decide +kernel
theorem dX12_summedBy_9 : decode cX12_summedBy 9 = .ok (.if_icmp .ge 75, 3) := by decide +kernel
theorem dX12_summedBy_12 : decode cX12_summedBy 12 = .ok (.bipush 48, 2) := by decide +kernel
theorem dX12_summedBy_14 : decode cX12_summedBy 14 = .ok (.iload_n 1, 1) := by decide +kernel
theorem dX12_summedBy_15 : decode cX12_summedBy 15 = .ok (.imul, 1) := by decide +kernel
theorem dX12_summedBy_16 : decode cX12_summedBy 16 = .ok (.iconst 4, 1) := by decide +kernel
theorem dX12_summedBy_17 : decode cX12_summedBy 17 = .ok (.iload_n 2, 1) := by decide +kernel
theorem dX12_summedBy_18 : decode cX12_summedBy 18 = .ok (.imul, 1) := by decide +kernel
theorem dX12_summedBy_19 : decode cX12_summedBy 19 = .ok (.iadd, 1) := by decide +kernel
theorem dX12_summedBy_20 : decode cX12_summedBy 20 = .ok (.istore_n 3, 1) := by decide +kernel
theorem dX12_summedBy_21 : decode cX12_summedBy 21 = .ok (.aload_n 0, 1) := by decide +kernel
theorem dX12_summedBy_22 : decode cX12_summedBy 22 = .ok (.getfield 20, 3) := by decide +kernel
theorem dX12_summedBy_25 : decode cX12_summedBy 25 = .ok (.iload_n 3, 1) := by decide +kernel
theorem dX12_summedBy_26 : decode cX12_summedBy 26 = .ok (.iconst 2, 1) := by decide +kernel
theorem dX12_summedBy_27 : decode cX12_summedBy 27 = .ok (.iadd, 1) := by decide +kernel
theorem dX12_summedBy_28 : decode cX12_summedBy 28 = .ok (.iaload, 1) := by decide +kernel
theorem dX12_summedBy_29 : decode cX12_summedBy 29 = .ok (.ifCond .lt 29, 3) := by decide +kernel
theorem dX12_summedBy_32 : decode cX12_summedBy 32 = .ok (.aload_n 0, 1) := by decide +kernel
theorem dX12_summedBy_33 : decode cX12_summedBy 33 = .ok (.iload_n 1, 1) := by decide +kernel
theorem dX12_summedBy_34 : decode cX12_summedBy 34 = .ok (.aload_n 0, 1) := by decide +kernel
theorem dX12_summedBy_35 : decode cX12_summedBy 35 = .ok (.getfield 20, 3) := by decide +kernel
theorem dX12_summedBy_38 : decode cX12_summedBy 38 = .ok (.iload_n 3, 1) := by decide +kernel
theorem dX12_summedBy_39 : decode cX12_summedBy 39 = .ok (.iconst 2, 1) := by decide +kernel
theorem dX12_summedBy_40 : decode cX12_summedBy 40 = .ok (.iadd, 1) := by decide +kernel
theorem dX12_summedBy_41 : decode cX12_summedBy 41 = .ok (.iaload, 1) := by decide +kernel
theorem dX12_summedBy_42 : decode cX12_summedBy 42 = .ok (.aload_n 0, 1) := by decide +kernel
theorem dX12_summedBy_43 : decode cX12_summedBy 43 = .ok (.getfield 20, 3) := by decide +kernel
theorem dX12_summedBy_46 : decode cX12_summedBy 46 = .ok (.iload_n 3, 1) := by decide +kernel
theorem dX12_summedBy_47 : decode cX12_summedBy 47 = .ok (.iconst 3, 1) := by decide +kernel
theorem dX12_summedBy_48 : decode cX12_summedBy 48 = .ok (.iadd, 1) := by decide +kernel
theorem dX12_summedBy_49 : decode cX12_summedBy 49 = .ok (.iaload, 1) := by decide +kernel
theorem dX12_summedBy_50 : decode cX12_summedBy 50 = .ok (.invokevirtual 336, 3) := by decide +kernel
theorem dX12_summedBy_53 : decode cX12_summedBy 53 = .ok (.lconst 1, 1) := by decide +kernel
theorem dX12_summedBy_54 : decode cX12_summedBy 54 = .ok (.lcmp, 1) := by decide +kernel
theorem dX12_summedBy_55 : decode cX12_summedBy 55 = .ok (.ifCond .ne 23, 3) := by decide +kernel
theorem dX12_summedBy_58 : decode cX12_summedBy 58 = .ok (.aload_n 0, 1) := by decide +kernel
theorem dX12_summedBy_59 : decode cX12_summedBy 59 = .ok (.iload_n 1, 1) := by decide +kernel
theorem dX12_summedBy_60 : decode cX12_summedBy 60 = .ok (.aload_n 0, 1) := by decide +kernel
theorem dX12_summedBy_61 : decode cX12_summedBy 61 = .ok (.getfield 20, 3) := by decide +kernel
theorem dX12_summedBy_64 : decode cX12_summedBy 64 = .ok (.iload_n 3, 1) := by decide +kernel
theorem dX12_summedBy_65 : decode cX12_summedBy 65 = .ok (.iaload, 1) := by decide +kernel
theorem dX12_summedBy_66 : decode cX12_summedBy 66 = .ok (.aload_n 0, 1) := by decide +kernel
theorem dX12_summedBy_67 : decode cX12_summedBy 67 = .ok (.getfield 20, 3) := by decide +kernel
theorem dX12_summedBy_70 : decode cX12_summedBy 70 = .ok (.iload_n 3, 1) := by decide +kernel
theorem dX12_summedBy_71 : decode cX12_summedBy 71 = .ok (.iconst 1, 1) := by decide +kernel
theorem dX12_summedBy_72 : decode cX12_summedBy 72 = .ok (.iadd, 1) := by decide +kernel
theorem dX12_summedBy_73 : decode cX12_summedBy 73 = .ok (.iaload, 1) := by decide +kernel
theorem dX12_summedBy_74 : decode cX12_summedBy 74 = .ok (.invokevirtual 336, 3) := by decide +kernel
theorem dX12_summedBy_77 : decode cX12_summedBy 77 = .ok (.lreturn, 1) := by decide +kernel
theorem dX12_summedBy_78 : decode cX12_summedBy 78 = .ok (.iinc 2 1, 3) := by decide +kernel
theorem dX12_summedBy_81 : decode cX12_summedBy 81 = .ok (.goto (-79), 3) := by decide +kernel
theorem dX12_summedBy_84 : decode cX12_summedBy 84 = .ok (.lconst 0, 1) := by decide +kernel
theorem dX12_summedBy_85 : decode cX12_summedBy 85 = .ok (.lreturn, 1) := by decide +kernel
theorem dX12_stays_0 : decode cX12_stays 0 = .ok (.aload_n 0, 1) := by decide +kernel
theorem dX12_stays_1 : decode cX12_stays 1 = .ok (.iload_n 1, 1) := by decide +kernel
theorem dX12_stays_2 : decode cX12_stays 2 = .ok (.iload_n 2, 1) := by decide +kernel
theorem dX12_stays_3 : decode cX12_stays 3 = .ok (.iconst 1, 1) := by decide +kernel
theorem dX12_stays_4 : decode cX12_stays 4 = .ok (.invokevirtual 301, 3) := by decide +kernel
theorem dX12_stays_7 : decode cX12_stays 7 = .ok (.istore_n 3, 1) := by decide +kernel
theorem dX12_stays_8 : decode cX12_stays 8 = .ok (.aload_n 0, 1) := by decide +kernel
theorem dX12_stays_9 : decode cX12_stays 9 = .ok (.getfield 42, 3) := by decide +kernel
theorem dX12_stays_12 : decode cX12_stays 12 = .ok (.ifCond .ge 25, 3) := by decide +kernel
theorem dX12_stays_15 : decode cX12_stays 15 = .ok (.aload_n 0, 1) := by decide +kernel
theorem dX12_stays_16 : decode cX12_stays 16 = .ok (.iload_n 1, 1) := by decide +kernel
theorem dX12_stays_17 : decode cX12_stays 17 = .ok (.iload_n 2, 1) := by decide +kernel
theorem dX12_stays_18 : decode cX12_stays 18 = .ok (.iload_n 3, 1) := by decide +kernel
theorem dX12_stays_19 : decode cX12_stays 19 = .ok (.invokevirtual 305, 3) := by decide +kernel
theorem dX12_stays_22 : decode cX12_stays 22 = .ok (.aload_n 0, 1) := by decide +kernel
theorem dX12_stays_23 : decode cX12_stays 23 = .ok (.getfield 39, 3) := by decide +kernel
theorem dX12_stays_26 : decode cX12_stays 26 = .ok (.iconst 2, 1) := by decide +kernel
theorem dX12_stays_27 : decode cX12_stays 27 = .ok (.iaload, 1) := by decide +kernel
theorem dX12_stays_28 : decode cX12_stays 28 = .ok (.if_icmp .lt 7, 3) := by decide +kernel
theorem dX12_stays_31 : decode cX12_stays 31 = .ok (.iconst 1, 1) := by decide +kernel
theorem dX12_stays_32 : decode cX12_stays 32 = .ok (.goto 4, 3) := by decide +kernel
theorem dX12_stays_35 : decode cX12_stays 35 = .ok (.iconst 0, 1) := by decide +kernel
theorem dX12_stays_36 : decode cX12_stays 36 = .ok (.ireturn, 1) := by decide +kernel
theorem dX12_stays_37 : decode cX12_stays 37 = .ok (.iconst 0, 1) := by decide +kernel
theorem dX12_stays_38 : decode cX12_stays 38 = .ok (.istore 4, 2) := by decide +kernel
theorem dX12_stays_40 : decode cX12_stays 40 = .ok (.iconst 0, 1) := by decide +kernel
theorem dX12_stays_41 : decode cX12_stays 41 = .ok (.istore 5, 2) := by decide +kernel
theorem dX12_stays_43 : decode cX12_stays 43 = .ok (.iload 5, 2) := by decide +kernel
theorem dX12_stays_45 : decode cX12_stays 45 = .ok (.aload_n 0, 1) := by decide +kernel
theorem dX12_stays_46 : decode cX12_stays 46 = .ok (.getfield 39, 3) := by decide +kernel
theorem dX12_stays_49 : decode cX12_stays 49 = .ok (.iconst 4, 1) := by decide +kernel
theorem dX12_stays_50 : decode cX12_stays 50 = .ok (.iload_n 1, 1) := by decide +kernel
theorem dX12_stays_51 : decode cX12_stays 51 = .ok (.isub, 1) := by decide +kernel
theorem dX12_stays_52 : decode cX12_stays 52 = .ok (.iaload, 1) := by decide +kernel
theorem dX12_stays_53 : decode cX12_stays 53 = .ok (.if_icmp .ge 44, 3) := by decide +kernel
theorem dX12_stays_56 : decode cX12_stays 56 = .ok (.aload_n 0, 1) := by decide +kernel
theorem dX12_stays_57 : decode cX12_stays 57 = .ok (.iconst 1, 1) := by decide +kernel
theorem dX12_stays_58 : decode cX12_stays 58 = .ok (.iload_n 1, 1) := by decide +kernel
theorem dX12_stays_59 : decode cX12_stays 59 = .ok (.isub, 1) := by decide +kernel
theorem dX12_stays_60 : decode cX12_stays 60 = .ok (.iload 5, 2) := by decide +kernel
theorem dX12_stays_62 : decode cX12_stays 62 = .ok (.invokevirtual 318, 3) := by decide +kernel
theorem dX12_stays_65 : decode cX12_stays 65 = .ok (.ifCond .eq 26, 3) := by decide +kernel
theorem dX12_stays_68 : decode cX12_stays 68 = .ok (.aload_n 0, 1) := by decide +kernel
theorem dX12_stays_69 : decode cX12_stays 69 = .ok (.iload_n 1, 1) := by decide +kernel
theorem dX12_stays_70 : decode cX12_stays 70 = .ok (.iload_n 2, 1) := by decide +kernel
theorem dX12_stays_71 : decode cX12_stays 71 = .ok (.iload 5, 2) := by decide +kernel
theorem dX12_stays_73 : decode cX12_stays 73 = .ok (.invokevirtual 305, 3) := by decide +kernel
theorem dX12_stays_76 : decode cX12_stays 76 = .ok (.iload 4, 2) := by decide +kernel
theorem dX12_stays_78 : decode cX12_stays 78 = .ok (.if_icmp .le 13, 3) := by decide +kernel
theorem dX12_stays_81 : decode cX12_stays 81 = .ok (.aload_n 0, 1) := by decide +kernel
theorem dX12_stays_82 : decode cX12_stays 82 = .ok (.iload_n 1, 1) := by decide +kernel
theorem dX12_stays_83 : decode cX12_stays 83 = .ok (.iload_n 2, 1) := by decide +kernel
theorem dX12_stays_84 : decode cX12_stays 84 = .ok (.iload 5, 2) := by decide +kernel
theorem dX12_stays_86 : decode cX12_stays 86 = .ok (.invokevirtual 305, 3) := by decide +kernel
theorem dX12_stays_89 : decode cX12_stays 89 = .ok (.istore 4, 2) := by decide +kernel
theorem dX12_stays_91 : decode cX12_stays 91 = .ok (.iinc 5 1, 3) := by decide +kernel
theorem dX12_stays_94 : decode cX12_stays 94 = .ok (.goto (-51), 3) := by decide +kernel
theorem dX12_stays_97 : decode cX12_stays 97 = .ok (.aload_n 0, 1) := by decide +kernel
theorem dX12_stays_98 : decode cX12_stays 98 = .ok (.getfield 36, 3) := by decide +kernel
theorem dX12_stays_101 : decode cX12_stays 101 = .ok (.iconst 0, 1) := by decide +kernel
theorem dX12_stays_102 : decode cX12_stays 102 = .ok (.iload_n 1, 1) := by decide +kernel
theorem dX12_stays_103 : decode cX12_stays 103 = .ok (.i2l, 1) := by decide +kernel
theorem dX12_stays_104 : decode cX12_stays 104 = .ok (.lastore, 1) := by decide +kernel
theorem dX12_stays_105 : decode cX12_stays 105 = .ok (.aload_n 0, 1) := by decide +kernel
theorem dX12_stays_106 : decode cX12_stays 106 = .ok (.getfield 36, 3) := by decide +kernel
theorem dX12_stays_109 : decode cX12_stays 109 = .ok (.iconst 1, 1) := by decide +kernel
theorem dX12_stays_110 : decode cX12_stays 110 = .ok (.iload_n 2, 1) := by decide +kernel
theorem dX12_stays_111 : decode cX12_stays 111 = .ok (.i2l, 1) := by decide +kernel
theorem dX12_stays_112 : decode cX12_stays 112 = .ok (.lastore, 1) := by decide +kernel
theorem dX12_stays_113 : decode cX12_stays 113 = .ok (.aload_n 0, 1) := by decide +kernel
theorem dX12_stays_114 : decode cX12_stays 114 = .ok (.getfield 36, 3) := by decide +kernel
theorem dX12_stays_117 : decode cX12_stays 117 = .ok (.iconst 2, 1) := by decide +kernel
theorem dX12_stays_118 : decode cX12_stays 118 = .ok (.iload_n 3, 1) := by decide +kernel
theorem dX12_stays_119 : decode cX12_stays 119 = .ok (.i2l, 1) := by decide +kernel
theorem dX12_stays_120 : decode cX12_stays 120 = .ok (.lastore, 1) := by decide +kernel
theorem dX12_stays_121 : decode cX12_stays 121 = .ok (.aload_n 0, 1) := by decide +kernel
theorem dX12_stays_122 : decode cX12_stays 122 = .ok (.getfield 36, 3) := by decide +kernel
theorem dX12_stays_125 : decode cX12_stays 125 = .ok (.iconst 3, 1) := by decide +kernel
theorem dX12_stays_126 : decode cX12_stays 126 = .ok (.aload_n 0, 1) := by decide +kernel
theorem dX12_stays_127 : decode cX12_stays 127 = .ok (.iload_n 1, 1) := by decide +kernel
theorem dX12_stays_128 : decode cX12_stays 128 = .ok (.iload_n 2, 1) := by decide +kernel
theorem dX12_stays_129 : decode cX12_stays 129 = .ok (.iload_n 3, 1) := by decide +kernel
theorem dX12_stays_130 : decode cX12_stays 130 = .ok (.invokevirtual 305, 3) := by decide +kernel
theorem dX12_stays_133 : decode cX12_stays 133 = .ok (.i2l, 1) := by decide +kernel
theorem dX12_stays_134 : decode cX12_stays 134 = .ok (.lastore, 1) := by decide +kernel
theorem dX12_stays_135 : decode cX12_stays 135 = .ok (.aload_n 0, 1) := by decide +kernel
theorem dX12_stays_136 : decode cX12_stays 136 = .ok (.getfield 36, 3) := by decide +kernel
theorem dX12_stays_139 : decode cX12_stays 139 = .ok (.iconst 4, 1) := by decide +kernel
theorem dX12_stays_140 : decode cX12_stays 140 = .ok (.aload_n 0, 1) := by decide +kernel
theorem dX12_stays_141 : decode cX12_stays 141 = .ok (.iconst 1, 1) := by decide +kernel
theorem dX12_stays_142 : decode cX12_stays 142 = .ok (.iload_n 1, 1) := by decide +kernel
theorem dX12_stays_143 : decode cX12_stays 143 = .ok (.isub, 1) := by decide +kernel
theorem dX12_stays_144 : decode cX12_stays 144 = .ok (.iload_n 3, 1) := by decide +kernel
theorem dX12_stays_145 : decode cX12_stays 145 = .ok (.iload_n 2, 1) := by decide +kernel
theorem dX12_stays_146 : decode cX12_stays 146 = .ok (.invokevirtual 305, 3) := by decide +kernel
theorem dX12_stays_149 : decode cX12_stays 149 = .ok (.i2l, 1) := by decide +kernel
theorem dX12_stays_150 : decode cX12_stays 150 = .ok (.lastore, 1) := by decide +kernel
theorem dX12_stays_151 : decode cX12_stays 151 = .ok (.aload_n 0, 1) := by decide +kernel
theorem dX12_stays_152 : decode cX12_stays 152 = .ok (.getfield 36, 3) := by decide +kernel
theorem dX12_stays_155 : decode cX12_stays 155 = .ok (.iconst 5, 1) := by decide +kernel
theorem dX12_stays_156 : decode cX12_stays 156 = .ok (.aload_n 0, 1) := by decide +kernel
theorem dX12_stays_157 : decode cX12_stays 157 = .ok (.iload_n 1, 1) := by decide +kernel
theorem dX12_stays_158 : decode cX12_stays 158 = .ok (.iload_n 2, 1) := by decide +kernel
theorem dX12_stays_159 : decode cX12_stays 159 = .ok (.iconst 2, 1) := by decide +kernel
theorem dX12_stays_160 : decode cX12_stays 160 = .ok (.invokevirtual 301, 3) := by decide +kernel
theorem dX12_stays_163 : decode cX12_stays 163 = .ok (.i2l, 1) := by decide +kernel
theorem dX12_stays_164 : decode cX12_stays 164 = .ok (.lastore, 1) := by decide +kernel
theorem dX12_stays_165 : decode cX12_stays 165 = .ok (.aload_n 0, 1) := by decide +kernel
theorem dX12_stays_166 : decode cX12_stays 166 = .ok (.getfield 36, 3) := by decide +kernel
theorem dX12_stays_169 : decode cX12_stays 169 = .ok (.bipush 6, 2) := by decide +kernel
theorem dX12_stays_171 : decode cX12_stays 171 = .ok (.aload_n 0, 1) := by decide +kernel
theorem dX12_stays_172 : decode cX12_stays 172 = .ok (.iload_n 1, 1) := by decide +kernel
theorem dX12_stays_173 : decode cX12_stays 173 = .ok (.iload_n 2, 1) := by decide +kernel
theorem dX12_stays_174 : decode cX12_stays 174 = .ok (.iconst 0, 1) := by decide +kernel
theorem dX12_stays_175 : decode cX12_stays 175 = .ok (.invokevirtual 301, 3) := by decide +kernel
theorem dX12_stays_178 : decode cX12_stays 178 = .ok (.i2l, 1) := by decide +kernel
theorem dX12_stays_179 : decode cX12_stays 179 = .ok (.lastore, 1) := by decide +kernel
theorem dX12_stays_180 : decode cX12_stays 180 = .ok (.aload_n 0, 1) := by decide +kernel
theorem dX12_stays_181 : decode cX12_stays 181 = .ok (.getfield 36, 3) := by decide +kernel
theorem dX12_stays_184 : decode cX12_stays 184 = .ok (.bipush 7, 2) := by decide +kernel
theorem dX12_stays_186 : decode cX12_stays 186 = .ok (.aload_n 0, 1) := by decide +kernel
theorem dX12_stays_187 : decode cX12_stays 187 = .ok (.getfield 39, 3) := by decide +kernel
theorem dX12_stays_190 : decode cX12_stays 190 = .ok (.iconst 1, 1) := by decide +kernel
theorem dX12_stays_191 : decode cX12_stays 191 = .ok (.iaload, 1) := by decide +kernel
theorem dX12_stays_192 : decode cX12_stays 192 = .ok (.i2l, 1) := by decide +kernel
theorem dX12_stays_193 : decode cX12_stays 193 = .ok (.lastore, 1) := by decide +kernel
theorem dX12_stays_194 : decode cX12_stays 194 = .ok (.aload_n 0, 1) := by decide +kernel
theorem dX12_stays_195 : decode cX12_stays 195 = .ok (.getfield 36, 3) := by decide +kernel
theorem dX12_stays_198 : decode cX12_stays 198 = .ok (.bipush 8, 2) := by decide +kernel
theorem dX12_stays_200 : decode cX12_stays 200 = .ok (.iload 4, 2) := by decide +kernel
theorem dX12_stays_202 : decode cX12_stays 202 = .ok (.i2l, 1) := by decide +kernel
theorem dX12_stays_203 : decode cX12_stays 203 = .ok (.lastore, 1) := by decide +kernel
theorem dX12_stays_204 : decode cX12_stays 204 = .ok (.aload_n 0, 1) := by decide +kernel
theorem dX12_stays_205 : decode cX12_stays 205 = .ok (.getfield 36, 3) := by decide +kernel
theorem dX12_stays_208 : decode cX12_stays 208 = .ok (.bipush 9, 2) := by decide +kernel
theorem dX12_stays_210 : decode cX12_stays 210 = .ok (.aload_n 0, 1) := by decide +kernel
theorem dX12_stays_211 : decode cX12_stays 211 = .ok (.getfield 39, 3) := by decide +kernel
theorem dX12_stays_214 : decode cX12_stays 214 = .ok (.bipush 10, 2) := by decide +kernel
theorem dX12_stays_216 : decode cX12_stays 216 = .ok (.iaload, 1) := by decide +kernel
theorem dX12_stays_217 : decode cX12_stays 217 = .ok (.i2l, 1) := by decide +kernel
theorem dX12_stays_218 : decode cX12_stays 218 = .ok (.lastore, 1) := by decide +kernel
theorem dX12_stays_219 : decode cX12_stays 219 = .ok (.aload_n 0, 1) := by decide +kernel
theorem dX12_stays_220 : decode cX12_stays 220 = .ok (.getfield 36, 3) := by decide +kernel
theorem dX12_stays_223 : decode cX12_stays 223 = .ok (.bipush 10, 2) := by decide +kernel
theorem dX12_stays_225 : decode cX12_stays 225 = .ok (.aload_n 0, 1) := by decide +kernel
theorem dX12_stays_226 : decode cX12_stays 226 = .ok (.iload_n 1, 1) := by decide +kernel
theorem dX12_stays_227 : decode cX12_stays 227 = .ok (.iload_n 2, 1) := by decide +kernel
theorem dX12_stays_228 : decode cX12_stays 228 = .ok (.iconst 3, 1) := by decide +kernel
theorem dX12_stays_229 : decode cX12_stays 229 = .ok (.invokevirtual 301, 3) := by decide +kernel
theorem dX12_stays_232 : decode cX12_stays 232 = .ok (.i2l, 1) := by decide +kernel
theorem dX12_stays_233 : decode cX12_stays 233 = .ok (.lastore, 1) := by decide +kernel
theorem dX12_stays_234 : decode cX12_stays 234 = .ok (.aload_n 0, 1) := by decide +kernel
theorem dX12_stays_235 : decode cX12_stays 235 = .ok (.aload_n 0, 1) := by decide +kernel
theorem dX12_stays_236 : decode cX12_stays 236 = .ok (.getfield 42, 3) := by decide +kernel
theorem dX12_stays_239 : decode cX12_stays 239 = .ok (.invokevirtual 340, 3) := by decide +kernel
theorem dX12_stays_242 : decode cX12_stays 242 = .ok (.lconst 0, 1) := by decide +kernel
theorem dX12_stays_243 : decode cX12_stays 243 = .ok (.lcmp, 1) := by decide +kernel
theorem dX12_stays_244 : decode cX12_stays 244 = .ok (.ifCond .le 7, 3) := by decide +kernel
theorem dX12_stays_247 : decode cX12_stays 247 = .ok (.iconst 1, 1) := by decide +kernel
theorem dX12_stays_248 : decode cX12_stays 248 = .ok (.goto 4, 3) := by decide +kernel
theorem dX12_stays_251 : decode cX12_stays 251 = .ok (.iconst 0, 1) := by decide +kernel
theorem dX12_stays_252 : decode cX12_stays 252 = .ok (.ireturn, 1) := by decide +kernel
theorem dX12_asks_0 : decode cX12_asks 0 = .ok (.iconst (-1), 1) := by decide +kernel
theorem dX12_asks_1 : decode cX12_asks 1 = .ok (.istore_n 2, 1) := by decide +kernel
theorem dX12_asks_2 : decode cX12_asks 2 = .ok (.aload_n 0, 1) := by decide +kernel
theorem dX12_asks_3 : decode cX12_asks 3 = .ok (.iconst 0, 1) := by decide +kernel
theorem dX12_asks_4 : decode cX12_asks 4 = .ok (.iload_n 1, 1) := by decide +kernel
theorem dX12_asks_5 : decode cX12_asks 5 = .ok (.invokevirtual 318, 3) := by decide +kernel
theorem dX12_asks_8 : decode cX12_asks 8 = .ok (.ifCond .eq 12, 3) := by decide +kernel
theorem dX12_asks_11 : decode cX12_asks 11 = .ok (.aload_n 0, 1) := by decide +kernel
theorem dX12_asks_12 : decode cX12_asks 12 = .ok (.getfield 52, 3) := by decide +kernel
theorem dX12_asks_15 : decode cX12_asks 15 = .ok (.iload_n 1, 1) := by decide +kernel
theorem dX12_asks_16 : decode cX12_asks 16 = .ok (.baload, 1) := by decide +kernel
theorem dX12_asks_17 : decode cX12_asks 17 = .ok (.ifCond .eq 5, 3) := by decide +kernel
theorem dX12_asks_20 : decode cX12_asks 20 = .ok (.iconst (-1), 1) := by decide +kernel
theorem dX12_asks_21 : decode cX12_asks 21 = .ok (.ireturn, 1) := by decide +kernel
theorem dX12_asks_22 : decode cX12_asks 22 = .ok (.iconst 0, 1) := by decide +kernel
theorem dX12_asks_23 : decode cX12_asks 23 = .ok (.istore_n 3, 1) := by decide +kernel
theorem dX12_asks_24 : decode cX12_asks 24 = .ok (.iload_n 3, 1) := by decide +kernel
theorem dX12_asks_25 : decode cX12_asks 25 = .ok (.aload_n 0, 1) := by decide +kernel
theorem dX12_asks_26 : decode cX12_asks 26 = .ok (.getfield 39, 3) := by decide +kernel
theorem dX12_asks_29 : decode cX12_asks 29 = .ok (.iconst 4, 1) := by decide +kernel
theorem dX12_asks_30 : decode cX12_asks 30 = .ok (.iaload, 1) := by decide +kernel
theorem dX12_asks_31 : decode cX12_asks 31 = .ok (.if_icmp .ge 77, 3) := by decide +kernel
theorem dX12_asks_34 : decode cX12_asks 34 = .ok (.aload_n 0, 1) := by decide +kernel
theorem dX12_asks_35 : decode cX12_asks 35 = .ok (.iconst 1, 1) := by decide +kernel
theorem dX12_asks_36 : decode cX12_asks 36 = .ok (.iload_n 3, 1) := by decide +kernel
theorem dX12_asks_37 : decode cX12_asks 37 = .ok (.invokevirtual 318, 3) := by decide +kernel
theorem dX12_asks_40 : decode cX12_asks 40 = .ok (.ifCond .eq 62, 3) := by decide +kernel
theorem dX12_asks_43 : decode cX12_asks 43 = .ok (.aload_n 0, 1) := by decide +kernel
theorem dX12_asks_44 : decode cX12_asks 44 = .ok (.getfield 49, 3) := by decide +kernel
theorem dX12_asks_47 : decode cX12_asks 47 = .ok (.iload_n 1, 1) := by decide +kernel
theorem dX12_asks_48 : decode cX12_asks 48 = .ok (.iaload, 1) := by decide +kernel
theorem dX12_asks_49 : decode cX12_asks 49 = .ok (.iload_n 3, 1) := by decide +kernel
theorem dX12_asks_50 : decode cX12_asks 50 = .ok (.invokestatic 308, 3) := by decide +kernel
theorem dX12_asks_53 : decode cX12_asks 53 = .ok (.ifCond .ne 49, 3) := by decide +kernel
theorem dX12_asks_56 : decode cX12_asks 56 = .ok (.aload_n 0, 1) := by decide +kernel
theorem dX12_asks_57 : decode cX12_asks 57 = .ok (.getfield 46, 3) := by decide +kernel
theorem dX12_asks_60 : decode cX12_asks 60 = .ok (.iload_n 1, 1) := by decide +kernel
theorem dX12_asks_61 : decode cX12_asks 61 = .ok (.iaload, 1) := by decide +kernel
theorem dX12_asks_62 : decode cX12_asks 62 = .ok (.iload_n 3, 1) := by decide +kernel
theorem dX12_asks_63 : decode cX12_asks 63 = .ok (.if_icmp .eq 39, 3) := by decide +kernel
theorem dX12_asks_66 : decode cX12_asks 66 = .ok (.aload_n 0, 1) := by decide +kernel
theorem dX12_asks_67 : decode cX12_asks 67 = .ok (.iconst 0, 1) := by decide +kernel
theorem dX12_asks_68 : decode cX12_asks 68 = .ok (.iload_n 1, 1) := by decide +kernel
theorem dX12_asks_69 : decode cX12_asks 69 = .ok (.iload_n 3, 1) := by decide +kernel
theorem dX12_asks_70 : decode cX12_asks 70 = .ok (.invokevirtual 305, 3) := by decide +kernel
theorem dX12_asks_73 : decode cX12_asks 73 = .ok (.ifCond .ne 6, 3) := by decide +kernel
theorem dX12_asks_76 : decode cX12_asks 76 = .ok (.goto 26, 3) := by decide +kernel
theorem dX12_asks_79 : decode cX12_asks 79 = .ok (.iload_n 2, 1) := by decide +kernel
theorem dX12_asks_80 : decode cX12_asks 80 = .ok (.ifCond .lt 20, 3) := by decide +kernel
theorem dX12_asks_83 : decode cX12_asks 83 = .ok (.aload_n 0, 1) := by decide +kernel
theorem dX12_asks_84 : decode cX12_asks 84 = .ok (.iconst 0, 1) := by decide +kernel
theorem dX12_asks_85 : decode cX12_asks 85 = .ok (.iload_n 1, 1) := by decide +kernel
theorem dX12_asks_86 : decode cX12_asks 86 = .ok (.iload_n 3, 1) := by decide +kernel
theorem dX12_asks_87 : decode cX12_asks 87 = .ok (.invokevirtual 305, 3) := by decide +kernel
theorem dX12_asks_90 : decode cX12_asks 90 = .ok (.aload_n 0, 1) := by decide +kernel
theorem dX12_asks_91 : decode cX12_asks 91 = .ok (.iconst 0, 1) := by decide +kernel
theorem dX12_asks_92 : decode cX12_asks 92 = .ok (.iload_n 1, 1) := by decide +kernel
theorem dX12_asks_93 : decode cX12_asks 93 = .ok (.iload_n 2, 1) := by decide +kernel
theorem dX12_asks_94 : decode cX12_asks 94 = .ok (.invokevirtual 305, 3) := by decide +kernel
theorem dX12_asks_97 : decode cX12_asks 97 = .ok (.if_icmp .le 5, 3) := by decide +kernel
theorem dX12_asks_100 : decode cX12_asks 100 = .ok (.iload_n 3, 1) := by decide +kernel
theorem dX12_asks_101 : decode cX12_asks 101 = .ok (.istore_n 2, 1) := by decide +kernel
theorem dX12_asks_102 : decode cX12_asks 102 = .ok (.iinc 3 1, 3) := by decide +kernel
theorem dX12_asks_105 : decode cX12_asks 105 = .ok (.goto (-81), 3) := by decide +kernel
theorem dX12_asks_108 : decode cX12_asks 108 = .ok (.iload_n 2, 1) := by decide +kernel
theorem dX12_asks_109 : decode cX12_asks 109 = .ok (.ireturn, 1) := by decide +kernel
theorem dX12_isAsked_0 : decode cX12_isAsked 0 = .ok (.aload_n 0, 1) := by decide +kernel
theorem dX12_isAsked_1 : decode cX12_isAsked 1 = .ok (.getfield 49, 3) := by decide +kernel
theorem dX12_isAsked_4 : decode cX12_isAsked 4 = .ok (.iload_n 1, 1) := by decide +kernel
theorem dX12_isAsked_5 : decode cX12_isAsked 5 = .ok (.dup2, 1) := by decide +kernel
theorem dX12_isAsked_6 : decode cX12_isAsked 6 = .ok (.iaload, 1) := by decide +kernel
theorem dX12_isAsked_7 : decode cX12_isAsked 7 = .ok (.iconst 1, 1) := by decide +kernel
theorem dX12_isAsked_8 : decode cX12_isAsked 8 = .ok (.iload_n 2, 1) := by decide +kernel
theorem dX12_isAsked_9 : decode cX12_isAsked 9 = .ok (.ishl, 1) := by decide +kernel
theorem dX12_isAsked_10 : decode cX12_isAsked 10 = .ok (.ior, 1) := by decide +kernel
theorem dX12_isAsked_11 : decode cX12_isAsked 11 = .ok (.iastore, 1) := by decide +kernel
theorem dX12_isAsked_12 : decode cX12_isAsked 12 = .ok (.aload_n 0, 1) := by decide +kernel
theorem dX12_isAsked_13 : decode cX12_isAsked 13 = .ok (.getfield 56, 3) := by decide +kernel
theorem dX12_isAsked_16 : decode cX12_isAsked 16 = .ok (.iload_n 2, 1) := by decide +kernel
theorem dX12_isAsked_17 : decode cX12_isAsked 17 = .ok (.iaload, 1) := by decide +kernel
theorem dX12_isAsked_18 : decode cX12_isAsked 18 = .ok (.istore_n 3, 1) := by decide +kernel
theorem dX12_isAsked_19 : decode cX12_isAsked 19 = .ok (.aload_n 0, 1) := by decide +kernel
theorem dX12_isAsked_20 : decode cX12_isAsked 20 = .ok (.iconst 1, 1) := by decide +kernel
theorem dX12_isAsked_21 : decode cX12_isAsked 21 = .ok (.iload_n 2, 1) := by decide +kernel
theorem dX12_isAsked_22 : decode cX12_isAsked 22 = .ok (.iload_n 1, 1) := by decide +kernel
theorem dX12_isAsked_23 : decode cX12_isAsked 23 = .ok (.invokevirtual 305, 3) := by decide +kernel
theorem dX12_isAsked_26 : decode cX12_isAsked 26 = .ok (.ifCond .eq 24, 3) := by decide +kernel
theorem dX12_isAsked_29 : decode cX12_isAsked 29 = .ok (.iload_n 3, 1) := by decide +kernel
theorem dX12_isAsked_30 : decode cX12_isAsked 30 = .ok (.ifCond .lt 21, 3) := by decide +kernel
theorem dX12_isAsked_33 : decode cX12_isAsked 33 = .ok (.aload_n 0, 1) := by decide +kernel
theorem dX12_isAsked_34 : decode cX12_isAsked 34 = .ok (.iconst 1, 1) := by decide +kernel
theorem dX12_isAsked_35 : decode cX12_isAsked 35 = .ok (.iload_n 2, 1) := by decide +kernel
theorem dX12_isAsked_36 : decode cX12_isAsked 36 = .ok (.iload_n 1, 1) := by decide +kernel
theorem dX12_isAsked_37 : decode cX12_isAsked 37 = .ok (.invokevirtual 305, 3) := by decide +kernel
theorem dX12_isAsked_40 : decode cX12_isAsked 40 = .ok (.aload_n 0, 1) := by decide +kernel
theorem dX12_isAsked_41 : decode cX12_isAsked 41 = .ok (.iconst 1, 1) := by decide +kernel
theorem dX12_isAsked_42 : decode cX12_isAsked 42 = .ok (.iload_n 2, 1) := by decide +kernel
theorem dX12_isAsked_43 : decode cX12_isAsked 43 = .ok (.iload_n 3, 1) := by decide +kernel
theorem dX12_isAsked_44 : decode cX12_isAsked 44 = .ok (.invokevirtual 305, 3) := by decide +kernel
theorem dX12_isAsked_47 : decode cX12_isAsked 47 = .ok (.if_icmp .gt 4, 3) := by decide +kernel
theorem dX12_isAsked_50 : decode cX12_isAsked 50 = .ok (.return_, 1) := by decide +kernel
theorem dX12_isAsked_51 : decode cX12_isAsked 51 = .ok (.iload_n 3, 1) := by decide +kernel
theorem dX12_isAsked_52 : decode cX12_isAsked 52 = .ok (.ifCond .lt 10, 3) := by decide +kernel
