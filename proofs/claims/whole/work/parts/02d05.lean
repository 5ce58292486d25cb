theorem dX12_isAsked_55 : decode cX12_isAsked 55 = .ok (.aload_n 0, 1) := by decide +kernel
theorem dX12_isAsked_56 : decode cX12_isAsked 56 = .ok (.getfield 52, 3) := by decide +kernel
theorem dX12_isAsked_59 : decode cX12_isAsked 59 = .ok (.iload_n 3, 1) := by decide +kernel
theorem dX12_isAsked_60 : decode cX12_isAsked 60 = .ok (.iconst 0, 1) := by decide +kernel
theorem dX12_isAsked_61 : decode cX12_isAsked 61 = .ok (.bastore, 1) := by decide +kernel
theorem dX12_isAsked_62 : decode cX12_isAsked 62 = .ok (.aload_n 0, 1) := by decide +kernel
theorem dX12_isAsked_63 : decode cX12_isAsked 63 = .ok (.getfield 56, 3) := by decide +kernel
theorem dX12_isAsked_66 : decode cX12_isAsked 66 = .ok (.iload_n 2, 1) := by decide +kernel
theorem dX12_isAsked_67 : decode cX12_isAsked 67 = .ok (.iload_n 1, 1) := by decide +kernel
theorem dX12_isAsked_68 : decode cX12_isAsked 68 = .ok (.iastore, 1) := by decide +kernel
theorem dX12_isAsked_69 : decode cX12_isAsked 69 = .ok (.aload_n 0, 1) := by decide +kernel
theorem dX12_isAsked_70 : decode cX12_isAsked 70 = .ok (.getfield 52, 3) := by decide +kernel
theorem dX12_isAsked_73 : decode cX12_isAsked 73 = .ok (.iload_n 1, 1) := by decide +kernel
theorem dX12_isAsked_74 : decode cX12_isAsked 74 = .ok (.iconst 1, 1) := by decide +kernel
theorem dX12_isAsked_75 : decode cX12_isAsked 75 = .ok (.bastore, 1) := by decide +kernel
theorem dX12_isAsked_76 : decode cX12_isAsked 76 = .ok (.return_, 1) := by decide +kernel
theorem dX12_joinsAll_0 : decode cX12_joinsAll 0 = .ok (.iconst 0, 1) := by decide +kernel
theorem dX12_joinsAll_1 : decode cX12_joinsAll 1 = .ok (.istore_n 1, 1) := by decide +kernel
theorem dX12_joinsAll_2 : decode cX12_joinsAll 2 = .ok (.iload_n 1, 1) := by decide +kernel
theorem dX12_joinsAll_3 : decode cX12_joinsAll 3 = .ok (.iconst 4, 1) := by decide +kernel
theorem dX12_joinsAll_4 : decode cX12_joinsAll 4 = .ok (.if_icmp .ge 30, 3) := by decide +kernel
theorem dX12_joinsAll_7 : decode cX12_joinsAll 7 = .ok (.aload_n 0, 1) := by decide +kernel
theorem dX12_joinsAll_8 : decode cX12_joinsAll 8 = .ok (.getfield 49, 3) := by decide +kernel
theorem dX12_joinsAll_11 : decode cX12_joinsAll 11 = .ok (.iload_n 1, 1) := by decide +kernel
theorem dX12_joinsAll_12 : decode cX12_joinsAll 12 = .ok (.iconst 0, 1) := by decide +kernel
theorem dX12_joinsAll_13 : decode cX12_joinsAll 13 = .ok (.iastore, 1) := by decide +kernel
theorem dX12_joinsAll_14 : decode cX12_joinsAll 14 = .ok (.aload_n 0, 1) := by decide +kernel
theorem dX12_joinsAll_15 : decode cX12_joinsAll 15 = .ok (.getfield 52, 3) := by decide +kernel
theorem dX12_joinsAll_18 : decode cX12_joinsAll 18 = .ok (.iload_n 1, 1) := by decide +kernel
theorem dX12_joinsAll_19 : decode cX12_joinsAll 19 = .ok (.iconst 0, 1) := by decide +kernel
theorem dX12_joinsAll_20 : decode cX12_joinsAll 20 = .ok (.bastore, 1) := by decide +kernel
theorem dX12_joinsAll_21 : decode cX12_joinsAll 21 = .ok (.aload_n 0, 1) := by decide +kernel
theorem dX12_joinsAll_22 : decode cX12_joinsAll 22 = .ok (.getfield 56, 3) := by decide +kernel
theorem dX12_joinsAll_25 : decode cX12_joinsAll 25 = .ok (.iload_n 1, 1) := by decide +kernel
theorem dX12_joinsAll_26 : decode cX12_joinsAll 26 = .ok (.iconst (-1), 1) := by decide +kernel
theorem dX12_joinsAll_27 : decode cX12_joinsAll 27 = .ok (.iastore, 1) := by decide +kernel
theorem dX12_joinsAll_28 : decode cX12_joinsAll 28 = .ok (.iinc 1 1, 3) := by decide +kernel
theorem dX12_joinsAll_31 : decode cX12_joinsAll 31 = .ok (.goto (-29), 3) := by decide +kernel
theorem dX12_joinsAll_34 : decode cX12_joinsAll 34 = .ok (.iconst 1, 1) := by decide +kernel
theorem dX12_joinsAll_35 : decode cX12_joinsAll 35 = .ok (.istore_n 1, 1) := by decide +kernel
theorem dX12_joinsAll_36 : decode cX12_joinsAll 36 = .ok (.iload_n 1, 1) := by decide +kernel
theorem dX12_joinsAll_37 : decode cX12_joinsAll 37 = .ok (.ifCond .eq 51, 3) := by decide +kernel
theorem dX12_joinsAll_40 : decode cX12_joinsAll 40 = .ok (.iconst 0, 1) := by decide +kernel
theorem dX12_joinsAll_41 : decode cX12_joinsAll 41 = .ok (.istore_n 1, 1) := by decide +kernel
theorem dX12_joinsAll_42 : decode cX12_joinsAll 42 = .ok (.iconst 0, 1) := by decide +kernel
theorem dX12_joinsAll_43 : decode cX12_joinsAll 43 = .ok (.istore_n 2, 1) := by decide +kernel
theorem dX12_joinsAll_44 : decode cX12_joinsAll 44 = .ok (.iload_n 2, 1) := by decide +kernel
theorem dX12_joinsAll_45 : decode cX12_joinsAll 45 = .ok (.aload_n 0, 1) := by decide +kernel
theorem dX12_joinsAll_46 : decode cX12_joinsAll 46 = .ok (.getfield 39, 3) := by decide +kernel
theorem dX12_joinsAll_49 : decode cX12_joinsAll 49 = .ok (.iconst 3, 1) := by decide +kernel
theorem dX12_joinsAll_50 : decode cX12_joinsAll 50 = .ok (.iaload, 1) := by decide +kernel
theorem dX12_joinsAll_51 : decode cX12_joinsAll 51 = .ok (.if_icmp .ge 34, 3) := by decide +kernel
theorem dX12_joinsAll_54 : decode cX12_joinsAll 54 = .ok (.iload_n 1, 1) := by decide +kernel
theorem dX12_joinsAll_55 : decode cX12_joinsAll 55 = .ok (.ifCond .ne 30, 3) := by decide +kernel
theorem dX12_joinsAll_58 : decode cX12_joinsAll 58 = .ok (.aload_n 0, 1) := by decide +kernel
theorem dX12_joinsAll_59 : decode cX12_joinsAll 59 = .ok (.iload_n 2, 1) := by decide +kernel
theorem dX12_joinsAll_60 : decode cX12_joinsAll 60 = .ok (.invokevirtual 344, 3) := by decide +kernel
theorem dX12_joinsAll_63 : decode cX12_joinsAll 63 = .ok (.istore_n 3, 1) := by decide +kernel
theorem dX12_joinsAll_64 : decode cX12_joinsAll 64 = .ok (.iload_n 3, 1) := by decide +kernel
theorem dX12_joinsAll_65 : decode cX12_joinsAll 65 = .ok (.ifCond .ge 6, 3) := by decide +kernel
theorem dX12_joinsAll_68 : decode cX12_joinsAll 68 = .ok (.goto 11, 3) := by decide +kernel
theorem dX12_joinsAll_71 : decode cX12_joinsAll 71 = .ok (.aload_n 0, 1) := by decide +kernel
theorem dX12_joinsAll_72 : decode cX12_joinsAll 72 = .ok (.iload_n 2, 1) := by decide +kernel
theorem dX12_joinsAll_73 : decode cX12_joinsAll 73 = .ok (.iload_n 3, 1) := by decide +kernel
theorem dX12_joinsAll_74 : decode cX12_joinsAll 74 = .ok (.invokevirtual 347, 3) := by decide +kernel
theorem dX12_joinsAll_77 : decode cX12_joinsAll 77 = .ok (.iconst 1, 1) := by decide +kernel
theorem dX12_joinsAll_78 : decode cX12_joinsAll 78 = .ok (.istore_n 1, 1) := by decide +kernel
theorem dX12_joinsAll_79 : decode cX12_joinsAll 79 = .ok (.iinc 2 1, 3) := by decide +kernel
theorem dX12_joinsAll_82 : decode cX12_joinsAll 82 = .ok (.goto (-38), 3) := by decide +kernel
theorem dX12_joinsAll_85 : decode cX12_joinsAll 85 = .ok (.goto (-49), 3) := by decide +kernel
theorem dX12_joinsAll_88 : decode cX12_joinsAll 88 = .ok (.iconst 0, 1) := by decide +kernel
theorem dX12_joinsAll_89 : decode cX12_joinsAll 89 = .ok (.istore_n 2, 1) := by decide +kernel
theorem dX12_joinsAll_90 : decode cX12_joinsAll 90 = .ok (.iconst 0, 1) := by decide +kernel
theorem dX12_joinsAll_91 : decode cX12_joinsAll 91 = .ok (.istore_n 3, 1) := by decide +kernel
theorem dX12_joinsAll_92 : decode cX12_joinsAll 92 = .ok (.iload_n 3, 1) := by decide +kernel
theorem dX12_joinsAll_93 : decode cX12_joinsAll 93 = .ok (.aload_n 0, 1) := by decide +kernel
theorem dX12_joinsAll_94 : decode cX12_joinsAll 94 = .ok (.getfield 39, 3) := by decide +kernel
theorem dX12_joinsAll_97 : decode cX12_joinsAll 97 = .ok (.iconst 4, 1) := by decide +kernel
theorem dX12_joinsAll_98 : decode cX12_joinsAll 98 = .ok (.iaload, 1) := by decide +kernel
theorem dX12_joinsAll_99 : decode cX12_joinsAll 99 = .ok (.if_icmp .ge 36, 3) := by decide +kernel
theorem dX12_joinsAll_102 : decode cX12_joinsAll 102 = .ok (.aload_n 0, 1) := by decide +kernel
theorem dX12_joinsAll_103 : decode cX12_joinsAll 103 = .ok (.getfield 56, 3) := by decide +kernel
theorem dX12_joinsAll_106 : decode cX12_joinsAll 106 = .ok (.iload_n 3, 1) := by decide +kernel
theorem dX12_joinsAll_107 : decode cX12_joinsAll 107 = .ok (.iaload, 1) := by decide +kernel
theorem dX12_joinsAll_108 : decode cX12_joinsAll 108 = .ok (.ifCond .ge 6, 3) := by decide +kernel
theorem dX12_joinsAll_111 : decode cX12_joinsAll 111 = .ok (.goto 18, 3) := by decide +kernel
theorem dX12_joinsAll_114 : decode cX12_joinsAll 114 = .ok (.aload_n 0, 1) := by decide +kernel
theorem dX12_joinsAll_115 : decode cX12_joinsAll 115 = .ok (.aload_n 0, 1) := by decide +kernel
theorem dX12_joinsAll_116 : decode cX12_joinsAll 116 = .ok (.getfield 56, 3) := by decide +kernel
theorem dX12_joinsAll_119 : decode cX12_joinsAll 119 = .ok (.iload_n 3, 1) := by decide +kernel
theorem dX12_joinsAll_120 : decode cX12_joinsAll 120 = .ok (.iaload, 1) := by decide +kernel
theorem dX12_joinsAll_121 : decode cX12_joinsAll 121 = .ok (.iload_n 3, 1) := by decide +kernel
theorem dX12_joinsAll_122 : decode cX12_joinsAll 122 = .ok (.invokevirtual 350, 3) := by decide +kernel
theorem dX12_joinsAll_125 : decode cX12_joinsAll 125 = .ok (.pop, 1) := by decide +kernel
theorem dX12_joinsAll_126 : decode cX12_joinsAll 126 = .ok (.iinc 2 1, 3) := by decide +kernel
theorem dX12_joinsAll_129 : decode cX12_joinsAll 129 = .ok (.iinc 3 1, 3) := by decide +kernel
theorem dX12_joinsAll_132 : decode cX12_joinsAll 132 = .ok (.goto (-40), 3) := by decide +kernel
theorem dX12_joinsAll_135 : decode cX12_joinsAll 135 = .ok (.iload_n 2, 1) := by decide +kernel
theorem dX12_joinsAll_136 : decode cX12_joinsAll 136 = .ok (.ireturn, 1) := by decide +kernel
theorem dX12_learns_0 : decode cX12_learns 0 = .ok (.aload_n 0, 1) := by decide +kernel
theorem dX12_learns_1 : decode cX12_learns 1 = .ok (.iconst 0, 1) := by decide +kernel
theorem dX12_learns_2 : decode cX12_learns 2 = .ok (.iload_n 1, 1) := by decide +kernel
theorem dX12_learns_3 : decode cX12_learns 3 = .ok (.iconst 1, 1) := by decide +kernel
theorem dX12_learns_4 : decode cX12_learns 4 = .ok (.invokevirtual 301, 3) := by decide +kernel
theorem dX12_learns_7 : decode cX12_learns 7 = .ok (.istore_n 2, 1) := by decide +kernel
theorem dX12_learns_8 : decode cX12_learns 8 = .ok (.iload_n 2, 1) := by decide +kernel
theorem dX12_learns_9 : decode cX12_learns 9 = .ok (.ifCond .ge 4, 3) := by decide +kernel
theorem dX12_learns_12 : decode cX12_learns 12 = .ok (.return_, 1) := by decide +kernel
theorem dX12_learns_13 : decode cX12_learns 13 = .ok (.iconst 0, 1) := by decide +kernel
theorem dX12_learns_14 : decode cX12_learns 14 = .ok (.istore_n 3, 1) := by decide +kernel
theorem dX12_learns_15 : decode cX12_learns 15 = .ok (.iload_n 3, 1) := by decide +kernel
theorem dX12_learns_16 : decode cX12_learns 16 = .ok (.iconst 2, 1) := by decide +kernel
theorem dX12_learns_17 : decode cX12_learns 17 = .ok (.if_icmp .ge 89, 3) := by decide +kernel
theorem dX12_learns_20 : decode cX12_learns 20 = .ok (.bipush 16, 2) := by decide +kernel
theorem dX12_learns_22 : decode cX12_learns 22 = .ok (.iload_n 3, 1) := by decide +kernel
theorem dX12_learns_23 : decode cX12_learns 23 = .ok (.imul, 1) := by decide +kernel
theorem dX12_learns_24 : decode cX12_learns 24 = .ok (.iconst 4, 1) := by decide +kernel
theorem dX12_learns_25 : decode cX12_learns 25 = .ok (.iload_n 1, 1) := by decide +kernel
theorem dX12_learns_26 : decode cX12_learns 26 = .ok (.imul, 1) := by decide +kernel
theorem dX12_learns_27 : decode cX12_learns 27 = .ok (.iadd, 1) := by decide +kernel
theorem dX12_learns_28 : decode cX12_learns 28 = .ok (.iload_n 2, 1) := by decide +kernel
theorem dX12_learns_29 : decode cX12_learns 29 = .ok (.iadd, 1) := by decide +kernel
theorem dX12_learns_30 : decode cX12_learns 30 = .ok (.istore 4, 2) := by decide +kernel
theorem dX12_learns_32 : decode cX12_learns 32 = .ok (.aload_n 0, 1) := by decide +kernel
theorem dX12_learns_33 : decode cX12_learns 33 = .ok (.getfield 39, 3) := by decide +kernel
theorem dX12_learns_36 : decode cX12_learns 36 = .ok (.bipush 43, 2) := by decide +kernel
theorem dX12_learns_38 : decode cX12_learns 38 = .ok (.iload 4, 2) := by decide +kernel
theorem dX12_learns_40 : decode cX12_learns 40 = .ok (.iadd, 1) := by decide +kernel
theorem dX12_learns_41 : decode cX12_learns 41 = .ok (.dup2, 1) := by decide +kernel
theorem dX12_learns_42 : decode cX12_learns 42 = .ok (.iaload, 1) := by decide +kernel
theorem dX12_learns_43 : decode cX12_learns 43 = .ok (.aload_n 0, 1) := by decide +kernel
theorem dX12_learns_44 : decode cX12_learns 44 = .ok (.getfield 39, 3) := by decide +kernel
theorem dX12_learns_47 : decode cX12_learns 47 = .ok (.bipush 78, 2) := by decide +kernel
theorem dX12_learns_49 : decode cX12_learns 49 = .ok (.iload 4, 2) := by decide +kernel
theorem dX12_learns_51 : decode cX12_learns 51 = .ok (.iadd, 1) := by decide +kernel
theorem dX12_learns_52 : decode cX12_learns 52 = .ok (.iaload, 1) := by decide +kernel
theorem dX12_learns_53 : decode cX12_learns 53 = .ok (.aload_n 0, 1) := by decide +kernel
theorem dX12_learns_54 : decode cX12_learns 54 = .ok (.getfield 39, 3) := by decide +kernel
theorem dX12_learns_57 : decode cX12_learns 57 = .ok (.bipush 43, 2) := by decide +kernel
theorem dX12_learns_59 : decode cX12_learns 59 = .ok (.iload 4, 2) := by decide +kernel
theorem dX12_learns_61 : decode cX12_learns 61 = .ok (.iadd, 1) := by decide +kernel
theorem dX12_learns_62 : decode cX12_learns 62 = .ok (.iaload, 1) := by decide +kernel
theorem dX12_learns_63 : decode cX12_learns 63 = .ok (.if_icmp .le 7, 3) := by decide +kernel
theorem dX12_learns_66 : decode cX12_learns 66 = .ok (.iconst 1, 1) := by decide +kernel
theorem dX12_learns_67 : decode cX12_learns 67 = .ok (.goto 31, 3) := by decide +kernel
theorem dX12_learns_70 : decode cX12_learns 70 = .ok (.aload_n 0, 1) := by decide +kernel
theorem dX12_learns_71 : decode cX12_learns 71 = .ok (.getfield 39, 3) := by decide +kernel
theorem dX12_learns_74 : decode cX12_learns 74 = .ok (.bipush 78, 2) := by decide +kernel
theorem dX12_learns_76 : decode cX12_learns 76 = .ok (.iload 4, 2) := by decide +kernel
theorem dX12_learns_78 : decode cX12_learns 78 = .ok (.iadd, 1) := by decide +kernel
theorem dX12_learns_79 : decode cX12_learns 79 = .ok (.iaload, 1) := by decide +kernel
theorem dX12_learns_80 : decode cX12_learns 80 = .ok (.aload_n 0, 1) := by decide +kernel
theorem dX12_learns_81 : decode cX12_learns 81 = .ok (.getfield 39, 3) := by decide +kernel
theorem dX12_learns_84 : decode cX12_learns 84 = .ok (.bipush 43, 2) := by decide +kernel
theorem dX12_learns_86 : decode cX12_learns 86 = .ok (.iload 4, 2) := by decide +kernel
theorem dX12_learns_88 : decode cX12_learns 88 = .ok (.iadd, 1) := by decide +kernel
theorem dX12_learns_89 : decode cX12_learns 89 = .ok (.iaload, 1) := by decide +kernel
theorem dX12_learns_90 : decode cX12_learns 90 = .ok (.if_icmp .ge 7, 3) := by decide +kernel
theorem dX12_learns_93 : decode cX12_learns 93 = .ok (.iconst (-1), 1) := by decide +kernel
theorem dX12_learns_94 : decode cX12_learns 94 = .ok (.goto 4, 3) := by decide +kernel
theorem dX12_learns_97 : decode cX12_learns 97 = .ok (.iconst 0, 1) := by decide +kernel
theorem dX12_learns_98 : decode cX12_learns 98 = .ok (.iadd, 1) := by decide +kernel
theorem dX12_learns_99 : decode cX12_learns 99 = .ok (.iastore, 1) := by decide +kernel
theorem dX12_learns_100 : decode cX12_learns 100 = .ok (.iinc 3 1, 3) := by decide +kernel
theorem dX12_learns_103 : decode cX12_learns 103 = .ok (.goto (-88), 3) := by decide +kernel
theorem dX12_learns_106 : decode cX12_learns 106 = .ok (.aload_n 0, 1) := by decide +kernel
theorem dX12_learns_107 : decode cX12_learns 107 = .ok (.getfield 39, 3) := by decide +kernel
theorem dX12_learns_110 : decode cX12_learns 110 = .ok (.iconst 0, 1) := by decide +kernel
theorem dX12_learns_111 : decode cX12_learns 111 = .ok (.iload_n 1, 1) := by decide +kernel
theorem dX12_learns_112 : decode cX12_learns 112 = .ok (.invokestatic 297, 3) := by decide +kernel
theorem dX12_learns_115 : decode cX12_learns 115 = .ok (.iconst 2, 1) := by decide +kernel
theorem dX12_learns_116 : decode cX12_learns 116 = .ok (.iadd, 1) := by decide +kernel
theorem dX12_learns_117 : decode cX12_learns 117 = .ok (.dup2, 1) := by decide +kernel
theorem dX12_learns_118 : decode cX12_learns 118 = .ok (.iaload, 1) := by decide +kernel
theorem dX12_learns_119 : decode cX12_learns 119 = .ok (.iconst 1, 1) := by decide +kernel
theorem dX12_learns_120 : decode cX12_learns 120 = .ok (.iadd, 1) := by decide +kernel
theorem dX12_learns_121 : decode cX12_learns 121 = .ok (.iastore, 1) := by decide +kernel
theorem dX12_learns_122 : decode cX12_learns 122 = .ok (.aload_n 0, 1) := by decide +kernel
theorem dX12_learns_123 : decode cX12_learns 123 = .ok (.getfield 39, 3) := by decide +kernel
theorem dX12_learns_126 : decode cX12_learns 126 = .ok (.iconst 1, 1) := by decide +kernel
theorem dX12_learns_127 : decode cX12_learns 127 = .ok (.iload_n 2, 1) := by decide +kernel
theorem dX12_learns_128 : decode cX12_learns 128 = .ok (.invokestatic 297, 3) := by decide +kernel
theorem dX12_learns_131 : decode cX12_learns 131 = .ok (.iconst 2, 1) := by decide +kernel
theorem dX12_learns_132 : decode cX12_learns 132 = .ok (.iadd, 1) := by decide +kernel
theorem dX12_learns_133 : decode cX12_learns 133 = .ok (.dup2, 1) := by decide +kernel
theorem dX12_learns_134 : decode cX12_learns 134 = .ok (.iaload, 1) := by decide +kernel
theorem dX12_learns_135 : decode cX12_learns 135 = .ok (.iconst 1, 1) := by decide +kernel
theorem dX12_learns_136 : decode cX12_learns 136 = .ok (.iadd, 1) := by decide +kernel
theorem dX12_learns_137 : decode cX12_learns 137 = .ok (.iastore, 1) := by decide +kernel
theorem dX12_learns_138 : decode cX12_learns 138 = .ok (.return_, 1) := by decide +kernel
theorem dX12_passes_0 : decode cX12_passes 0 = .ok (.iconst 0, 1) := by decide +kernel
theorem dX12_passes_1 : decode cX12_passes 1 = .ok (.istore_n 1, 1) := by decide +kernel
theorem dX12_passes_2 : decode cX12_passes 2 = .ok (.aload_n 0, 1) := by decide +kernel
theorem dX12_passes_3 : decode cX12_passes 3 = .ok (.invokevirtual 353, 3) := by decide +kernel
theorem dX12_passes_6 : decode cX12_passes 6 = .ok (.ifCond .ne 105, 3) := by decide +kernel
theorem dX12_passes_9 : decode cX12_passes 9 = .ok (.iconst 0, 1) := by decide +kernel
theorem dX12_passes_10 : decode cX12_passes 10 = .ok (.istore_n 2, 1) := by decide +kernel
theorem dX12_passes_11 : decode cX12_passes 11 = .ok (.iload_n 2, 1) := by decide +kernel
theorem dX12_passes_12 : decode cX12_passes 12 = .ok (.aload_n 0, 1) := by decide +kernel
theorem dX12_passes_13 : decode cX12_passes 13 = .ok (.getfield 39, 3) := by decide +kernel
theorem dX12_passes_16 : decode cX12_passes 16 = .ok (.iconst 3, 1) := by decide +kernel
theorem dX12_passes_17 : decode cX12_passes 17 = .ok (.iaload, 1) := by decide +kernel
theorem dX12_passes_18 : decode cX12_passes 18 = .ok (.if_icmp .ge 22, 3) := by decide +kernel
theorem dX12_passes_21 : decode cX12_passes 21 = .ok (.aload_n 0, 1) := by decide +kernel
theorem dX12_passes_22 : decode cX12_passes 22 = .ok (.getfield 46, 3) := by decide +kernel
theorem dX12_passes_25 : decode cX12_passes 25 = .ok (.iload_n 2, 1) := by decide +kernel
theorem dX12_passes_26 : decode cX12_passes 26 = .ok (.aload_n 0, 1) := by decide +kernel
theorem dX12_passes_27 : decode cX12_passes 27 = .ok (.iconst 0, 1) := by decide +kernel
theorem dX12_passes_28 : decode cX12_passes 28 = .ok (.iload_n 2, 1) := by decide +kernel
theorem dX12_passes_29 : decode cX12_passes 29 = .ok (.iconst 1, 1) := by decide +kernel
theorem dX12_passes_30 : decode cX12_passes 30 = .ok (.invokevirtual 301, 3) := by decide +kernel
theorem dX12_passes_33 : decode cX12_passes 33 = .ok (.iastore, 1) := by decide +kernel
theorem dX12_passes_34 : decode cX12_passes 34 = .ok (.iinc 2 1, 3) := by decide +kernel
theorem dX12_passes_37 : decode cX12_passes 37 = .ok (.goto (-26), 3) := by decide +kernel
theorem dX12_passes_40 : decode cX12_passes 40 = .ok (.iconst 0, 1) := by decide +kernel
theorem dX12_passes_41 : decode cX12_passes 41 = .ok (.istore_n 2, 1) := by decide +kernel
theorem dX12_passes_42 : decode cX12_passes 42 = .ok (.iload_n 2, 1) := by decide +kernel
theorem dX12_passes_43 : decode cX12_passes 43 = .ok (.aload_n 0, 1) := by decide +kernel
theorem dX12_passes_44 : decode cX12_passes 44 = .ok (.getfield 39, 3) := by decide +kernel
theorem dX12_passes_47 : decode cX12_passes 47 = .ok (.iconst 3, 1) := by decide +kernel
theorem dX12_passes_48 : decode cX12_passes 48 = .ok (.iaload, 1) := by decide +kernel
theorem dX12_passes_49 : decode cX12_passes 49 = .ok (.if_icmp .ge 57, 3) := by decide +kernel
theorem dX12_passes_52 : decode cX12_passes 52 = .ok (.aload_n 0, 1) := by decide +kernel
theorem dX12_passes_53 : decode cX12_passes 53 = .ok (.iconst 0, 1) := by decide +kernel
theorem dX12_passes_54 : decode cX12_passes 54 = .ok (.iload_n 2, 1) := by decide +kernel
theorem dX12_passes_55 : decode cX12_passes 55 = .ok (.invokevirtual 318, 3) := by decide +kernel
theorem dX12_passes_58 : decode cX12_passes 58 = .ok (.ifCond .eq 6, 3) := by decide +kernel
theorem dX12_passes_61 : decode cX12_passes 61 = .ok (.goto 39, 3) := by decide +kernel
theorem dX12_passes_64 : decode cX12_passes 64 = .ok (.aload_n 0, 1) := by decide +kernel
theorem dX12_passes_65 : decode cX12_passes 65 = .ok (.iconst 0, 1) := by decide +kernel
theorem dX12_passes_66 : decode cX12_passes 66 = .ok (.iload_n 2, 1) := by decide +kernel
theorem dX12_passes_67 : decode cX12_passes 67 = .ok (.invokevirtual 356, 3) := by decide +kernel
theorem dX12_passes_70 : decode cX12_passes 70 = .ok (.istore_n 3, 1) := by decide +kernel
theorem dX12_passes_71 : decode cX12_passes 71 = .ok (.aload_n 0, 1) := by decide +kernel
theorem dX12_passes_72 : decode cX12_passes 72 = .ok (.iconst 1, 1) := by decide +kernel
theorem dX12_passes_73 : decode cX12_passes 73 = .ok (.aload_n 0, 1) := by decide +kernel
theorem dX12_passes_74 : decode cX12_passes 74 = .ok (.iconst 0, 1) := by decide +kernel
theorem dX12_passes_75 : decode cX12_passes 75 = .ok (.iload_n 2, 1) := by decide +kernel
theorem dX12_passes_76 : decode cX12_passes 76 = .ok (.iconst 1, 1) := by decide +kernel
theorem dX12_passes_77 : decode cX12_passes 77 = .ok (.invokevirtual 301, 3) := by decide +kernel
theorem dX12_passes_80 : decode cX12_passes 80 = .ok (.invokevirtual 356, 3) := by decide +kernel
theorem dX12_passes_83 : decode cX12_passes 83 = .ok (.istore 4, 2) := by decide +kernel
theorem dX12_passes_85 : decode cX12_passes 85 = .ok (.iload_n 3, 1) := by decide +kernel
theorem dX12_passes_86 : decode cX12_passes 86 = .ok (.ifCond .eq 8, 3) := by decide +kernel
theorem dX12_passes_89 : decode cX12_passes 89 = .ok (.iload 4, 2) := by decide +kernel
theorem dX12_passes_91 : decode cX12_passes 91 = .ok (.ifCond .ne 9, 3) := by decide +kernel
theorem dX12_passes_94 : decode cX12_passes 94 = .ok (.aload_n 0, 1) := by decide +kernel
theorem dX12_passes_95 : decode cX12_passes 95 = .ok (.iload_n 2, 1) := by decide +kernel
theorem dX12_passes_96 : decode cX12_passes 96 = .ok (.invokevirtual 359, 3) := by decide +kernel
theorem dX12_passes_99 : decode cX12_passes 99 = .ok (.pop, 1) := by decide +kernel
theorem dX12_passes_100 : decode cX12_passes 100 = .ok (.iinc 2 1, 3) := by decide +kernel
theorem dX12_passes_103 : decode cX12_passes 103 = .ok (.goto (-61), 3) := by decide +kernel
theorem dX12_passes_106 : decode cX12_passes 106 = .ok (.aload_n 0, 1) := by decide +kernel
theorem dX12_passes_107 : decode cX12_passes 107 = .ok (.invokevirtual 362, 3) := by decide +kernel
theorem dX12_passes_110 : decode cX12_passes 110 = .ok (.istore_n 1, 1) := by decide +kernel
theorem dX12_passes_111 : decode cX12_passes 111 = .ok (.iconst 0, 1) := by decide +kernel
theorem dX12_passes_112 : decode cX12_passes 112 = .ok (.istore_n 2, 1) := by decide +kernel
theorem dX12_passes_113 : decode cX12_passes 113 = .ok (.iload_n 2, 1) := by decide +kernel
theorem dX12_passes_114 : decode cX12_passes 114 = .ok (.aload_n 0, 1) := by decide +kernel
theorem dX12_passes_115 : decode cX12_passes 115 = .ok (.getfield 39, 3) := by decide +kernel
theorem dX12_passes_118 : decode cX12_passes 118 = .ok (.iconst 3, 1) := by decide +kernel
theorem dX12_passes_119 : decode cX12_passes 119 = .ok (.iaload, 1) := by decide +kernel
theorem dX12_passes_120 : decode cX12_passes 120 = .ok (.if_icmp .ge 14, 3) := by decide +kernel
theorem dX12_passes_123 : decode cX12_passes 123 = .ok (.aload_n 0, 1) := by decide +kernel
theorem dX12_passes_124 : decode cX12_passes 124 = .ok (.iload_n 2, 1) := by decide +kernel
theorem dX12_passes_125 : decode cX12_passes 125 = .ok (.invokevirtual 365, 3) := by decide +kernel
theorem dX12_passes_128 : decode cX12_passes 128 = .ok (.iinc 2 1, 3) := by decide +kernel
theorem dX12_passes_131 : decode cX12_passes 131 = .ok (.goto (-18), 3) := by decide +kernel
theorem dX12_passes_134 : decode cX12_passes 134 = .ok (.aload_n 0, 1) := by decide +kernel
theorem dX12_passes_135 : decode cX12_passes 135 = .ok (.getfield 39, 3) := by decide +kernel
theorem dX12_passes_138 : decode cX12_passes 138 = .ok (.bipush 10, 2) := by decide +kernel
theorem dX12_passes_140 : decode cX12_passes 140 = .ok (.dup2, 1) := by decide +kernel
theorem dX12_passes_141 : decode cX12_passes 141 = .ok (.iaload, 1) := by decide +kernel
theorem dX12_passes_142 : decode cX12_passes 142 = .ok (.iconst 1, 1) := by decide +kernel
theorem dX12_passes_143 : decode cX12_passes 143 = .ok (.iadd, 1) := by decide +kernel
theorem dX12_passes_144 : decode cX12_passes 144 = .ok (.iastore, 1) := by decide +kernel
theorem dX12_passes_145 : decode cX12_passes 145 = .ok (.iload_n 1, 1) := by decide +kernel
theorem dX12_passes_146 : decode cX12_passes 146 = .ok (.ireturn, 1) := by decide +kernel
theorem dX12_keepsAct_0 : decode cX12_keepsAct 0 = .ok (.aload_n 0, 1) := by decide +kernel
theorem dX12_keepsAct_1 : decode cX12_keepsAct 1 = .ok (.getfield 279, 3) := by decide +kernel
theorem dX12_keepsAct_4 : decode cX12_keepsAct 4 = .ok (.bipush 20, 2) := by decide +kernel
theorem dX12_keepsAct_6 : decode cX12_keepsAct 6 = .ok (.if_icmp .ne 44, 3) := by decide +kernel
theorem dX12_keepsAct_9 : decode cX12_keepsAct 9 = .ok (.bipush 68, 2) := by decide +kernel
theorem dX12_keepsAct_11 : decode cX12_keepsAct 11 = .ok (.istore_n 1, 1) := by decide +kernel
theorem dX12_keepsAct_12 : decode cX12_keepsAct 12 = .ok (.iload_n 1, 1) := by decide +kernel
theorem dX12_keepsAct_13 : decode cX12_keepsAct 13 = .ok (.sipush 1360, 3) := by decide +kernel
theorem dX12_keepsAct_16 : decode cX12_keepsAct 16 = .ok (.if_icmp .ge 24, 3) := by decide +kernel
theorem dX12_keepsAct_19 : decode cX12_keepsAct 19 = .ok (.aload_n 0, 1) := by decide +kernel
theorem dX12_keepsAct_20 : decode cX12_keepsAct 20 = .ok (.getfield 59, 3) := by decide +kernel
theorem dX12_keepsAct_23 : decode cX12_keepsAct 23 = .ok (.iload_n 1, 1) := by decide +kernel
theorem dX12_keepsAct_24 : decode cX12_keepsAct 24 = .ok (.bipush 68, 2) := by decide +kernel
theorem dX12_keepsAct_26 : decode cX12_keepsAct 26 = .ok (.isub, 1) := by decide +kernel
theorem dX12_keepsAct_27 : decode cX12_keepsAct 27 = .ok (.aload_n 0, 1) := by decide +kernel
theorem dX12_keepsAct_28 : decode cX12_keepsAct 28 = .ok (.getfield 59, 3) := by decide +kernel
theorem dX12_keepsAct_31 : decode cX12_keepsAct 31 = .ok (.iload_n 1, 1) := by decide +kernel
theorem dX12_keepsAct_32 : decode cX12_keepsAct 32 = .ok (.iaload, 1) := by decide +kernel
theorem dX12_keepsAct_33 : decode cX12_keepsAct 33 = .ok (.iastore, 1) := by decide +kernel
theorem dX12_keepsAct_34 : decode cX12_keepsAct 34 = .ok (.iinc 1 1, 3) := by decide +kernel
theorem dX12_keepsAct_37 : decode cX12_keepsAct 37 = .ok (.goto (-25), 3) := by decide +kernel
theorem dX12_keepsAct_40 : decode cX12_keepsAct 40 = .ok (.aload_n 0, 1) := by decide +kernel
theorem dX12_keepsAct_41 : decode cX12_keepsAct 41 = .ok (.dup, 1) := by decide +kernel
theorem dX12_keepsAct_42 : decode cX12_keepsAct 42 = .ok (.getfield 279, 3) := by decide +kernel
theorem dX12_keepsAct_45 : decode cX12_keepsAct 45 = .ok (.iconst 1, 1) := by decide +kernel
theorem dX12_keepsAct_46 : decode cX12_keepsAct 46 = .ok (.isub, 1) := by decide +kernel
theorem dX12_keepsAct_47 : decode cX12_keepsAct 47 = .ok (.putfield 279, 3) := by decide +kernel
theorem dX12_keepsAct_50 : decode cX12_keepsAct 50 = .ok (.iconst 0, 1) := by decide +kernel
theorem dX12_keepsAct_51 : decode cX12_keepsAct 51 = .ok (.istore_n 1, 1) := by decide +kernel
theorem dX12_keepsAct_52 : decode cX12_keepsAct 52 = .ok (.iload_n 1, 1) := by decide +kernel
theorem dX12_keepsAct_53 : decode cX12_keepsAct 53 = .ok (.bipush 68, 2) := by decide +kernel
theorem dX12_keepsAct_55 : decode cX12_keepsAct 55 = .ok (.if_icmp .ge 32, 3) := by decide +kernel
theorem dX12_keepsAct_58 : decode cX12_keepsAct 58 = .ok (.aload_n 0, 1) := by decide +kernel
theorem dX12_keepsAct_59 : decode cX12_keepsAct 59 = .ok (.getfield 59, 3) := by decide +kernel
theorem dX12_keepsAct_62 : decode cX12_keepsAct 62 = .ok (.bipush 68, 2) := by decide +kernel
theorem dX12_keepsAct_64 : decode cX12_keepsAct 64 = .ok (.aload_n 0, 1) := by decide +kernel
theorem dX12_keepsAct_65 : decode cX12_keepsAct 65 = .ok (.getfield 279, 3) := by decide +kernel
theorem dX12_keepsAct_68 : decode cX12_keepsAct 68 = .ok (.imul, 1) := by decide +kernel
theorem dX12_keepsAct_69 : decode cX12_keepsAct 69 = .ok (.iload_n 1, 1) := by decide +kernel
theorem dX12_keepsAct_70 : decode cX12_keepsAct 70 = .ok (.iadd, 1) := by decide +kernel
theorem dX12_keepsAct_71 : decode cX12_keepsAct 71 = .ok (.aload_n 0, 1) := by decide +kernel
theorem dX12_keepsAct_72 : decode cX12_keepsAct 72 = .ok (.getfield 39, 3) := by decide +kernel
theorem dX12_keepsAct_75 : decode cX12_keepsAct 75 = .ok (.bipush 10, 2) := by decide +kernel
theorem dX12_keepsAct_77 : decode cX12_keepsAct 77 = .ok (.iload_n 1, 1) := by decide +kernel
theorem dX12_keepsAct_78 : decode cX12_keepsAct 78 = .ok (.iadd, 1) := by decide +kernel
theorem dX12_keepsAct_79 : decode cX12_keepsAct 79 = .ok (.iaload, 1) := by decide +kernel
theorem dX12_keepsAct_80 : decode cX12_keepsAct 80 = .ok (.iastore, 1) := by decide +kernel
theorem dX12_keepsAct_81 : decode cX12_keepsAct 81 = .ok (.iinc 1 1, 3) := by decide +kernel
theorem dX12_keepsAct_84 : decode cX12_keepsAct 84 = .ok (.goto (-32), 3) := by decide +kernel
theorem dX12_keepsAct_87 : decode cX12_keepsAct 87 = .ok (.aload_n 0, 1) := by decide +kernel
theorem dX12_keepsAct_88 : decode cX12_keepsAct 88 = .ok (.dup, 1) := by decide +kernel
theorem dX12_keepsAct_89 : decode cX12_keepsAct 89 = .ok (.getfield 279, 3) := by decide +kernel
theorem dX12_keepsAct_92 : decode cX12_keepsAct 92 = .ok (.iconst 1, 1) := by decide +kernel
theorem dX12_keepsAct_93 : decode cX12_keepsAct 93 = .ok (.iadd, 1) := by decide +kernel
theorem dX12_keepsAct_94 : decode cX12_keepsAct 94 = .ok (.putfield 279, 3) := by decide +kernel
theorem dX12_keepsAct_97 : decode cX12_keepsAct 97 = .ok (.return_, 1) := by decide +kernel
theorem dX12_undo_0 : decode cX12_undo 0 = .ok (.aload_n 0, 1) := by decide +kernel
theorem dX12_undo_1 : decode cX12_undo 1 = .ok (.getfield 279, 3) := by decide +kernel
theorem dX12_undo_4 : decode cX12_undo 4 = .ok (.ifCond .ne 5, 3) := by decide +kernel
theorem dX12_undo_7 : decode cX12_undo 7 = .ok (.iconst (-1), 1) := by decide +kernel
theorem dX12_undo_8 : decode cX12_undo 8 = .ok (.ireturn, 1) := by decide +kernel
theorem dX12_undo_9 : decode cX12_undo 9 = .ok (.aload_n 0, 1) := by decide +kernel
theorem dX12_undo_10 : decode cX12_undo 10 = .ok (.dup, 1) := by decide +kernel
theorem dX12_undo_11 : decode cX12_undo 11 = .ok (.getfield 279, 3) := by decide +kernel
theorem dX12_undo_14 : decode cX12_undo 14 = .ok (.iconst 1, 1) := by decide +kernel
theorem dX12_undo_15 : decode cX12_undo 15 = .ok (.isub, 1) := by decide +kernel
theorem dX12_undo_16 : decode cX12_undo 16 = .ok (.putfield 279, 3) := by decide +kernel
theorem dX12_undo_19 : decode cX12_undo 19 = .ok (.iconst 0, 1) := by decide +kernel
theorem dX12_undo_20 : decode cX12_undo 20 = .ok (.istore_n 1, 1) := by decide +kernel
theorem dX12_undo_21 : decode cX12_undo 21 = .ok (.iload_n 1, 1) := by decide +kernel
theorem dX12_undo_22 : decode cX12_undo 22 = .ok (.bipush 68, 2) := by decide +kernel
theorem dX12_undo_24 : decode cX12_undo 24 = .ok (.if_icmp .ge 32, 3) := by decide +kernel
theorem dX12_undo_27 : decode cX12_undo 27 = .ok (.aload_n 0, 1) := by decide +kernel
theorem dX12_undo_28 : decode cX12_undo 28 = .ok (.getfield 39, 3) := by decide +kernel
theorem dX12_undo_31 : decode cX12_undo 31 = .ok (.bipush 10, 2) := by decide +kernel
theorem dX12_undo_33 : decode cX12_undo 33 = .ok (.iload_n 1, 1) := by decide +kernel
theorem dX12_undo_34 : decode cX12_undo 34 = .ok (.iadd, 1) := by decide +kernel
theorem dX12_undo_35 : decode cX12_undo 35 = .ok (.aload_n 0, 1) := by decide +kernel
theorem dX12_undo_36 : decode cX12_undo 36 = .ok (.getfield 59, 3) := by decide +kernel
theorem dX12_undo_39 : decode cX12_undo 39 = .ok (.bipush 68, 2) := by decide +kernel
theorem dX12_undo_41 : decode cX12_undo 41 = .ok (.aload_n 0, 1) := by decide +kernel
theorem dX12_undo_42 : decode cX12_undo 42 = .ok (.getfield 279, 3) := by decide +kernel
theorem dX12_undo_45 : decode cX12_undo 45 = .ok (.imul, 1) := by decide +kernel
theorem dX12_undo_46 : decode cX12_undo 46 = .ok (.iload_n 1, 1) := by decide +kernel
theorem dX12_undo_47 : decode cX12_undo 47 = .ok (.iadd, 1) := by decide +kernel
theorem dX12_undo_48 : decode cX12_undo 48 = .ok (.iaload, 1) := by decide +kernel
theorem dX12_undo_49 : decode cX12_undo 49 = .ok (.iastore, 1) := by decide +kernel
theorem dX12_undo_50 : decode cX12_undo 50 = .ok (.iinc 1 1, 3) := by decide +kernel
theorem dX12_undo_53 : decode cX12_undo 53 = .ok (.goto (-32), 3) := by decide +kernel
theorem dX12_undo_56 : decode cX12_undo 56 = .ok (.aload_n 0, 1) := by decide +kernel
theorem dX12_undo_57 : decode cX12_undo 57 = .ok (.getfield 279, 3) := by decide +kernel
theorem dX12_undo_60 : decode cX12_undo 60 = .ok (.ireturn, 1) := by decide +kernel
theorem dX12_fair_0 : decode cX12_fair 0 = .ok (.aload_n 0, 1) := by decide +kernel
theorem dX12_fair_1 : decode cX12_fair 1 = .ok (.invokevirtual 368, 3) := by decide +kernel
theorem dX12_fair_4 : decode cX12_fair 4 = .ok (.ifCond .eq 16, 3) := by decide +kernel
theorem dX12_fair_7 : decode cX12_fair 7 = .ok (.aload_n 0, 1) := by decide +kernel
theorem dX12_fair_8 : decode cX12_fair 8 = .ok (.getfield 39, 3) := by decide +kernel
theorem dX12_fair_11 : decode cX12_fair 11 = .ok (.bipush 10, 2) := by decide +kernel
theorem dX12_fair_13 : decode cX12_fair 13 = .ok (.iaload, 1) := by decide +kernel
theorem dX12_fair_14 : decode cX12_fair 14 = .ok (.sipush 999, 3) := by decide +kernel
theorem dX12_fair_17 : decode cX12_fair 17 = .ok (.if_icmp .ne 5, 3) := by decide +kernel
theorem dX12_fair_20 : decode cX12_fair 20 = .ok (.iconst (-1), 1) := by decide +kernel
theorem dX12_fair_21 : decode cX12_fair 21 = .ok (.ireturn, 1) := by decide +kernel
theorem dX12_fair_22 : decode cX12_fair 22 = .ok (.aload_n 0, 1) := by decide +kernel
theorem dX12_fair_23 : decode cX12_fair 23 = .ok (.invokevirtual 371, 3) := by decide +kernel
theorem dX12_fair_26 : decode cX12_fair 26 = .ok (.aload_n 0, 1) := by decide +kernel
theorem dX12_fair_27 : decode cX12_fair 27 = .ok (.invokevirtual 374, 3) := by decide +kernel
theorem dX12_fair_30 : decode cX12_fair 30 = .ok (.ireturn, 1) := by decide +kernel
theorem dX12_canJoin_0 : decode cX12_canJoin 0 = .ok (.aload_n 0, 1) := by decide +kernel
theorem dX12_canJoin_1 : decode cX12_canJoin 1 = .ok (.iconst 0, 1) := by decide +kernel
theorem dX12_canJoin_2 : decode cX12_canJoin 2 = .ok (.iload_n 1, 1) := by decide +kernel
theorem dX12_canJoin_3 : decode cX12_canJoin 3 = .ok (.invokevirtual 318, 3) := by decide +kernel
theorem dX12_canJoin_6 : decode cX12_canJoin 6 = .ok (.ifCond .eq 25, 3) := by decide +kernel
theorem dX12_canJoin_9 : decode cX12_canJoin 9 = .ok (.aload_n 0, 1) := by decide +kernel
theorem dX12_canJoin_10 : decode cX12_canJoin 10 = .ok (.iconst 1, 1) := by decide +kernel
theorem dX12_canJoin_11 : decode cX12_canJoin 11 = .ok (.iload_n 2, 1) := by decide +kernel
theorem dX12_canJoin_12 : decode cX12_canJoin 12 = .ok (.invokevirtual 318, 3) := by decide +kernel
theorem dX12_canJoin_15 : decode cX12_canJoin 15 = .ok (.ifCond .eq 16, 3) := by decide +kernel
theorem dX12_canJoin_18 : decode cX12_canJoin 18 = .ok (.aload_n 0, 1) := by decide +kernel
theorem dX12_canJoin_19 : decode cX12_canJoin 19 = .ok (.iload_n 1, 1) := by decide +kernel
theorem dX12_canJoin_20 : decode cX12_canJoin 20 = .ok (.iload_n 2, 1) := by decide +kernel
theorem dX12_canJoin_21 : decode cX12_canJoin 21 = .ok (.invokevirtual 377, 3) := by decide +kernel
theorem dX12_canJoin_24 : decode cX12_canJoin 24 = .ok (.ifCond .eq 7, 3) := by decide +kernel
theorem dX12_canJoin_27 : decode cX12_canJoin 27 = .ok (.iconst 1, 1) := by decide +kernel
theorem dX12_canJoin_28 : decode cX12_canJoin 28 = .ok (.goto 4, 3) := by decide +kernel
theorem dX12_canJoin_31 : decode cX12_canJoin 31 = .ok (.iconst 0, 1) := by decide +kernel
theorem dX12_canJoin_32 : decode cX12_canJoin 32 = .ok (.ireturn, 1) := by decide +kernel
theorem dX12_join_0 : decode cX12_join 0 = .ok (.aload_n 0, 1) := by decide +kernel
theorem dX12_join_1 : decode cX12_join 1 = .ok (.iload_n 1, 1) := by decide +kernel
theorem dX12_join_2 : decode cX12_join 2 = .ok (.invokevirtual 324, 3) := by decide +kernel
theorem dX12_join_5 : decode cX12_join 5 = .ok (.ifCond .eq 20, 3) := by decide +kernel
theorem dX12_join_8 : decode cX12_join 8 = .ok (.aload_n 0, 1) := by decide +kernel
theorem dX12_join_9 : decode cX12_join 9 = .ok (.iload_n 2, 1) := by decide +kernel
theorem dX12_join_10 : decode cX12_join 10 = .ok (.invokevirtual 329, 3) := by decide +kernel
theorem dX12_join_13 : decode cX12_join 13 = .ok (.ifCond .eq 12, 3) := by decide +kernel
theorem dX12_join_16 : decode cX12_join 16 = .ok (.aload_n 0, 1) := by decide +kernel
theorem dX12_join_17 : decode cX12_join 17 = .ok (.iload_n 1, 1) := by decide +kernel
theorem dX12_join_18 : decode cX12_join 18 = .ok (.iload_n 2, 1) := by decide +kernel
theorem dX12_join_19 : decode cX12_join 19 = .ok (.invokevirtual 380, 3) := by decide +kernel
theorem dX12_join_22 : decode cX12_join 22 = .ok (.ifCond .ne 5, 3) := by decide +kernel
theorem dX12_join_25 : decode cX12_join 25 = .ok (.iconst (-1), 1) := by decide +kernel
theorem dX12_join_26 : decode cX12_join 26 = .ok (.ireturn, 1) := by decide +kernel
theorem dX12_join_27 : decode cX12_join 27 = .ok (.aload_n 0, 1) := by decide +kernel
theorem dX12_join_28 : decode cX12_join 28 = .ok (.invokevirtual 371, 3) := by decide +kernel
theorem dX12_join_31 : decode cX12_join 31 = .ok (.aload_n 0, 1) := by decide +kernel
theorem dX12_join_32 : decode cX12_join 32 = .ok (.iload_n 1, 1) := by decide +kernel
theorem dX12_join_33 : decode cX12_join 33 = .ok (.iload_n 2, 1) := by decide +kernel
theorem dX12_join_34 : decode cX12_join 34 = .ok (.invokevirtual 350, 3) := by decide +kernel
theorem dX12_join_37 : decode cX12_join 37 = .ok (.ireturn, 1) := by decide +kernel
theorem dX12_part_0 : decode cX12_part 0 = .ok (.aload_n 0, 1) := by decide +kernel
theorem dX12_part_1 : decode cX12_part 1 = .ok (.iload_n 1, 1) := by decide +kernel
theorem dX12_part_2 : decode cX12_part 2 = .ok (.invokevirtual 324, 3) := by decide +kernel
theorem dX12_part_5 : decode cX12_part 5 = .ok (.ifCond .eq 12, 3) := by decide +kernel
theorem dX12_part_8 : decode cX12_part 8 = .ok (.aload_n 0, 1) := by decide +kernel
theorem dX12_part_9 : decode cX12_part 9 = .ok (.iconst 0, 1) := by decide +kernel
theorem dX12_part_10 : decode cX12_part 10 = .ok (.iload_n 1, 1) := by decide +kernel
theorem dX12_part_11 : decode cX12_part 11 = .ok (.invokevirtual 318, 3) := by decide +kernel
theorem dX12_part_14 : decode cX12_part 14 = .ok (.ifCond .eq 5, 3) := by decide +kernel
theorem dX12_part_17 : decode cX12_part 17 = .ok (.iconst (-1), 1) := by decide +kernel
theorem dX12_part_18 : decode cX12_part 18 = .ok (.ireturn, 1) := by decide +kernel
theorem dX12_part_19 : decode cX12_part 19 = .ok (.aload_n 0, 1) := by decide +kernel
theorem dX12_part_20 : decode cX12_part 20 = .ok (.invokevirtual 371, 3) := by decide +kernel
theorem dX12_part_23 : decode cX12_part 23 = .ok (.aload_n 0, 1) := by decide +kernel
theorem dX12_part_24 : decode cX12_part 24 = .ok (.iload_n 1, 1) := by decide +kernel
theorem dX12_part_25 : decode cX12_part 25 = .ok (.invokevirtual 359, 3) := by decide +kernel
theorem dX12_part_28 : decode cX12_part 28 = .ok (.ireturn, 1) := by decide +kernel
theorem dX12_lateYears_0 : decode cX12_lateYears 0 = .ok (.aload_n 0, 1) := by decide +kernel
theorem dX12_lateYears_1 : decode cX12_lateYears 1 = .ok (.getfield 39, 3) := by decide +kernel
theorem dX12_lateYears_4 : decode cX12_lateYears 4 = .ok (.bipush 75, 2) := by decide +kernel
theorem dX12_lateYears_6 : decode cX12_lateYears 6 = .ok (.iaload, 1) := by decide +kernel
theorem dX12_lateYears_7 : decode cX12_lateYears 7 = .ok (.invokestatic 383, 3) := by decide +kernel
theorem dX12_lateYears_10 : decode cX12_lateYears 10 = .ok (.aload_n 0, 1) := by decide +kernel
theorem dX12_lateYears_11 : decode cX12_lateYears 11 = .ok (.getfield 39, 3) := by decide +kernel
theorem dX12_lateYears_14 : decode cX12_lateYears 14 = .ok (.bipush 76, 2) := by decide +kernel
theorem dX12_lateYears_16 : decode cX12_lateYears 16 = .ok (.iaload, 1) := by decide +kernel
theorem dX12_lateYears_17 : decode cX12_lateYears 17 = .ok (.invokestatic 383, 3) := by decide +kernel
theorem dX12_lateYears_20 : decode cX12_lateYears 20 = .ok (.iadd, 1) := by decide +kernel
theorem dX12_lateYears_21 : decode cX12_lateYears 21 = .ok (.aload_n 0, 1) := by decide +kernel
theorem dX12_lateYears_22 : decode cX12_lateYears 22 = .ok (.getfield 39, 3) := by decide +kernel
theorem dX12_lateYears_25 : decode cX12_lateYears 25 = .ok (.bipush 77, 2) := by decide +kernel
theorem dX12_lateYears_27 : decode cX12_lateYears 27 = .ok (.iaload, 1) := by decide +kernel
theorem dX12_lateYears_28 : decode cX12_lateYears 28 = .ok (.invokestatic 383, 3) := by decide +kernel
theorem dX12_lateYears_31 : decode cX12_lateYears 31 = .ok (.iadd, 1) := by decide +kernel
theorem dX12_lateYears_32 : decode cX12_lateYears 32 = .ok (.ireturn, 1) := by decide +kernel
theorem dX12_hold_0 : decode cX12_hold 0 = .ok (.aload_n 0, 1) := by decide +kernel
theorem dX12_hold_1 : decode cX12_hold 1 = .ok (.invokevirtual 368, 3) := by decide +kernel
theorem dX12_hold_4 : decode cX12_hold 4 = .ok (.ifCond .eq 29, 3) := by decide +kernel
theorem dX12_hold_7 : decode cX12_hold 7 = .ok (.aload_n 0, 1) := by decide +kernel
theorem dX12_hold_8 : decode cX12_hold 8 = .ok (.getfield 39, 3) := by decide +kernel
theorem dX12_hold_11 : decode cX12_hold 11 = .ok (.bipush 10, 2) := by decide +kernel
theorem dX12_hold_13 : decode cX12_hold 13 = .ok (.iaload, 1) := by decide +kernel
theorem dX12_hold_14 : decode cX12_hold 14 = .ok (.bipush 60, 2) := by decide +kernel
theorem dX12_hold_16 : decode cX12_hold 16 = .ok (.if_icmp .gt 17, 3) := by decide +kernel
theorem dX12_hold_19 : decode cX12_hold 19 = .ok (.aload_n 0, 1) := by decide +kernel
theorem dX12_hold_20 : decode cX12_hold 20 = .ok (.aload_n 0, 1) := by decide +kernel
theorem dX12_hold_21 : decode cX12_hold 21 = .ok (.getfield 39, 3) := by decide +kernel
theorem dX12_hold_24 : decode cX12_hold 24 = .ok (.bipush 10, 2) := by decide +kernel
theorem dX12_hold_26 : decode cX12_hold 26 = .ok (.iaload, 1) := by decide +kernel
theorem dX12_hold_27 : decode cX12_hold 27 = .ok (.invokevirtual 315, 3) := by decide +kernel
theorem dX12_hold_30 : decode cX12_hold 30 = .ok (.ifCond .eq 5, 3) := by decide +kernel
theorem dX12_hold_33 : decode cX12_hold 33 = .ok (.iconst (-1), 1) := by decide +kernel
theorem dX12_hold_34 : decode cX12_hold 34 = .ok (.ireturn, 1) := by decide +kernel
theorem dX12_hold_35 : decode cX12_hold 35 = .ok (.aload_n 0, 1) := by decide +kernel
theorem dX12_hold_36 : decode cX12_hold 36 = .ok (.invokevirtual 371, 3) := by decide +kernel
theorem dX12_hold_39 : decode cX12_hold 39 = .ok (.aload_n 0, 1) := by decide +kernel
theorem dX12_hold_40 : decode cX12_hold 40 = .ok (.getfield 39, 3) := by decide +kernel
theorem dX12_hold_43 : decode cX12_hold 43 = .ok (.bipush 75, 2) := by decide +kernel
theorem dX12_hold_45 : decode cX12_hold 45 = .ok (.aload_n 0, 1) := by decide +kernel
theorem dX12_hold_46 : decode cX12_hold 46 = .ok (.getfield 39, 3) := by decide +kernel
theorem dX12_hold_49 : decode cX12_hold 49 = .ok (.bipush 10, 2) := by decide +kernel
theorem dX12_hold_51 : decode cX12_hold 51 = .ok (.iaload, 1) := by decide +kernel
theorem dX12_hold_52 : decode cX12_hold 52 = .ok (.bipush 21, 2) := by decide +kernel
theorem dX12_hold_54 : decode cX12_hold 54 = .ok (.idiv, 1) := by decide +kernel
theorem dX12_hold_55 : decode cX12_hold 55 = .ok (.iadd, 1) := by decide +kernel
theorem dX12_hold_56 : decode cX12_hold 56 = .ok (.dup2, 1) := by decide +kernel
theorem dX12_hold_57 : decode cX12_hold 57 = .ok (.iaload, 1) := by decide +kernel
theorem dX12_hold_58 : decode cX12_hold 58 = .ok (.iconst 1, 1) := by decide +kernel
theorem dX12_hold_59 : decode cX12_hold 59 = .ok (.aload_n 0, 1) := by decide +kernel
theorem dX12_hold_60 : decode cX12_hold 60 = .ok (.getfield 39, 3) := by decide +kernel
theorem dX12_hold_63 : decode cX12_hold 63 = .ok (.bipush 10, 2) := by decide +kernel
theorem dX12_hold_65 : decode cX12_hold 65 = .ok (.iaload, 1) := by decide +kernel
theorem dX12_hold_66 : decode cX12_hold 66 = .ok (.bipush 21, 2) := by decide +kernel
theorem dX12_hold_68 : decode cX12_hold 68 = .ok (.irem, 1) := by decide +kernel
theorem dX12_hold_69 : decode cX12_hold 69 = .ok (.ishl, 1) := by decide +kernel
theorem dX12_hold_70 : decode cX12_hold 70 = .ok (.ior, 1) := by decide +kernel
theorem dX12_hold_71 : decode cX12_hold 71 = .ok (.iastore, 1) := by decide +kernel
theorem dX12_hold_72 : decode cX12_hold 72 = .ok (.aload_n 0, 1) := by decide +kernel
theorem dX12_hold_73 : decode cX12_hold 73 = .ok (.invokevirtual 386, 3) := by decide +kernel
theorem dX12_hold_76 : decode cX12_hold 76 = .ok (.ireturn, 1) := by decide +kernel
theorem dX12_keeps_0 : decode cX12_keeps 0 = .ok (.iconst 0, 1) := by decide +kernel
theorem dX12_keeps_1 : decode cX12_keeps 1 = .ok (.istore_n 1, 1) := by decide +kernel
theorem dX12_keeps_2 : decode cX12_keeps 2 = .ok (.iload_n 1, 1) := by decide +kernel
theorem dX12_keeps_3 : decode cX12_keeps 3 = .ok (.bipush 68, 2) := by decide +kernel
theorem dX12_keeps_5 : decode cX12_keeps 5 = .ok (.if_icmp .ge 24, 3) := by decide +kernel
theorem dX12_keeps_8 : decode cX12_keeps 8 = .ok (.aload_n 0, 1) := by decide +kernel
theorem dX12_keeps_9 : decode cX12_keeps 9 = .ok (.getfield 62, 3) := by decide +kernel
theorem dX12_keeps_12 : decode cX12_keeps 12 = .ok (.iload_n 1, 1) := by decide +kernel
theorem dX12_keeps_13 : decode cX12_keeps 13 = .ok (.aload_n 0, 1) := by decide +kernel
theorem dX12_keeps_14 : decode cX12_keeps 14 = .ok (.getfield 39, 3) := by decide +kernel
theorem dX12_keeps_17 : decode cX12_keeps 17 = .ok (.bipush 10, 2) := by decide +kernel
theorem dX12_keeps_19 : decode cX12_keeps 19 = .ok (.iload_n 1, 1) := by decide +kernel
theorem dX12_keeps_20 : decode cX12_keeps 20 = .ok (.iadd, 1) := by decide +kernel
theorem dX12_keeps_21 : decode cX12_keeps 21 = .ok (.iaload, 1) := by decide +kernel
theorem dX12_keeps_22 : decode cX12_keeps 22 = .ok (.iastore, 1) := by decide +kernel
theorem dX12_keeps_23 : decode cX12_keeps 23 = .ok (.iinc 1 1, 3) := by decide +kernel
theorem dX12_keeps_26 : decode cX12_keeps 26 = .ok (.goto (-24), 3) := by decide +kernel
theorem dX12_keeps_29 : decode cX12_keeps 29 = .ok (.return_, 1) := by decide +kernel
theorem dX12_laysBack_0 : decode cX12_laysBack 0 = .ok (.iconst 0, 1) := by decide +kernel
theorem dX12_laysBack_1 : decode cX12_laysBack 1 = .ok (.istore_n 1, 1) := by decide +kernel
theorem dX12_laysBack_2 : decode cX12_laysBack 2 = .ok (.iload_n 1, 1) := by decide +kernel
theorem dX12_laysBack_3 : decode cX12_laysBack 3 = .ok (.bipush 68, 2) := by decide +kernel
theorem dX12_laysBack_5 : decode cX12_laysBack 5 = .ok (.if_icmp .ge 24, 3) := by decide +kernel
theorem dX12_laysBack_8 : decode cX12_laysBack 8 = .ok (.aload_n 0, 1) := by decide +kernel
theorem dX12_laysBack_9 : decode cX12_laysBack 9 = .ok (.getfield 39, 3) := by decide +kernel
theorem dX12_laysBack_12 : decode cX12_laysBack 12 = .ok (.bipush 10, 2) := by decide +kernel
theorem dX12_laysBack_14 : decode cX12_laysBack 14 = .ok (.iload_n 1, 1) := by decide +kernel
theorem dX12_laysBack_15 : decode cX12_laysBack 15 = .ok (.iadd, 1) := by decide +kernel
theorem dX12_laysBack_16 : decode cX12_laysBack 16 = .ok (.aload_n 0, 1) := by decide +kernel
theorem dX12_laysBack_17 : decode cX12_laysBack 17 = .ok (.getfield 62, 3) := by decide +kernel
theorem dX12_laysBack_20 : decode cX12_laysBack 20 = .ok (.iload_n 1, 1) := by decide +kernel
theorem dX12_laysBack_21 : decode cX12_laysBack 21 = .ok (.iaload, 1) := by decide +kernel
theorem dX12_laysBack_22 : decode cX12_laysBack 22 = .ok (.iastore, 1) := by decide +kernel
theorem dX12_laysBack_23 : decode cX12_laysBack 23 = .ok (.iinc 1 1, 3) := by decide +kernel
theorem dX12_laysBack_26 : decode cX12_laysBack 26 = .ok (.goto (-24), 3) := by decide +kernel
theorem dX12_laysBack_29 : decode cX12_laysBack 29 = .ok (.return_, 1) := by decide +kernel
theorem dX12_likesTheirs_0 : decode cX12_likesTheirs 0 = .ok (.aload_n 0, 1) := by decide +kernel
theorem dX12_likesTheirs_1 : decode cX12_likesTheirs 1 = .ok (.iconst 0, 1) := by decide +kernel
theorem dX12_likesTheirs_2 : decode cX12_likesTheirs 2 = .ok (.iload_n 1, 1) := by decide +kernel
theorem dX12_likesTheirs_3 : decode cX12_likesTheirs 3 = .ok (.invokevirtual 318, 3) := by decide +kernel
theorem dX12_likesTheirs_6 : decode cX12_likesTheirs 6 = .ok (.ifCond .eq 7, 3) := by decide +kernel
theorem dX12_likesTheirs_9 : decode cX12_likesTheirs 9 = .ok (.iconst 0, 1) := by decide +kernel
theorem dX12_likesTheirs_10 : decode cX12_likesTheirs 10 = .ok (.goto 16, 3) := by decide +kernel
theorem dX12_likesTheirs_13 : decode cX12_likesTheirs 13 = .ok (.aload_n 0, 1) := by decide +kernel
theorem dX12_likesTheirs_14 : decode cX12_likesTheirs 14 = .ok (.iconst 0, 1) := by decide +kernel
theorem dX12_likesTheirs_15 : decode cX12_likesTheirs 15 = .ok (.iload_n 1, 1) := by decide +kernel
theorem dX12_likesTheirs_16 : decode cX12_likesTheirs 16 = .ok (.aload_n 0, 1) := by decide +kernel
theorem dX12_likesTheirs_17 : decode cX12_likesTheirs 17 = .ok (.iconst 0, 1) := by decide +kernel
theorem dX12_likesTheirs_18 : decode cX12_likesTheirs 18 = .ok (.iload_n 1, 1) := by decide +kernel
theorem dX12_likesTheirs_19 : decode cX12_likesTheirs 19 = .ok (.iconst 1, 1) := by decide +kernel
theorem dX12_likesTheirs_20 : decode cX12_likesTheirs 20 = .ok (.invokevirtual 301, 3) := by decide +kernel
theorem dX12_likesTheirs_23 : decode cX12_likesTheirs 23 = .ok (.invokevirtual 305, 3) := by decide +kernel
theorem dX12_likesTheirs_26 : decode cX12_likesTheirs 26 = .ok (.ireturn, 1) := by decide +kernel
theorem dX12_ahead_0 : decode cX12_ahead 0 = .ok (.iload_n 2, 1) := by decide +kernel
theorem dX12_ahead_1 : decode cX12_ahead 1 = .ok (.i2l, 1) := by decide +kernel
theorem dX12_ahead_2 : decode cX12_ahead 2 = .ok (.lconst 0, 1) := by decide +kernel
theorem dX12_ahead_3 : decode cX12_ahead 3 = .ok (.ldc2_w 389, 3) := by decide +kernel
theorem dX12_ahead_6 : decode cX12_ahead 6 = .ok (.invokestatic 127, 3) := by decide +kernel
theorem dX12_ahead_9 : decode cX12_ahead 9 = .ok (.ifCond .eq 39, 3) := by decide +kernel
theorem dX12_ahead_12 : decode cX12_ahead 12 = .ok (.iload_n 3, 1) := by decide +kernel
theorem dX12_ahead_13 : decode cX12_ahead 13 = .ok (.i2l, 1) := by decide +kernel
theorem dX12_ahead_14 : decode cX12_ahead 14 = .ok (.lconst 0, 1) := by decide +kernel
theorem dX12_ahead_15 : decode cX12_ahead 15 = .ok (.ldc2_w 327, 3) := by decide +kernel
theorem dX12_ahead_18 : decode cX12_ahead 18 = .ok (.invokestatic 127, 3) := by decide +kernel
theorem dX12_ahead_21 : decode cX12_ahead 21 = .ok (.ifCond .eq 27, 3) := by decide +kernel
theorem dX12_ahead_24 : decode cX12_ahead 24 = .ok (.iload_n 3, 1) := by decide +kernel
theorem dX12_ahead_25 : decode cX12_ahead 25 = .ok (.iconst 3, 1) := by decide +kernel
theorem dX12_ahead_26 : decode cX12_ahead 26 = .ok (.if_icmp .ne 14, 3) := by decide +kernel
theorem dX12_ahead_29 : decode cX12_ahead 29 = .ok (.aload_n 0, 1) := by decide +kernel
theorem dX12_ahead_30 : decode cX12_ahead 30 = .ok (.iload_n 1, 1) := by decide +kernel
theorem dX12_ahead_31 : decode cX12_ahead 31 = .ok (.invokevirtual 329, 3) := by decide +kernel
theorem dX12_ahead_34 : decode cX12_ahead 34 = .ok (.ifCond .ne 17, 3) := by decide +kernel
theorem dX12_ahead_37 : decode cX12_ahead 37 = .ok (.goto 11, 3) := by decide +kernel
theorem dX12_ahead_40 : decode cX12_ahead 40 = .ok (.aload_n 0, 1) := by decide +kernel
theorem dX12_ahead_41 : decode cX12_ahead 41 = .ok (.iload_n 1, 1) := by decide +kernel
theorem dX12_ahead_42 : decode cX12_ahead 42 = .ok (.invokevirtual 324, 3) := by decide +kernel
theorem dX12_ahead_45 : decode cX12_ahead 45 = .ok (.ifCond .ne 6, 3) := by decide +kernel
theorem dX12_ahead_48 : decode cX12_ahead 48 = .ok (.bipush (-2), 2) := by decide +kernel
theorem dX12_ahead_50 : decode cX12_ahead 50 = .ok (.ireturn, 1) := by decide +kernel
theorem dX12_ahead_51 : decode cX12_ahead 51 = .ok (.aload_n 0, 1) := by decide +kernel
theorem dX12_ahead_52 : decode cX12_ahead 52 = .ok (.invokevirtual 391, 3) := by decide +kernel
theorem dX12_ahead_55 : decode cX12_ahead 55 = .ok (.iconst 0, 1) := by decide +kernel
theorem dX12_ahead_56 : decode cX12_ahead 56 = .ok (.istore 4, 2) := by decide +kernel
theorem dX12_ahead_58 : decode cX12_ahead 58 = .ok (.iload 4, 2) := by decide +kernel
theorem dX12_ahead_60 : decode cX12_ahead 60 = .ok (.iload_n 2, 1) := by decide +kernel
theorem dX12_ahead_61 : decode cX12_ahead 61 = .ok (.if_icmp .ge 14, 3) := by decide +kernel
theorem dX12_ahead_64 : decode cX12_ahead 64 = .ok (.aload_n 0, 1) := by decide +kernel
theorem dX12_ahead_65 : decode cX12_ahead 65 = .ok (.invokevirtual 374, 3) := by decide +kernel
theorem dX12_ahead_68 : decode cX12_ahead 68 = .ok (.pop, 1) := by decide +kernel
theorem dX12_ahead_69 : decode cX12_ahead 69 = .ok (.iinc 4 1, 3) := by decide +kernel
theorem dX12_ahead_72 : decode cX12_ahead 72 = .ok (.goto (-14), 3) := by decide +kernel
theorem dX12_ahead_75 : decode cX12_ahead 75 = .ok (.iload_n 3, 1) := by decide +kernel
theorem dX12_ahead_76 : decode cX12_ahead 76 = .ok (.ifCond .ne 13, 3) := by decide +kernel
theorem dX12_ahead_79 : decode cX12_ahead 79 = .ok (.aload_n 0, 1) := by decide +kernel
theorem dX12_ahead_80 : decode cX12_ahead 80 = .ok (.iconst 0, 1) := by decide +kernel
theorem dX12_ahead_81 : decode cX12_ahead 81 = .ok (.iload_n 1, 1) := by decide +kernel
theorem dX12_ahead_82 : decode cX12_ahead 82 = .ok (.iconst 1, 1) := by decide +kernel
theorem dX12_ahead_83 : decode cX12_ahead 83 = .ok (.invokevirtual 301, 3) := by decide +kernel
theorem dX12_ahead_86 : decode cX12_ahead 86 = .ok (.goto 25, 3) := by decide +kernel
theorem dX12_ahead_89 : decode cX12_ahead 89 = .ok (.iload_n 3, 1) := by decide +kernel
theorem dX12_ahead_90 : decode cX12_ahead 90 = .ok (.iconst 1, 1) := by decide +kernel
theorem dX12_ahead_91 : decode cX12_ahead 91 = .ok (.if_icmp .ne 11, 3) := by decide +kernel
theorem dX12_ahead_94 : decode cX12_ahead 94 = .ok (.aload_n 0, 1) := by decide +kernel
theorem dX12_ahead_95 : decode cX12_ahead 95 = .ok (.iload_n 1, 1) := by decide +kernel
theorem dX12_ahead_96 : decode cX12_ahead 96 = .ok (.invokevirtual 394, 3) := by decide +kernel
theorem dX12_ahead_99 : decode cX12_ahead 99 = .ok (.goto 12, 3) := by decide +kernel
theorem dX12_ahead_102 : decode cX12_ahead 102 = .ok (.aload_n 0, 1) := by decide +kernel
theorem dX12_ahead_103 : decode cX12_ahead 103 = .ok (.iload_n 3, 1) := by decide +kernel
theorem dX12_ahead_104 : decode cX12_ahead 104 = .ok (.iconst 2, 1) := by decide +kernel
theorem dX12_ahead_105 : decode cX12_ahead 105 = .ok (.isub, 1) := by decide +kernel
theorem dX12_ahead_106 : decode cX12_ahead 106 = .ok (.iload_n 1, 1) := by decide +kernel
theorem dX12_ahead_107 : decode cX12_ahead 107 = .ok (.iconst 0, 1) := by decide +kernel
theorem dX12_ahead_108 : decode cX12_ahead 108 = .ok (.invokevirtual 301, 3) := by decide +kernel
theorem dX12_ahead_111 : decode cX12_ahead 111 = .ok (.istore 4, 2) := by decide +kernel
theorem dX12_ahead_113 : decode cX12_ahead 113 = .ok (.aload_n 0, 1) := by decide +kernel
theorem dX12_ahead_114 : decode cX12_ahead 114 = .ok (.invokevirtual 397, 3) := by decide +kernel
theorem dX12_ahead_117 : decode cX12_ahead 117 = .ok (.iload 4, 2) := by decide +kernel
theorem dX12_ahead_119 : decode cX12_ahead 119 = .ok (.ireturn, 1) := by decide +kernel
theorem dX12_lasts_0 : decode cX12_lasts 0 = .ok (.aload_n 0, 1) := by decide +kernel
theorem dX12_lasts_1 : decode cX12_lasts 1 = .ok (.iload_n 1, 1) := by decide +kernel
theorem dX12_lasts_2 : decode cX12_lasts 2 = .ok (.invokevirtual 324, 3) := by decide +kernel
theorem dX12_lasts_5 : decode cX12_lasts 5 = .ok (.ifCond .eq 12, 3) := by decide +kernel
theorem dX12_lasts_8 : decode cX12_lasts 8 = .ok (.aload_n 0, 1) := by decide +kernel
theorem dX12_lasts_9 : decode cX12_lasts 9 = .ok (.iconst 0, 1) := by decide +kernel
theorem dX12_lasts_10 : decode cX12_lasts 10 = .ok (.iload_n 1, 1) := by decide +kernel
theorem dX12_lasts_11 : decode cX12_lasts 11 = .ok (.invokevirtual 318, 3) := by decide +kernel
theorem dX12_lasts_14 : decode cX12_lasts 14 = .ok (.ifCond .eq 5, 3) := by decide +kernel
theorem dX12_lasts_17 : decode cX12_lasts 17 = .ok (.iconst (-1), 1) := by decide +kernel
theorem dX12_lasts_18 : decode cX12_lasts 18 = .ok (.ireturn, 1) := by decide +kernel
theorem dX12_lasts_19 : decode cX12_lasts 19 = .ok (.aload_n 0, 1) := by decide +kernel
theorem dX12_lasts_20 : decode cX12_lasts 20 = .ok (.iconst 0, 1) := by decide +kernel
theorem dX12_lasts_21 : decode cX12_lasts 21 = .ok (.iload_n 1, 1) := by decide +kernel
theorem dX12_lasts_22 : decode cX12_lasts 22 = .ok (.iconst 1, 1) := by decide +kernel
theorem dX12_lasts_23 : decode cX12_lasts 23 = .ok (.invokevirtual 301, 3) := by decide +kernel
theorem dX12_lasts_26 : decode cX12_lasts 26 = .ok (.istore_n 2, 1) := by decide +kernel
theorem dX12_lasts_27 : decode cX12_lasts 27 = .ok (.bipush (-2), 2) := by decide +kernel
theorem dX12_lasts_29 : decode cX12_lasts 29 = .ok (.istore_n 3, 1) := by decide +kernel
theorem dX12_lasts_30 : decode cX12_lasts 30 = .ok (.aload_n 0, 1) := by decide +kernel
theorem dX12_lasts_31 : decode cX12_lasts 31 = .ok (.invokevirtual 391, 3) := by decide +kernel
theorem dX12_lasts_34 : decode cX12_lasts 34 = .ok (.iconst 0, 1) := by decide +kernel
theorem dX12_lasts_35 : decode cX12_lasts 35 = .ok (.istore 4, 2) := by decide +kernel
theorem dX12_lasts_37 : decode cX12_lasts 37 = .ok (.iload 4, 2) := by decide +kernel
theorem dX12_lasts_39 : decode cX12_lasts 39 = .ok (.bipush 60, 2) := by decide +kernel
theorem dX12_lasts_41 : decode cX12_lasts 41 = .ok (.if_icmp .ge 41, 3) := by decide +kernel
theorem dX12_lasts_44 : decode cX12_lasts 44 = .ok (.iload_n 3, 1) := by decide +kernel
theorem dX12_lasts_45 : decode cX12_lasts 45 = .ok (.ifCond .ge 37, 3) := by decide +kernel
theorem dX12_lasts_48 : decode cX12_lasts 48 = .ok (.aload_n 0, 1) := by decide +kernel
theorem dX12_lasts_49 : decode cX12_lasts 49 = .ok (.getfield 39, 3) := by decide +kernel
theorem dX12_lasts_52 : decode cX12_lasts 52 = .ok (.bipush 10, 2) := by decide +kernel
theorem dX12_lasts_54 : decode cX12_lasts 54 = .ok (.iaload, 1) := by decide +kernel
theorem dX12_lasts_55 : decode cX12_lasts 55 = .ok (.istore 5, 2) := by decide +kernel
theorem dX12_lasts_57 : decode cX12_lasts 57 = .ok (.aload_n 0, 1) := by decide +kernel
theorem dX12_lasts_58 : decode cX12_lasts 58 = .ok (.invokevirtual 374, 3) := by decide +kernel
theorem dX12_lasts_61 : decode cX12_lasts 61 = .ok (.pop, 1) := by decide +kernel
theorem dX12_lasts_62 : decode cX12_lasts 62 = .ok (.aload_n 0, 1) := by decide +kernel
theorem dX12_lasts_63 : decode cX12_lasts 63 = .ok (.iconst 0, 1) := by decide +kernel
theorem dX12_lasts_64 : decode cX12_lasts 64 = .ok (.iload_n 1, 1) := by decide +kernel
theorem dX12_lasts_65 : decode cX12_lasts 65 = .ok (.iconst 1, 1) := by decide +kernel
theorem dX12_lasts_66 : decode cX12_lasts 66 = .ok (.invokevirtual 301, 3) := by decide +kernel
theorem dX12_lasts_69 : decode cX12_lasts 69 = .ok (.iload_n 2, 1) := by decide +kernel
theorem dX12_lasts_70 : decode cX12_lasts 70 = .ok (.if_icmp .eq 6, 3) := by decide +kernel
theorem dX12_lasts_73 : decode cX12_lasts 73 = .ok (.iload 5, 2) := by decide +kernel
theorem dX12_lasts_75 : decode cX12_lasts 75 = .ok (.istore_n 3, 1) := by decide +kernel
theorem dX12_lasts_76 : decode cX12_lasts 76 = .ok (.iinc 4 1, 3) := by decide +kernel
theorem dX12_lasts_79 : decode cX12_lasts 79 = .ok (.goto (-42), 3) := by decide +kernel
theorem dX12_lasts_82 : decode cX12_lasts 82 = .ok (.aload_n 0, 1) := by decide +kernel
theorem dX12_lasts_83 : decode cX12_lasts 83 = .ok (.invokevirtual 397, 3) := by decide +kernel
theorem dX12_lasts_86 : decode cX12_lasts 86 = .ok (.iload_n 3, 1) := by decide +kernel
theorem dX12_lasts_87 : decode cX12_lasts 87 = .ok (.ireturn, 1) := by decide +kernel
theorem dX12_isRow_0 : decode cX12_isRow 0 = .ok (.iload_n 1, 1) := by decide +kernel
theorem dX12_isRow_1 : decode cX12_isRow 1 = .ok (.istore_n 2, 1) := by decide +kernel
theorem dX12_isRow_2 : decode cX12_isRow 2 = .ok (.iconst 0, 1) := by decide +kernel
theorem dX12_isRow_3 : decode cX12_isRow 3 = .ok (.istore_n 3, 1) := by decide +kernel
theorem dX12_isRow_4 : decode cX12_isRow 4 = .ok (.iload_n 3, 1) := by decide +kernel
theorem dX12_isRow_5 : decode cX12_isRow 5 = .ok (.iconst 4, 1) := by decide +kernel
theorem dX12_isRow_6 : decode cX12_isRow 6 = .ok (.if_icmp .ge 16, 3) := by decide +kernel
theorem dX12_isRow_9 : decode cX12_isRow 9 = .ok (.aload_n 0, 1) := by decide +kernel
theorem dX12_isRow_10 : decode cX12_isRow 10 = .ok (.getfield 68, 3) := by decide +kernel
theorem dX12_isRow_13 : decode cX12_isRow 13 = .ok (.iload_n 3, 1) := by decide +kernel
theorem dX12_isRow_14 : decode cX12_isRow 14 = .ok (.iconst (-1), 1) := by decide +kernel
theorem dX12_isRow_15 : decode cX12_isRow 15 = .ok (.iastore, 1) := by decide +kernel
theorem dX12_isRow_16 : decode cX12_isRow 16 = .ok (.iinc 3 1, 3) := by decide +kernel
theorem dX12_isRow_19 : decode cX12_isRow 19 = .ok (.goto (-15), 3) := by decide +kernel
theorem dX12_isRow_22 : decode cX12_isRow 22 = .ok (.aload_n 0, 1) := by decide +kernel
theorem dX12_isRow_23 : decode cX12_isRow 23 = .ok (.getfield 39, 3) := by decide +kernel
theorem dX12_isRow_26 : decode cX12_isRow 26 = .ok (.iconst 3, 1) := by decide +kernel
theorem dX12_isRow_27 : decode cX12_isRow 27 = .ok (.iaload, 1) := by decide +kernel
theorem dX12_isRow_28 : decode cX12_isRow 28 = .ok (.iconst 1, 1) := by decide +kernel
theorem dX12_isRow_29 : decode cX12_isRow 29 = .ok (.isub, 1) := by decide +kernel
theorem dX12_isRow_30 : decode cX12_isRow 30 = .ok (.istore_n 3, 1) := by decide +kernel
theorem dX12_isRow_31 : decode cX12_isRow 31 = .ok (.iload_n 3, 1) := by decide +kernel
theorem dX12_isRow_32 : decode cX12_isRow 32 = .ok (.ifCond .lt 80, 3) := by decide +kernel
theorem dX12_isRow_35 : decode cX12_isRow 35 = .ok (.iload_n 2, 1) := by decide +kernel
theorem dX12_isRow_36 : decode cX12_isRow 36 = .ok (.aload_n 0, 1) := by decide +kernel
theorem dX12_isRow_37 : decode cX12_isRow 37 = .ok (.getfield 39, 3) := by decide +kernel
theorem dX12_isRow_40 : decode cX12_isRow 40 = .ok (.iconst 4, 1) := by decide +kernel
theorem dX12_isRow_41 : decode cX12_isRow 41 = .ok (.iaload, 1) := by decide +kernel
theorem dX12_isRow_42 : decode cX12_isRow 42 = .ok (.iconst 1, 1) := by decide +kernel
theorem dX12_isRow_43 : decode cX12_isRow 43 = .ok (.iadd, 1) := by decide +kernel
theorem dX12_isRow_44 : decode cX12_isRow 44 = .ok (.irem, 1) := by decide +kernel
theorem dX12_isRow_45 : decode cX12_isRow 45 = .ok (.iconst 1, 1) := by decide +kernel
theorem dX12_isRow_46 : decode cX12_isRow 46 = .ok (.isub, 1) := by decide +kernel
theorem dX12_isRow_47 : decode cX12_isRow 47 = .ok (.istore 4, 2) := by decide +kernel
theorem dX12_isRow_49 : decode cX12_isRow 49 = .ok (.iload_n 2, 1) := by decide +kernel
theorem dX12_isRow_50 : decode cX12_isRow 50 = .ok (.aload_n 0, 1) := by decide +kernel
theorem dX12_isRow_51 : decode cX12_isRow 51 = .ok (.getfield 39, 3) := by decide +kernel
theorem dX12_isRow_54 : decode cX12_isRow 54 = .ok (.iconst 4, 1) := by decide +kernel
theorem dX12_isRow_55 : decode cX12_isRow 55 = .ok (.iaload, 1) := by decide +kernel
theorem dX12_isRow_56 : decode cX12_isRow 56 = .ok (.iconst 1, 1) := by decide +kernel
theorem dX12_isRow_57 : decode cX12_isRow 57 = .ok (.iadd, 1) := by decide +kernel
theorem dX12_isRow_58 : decode cX12_isRow 58 = .ok (.idiv, 1) := by decide +kernel
theorem dX12_isRow_59 : decode cX12_isRow 59 = .ok (.istore_n 2, 1) := by decide +kernel
theorem dX12_isRow_60 : decode cX12_isRow 60 = .ok (.aload_n 0, 1) := by decide +kernel
theorem dX12_isRow_61 : decode cX12_isRow 61 = .ok (.getfield 65, 3) := by decide +kernel
theorem dX12_isRow_64 : decode cX12_isRow 64 = .ok (.iload_n 3, 1) := by decide +kernel
theorem dX12_isRow_65 : decode cX12_isRow 65 = .ok (.iload 4, 2) := by decide +kernel
theorem dX12_isRow_67 : decode cX12_isRow 67 = .ok (.iastore, 1) := by decide +kernel
theorem dX12_isRow_68 : decode cX12_isRow 68 = .ok (.iload 4, 2) := by decide +kernel
theorem dX12_isRow_70 : decode cX12_isRow 70 = .ok (.ifCond .ge 6, 3) := by decide +kernel
theorem dX12_isRow_73 : decode cX12_isRow 73 = .ok (.goto 33, 3) := by decide +kernel
theorem dX12_isRow_76 : decode cX12_isRow 76 = .ok (.aload_n 0, 1) := by decide +kernel
theorem dX12_isRow_77 : decode cX12_isRow 77 = .ok (.iload_n 3, 1) := by decide +kernel
theorem dX12_isRow_78 : decode cX12_isRow 78 = .ok (.iload 4, 2) := by decide +kernel
theorem dX12_isRow_80 : decode cX12_isRow 80 = .ok (.invokevirtual 380, 3) := by decide +kernel
theorem dX12_isRow_83 : decode cX12_isRow 83 = .ok (.ifCond .eq 13, 3) := by decide +kernel
theorem dX12_isRow_86 : decode cX12_isRow 86 = .ok (.aload_n 0, 1) := by decide +kernel
theorem dX12_isRow_87 : decode cX12_isRow 87 = .ok (.getfield 68, 3) := by decide +kernel
theorem dX12_isRow_90 : decode cX12_isRow 90 = .ok (.iload 4, 2) := by decide +kernel
theorem dX12_isRow_92 : decode cX12_isRow 92 = .ok (.iaload, 1) := by decide +kernel
theorem dX12_isRow_93 : decode cX12_isRow 93 = .ok (.ifCond .lt 5, 3) := by decide +kernel
theorem dX12_isRow_96 : decode cX12_isRow 96 = .ok (.iconst 0, 1) := by decide +kernel
theorem dX12_isRow_97 : decode cX12_isRow 97 = .ok (.ireturn, 1) := by decide +kernel
theorem dX12_isRow_98 : decode cX12_isRow 98 = .ok (.aload_n 0, 1) := by decide +kernel
theorem dX12_isRow_99 : decode cX12_isRow 99 = .ok (.getfield 68, 3) := by decide +kernel
theorem dX12_isRow_102 : decode cX12_isRow 102 = .ok (.iload 4, 2) := by decide +kernel
theorem dX12_isRow_104 : decode cX12_isRow 104 = .ok (.iload_n 3, 1) := by decide +kernel
theorem dX12_isRow_105 : decode cX12_isRow 105 = .ok (.iastore, 1) := by decide +kernel
theorem dX12_isRow_106 : decode cX12_isRow 106 = .ok (.iinc 3 (-1), 3) := by decide +kernel
theorem dX12_isRow_109 : decode cX12_isRow 109 = .ok (.goto (-78), 3) := by decide +kernel
theorem dX12_isRow_112 : decode cX12_isRow 112 = .ok (.iconst 1, 1) := by decide +kernel
theorem dX12_isRow_113 : decode cX12_isRow 113 = .ok (.ireturn, 1) := by decide +kernel
theorem dX12_wouldRather_0 : decode cX12_wouldRather 0 = .ok (.aload_n 0, 1) := by decide +kernel
theorem dX12_wouldRather_1 : decode cX12_wouldRather 1 = .ok (.iload_n 1, 1) := by decide +kernel
theorem dX12_wouldRather_2 : decode cX12_wouldRather 2 = .ok (.iload_n 2, 1) := by decide +kernel
theorem dX12_wouldRather_3 : decode cX12_wouldRather 3 = .ok (.invokevirtual 380, 3) := by decide +kernel
theorem dX12_wouldRather_6 : decode cX12_wouldRather 6 = .ok (.ifCond .ne 5, 3) := by decide +kernel
theorem dX12_wouldRather_9 : decode cX12_wouldRather 9 = .ok (.iconst 0, 1) := by decide +kernel
theorem dX12_wouldRather_10 : decode cX12_wouldRather 10 = .ok (.ireturn, 1) := by decide +kernel
theorem dX12_wouldRather_11 : decode cX12_wouldRather 11 = .ok (.aload_n 0, 1) := by decide +kernel
theorem dX12_wouldRather_12 : decode cX12_wouldRather 12 = .ok (.getfield 65, 3) := by decide +kernel
theorem dX12_wouldRather_15 : decode cX12_wouldRather 15 = .ok (.iload_n 1, 1) := by decide +kernel
theorem dX12_wouldRather_16 : decode cX12_wouldRather 16 = .ok (.iaload, 1) := by decide +kernel
theorem dX12_wouldRather_17 : decode cX12_wouldRather 17 = .ok (.ifCond .lt 25, 3) := by decide +kernel
theorem dX12_wouldRather_20 : decode cX12_wouldRather 20 = .ok (.aload_n 0, 1) := by decide +kernel
theorem dX12_wouldRather_21 : decode cX12_wouldRather 21 = .ok (.iconst 0, 1) := by decide +kernel
theorem dX12_wouldRather_22 : decode cX12_wouldRather 22 = .ok (.iload_n 1, 1) := by decide +kernel
theorem dX12_wouldRather_23 : decode cX12_wouldRather 23 = .ok (.iload_n 2, 1) := by decide +kernel
theorem dX12_wouldRather_24 : decode cX12_wouldRather 24 = .ok (.invokevirtual 305, 3) := by decide +kernel
theorem dX12_wouldRather_27 : decode cX12_wouldRather 27 = .ok (.aload_n 0, 1) := by decide +kernel
theorem dX12_wouldRather_28 : decode cX12_wouldRather 28 = .ok (.iconst 0, 1) := by decide +kernel
theorem dX12_wouldRather_29 : decode cX12_wouldRather 29 = .ok (.iload_n 1, 1) := by decide +kernel
theorem dX12_wouldRather_30 : decode cX12_wouldRather 30 = .ok (.aload_n 0, 1) := by decide +kernel
theorem dX12_wouldRather_31 : decode cX12_wouldRather 31 = .ok (.getfield 65, 3) := by decide +kernel
theorem dX12_wouldRather_34 : decode cX12_wouldRather 34 = .ok (.iload_n 1, 1) := by decide +kernel
theorem dX12_wouldRather_35 : decode cX12_wouldRather 35 = .ok (.iaload, 1) := by decide +kernel
theorem dX12_wouldRather_36 : decode cX12_wouldRather 36 = .ok (.invokevirtual 305, 3) := by decide +kernel
theorem dX12_wouldRather_39 : decode cX12_wouldRather 39 = .ok (.if_icmp .le 7, 3) := by decide +kernel
theorem dX12_wouldRather_42 : decode cX12_wouldRather 42 = .ok (.iconst 1, 1) := by decide +kernel
theorem dX12_wouldRather_43 : decode cX12_wouldRather 43 = .ok (.goto 4, 3) := by decide +kernel
theorem dX12_wouldRather_46 : decode cX12_wouldRather 46 = .ok (.iconst 0, 1) := by decide +kernel
theorem dX12_wouldRather_47 : decode cX12_wouldRather 47 = .ok (.istore_n 3, 1) := by decide +kernel
theorem dX12_wouldRather_48 : decode cX12_wouldRather 48 = .ok (.iload_n 3, 1) := by decide +kernel
theorem dX12_wouldRather_49 : decode cX12_wouldRather 49 = .ok (.ifCond .eq 38, 3) := by decide +kernel
theorem dX12_wouldRather_52 : decode cX12_wouldRather 52 = .ok (.aload_n 0, 1) := by decide +kernel
theorem dX12_wouldRather_53 : decode cX12_wouldRather 53 = .ok (.getfield 68, 3) := by decide +kernel
theorem dX12_wouldRather_56 : decode cX12_wouldRather 56 = .ok (.iload_n 2, 1) := by decide +kernel
theorem dX12_wouldRather_57 : decode cX12_wouldRather 57 = .ok (.iaload, 1) := by decide +kernel
theorem dX12_wouldRather_58 : decode cX12_wouldRather 58 = .ok (.ifCond .lt 25, 3) := by decide +kernel
theorem dX12_wouldRather_61 : decode cX12_wouldRather 61 = .ok (.aload_n 0, 1) := by decide +kernel
theorem dX12_wouldRather_62 : decode cX12_wouldRather 62 = .ok (.iconst 1, 1) := by decide +kernel
theorem dX12_wouldRather_63 : decode cX12_wouldRather 63 = .ok (.iload_n 2, 1) := by decide +kernel
theorem dX12_wouldRather_64 : decode cX12_wouldRather 64 = .ok (.iload_n 1, 1) := by decide +kernel
theorem dX12_wouldRather_65 : decode cX12_wouldRather 65 = .ok (.invokevirtual 305, 3) := by decide +kernel
theorem dX12_wouldRather_68 : decode cX12_wouldRather 68 = .ok (.aload_n 0, 1) := by decide +kernel
theorem dX12_wouldRather_69 : decode cX12_wouldRather 69 = .ok (.iconst 1, 1) := by decide +kernel
theorem dX12_wouldRather_70 : decode cX12_wouldRather 70 = .ok (.iload_n 2, 1) := by decide +kernel
theorem dX12_wouldRather_71 : decode cX12_wouldRather 71 = .ok (.aload_n 0, 1) := by decide +kernel
theorem dX12_wouldRather_72 : decode cX12_wouldRather 72 = .ok (.getfield 68, 3) := by decide +kernel
theorem dX12_wouldRather_75 : decode cX12_wouldRather 75 = .ok (.iload_n 2, 1) := by decide +kernel
theorem dX12_wouldRather_76 : decode cX12_wouldRather 76 = .ok (.iaload, 1) := by decide +kernel
theorem dX12_wouldRather_77 : decode cX12_wouldRather 77 = .ok (.invokevirtual 305, 3) := by decide +kernel
theorem dX12_wouldRather_80 : decode cX12_wouldRather 80 = .ok (.if_icmp .le 7, 3) := by decide +kernel
theorem dX12_wouldRather_83 : decode cX12_wouldRather 83 = .ok (.iconst 1, 1) := by decide +kernel
theorem dX12_wouldRather_84 : decode cX12_wouldRather 84 = .ok (.goto 4, 3) := by decide +kernel
theorem dX12_wouldRather_87 : decode cX12_wouldRather 87 = .ok (.iconst 0, 1) := by decide +kernel
theorem dX12_wouldRather_88 : decode cX12_wouldRather 88 = .ok (.ireturn, 1) := by decide +kernel
theorem dX12_isSettled_0 : decode cX12_isSettled 0 = .ok (.iconst 0, 1) := by decide +kernel
theorem dX12_isSettled_1 : decode cX12_isSettled 1 = .ok (.istore_n 1, 1) := by decide +kernel
theorem dX12_isSettled_2 : decode cX12_isSettled 2 = .ok (.iload_n 1, 1) := by decide +kernel
theorem dX12_isSettled_3 : decode cX12_isSettled 3 = .ok (.aload_n 0, 1) := by decide +kernel
theorem dX12_isSettled_4 : decode cX12_isSettled 4 = .ok (.getfield 39, 3) := by decide +kernel
theorem dX12_isSettled_7 : decode cX12_isSettled 7 = .ok (.iconst 3, 1) := by decide +kernel
theorem dX12_isSettled_8 : decode cX12_isSettled 8 = .ok (.iaload, 1) := by decide +kernel
theorem dX12_isSettled_9 : decode cX12_isSettled 9 = .ok (.if_icmp .ge 38, 3) := by decide +kernel
theorem dX12_isSettled_12 : decode cX12_isSettled 12 = .ok (.iconst 0, 1) := by decide +kernel
theorem dX12_isSettled_13 : decode cX12_isSettled 13 = .ok (.istore_n 2, 1) := by decide +kernel
theorem dX12_isSettled_14 : decode cX12_isSettled 14 = .ok (.iload_n 2, 1) := by decide +kernel
theorem dX12_isSettled_15 : decode cX12_isSettled 15 = .ok (.aload_n 0, 1) := by decide +kernel
theorem dX12_isSettled_16 : decode cX12_isSettled 16 = .ok (.getfield 39, 3) := by decide +kernel
theorem dX12_isSettled_19 : decode cX12_isSettled 19 = .ok (.iconst 4, 1) := by decide +kernel
theorem dX12_isSettled_20 : decode cX12_isSettled 20 = .ok (.iaload, 1) := by decide +kernel
theorem dX12_isSettled_21 : decode cX12_isSettled 21 = .ok (.if_icmp .ge 20, 3) := by decide +kernel
theorem dX12_isSettled_24 : decode cX12_isSettled 24 = .ok (.aload_n 0, 1) := by decide +kernel
theorem dX12_isSettled_25 : decode cX12_isSettled 25 = .ok (.iload_n 1, 1) := by decide +kernel
theorem dX12_isSettled_26 : decode cX12_isSettled 26 = .ok (.iload_n 2, 1) := by decide +kernel
theorem dX12_isSettled_27 : decode cX12_isSettled 27 = .ok (.invokevirtual 400, 3) := by decide +kernel
theorem dX12_isSettled_30 : decode cX12_isSettled 30 = .ok (.ifCond .eq 5, 3) := by decide +kernel
theorem dX12_isSettled_33 : decode cX12_isSettled 33 = .ok (.iconst 0, 1) := by decide +kernel
theorem dX12_isSettled_34 : decode cX12_isSettled 34 = .ok (.ireturn, 1) := by decide +kernel
theorem dX12_isSettled_35 : decode cX12_isSettled 35 = .ok (.iinc 2 1, 3) := by decide +kernel
theorem dX12_isSettled_38 : decode cX12_isSettled 38 = .ok (.goto (-24), 3) := by decide +kernel
theorem dX12_isSettled_41 : decode cX12_isSettled 41 = .ok (.iinc 1 1, 3) := by decide +kernel
theorem dX12_isSettled_44 : decode cX12_isSettled 44 = .ok (.goto (-42), 3) := by decide +kernel
theorem dX12_isSettled_47 : decode cX12_isSettled 47 = .ok (.iconst 1, 1) := by decide +kernel
theorem dX12_isSettled_48 : decode cX12_isSettled 48 = .ok (.ireturn, 1) := by decide +kernel
theorem dX12_likedInRow_0 : decode cX12_likedInRow 0 = .ok (.iconst 0, 1) := by decide +kernel
theorem dX12_likedInRow_1 : decode cX12_likedInRow 1 = .ok (.istore_n 1, 1) := by decide +kernel
theorem dX12_likedInRow_2 : decode cX12_likedInRow 2 = .ok (.iconst 0, 1) := by decide +kernel
theorem dX12_likedInRow_3 : decode cX12_likedInRow 3 = .ok (.istore_n 2, 1) := by decide +kernel
theorem dX12_likedInRow_4 : decode cX12_likedInRow 4 = .ok (.iload_n 2, 1) := by decide +kernel
theorem dX12_likedInRow_5 : decode cX12_likedInRow 5 = .ok (.aload_n 0, 1) := by decide +kernel
theorem dX12_likedInRow_6 : decode cX12_likedInRow 6 = .ok (.getfield 39, 3) := by decide +kernel
theorem dX12_likedInRow_9 : decode cX12_likedInRow 9 = .ok (.iconst 3, 1) := by decide +kernel
theorem dX12_likedInRow_10 : decode cX12_likedInRow 10 = .ok (.iaload, 1) := by decide +kernel
theorem dX12_likedInRow_11 : decode cX12_likedInRow 11 = .ok (.if_icmp .ge 50, 3) := by decide +kernel
theorem dX12_likedInRow_14 : decode cX12_likedInRow 14 = .ok (.iload_n 1, 1) := by decide +kernel
theorem dX12_likedInRow_15 : decode cX12_likedInRow 15 = .ok (.aload_n 0, 1) := by decide +kernel
theorem dX12_likedInRow_16 : decode cX12_likedInRow 16 = .ok (.getfield 65, 3) := by decide +kernel
theorem dX12_likedInRow_19 : decode cX12_likedInRow 19 = .ok (.iload_n 2, 1) := by decide +kernel
theorem dX12_likedInRow_20 : decode cX12_likedInRow 20 = .ok (.iaload, 1) := by decide +kernel
theorem dX12_likedInRow_21 : decode cX12_likedInRow 21 = .ok (.ifCond .ge 7, 3) := by decide +kernel
theorem dX12_likedInRow_24 : decode cX12_likedInRow 24 = .ok (.iconst 0, 1) := by decide +kernel
theorem dX12_likedInRow_25 : decode cX12_likedInRow 25 = .ok (.goto 28, 3) := by decide +kernel
theorem dX12_likedInRow_28 : decode cX12_likedInRow 28 = .ok (.aload_n 0, 1) := by decide +kernel
theorem dX12_likedInRow_29 : decode cX12_likedInRow 29 = .ok (.iconst 0, 1) := by decide +kernel
theorem dX12_likedInRow_30 : decode cX12_likedInRow 30 = .ok (.iload_n 2, 1) := by decide +kernel
theorem dX12_likedInRow_31 : decode cX12_likedInRow 31 = .ok (.aload_n 0, 1) := by decide +kernel
theorem dX12_likedInRow_32 : decode cX12_likedInRow 32 = .ok (.getfield 65, 3) := by decide +kernel
theorem dX12_likedInRow_35 : decode cX12_likedInRow 35 = .ok (.iload_n 2, 1) := by decide +kernel
theorem dX12_likedInRow_36 : decode cX12_likedInRow 36 = .ok (.iaload, 1) := by decide +kernel
theorem dX12_likedInRow_37 : decode cX12_likedInRow 37 = .ok (.invokevirtual 305, 3) := by decide +kernel
theorem dX12_likedInRow_40 : decode cX12_likedInRow 40 = .ok (.aload_n 0, 1) := by decide +kernel
theorem dX12_likedInRow_41 : decode cX12_likedInRow 41 = .ok (.iconst 1, 1) := by decide +kernel
theorem dX12_likedInRow_42 : decode cX12_likedInRow 42 = .ok (.aload_n 0, 1) := by decide +kernel
theorem dX12_likedInRow_43 : decode cX12_likedInRow 43 = .ok (.getfield 65, 3) := by decide +kernel
theorem dX12_likedInRow_46 : decode cX12_likedInRow 46 = .ok (.iload_n 2, 1) := by decide +kernel
theorem dX12_likedInRow_47 : decode cX12_likedInRow 47 = .ok (.iaload, 1) := by decide +kernel
theorem dX12_likedInRow_48 : decode cX12_likedInRow 48 = .ok (.iload_n 2, 1) := by decide +kernel
theorem dX12_likedInRow_49 : decode cX12_likedInRow 49 = .ok (.invokevirtual 305, 3) := by decide +kernel
theorem dX12_likedInRow_52 : decode cX12_likedInRow 52 = .ok (.iadd, 1) := by decide +kernel
theorem dX12_likedInRow_53 : decode cX12_likedInRow 53 = .ok (.iadd, 1) := by decide +kernel
theorem dX12_likedInRow_54 : decode cX12_likedInRow 54 = .ok (.istore_n 1, 1) := by decide +kernel
theorem dX12_likedInRow_55 : decode cX12_likedInRow 55 = .ok (.iinc 2 1, 3) := by decide +kernel
theorem dX12_likedInRow_58 : decode cX12_likedInRow 58 = .ok (.goto (-54), 3) := by decide +kernel
theorem dX12_likedInRow_61 : decode cX12_likedInRow 61 = .ok (.iload_n 1, 1) := by decide +kernel
theorem dX12_likedInRow_62 : decode cX12_likedInRow 62 = .ok (.ireturn, 1) := by decide +kernel
theorem dX12_power_0 : decode cX12_power 0 = .ok (.iconst 1, 1) := by decide +kernel
theorem dX12_power_1 : decode cX12_power 1 = .ok (.istore_n 2, 1) := by decide +kernel
theorem dX12_power_2 : decode cX12_power 2 = .ok (.iconst 0, 1) := by decide +kernel
theorem dX12_power_3 : decode cX12_power 3 = .ok (.istore_n 3, 1) := by decide +kernel
theorem dX12_power_4 : decode cX12_power 4 = .ok (.iload_n 3, 1) := by decide +kernel
theorem dX12_power_5 : decode cX12_power 5 = .ok (.iload_n 1, 1) := by decide +kernel
theorem dX12_power_6 : decode cX12_power 6 = .ok (.if_icmp .ge 13, 3) := by decide +kernel
theorem dX12_power_9 : decode cX12_power 9 = .ok (.iload_n 2, 1) := by decide +kernel
theorem dX12_power_10 : decode cX12_power 10 = .ok (.iload_n 0, 1) := by decide +kernel
theorem dX12_power_11 : decode cX12_power 11 = .ok (.imul, 1) := by decide +kernel
theorem dX12_power_12 : decode cX12_power 12 = .ok (.istore_n 2, 1) := by decide +kernel
theorem dX12_power_13 : decode cX12_power 13 = .ok (.iinc 3 1, 3) := by decide +kernel
theorem dX12_power_16 : decode cX12_power 16 = .ok (.goto (-12), 3) := by decide +kernel
theorem dX12_power_19 : decode cX12_power 19 = .ok (.iload_n 2, 1) := by decide +kernel
theorem dX12_power_20 : decode cX12_power 20 = .ok (.ireturn, 1) := by decide +kernel
theorem dX12_settled_0 : decode cX12_settled 0 = .ok (.aload_n 0, 1) := by decide +kernel
theorem dX12_settled_1 : decode cX12_settled 1 = .ok (.invokevirtual 368, 3) := by decide +kernel
theorem dX12_settled_4 : decode cX12_settled 4 = .ok (.ifCond .eq 15, 3) := by decide +kernel
theorem dX12_settled_7 : decode cX12_settled 7 = .ok (.iload_n 1, 1) := by decide +kernel
theorem dX12_settled_8 : decode cX12_settled 8 = .ok (.i2l, 1) := by decide +kernel
theorem dX12_settled_9 : decode cX12_settled 9 = .ok (.lconst 0, 1) := by decide +kernel
theorem dX12_settled_10 : decode cX12_settled 10 = .ok (.ldc2_w 403, 3) := by decide +kernel
theorem dX12_settled_13 : decode cX12_settled 13 = .ok (.invokestatic 127, 3) := by decide +kernel
theorem dX12_settled_16 : decode cX12_settled 16 = .ok (.ifCond .ne 6, 3) := by decide +kernel
theorem dX12_settled_19 : decode cX12_settled 19 = .ok (.bipush (-3), 2) := by decide +kernel
theorem dX12_settled_21 : decode cX12_settled 21 = .ok (.ireturn, 1) := by decide +kernel
theorem dX12_settled_22 : decode cX12_settled 22 = .ok (.iconst 0, 1) := by decide +kernel
theorem dX12_settled_23 : decode cX12_settled 23 = .ok (.istore_n 2, 1) := by decide +kernel
theorem dX12_settled_24 : decode cX12_settled 24 = .ok (.iconst (-1), 1) := by decide +kernel
theorem dX12_settled_25 : decode cX12_settled 25 = .ok (.istore_n 3, 1) := by decide +kernel
theorem dX12_settled_26 : decode cX12_settled 26 = .ok (.iconst (-1), 1) := by decide +kernel
theorem dX12_settled_27 : decode cX12_settled 27 = .ok (.istore 4, 2) := by decide +kernel
theorem dX12_settled_29 : decode cX12_settled 29 = .ok (.iconst 0, 1) := by decide +kernel
theorem dX12_settled_30 : decode cX12_settled 30 = .ok (.istore 5, 2) := by decide +kernel
theorem dX12_settled_32 : decode cX12_settled 32 = .ok (.iload 5, 2) := by decide +kernel
theorem dX12_settled_34 : decode cX12_settled 34 = .ok (.aload_n 0, 1) := by decide +kernel
theorem dX12_settled_35 : decode cX12_settled 35 = .ok (.getfield 39, 3) := by decide +kernel
theorem dX12_settled_38 : decode cX12_settled 38 = .ok (.iconst 4, 1) := by decide +kernel
theorem dX12_settled_39 : decode cX12_settled 39 = .ok (.iaload, 1) := by decide +kernel
theorem dX12_settled_40 : decode cX12_settled 40 = .ok (.iconst 1, 1) := by decide +kernel
theorem dX12_settled_41 : decode cX12_settled 41 = .ok (.iadd, 1) := by decide +kernel
theorem dX12_settled_42 : decode cX12_settled 42 = .ok (.aload_n 0, 1) := by decide +kernel
theorem dX12_settled_43 : decode cX12_settled 43 = .ok (.getfield 39, 3) := by decide +kernel
theorem dX12_settled_46 : decode cX12_settled 46 = .ok (.iconst 3, 1) := by decide +kernel
theorem dX12_settled_47 : decode cX12_settled 47 = .ok (.iaload, 1) := by decide +kernel
theorem dX12_settled_48 : decode cX12_settled 48 = .ok (.invokestatic 405, 3) := by decide +kernel
theorem dX12_settled_51 : decode cX12_settled 51 = .ok (.if_icmp .ge 58, 3) := by decide +kernel
theorem dX12_settled_54 : decode cX12_settled 54 = .ok (.aload_n 0, 1) := by decide +kernel
theorem dX12_settled_55 : decode cX12_settled 55 = .ok (.iload 5, 2) := by decide +kernel
theorem dX12_settled_57 : decode cX12_settled 57 = .ok (.invokevirtual 408, 3) := by decide +kernel
theorem dX12_settled_60 : decode cX12_settled 60 = .ok (.ifCond .eq 43, 3) := by decide +kernel
theorem dX12_settled_63 : decode cX12_settled 63 = .ok (.aload_n 0, 1) := by decide +kernel
theorem dX12_settled_64 : decode cX12_settled 64 = .ok (.invokevirtual 411, 3) := by decide +kernel
theorem dX12_settled_67 : decode cX12_settled 67 = .ok (.ifCond .ne 6, 3) := by decide +kernel
theorem dX12_settled_70 : decode cX12_settled 70 = .ok (.goto 33, 3) := by decide +kernel
theorem dX12_settled_73 : decode cX12_settled 73 = .ok (.iload_n 2, 1) := by decide +kernel
theorem dX12_settled_74 : decode cX12_settled 74 = .ok (.ifCond .ne 6, 3) := by decide +kernel
theorem dX12_settled_77 : decode cX12_settled 77 = .ok (.iload 5, 2) := by decide +kernel
theorem dX12_settled_79 : decode cX12_settled 79 = .ok (.istore_n 3, 1) := by decide +kernel
theorem dX12_settled_80 : decode cX12_settled 80 = .ok (.iinc 2 1, 3) := by decide +kernel
theorem dX12_settled_83 : decode cX12_settled 83 = .ok (.aload_n 0, 1) := by decide +kernel
theorem dX12_settled_84 : decode cX12_settled 84 = .ok (.invokevirtual 414, 3) := by decide +kernel
theorem dX12_settled_87 : decode cX12_settled 87 = .ok (.iload 4, 2) := by decide +kernel
theorem dX12_settled_89 : decode cX12_settled 89 = .ok (.if_icmp .le 10, 3) := by decide +kernel
theorem dX12_settled_92 : decode cX12_settled 92 = .ok (.aload_n 0, 1) := by decide +kernel
theorem dX12_settled_93 : decode cX12_settled 93 = .ok (.invokevirtual 414, 3) := by decide +kernel
theorem dX12_settled_96 : decode cX12_settled 96 = .ok (.goto 5, 3) := by decide +kernel
theorem dX12_settled_99 : decode cX12_settled 99 = .ok (.iload 4, 2) := by decide +kernel
theorem dX12_settled_101 : decode cX12_settled 101 = .ok (.istore 4, 2) := by decide +kernel
theorem dX12_settled_103 : decode cX12_settled 103 = .ok (.iinc 5 1, 3) := by decide +kernel
theorem dX12_settled_106 : decode cX12_settled 106 = .ok (.goto (-74), 3) := by decide +kernel
theorem dX12_settled_109 : decode cX12_settled 109 = .ok (.iload_n 1, 1) := by decide +kernel
theorem dX12_settled_110 : decode cX12_settled 110 = .ok (.ifCond .ne 5, 3) := by decide +kernel
theorem dX12_settled_113 : decode cX12_settled 113 = .ok (.iload_n 2, 1) := by decide +kernel
theorem dX12_settled_114 : decode cX12_settled 114 = .ok (.ireturn, 1) := by decide +kernel
theorem dX12_settled_115 : decode cX12_settled 115 = .ok (.iload_n 1, 1) := by decide +kernel
theorem dX12_settled_116 : decode cX12_settled 116 = .ok (.iconst 5, 1) := by decide +kernel
theorem dX12_settled_117 : decode cX12_settled 117 = .ok (.if_icmp .ne 6, 3) := by decide +kernel
theorem dX12_settled_120 : decode cX12_settled 120 = .ok (.iload 4, 2) := by decide +kernel
theorem dX12_settled_122 : decode cX12_settled 122 = .ok (.ireturn, 1) := by decide +kernel
theorem dX12_settled_123 : decode cX12_settled 123 = .ok (.iload_n 1, 1) := by decide +kernel
theorem dX12_settled_124 : decode cX12_settled 124 = .ok (.aload_n 0, 1) := by decide +kernel
theorem dX12_settled_125 : decode cX12_settled 125 = .ok (.getfield 39, 3) := by decide +kernel
theorem dX12_settled_128 : decode cX12_settled 128 = .ok (.iconst 3, 1) := by decide +kernel
theorem dX12_settled_129 : decode cX12_settled 129 = .ok (.iaload, 1) := by decide +kernel
theorem dX12_settled_130 : decode cX12_settled 130 = .ok (.if_icmp .gt 14, 3) := by decide +kernel
theorem dX12_settled_133 : decode cX12_settled 133 = .ok (.aload_n 0, 1) := by decide +kernel
theorem dX12_settled_134 : decode cX12_settled 134 = .ok (.iconst 0, 1) := by decide +kernel
theorem dX12_settled_135 : decode cX12_settled 135 = .ok (.iload_n 1, 1) := by decide +kernel
theorem dX12_settled_136 : decode cX12_settled 136 = .ok (.iconst 1, 1) := by decide +kernel
theorem dX12_settled_137 : decode cX12_settled 137 = .ok (.isub, 1) := by decide +kernel
theorem dX12_settled_138 : decode cX12_settled 138 = .ok (.invokevirtual 318, 3) := by decide +kernel
theorem dX12_settled_141 : decode cX12_settled 141 = .ok (.ifCond .ne 6, 3) := by decide +kernel
theorem dX12_settled_144 : decode cX12_settled 144 = .ok (.bipush (-2), 2) := by decide +kernel
theorem dX12_settled_146 : decode cX12_settled 146 = .ok (.ireturn, 1) := by decide +kernel
theorem dX12_settled_147 : decode cX12_settled 147 = .ok (.aload_n 0, 1) := by decide +kernel
theorem dX12_settled_148 : decode cX12_settled 148 = .ok (.iload_n 3, 1) := by decide +kernel
theorem dX12_settled_149 : decode cX12_settled 149 = .ok (.invokevirtual 408, 3) := by decide +kernel
theorem dX12_settled_152 : decode cX12_settled 152 = .ok (.pop, 1) := by decide +kernel
theorem dX12_settled_153 : decode cX12_settled 153 = .ok (.aload_n 0, 1) := by decide +kernel
theorem dX12_settled_154 : decode cX12_settled 154 = .ok (.getfield 65, 3) := by decide +kernel
theorem dX12_settled_157 : decode cX12_settled 157 = .ok (.iload_n 1, 1) := by decide +kernel
theorem dX12_settled_158 : decode cX12_settled 158 = .ok (.iconst 1, 1) := by decide +kernel
theorem dX12_settled_159 : decode cX12_settled 159 = .ok (.isub, 1) := by decide +kernel
theorem dX12_settled_160 : decode cX12_settled 160 = .ok (.iaload, 1) := by decide +kernel
theorem dX12_settled_161 : decode cX12_settled 161 = .ok (.ireturn, 1) := by decide +kernel
theorem dX12_likedIn_0 : decode cX12_likedIn 0 = .ok (.iconst 0, 1) := by decide +kernel
theorem dX12_likedIn_1 : decode cX12_likedIn 1 = .ok (.istore_n 3, 1) := by decide +kernel
theorem dX12_likedIn_2 : decode cX12_likedIn 2 = .ok (.iconst 0, 1) := by decide +kernel
theorem dX12_likedIn_3 : decode cX12_likedIn 3 = .ok (.istore 4, 2) := by decide +kernel
theorem dX12_likedIn_5 : decode cX12_likedIn 5 = .ok (.iload 4, 2) := by decide +kernel
theorem dX12_likedIn_7 : decode cX12_likedIn 7 = .ok (.iload_n 2, 1) := by decide +kernel
theorem dX12_likedIn_8 : decode cX12_likedIn 8 = .ok (.if_icmp .ge 22, 3) := by decide +kernel
theorem dX12_likedIn_11 : decode cX12_likedIn 11 = .ok (.aload_n 0, 1) := by decide +kernel
theorem dX12_likedIn_12 : decode cX12_likedIn 12 = .ok (.invokevirtual 374, 3) := by decide +kernel
theorem dX12_likedIn_15 : decode cX12_likedIn 15 = .ok (.pop, 1) := by decide +kernel
theorem dX12_likedIn_16 : decode cX12_likedIn 16 = .ok (.iload_n 3, 1) := by decide +kernel
theorem dX12_likedIn_17 : decode cX12_likedIn 17 = .ok (.aload_n 0, 1) := by decide +kernel
theorem dX12_likedIn_18 : decode cX12_likedIn 18 = .ok (.iload_n 1, 1) := by decide +kernel
theorem dX12_likedIn_19 : decode cX12_likedIn 19 = .ok (.invokevirtual 394, 3) := by decide +kernel
theorem dX12_likedIn_22 : decode cX12_likedIn 22 = .ok (.iadd, 1) := by decide +kernel
theorem dX12_likedIn_23 : decode cX12_likedIn 23 = .ok (.istore_n 3, 1) := by decide +kernel
theorem dX12_likedIn_24 : decode cX12_likedIn 24 = .ok (.iinc 4 1, 3) := by decide +kernel
theorem dX12_likedIn_27 : decode cX12_likedIn 27 = .ok (.goto (-22), 3) := by decide +kernel
theorem dX12_likedIn_30 : decode cX12_likedIn 30 = .ok (.aload_n 0, 1) := by decide +kernel
theorem dX12_likedIn_31 : decode cX12_likedIn 31 = .ok (.invokevirtual 397, 3) := by decide +kernel
theorem dX12_likedIn_34 : decode cX12_likedIn 34 = .ok (.iload_n 3, 1) := by decide +kernel
theorem dX12_likedIn_35 : decode cX12_likedIn 35 = .ok (.ireturn, 1) := by decide +kernel
theorem dX12_tries_0 : decode cX12_tries 0 = .ok (.aload_n 0, 1) := by decide +kernel
theorem dX12_tries_1 : decode cX12_tries 1 = .ok (.iload_n 1, 1) := by decide +kernel
theorem dX12_tries_2 : decode cX12_tries 2 = .ok (.invokevirtual 324, 3) := by decide +kernel
theorem dX12_tries_5 : decode cX12_tries 5 = .ok (.ifCond .eq 34, 3) := by decide +kernel
theorem dX12_tries_8 : decode cX12_tries 8 = .ok (.aload_n 0, 1) := by decide +kernel
theorem dX12_tries_9 : decode cX12_tries 9 = .ok (.iconst 0, 1) := by decide +kernel
theorem dX12_tries_10 : decode cX12_tries 10 = .ok (.iload_n 1, 1) := by decide +kernel
theorem dX12_tries_11 : decode cX12_tries 11 = .ok (.invokevirtual 318, 3) := by decide +kernel
theorem dX12_tries_14 : decode cX12_tries 14 = .ok (.ifCond .eq 25, 3) := by decide +kernel
theorem dX12_tries_17 : decode cX12_tries 17 = .ok (.iload_n 2, 1) := by decide +kernel
theorem dX12_tries_18 : decode cX12_tries 18 = .ok (.i2l, 1) := by decide +kernel
theorem dX12_tries_19 : decode cX12_tries 19 = .ok (.lconst 1, 1) := by decide +kernel
theorem dX12_tries_20 : decode cX12_tries 20 = .ok (.ldc2_w 417, 3) := by decide +kernel
theorem dX12_tries_23 : decode cX12_tries 23 = .ok (.invokestatic 127, 3) := by decide +kernel
theorem dX12_tries_26 : decode cX12_tries 26 = .ok (.ifCond .eq 13, 3) := by decide +kernel
theorem dX12_tries_29 : decode cX12_tries 29 = .ok (.iload_n 3, 1) := by decide +kernel
theorem dX12_tries_30 : decode cX12_tries 30 = .ok (.i2l, 1) := by decide +kernel
theorem dX12_tries_31 : decode cX12_tries 31 = .ok (.lconst 0, 1) := by decide +kernel
theorem dX12_tries_32 : decode cX12_tries 32 = .ok (.lconst 1, 1) := by decide +kernel
theorem dX12_tries_33 : decode cX12_tries 33 = .ok (.invokestatic 127, 3) := by decide +kernel
theorem dX12_tries_36 : decode cX12_tries 36 = .ok (.ifCond .ne 6, 3) := by decide +kernel
theorem dX12_tries_39 : decode cX12_tries 39 = .ok (.bipush (-2), 2) := by decide +kernel
theorem dX12_tries_41 : decode cX12_tries 41 = .ok (.ireturn, 1) := by decide +kernel
theorem dX12_tries_42 : decode cX12_tries 42 = .ok (.aload_n 0, 1) := by decide +kernel
theorem dX12_tries_43 : decode cX12_tries 43 = .ok (.invokevirtual 391, 3) := by decide +kernel
theorem dX12_tries_46 : decode cX12_tries 46 = .ok (.iconst (-1), 1) := by decide +kernel
theorem dX12_tries_47 : decode cX12_tries 47 = .ok (.istore 4, 2) := by decide +kernel
theorem dX12_tries_49 : decode cX12_tries 49 = .ok (.aload_n 0, 1) := by decide +kernel
theorem dX12_tries_50 : decode cX12_tries 50 = .ok (.iload_n 1, 1) := by decide +kernel
theorem dX12_tries_51 : decode cX12_tries 51 = .ok (.iload_n 2, 1) := by decide +kernel
theorem dX12_tries_52 : decode cX12_tries 52 = .ok (.invokevirtual 419, 3) := by decide +kernel
theorem dX12_tries_55 : decode cX12_tries 55 = .ok (.istore 5, 2) := by decide +kernel
theorem dX12_tries_57 : decode cX12_tries 57 = .ok (.iconst 0, 1) := by decide +kernel
theorem dX12_tries_58 : decode cX12_tries 58 = .ok (.istore 6, 2) := by decide +kernel
theorem dX12_tries_60 : decode cX12_tries 60 = .ok (.iload 6, 2) := by decide +kernel
theorem dX12_tries_62 : decode cX12_tries 62 = .ok (.aload_n 0, 1) := by decide +kernel
theorem dX12_tries_63 : decode cX12_tries 63 = .ok (.getfield 39, 3) := by decide +kernel
theorem dX12_tries_66 : decode cX12_tries 66 = .ok (.iconst 4, 1) := by decide +kernel
theorem dX12_tries_67 : decode cX12_tries 67 = .ok (.iaload, 1) := by decide +kernel
theorem dX12_tries_68 : decode cX12_tries 68 = .ok (.if_icmp .ge 56, 3) := by decide +kernel
theorem dX12_tries_71 : decode cX12_tries 71 = .ok (.aload_n 0, 1) := by decide +kernel
theorem dX12_tries_72 : decode cX12_tries 72 = .ok (.iload_n 1, 1) := by decide +kernel
theorem dX12_tries_73 : decode cX12_tries 73 = .ok (.iload 6, 2) := by decide +kernel
theorem dX12_tries_75 : decode cX12_tries 75 = .ok (.invokevirtual 380, 3) := by decide +kernel
theorem dX12_tries_78 : decode cX12_tries 78 = .ok (.ifCond .ne 6, 3) := by decide +kernel
theorem dX12_tries_81 : decode cX12_tries 81 = .ok (.goto 37, 3) := by decide +kernel
theorem dX12_tries_84 : decode cX12_tries 84 = .ok (.aload_n 0, 1) := by decide +kernel
theorem dX12_tries_85 : decode cX12_tries 85 = .ok (.iload_n 1, 1) := by decide +kernel
theorem dX12_tries_86 : decode cX12_tries 86 = .ok (.iload 6, 2) := by decide +kernel
theorem dX12_tries_88 : decode cX12_tries 88 = .ok (.invokevirtual 350, 3) := by decide +kernel
theorem dX12_tries_91 : decode cX12_tries 91 = .ok (.pop, 1) := by decide +kernel
theorem dX12_tries_92 : decode cX12_tries 92 = .ok (.aload_n 0, 1) := by decide +kernel
theorem dX12_tries_93 : decode cX12_tries 93 = .ok (.iload_n 1, 1) := by decide +kernel
theorem dX12_tries_94 : decode cX12_tries 94 = .ok (.iload_n 2, 1) := by decide +kernel
theorem dX12_tries_95 : decode cX12_tries 95 = .ok (.invokevirtual 419, 3) := by decide +kernel
theorem dX12_tries_98 : decode cX12_tries 98 = .ok (.istore 7, 2) := by decide +kernel
theorem dX12_tries_100 : decode cX12_tries 100 = .ok (.iload 7, 2) := by decide +kernel
theorem dX12_tries_102 : decode cX12_tries 102 = .ok (.iload 5, 2) := by decide +kernel
theorem dX12_tries_104 : decode cX12_tries 104 = .ok (.if_icmp .gt 6, 3) := by decide +kernel
theorem dX12_tries_107 : decode cX12_tries 107 = .ok (.goto 11, 3) := by decide +kernel
theorem dX12_tries_110 : decode cX12_tries 110 = .ok (.iload 6, 2) := by decide +kernel
theorem dX12_tries_112 : decode cX12_tries 112 = .ok (.istore 4, 2) := by decide +kernel
theorem dX12_tries_114 : decode cX12_tries 114 = .ok (.iload 7, 2) := by decide +kernel
theorem dX12_tries_116 : decode cX12_tries 116 = .ok (.istore 5, 2) := by decide +kernel
theorem dX12_tries_118 : decode cX12_tries 118 = .ok (.iinc 6 1, 3) := by decide +kernel
theorem dX12_tries_121 : decode cX12_tries 121 = .ok (.goto (-61), 3) := by decide +kernel
theorem dX12_tries_124 : decode cX12_tries 124 = .ok (.iload_n 3, 1) := by decide +kernel
theorem dX12_tries_125 : decode cX12_tries 125 = .ok (.ifCond .ne 8, 3) := by decide +kernel
theorem dX12_tries_128 : decode cX12_tries 128 = .ok (.iload 4, 2) := by decide +kernel
theorem dX12_tries_130 : decode cX12_tries 130 = .ok (.goto 5, 3) := by decide +kernel
theorem dX12_tries_133 : decode cX12_tries 133 = .ok (.iload 5, 2) := by decide +kernel
theorem dX12_tries_135 : decode cX12_tries 135 = .ok (.ireturn, 1) := by decide +kernel
theorem dX12_liked_0 : decode cX12_liked 0 = .ok (.aload_n 0, 1) := by decide +kernel
theorem dX12_liked_1 : decode cX12_liked 1 = .ok (.invokevirtual 368, 3) := by decide +kernel
theorem dX12_liked_4 : decode cX12_liked 4 = .ok (.ifCond .eq 13, 3) := by decide +kernel
theorem dX12_liked_7 : decode cX12_liked 7 = .ok (.iload_n 1, 1) := by decide +kernel
theorem dX12_liked_8 : decode cX12_liked 8 = .ok (.i2l, 1) := by decide +kernel
theorem dX12_liked_9 : decode cX12_liked 9 = .ok (.lconst 0, 1) := by decide +kernel
theorem dX12_liked_10 : decode cX12_liked 10 = .ok (.lconst 1, 1) := by decide +kernel
theorem dX12_liked_11 : decode cX12_liked 11 = .ok (.invokestatic 127, 3) := by decide +kernel
theorem dX12_liked_14 : decode cX12_liked 14 = .ok (.ifCond .ne 5, 3) := by decide +kernel
theorem dX12_liked_17 : decode cX12_liked 17 = .ok (.iconst (-1), 1) := by decide +kernel
theorem dX12_liked_18 : decode cX12_liked 18 = .ok (.ireturn, 1) := by decide +kernel
theorem dX12_liked_19 : decode cX12_liked 19 = .ok (.bipush (-2), 2) := by decide +kernel
theorem dX12_liked_21 : decode cX12_liked 21 = .ok (.istore_n 2, 1) := by decide +kernel
theorem dX12_liked_22 : decode cX12_liked 22 = .ok (.bipush (-2), 2) := by decide +kernel
theorem dX12_liked_24 : decode cX12_liked 24 = .ok (.istore_n 3, 1) := by decide +kernel
theorem dX12_liked_25 : decode cX12_liked 25 = .ok (.iconst 0, 1) := by decide +kernel
theorem dX12_liked_26 : decode cX12_liked 26 = .ok (.istore 4, 2) := by decide +kernel
theorem dX12_liked_28 : decode cX12_liked 28 = .ok (.iload 4, 2) := by decide +kernel
theorem dX12_liked_30 : decode cX12_liked 30 = .ok (.aload_n 0, 1) := by decide +kernel
theorem dX12_liked_31 : decode cX12_liked 31 = .ok (.getfield 39, 3) := by decide +kernel
theorem dX12_liked_34 : decode cX12_liked 34 = .ok (.iconst 3, 1) := by decide +kernel
theorem dX12_liked_35 : decode cX12_liked 35 = .ok (.iaload, 1) := by decide +kernel
theorem dX12_liked_36 : decode cX12_liked 36 = .ok (.if_icmp .ge 67, 3) := by decide +kernel
theorem dX12_liked_39 : decode cX12_liked 39 = .ok (.iconst 0, 1) := by decide +kernel
theorem dX12_liked_40 : decode cX12_liked 40 = .ok (.istore 5, 2) := by decide +kernel
theorem dX12_liked_42 : decode cX12_liked 42 = .ok (.iconst 0, 1) := by decide +kernel
theorem dX12_liked_43 : decode cX12_liked 43 = .ok (.istore 6, 2) := by decide +kernel
theorem dX12_liked_45 : decode cX12_liked 45 = .ok (.iload 6, 2) := by decide +kernel
theorem dX12_liked_47 : decode cX12_liked 47 = .ok (.aload_n 0, 1) := by decide +kernel
theorem dX12_liked_48 : decode cX12_liked 48 = .ok (.getfield 39, 3) := by decide +kernel
theorem dX12_liked_51 : decode cX12_liked 51 = .ok (.iconst 4, 1) := by decide +kernel
theorem dX12_liked_52 : decode cX12_liked 52 = .ok (.iaload, 1) := by decide +kernel
theorem dX12_liked_53 : decode cX12_liked 53 = .ok (.if_icmp .ge 29, 3) := by decide +kernel
theorem dX12_liked_56 : decode cX12_liked 56 = .ok (.iload 5, 2) := by decide +kernel
theorem dX12_liked_58 : decode cX12_liked 58 = .ok (.aload_n 0, 1) := by decide +kernel
theorem dX12_liked_59 : decode cX12_liked 59 = .ok (.getfield 39, 3) := by decide +kernel
theorem dX12_liked_62 : decode cX12_liked 62 = .ok (.bipush 94, 2) := by decide +kernel
theorem dX12_liked_64 : decode cX12_liked 64 = .ok (.iconst 4, 1) := by decide +kernel
theorem dX12_liked_65 : decode cX12_liked 65 = .ok (.iload 4, 2) := by decide +kernel
theorem dX12_liked_67 : decode cX12_liked 67 = .ok (.imul, 1) := by decide +kernel
theorem dX12_liked_68 : decode cX12_liked 68 = .ok (.iadd, 1) := by decide +kernel
theorem dX12_liked_69 : decode cX12_liked 69 = .ok (.iload 6, 2) := by decide +kernel
theorem dX12_liked_71 : decode cX12_liked 71 = .ok (.iadd, 1) := by decide +kernel
theorem dX12_liked_72 : decode cX12_liked 72 = .ok (.iaload, 1) := by decide +kernel
theorem dX12_liked_73 : decode cX12_liked 73 = .ok (.iadd, 1) := by decide +kernel
theorem dX12_liked_74 : decode cX12_liked 74 = .ok (.istore 5, 2) := by decide +kernel
theorem dX12_liked_76 : decode cX12_liked 76 = .ok (.iinc 6 1, 3) := by decide +kernel
theorem dX12_liked_79 : decode cX12_liked 79 = .ok (.goto (-34), 3) := by decide +kernel
theorem dX12_liked_82 : decode cX12_liked 82 = .ok (.iload 5, 2) := by decide +kernel
theorem dX12_liked_84 : decode cX12_liked 84 = .ok (.iload_n 3, 1) := by decide +kernel
theorem dX12_liked_85 : decode cX12_liked 85 = .ok (.if_icmp .gt 6, 3) := by decide +kernel
theorem dX12_liked_88 : decode cX12_liked 88 = .ok (.goto 9, 3) := by decide +kernel
theorem dX12_liked_91 : decode cX12_liked 91 = .ok (.iload 4, 2) := by decide +kernel
theorem dX12_liked_93 : decode cX12_liked 93 = .ok (.istore_n 2, 1) := by decide +kernel
theorem dX12_liked_94 : decode cX12_liked 94 = .ok (.iload 5, 2) := by decide +kernel
theorem dX12_liked_96 : decode cX12_liked 96 = .ok (.istore_n 3, 1) := by decide +kernel
theorem dX12_liked_97 : decode cX12_liked 97 = .ok (.iinc 4 1, 3) := by decide +kernel
theorem dX12_liked_100 : decode cX12_liked 100 = .ok (.goto (-72), 3) := by decide +kernel
theorem dX12_liked_103 : decode cX12_liked 103 = .ok (.iload_n 1, 1) := by decide +kernel
theorem dX12_liked_104 : decode cX12_liked 104 = .ok (.ifCond .ne 7, 3) := by decide +kernel
theorem dX12_liked_107 : decode cX12_liked 107 = .ok (.iload_n 2, 1) := by decide +kernel
theorem dX12_liked_108 : decode cX12_liked 108 = .ok (.goto 4, 3) := by decide +kernel
theorem dX12_liked_111 : decode cX12_liked 111 = .ok (.iload_n 3, 1) := by decide +kernel
theorem dX12_liked_112 : decode cX12_liked 112 = .ok (.ireturn, 1) := by decide +kernel
theorem dX12_gainBy_0 : decode cX12_gainBy 0 = .ok (.iload_n 3, 1) := by decide +kernel
theorem dX12_gainBy_1 : decode cX12_gainBy 1 = .ok (.iconst 1, 1) := by decide +kernel
theorem dX12_gainBy_2 : decode cX12_gainBy 2 = .ok (.if_icmp .ne 27, 3) := by decide +kernel
theorem dX12_gainBy_5 : decode cX12_gainBy 5 = .ok (.iload 4, 2) := by decide +kernel
theorem dX12_gainBy_7 : decode cX12_gainBy 7 = .ok (.iconst 1, 1) := by decide +kernel
theorem dX12_gainBy_8 : decode cX12_gainBy 8 = .ok (.if_icmp .ne 14, 3) := by decide +kernel
theorem dX12_gainBy_11 : decode cX12_gainBy 11 = .ok (.aload_n 0, 1) := by decide +kernel
theorem dX12_gainBy_12 : decode cX12_gainBy 12 = .ok (.getfield 39, 3) := by decide +kernel
theorem dX12_gainBy_15 : decode cX12_gainBy 15 = .ok (.iconst 2, 1) := by decide +kernel
theorem dX12_gainBy_16 : decode cX12_gainBy 16 = .ok (.iaload, 1) := by decide +kernel
theorem dX12_gainBy_17 : decode cX12_gainBy 17 = .ok (.iconst 2, 1) := by decide +kernel
theorem dX12_gainBy_18 : decode cX12_gainBy 18 = .ok (.idiv, 1) := by decide +kernel
theorem dX12_gainBy_19 : decode cX12_gainBy 19 = .ok (.goto 9, 3) := by decide +kernel
theorem dX12_gainBy_22 : decode cX12_gainBy 22 = .ok (.aload_n 0, 1) := by decide +kernel
theorem dX12_gainBy_23 : decode cX12_gainBy 23 = .ok (.getfield 39, 3) := by decide +kernel
theorem dX12_gainBy_26 : decode cX12_gainBy 26 = .ok (.iconst 2, 1) := by decide +kernel
theorem dX12_gainBy_27 : decode cX12_gainBy 27 = .ok (.iaload, 1) := by decide +kernel
theorem dX12_gainBy_28 : decode cX12_gainBy 28 = .ok (.ireturn, 1) := by decide +kernel
theorem dX12_gainBy_29 : decode cX12_gainBy 29 = .ok (.iload 4, 2) := by decide +kernel
theorem dX12_gainBy_31 : decode cX12_gainBy 31 = .ok (.iconst 1, 1) := by decide +kernel
theorem dX12_gainBy_32 : decode cX12_gainBy 32 = .ok (.if_icmp .ne 17, 3) := by decide +kernel
theorem dX12_gainBy_35 : decode cX12_gainBy 35 = .ok (.aload_n 0, 1) := by decide +kernel
theorem dX12_gainBy_36 : decode cX12_gainBy 36 = .ok (.getfield 39, 3) := by decide +kernel
theorem dX12_gainBy_39 : decode cX12_gainBy 39 = .ok (.iconst 1, 1) := by decide +kernel
theorem dX12_gainBy_40 : decode cX12_gainBy 40 = .ok (.iaload, 1) := by decide +kernel
theorem dX12_gainBy_41 : decode cX12_gainBy 41 = .ok (.iconst 2, 1) := by decide +kernel
theorem dX12_gainBy_42 : decode cX12_gainBy 42 = .ok (.idiv, 1) := by decide +kernel
theorem dX12_gainBy_43 : decode cX12_gainBy 43 = .ok (.bipush 10, 2) := by decide +kernel
theorem dX12_gainBy_45 : decode cX12_gainBy 45 = .ok (.isub, 1) := by decide +kernel
theorem dX12_gainBy_46 : decode cX12_gainBy 46 = .ok (.goto 24, 3) := by decide +kernel
theorem dX12_gainBy_49 : decode cX12_gainBy 49 = .ok (.aload_n 0, 1) := by decide +kernel
theorem dX12_gainBy_50 : decode cX12_gainBy 50 = .ok (.iload_n 1, 1) := by decide +kernel
theorem dX12_gainBy_51 : decode cX12_gainBy 51 = .ok (.iload_n 2, 1) := by decide +kernel
theorem dX12_gainBy_52 : decode cX12_gainBy 52 = .ok (.aload_n 0, 1) := by decide +kernel
theorem dX12_gainBy_53 : decode cX12_gainBy 53 = .ok (.iload_n 1, 1) := by decide +kernel
theorem dX12_gainBy_54 : decode cX12_gainBy 54 = .ok (.iload_n 2, 1) := by decide +kernel
theorem dX12_gainBy_55 : decode cX12_gainBy 55 = .ok (.iconst 1, 1) := by decide +kernel
theorem dX12_gainBy_56 : decode cX12_gainBy 56 = .ok (.invokevirtual 301, 3) := by decide +kernel
theorem dX12_gainBy_59 : decode cX12_gainBy 59 = .ok (.invokevirtual 305, 3) := by decide +kernel
theorem dX12_gainBy_62 : decode cX12_gainBy 62 = .ok (.aload_n 0, 1) := by decide +kernel
theorem dX12_gainBy_63 : decode cX12_gainBy 63 = .ok (.iload_n 1, 1) := by decide +kernel
theorem dX12_gainBy_64 : decode cX12_gainBy 64 = .ok (.iload_n 2, 1) := by decide +kernel
theorem dX12_gainBy_65 : decode cX12_gainBy 65 = .ok (.iconst 2, 1) := by decide +kernel
theorem dX12_gainBy_66 : decode cX12_gainBy 66 = .ok (.invokevirtual 301, 3) := by decide +kernel
theorem dX12_gainBy_69 : decode cX12_gainBy 69 = .ok (.isub, 1) := by decide +kernel
theorem dX12_gainBy_70 : decode cX12_gainBy 70 = .ok (.ireturn, 1) := by decide +kernel
theorem dX12_doors_0 : decode cX12_doors 0 = .ok (.aload_n 0, 1) := by decide +kernel
theorem dX12_doors_1 : decode cX12_doors 1 = .ok (.iload_n 1, 1) := by decide +kernel
theorem dX12_doors_2 : decode cX12_doors 2 = .ok (.invokevirtual 324, 3) := by decide +kernel
theorem dX12_doors_5 : decode cX12_doors 5 = .ok (.ifCond .eq 22, 3) := by decide +kernel
theorem dX12_doors_8 : decode cX12_doors 8 = .ok (.aload_n 0, 1) := by decide +kernel
theorem dX12_doors_9 : decode cX12_doors 9 = .ok (.iconst 0, 1) := by decide +kernel
theorem dX12_doors_10 : decode cX12_doors 10 = .ok (.iload_n 1, 1) := by decide +kernel
theorem dX12_doors_11 : decode cX12_doors 11 = .ok (.invokevirtual 318, 3) := by decide +kernel
theorem dX12_doors_14 : decode cX12_doors 14 = .ok (.ifCond .ne 13, 3) := by decide +kernel
theorem dX12_doors_17 : decode cX12_doors 17 = .ok (.iload_n 2, 1) := by decide +kernel
theorem dX12_doors_18 : decode cX12_doors 18 = .ok (.i2l, 1) := by decide +kernel
theorem dX12_doors_19 : decode cX12_doors 19 = .ok (.lconst 0, 1) := by decide +kernel
theorem dX12_doors_20 : decode cX12_doors 20 = .ok (.lconst 1, 1) := by decide +kernel
theorem dX12_doors_21 : decode cX12_doors 21 = .ok (.invokestatic 127, 3) := by decide +kernel
theorem dX12_doors_24 : decode cX12_doors 24 = .ok (.ifCond .ne 5, 3) := by decide +kernel
theorem dX12_doors_27 : decode cX12_doors 27 = .ok (.iconst (-1), 1) := by decide +kernel
theorem dX12_doors_28 : decode cX12_doors 28 = .ok (.ireturn, 1) := by decide +kernel
theorem dX12_doors_29 : decode cX12_doors 29 = .ok (.aload_n 0, 1) := by decide +kernel
theorem dX12_doors_30 : decode cX12_doors 30 = .ok (.iconst 0, 1) := by decide +kernel
theorem dX12_doors_31 : decode cX12_doors 31 = .ok (.iload_n 1, 1) := by decide +kernel
theorem dX12_doors_32 : decode cX12_doors 32 = .ok (.iconst 1, 1) := by decide +kernel
theorem dX12_doors_33 : decode cX12_doors 33 = .ok (.invokevirtual 301, 3) := by decide +kernel
theorem dX12_doors_36 : decode cX12_doors 36 = .ok (.istore_n 3, 1) := by decide +kernel
theorem dX12_doors_37 : decode cX12_doors 37 = .ok (.iconst 0, 1) := by decide +kernel
theorem dX12_doors_38 : decode cX12_doors 38 = .ok (.istore 4, 2) := by decide +kernel
theorem dX12_doors_40 : decode cX12_doors 40 = .ok (.bipush (-2), 2) := by decide +kernel
theorem dX12_doors_42 : decode cX12_doors 42 = .ok (.istore 5, 2) := by decide +kernel
theorem dX12_doors_44 : decode cX12_doors 44 = .ok (.iconst 0, 1) := by decide +kernel
theorem dX12_doors_45 : decode cX12_doors 45 = .ok (.istore 6, 2) := by decide +kernel
theorem dX12_doors_47 : decode cX12_doors 47 = .ok (.iload 6, 2) := by decide +kernel
theorem dX12_doors_49 : decode cX12_doors 49 = .ok (.iconst 4, 1) := by decide +kernel
theorem dX12_doors_50 : decode cX12_doors 50 = .ok (.if_icmp .ge 86, 3) := by decide +kernel
theorem dX12_doors_53 : decode cX12_doors 53 = .ok (.iload 6, 2) := by decide +kernel
theorem dX12_doors_55 : decode cX12_doors 55 = .ok (.iconst 2, 1) := by decide +kernel
theorem dX12_doors_56 : decode cX12_doors 56 = .ok (.idiv, 1) := by decide +kernel
theorem dX12_doors_57 : decode cX12_doors 57 = .ok (.istore 7, 2) := by decide +kernel
theorem dX12_doors_59 : decode cX12_doors 59 = .ok (.iload 6, 2) := by decide +kernel
theorem dX12_doors_61 : decode cX12_doors 61 = .ok (.iconst 2, 1) := by decide +kernel
theorem dX12_doors_62 : decode cX12_doors 62 = .ok (.irem, 1) := by decide +kernel
theorem dX12_doors_63 : decode cX12_doors 63 = .ok (.istore 8, 2) := by decide +kernel
theorem dX12_doors_65 : decode cX12_doors 65 = .ok (.aload_n 0, 1) := by decide +kernel
theorem dX12_doors_66 : decode cX12_doors 66 = .ok (.iconst 0, 1) := by decide +kernel
theorem dX12_doors_67 : decode cX12_doors 67 = .ok (.iload_n 1, 1) := by decide +kernel
theorem dX12_doors_68 : decode cX12_doors 68 = .ok (.iconst 1, 1) := by decide +kernel
theorem dX12_doors_69 : decode cX12_doors 69 = .ok (.iload 7, 2) := by decide +kernel
theorem dX12_doors_71 : decode cX12_doors 71 = .ok (.isub, 1) := by decide +kernel
theorem dX12_doors_72 : decode cX12_doors 72 = .ok (.iload 8, 2) := by decide +kernel
theorem dX12_doors_74 : decode cX12_doors 74 = .ok (.invokevirtual 422, 3) := by decide +kernel
theorem dX12_doors_77 : decode cX12_doors 77 = .ok (.aload_n 0, 1) := by decide +kernel
theorem dX12_doors_78 : decode cX12_doors 78 = .ok (.iconst 0, 1) := by decide +kernel
theorem dX12_doors_79 : decode cX12_doors 79 = .ok (.iload_n 1, 1) := by decide +kernel
theorem dX12_doors_80 : decode cX12_doors 80 = .ok (.iload 7, 2) := by decide +kernel
theorem dX12_doors_82 : decode cX12_doors 82 = .ok (.iload 8, 2) := by decide +kernel
theorem dX12_doors_84 : decode cX12_doors 84 = .ok (.invokevirtual 422, 3) := by decide +kernel
theorem dX12_doors_87 : decode cX12_doors 87 = .ok (.if_icmp .gt 43, 3) := by decide +kernel
theorem dX12_doors_90 : decode cX12_doors 90 = .ok (.aload_n 0, 1) := by decide +kernel
theorem dX12_doors_91 : decode cX12_doors 91 = .ok (.iconst 1, 1) := by decide +kernel
theorem dX12_doors_92 : decode cX12_doors 92 = .ok (.iload_n 3, 1) := by decide +kernel
theorem dX12_doors_93 : decode cX12_doors 93 = .ok (.iconst 1, 1) := by decide +kernel
theorem dX12_doors_94 : decode cX12_doors 94 = .ok (.iload 8, 2) := by decide +kernel
theorem dX12_doors_96 : decode cX12_doors 96 = .ok (.isub, 1) := by decide +kernel
theorem dX12_doors_97 : decode cX12_doors 97 = .ok (.iload 7, 2) := by decide +kernel
theorem dX12_doors_99 : decode cX12_doors 99 = .ok (.invokevirtual 422, 3) := by decide +kernel
theorem dX12_doors_102 : decode cX12_doors 102 = .ok (.aload_n 0, 1) := by decide +kernel
theorem dX12_doors_103 : decode cX12_doors 103 = .ok (.iconst 1, 1) := by decide +kernel
theorem dX12_doors_104 : decode cX12_doors 104 = .ok (.iload_n 3, 1) := by decide +kernel
theorem dX12_doors_105 : decode cX12_doors 105 = .ok (.iload 8, 2) := by decide +kernel
theorem dX12_doors_107 : decode cX12_doors 107 = .ok (.iload 7, 2) := by decide +kernel
theorem dX12_doors_109 : decode cX12_doors 109 = .ok (.invokevirtual 422, 3) := by decide +kernel
theorem dX12_doors_112 : decode cX12_doors 112 = .ok (.if_icmp .le 6, 3) := by decide +kernel
theorem dX12_doors_115 : decode cX12_doors 115 = .ok (.goto 15, 3) := by decide +kernel
theorem dX12_doors_118 : decode cX12_doors 118 = .ok (.iload 4, 2) := by decide +kernel
theorem dX12_doors_120 : decode cX12_doors 120 = .ok (.ifCond .ne 7, 3) := by decide +kernel
theorem dX12_doors_123 : decode cX12_doors 123 = .ok (.iload 6, 2) := by decide +kernel
theorem dX12_doors_125 : decode cX12_doors 125 = .ok (.istore 5, 2) := by decide +kernel
theorem dX12_doors_127 : decode cX12_doors 127 = .ok (.iinc 4 1, 3) := by decide +kernel
theorem dX12_doors_130 : decode cX12_doors 130 = .ok (.iinc 6 1, 3) := by decide +kernel
theorem dX12_doors_133 : decode cX12_doors 133 = .ok (.goto (-86), 3) := by decide +kernel
theorem dX12_doors_136 : decode cX12_doors 136 = .ok (.iload_n 2, 1) := by decide +kernel
theorem dX12_doors_137 : decode cX12_doors 137 = .ok (.ifCond .ne 8, 3) := by decide +kernel
theorem dX12_doors_140 : decode cX12_doors 140 = .ok (.iload 4, 2) := by decide +kernel
theorem dX12_doors_142 : decode cX12_doors 142 = .ok (.goto 5, 3) := by decide +kernel
theorem dX12_doors_145 : decode cX12_doors 145 = .ok (.iload 5, 2) := by decide +kernel
theorem dX12_doors_147 : decode cX12_doors 147 = .ok (.ireturn, 1) := by decide +kernel
theorem dX12_areKept_0 : decode cX12_areKept 0 = .ok (.iconst 0, 1) := by decide +kernel
theorem dX12_areKept_1 : decode cX12_areKept 1 = .ok (.istore 4, 2) := by decide +kernel
theorem dX12_areKept_3 : decode cX12_areKept 3 = .ok (.iload 4, 2) := by decide +kernel
theorem dX12_areKept_5 : decode cX12_areKept 5 = .ok (.iload_n 3, 1) := by decide +kernel
theorem dX12_areKept_6 : decode cX12_areKept 6 = .ok (.if_icmp .ge 27, 3) := by decide +kernel
theorem dX12_areKept_9 : decode cX12_areKept 9 = .ok (.aload_n 0, 1) := by decide +kernel
theorem dX12_areKept_10 : decode cX12_areKept 10 = .ok (.invokevirtual 374, 3) := by decide +kernel
theorem dX12_areKept_13 : decode cX12_areKept 13 = .ok (.pop, 1) := by decide +kernel
theorem dX12_areKept_14 : decode cX12_areKept 14 = .ok (.aload_n 0, 1) := by decide +kernel
theorem dX12_areKept_15 : decode cX12_areKept 15 = .ok (.iconst 0, 1) := by decide +kernel
theorem dX12_areKept_16 : decode cX12_areKept 16 = .ok (.iload_n 1, 1) := by decide +kernel
theorem dX12_areKept_17 : decode cX12_areKept 17 = .ok (.iconst 1, 1) := by decide +kernel
theorem dX12_areKept_18 : decode cX12_areKept 18 = .ok (.invokevirtual 301, 3) := by decide +kernel
theorem dX12_areKept_21 : decode cX12_areKept 21 = .ok (.iload_n 2, 1) := by decide +kernel
theorem dX12_areKept_22 : decode cX12_areKept 22 = .ok (.if_icmp .eq 5, 3) := by decide +kernel
theorem dX12_areKept_25 : decode cX12_areKept 25 = .ok (.iconst 0, 1) := by decide +kernel
theorem dX12_areKept_26 : decode cX12_areKept 26 = .ok (.ireturn, 1) := by decide +kernel
theorem dX12_areKept_27 : decode cX12_areKept 27 = .ok (.iinc 4 1, 3) := by decide +kernel
theorem dX12_areKept_30 : decode cX12_areKept 30 = .ok (.goto (-27), 3) := by decide +kernel
theorem dX12_areKept_33 : decode cX12_areKept 33 = .ok (.iconst 1, 1) := by decide +kernel
theorem dX12_areKept_34 : decode cX12_areKept 34 = .ok (.ireturn, 1) := by decide +kernel
theorem dX12_keep_0 : decode cX12_keep 0 = .ok (.aload_n 0, 1) := by decide +kernel
theorem dX12_keep_1 : decode cX12_keep 1 = .ok (.iload_n 1, 1) := by decide +kernel
theorem dX12_keep_2 : decode cX12_keep 2 = .ok (.invokevirtual 324, 3) := by decide +kernel
theorem dX12_keep_5 : decode cX12_keep 5 = .ok (.ifCond .eq 24, 3) := by decide +kernel
theorem dX12_keep_8 : decode cX12_keep 8 = .ok (.aload_n 0, 1) := by decide +kernel
theorem dX12_keep_9 : decode cX12_keep 9 = .ok (.iconst 0, 1) := by decide +kernel
theorem dX12_keep_10 : decode cX12_keep 10 = .ok (.iload_n 1, 1) := by decide +kernel
theorem dX12_keep_11 : decode cX12_keep 11 = .ok (.invokevirtual 318, 3) := by decide +kernel
theorem dX12_keep_14 : decode cX12_keep 14 = .ok (.ifCond .ne 15, 3) := by decide +kernel
theorem dX12_keep_17 : decode cX12_keep 17 = .ok (.iload_n 2, 1) := by decide +kernel
theorem dX12_keep_18 : decode cX12_keep 18 = .ok (.i2l, 1) := by decide +kernel
theorem dX12_keep_19 : decode cX12_keep 19 = .ok (.lconst 1, 1) := by decide +kernel
theorem dX12_keep_20 : decode cX12_keep 20 = .ok (.ldc2_w 417, 3) := by decide +kernel
theorem dX12_keep_23 : decode cX12_keep 23 = .ok (.invokestatic 127, 3) := by decide +kernel
theorem dX12_keep_26 : decode cX12_keep 26 = .ok (.ifCond .ne 5, 3) := by decide +kernel
theorem dX12_keep_29 : decode cX12_keep 29 = .ok (.iconst (-1), 1) := by decide +kernel
theorem dX12_keep_30 : decode cX12_keep 30 = .ok (.ireturn, 1) := by decide +kernel
theorem dX12_keep_31 : decode cX12_keep 31 = .ok (.aload_n 0, 1) := by decide +kernel
theorem dX12_keep_32 : decode cX12_keep 32 = .ok (.getfield 39, 3) := by decide +kernel
theorem dX12_keep_35 : decode cX12_keep 35 = .ok (.iconst 1, 1) := by decide +kernel
theorem dX12_keep_36 : decode cX12_keep 36 = .ok (.iaload, 1) := by decide +kernel
theorem dX12_keep_37 : decode cX12_keep 37 = .ok (.istore_n 3, 1) := by decide +kernel
theorem dX12_keep_38 : decode cX12_keep 38 = .ok (.aload_n 0, 1) := by decide +kernel
theorem dX12_keep_39 : decode cX12_keep 39 = .ok (.iconst 0, 1) := by decide +kernel
theorem dX12_keep_40 : decode cX12_keep 40 = .ok (.iload_n 1, 1) := by decide +kernel
theorem dX12_keep_41 : decode cX12_keep 41 = .ok (.iconst 1, 1) := by decide +kernel
theorem dX12_keep_42 : decode cX12_keep 42 = .ok (.invokevirtual 301, 3) := by decide +kernel
theorem dX12_keep_45 : decode cX12_keep 45 = .ok (.istore 4, 2) := by decide +kernel
theorem dX12_keep_47 : decode cX12_keep 47 = .ok (.bipush (-2), 2) := by decide +kernel
theorem dX12_keep_49 : decode cX12_keep 49 = .ok (.istore 5, 2) := by decide +kernel
theorem dX12_keep_51 : decode cX12_keep 51 = .ok (.aload_n 0, 1) := by decide +kernel
theorem dX12_keep_52 : decode cX12_keep 52 = .ok (.invokevirtual 391, 3) := by decide +kernel
theorem dX12_keep_55 : decode cX12_keep 55 = .ok (.iconst 0, 1) := by decide +kernel
theorem dX12_keep_56 : decode cX12_keep 56 = .ok (.istore 6, 2) := by decide +kernel
theorem dX12_keep_58 : decode cX12_keep 58 = .ok (.iload 6, 2) := by decide +kernel
theorem dX12_keep_60 : decode cX12_keep 60 = .ok (.bipush 100, 2) := by decide +kernel
theorem dX12_keep_62 : decode cX12_keep 62 = .ok (.if_icmp .ge 41, 3) := by decide +kernel
theorem dX12_keep_65 : decode cX12_keep 65 = .ok (.iload 5, 2) := by decide +kernel
theorem dX12_keep_67 : decode cX12_keep 67 = .ok (.ifCond .ge 36, 3) := by decide +kernel
theorem dX12_keep_70 : decode cX12_keep 70 = .ok (.aload_n 0, 1) := by decide +kernel
theorem dX12_keep_71 : decode cX12_keep 71 = .ok (.getfield 39, 3) := by decide +kernel
theorem dX12_keep_74 : decode cX12_keep 74 = .ok (.iconst 1, 1) := by decide +kernel
theorem dX12_keep_75 : decode cX12_keep 75 = .ok (.iload 6, 2) := by decide +kernel
theorem dX12_keep_77 : decode cX12_keep 77 = .ok (.iastore, 1) := by decide +kernel
theorem dX12_keep_78 : decode cX12_keep 78 = .ok (.aload_n 0, 1) := by decide +kernel
theorem dX12_keep_79 : decode cX12_keep 79 = .ok (.iload_n 1, 1) := by decide +kernel
theorem dX12_keep_80 : decode cX12_keep 80 = .ok (.iload 4, 2) := by decide +kernel
theorem dX12_keep_82 : decode cX12_keep 82 = .ok (.iload_n 2, 1) := by decide +kernel
theorem dX12_keep_83 : decode cX12_keep 83 = .ok (.invokevirtual 426, 3) := by decide +kernel
theorem dX12_keep_86 : decode cX12_keep 86 = .ok (.ifCond .eq 7, 3) := by decide +kernel
theorem dX12_keep_89 : decode cX12_keep 89 = .ok (.iload 6, 2) := by decide +kernel
theorem dX12_keep_91 : decode cX12_keep 91 = .ok (.istore 5, 2) := by decide +kernel
theorem dX12_keep_93 : decode cX12_keep 93 = .ok (.aload_n 0, 1) := by decide +kernel
theorem dX12_keep_94 : decode cX12_keep 94 = .ok (.invokevirtual 397, 3) := by decide +kernel
theorem dX12_keep_97 : decode cX12_keep 97 = .ok (.iinc 6 1, 3) := by decide +kernel
theorem dX12_keep_100 : decode cX12_keep 100 = .ok (.goto (-42), 3) := by decide +kernel
theorem dX12_keep_103 : decode cX12_keep 103 = .ok (.aload_n 0, 1) := by decide +kernel
theorem dX12_keep_104 : decode cX12_keep 104 = .ok (.getfield 39, 3) := by decide +kernel
theorem dX12_keep_107 : decode cX12_keep 107 = .ok (.iconst 1, 1) := by decide +kernel
theorem dX12_keep_108 : decode cX12_keep 108 = .ok (.iload_n 3, 1) := by decide +kernel
theorem dX12_keep_109 : decode cX12_keep 109 = .ok (.iastore, 1) := by decide +kernel
theorem dX12_keep_110 : decode cX12_keep 110 = .ok (.iload 5, 2) := by decide +kernel
theorem dX12_keep_112 : decode cX12_keep 112 = .ok (.ireturn, 1) := by decide +kernel
theorem dX12_note_0 : decode cX12_note 0 = .ok (.iload_n 1, 1) := by decide +kernel
theorem dX12_note_1 : decode cX12_note 1 = .ok (.iconst (-1), 1) := by decide +kernel
theorem dX12_note_2 : decode cX12_note 2 = .ok (.if_icmp .ne 14, 3) := by decide +kernel
theorem dX12_note_5 : decode cX12_note 5 = .ok (.aload_n 0, 1) := by decide +kernel
theorem dX12_note_6 : decode cX12_note 6 = .ok (.getfield 39, 3) := by decide +kernel
theorem dX12_note_9 : decode cX12_note 9 = .ok (.sipush 183, 3) := by decide +kernel
theorem dX12_note_12 : decode cX12_note 12 = .ok (.iconst 0, 1) := by decide +kernel
theorem dX12_note_13 : decode cX12_note 13 = .ok (.iastore, 1) := by decide +kernel
theorem dX12_note_14 : decode cX12_note 14 = .ok (.iconst 0, 1) := by decide +kernel
theorem dX12_note_15 : decode cX12_note 15 = .ok (.ireturn, 1) := by decide +kernel
theorem dX12_note_16 : decode cX12_note 16 = .ok (.iload_n 1, 1) := by decide +kernel
theorem dX12_note_17 : decode cX12_note 17 = .ok (.i2l, 1) := by decide +kernel
theorem dX12_note_18 : decode cX12_note 18 = .ok (.lconst 0, 1) := by decide +kernel
theorem dX12_note_19 : decode cX12_note 19 = .ok (.ldc2_w 417, 3) := by decide +kernel
theorem dX12_note_22 : decode cX12_note 22 = .ok (.invokestatic 127, 3) := by decide +kernel
theorem dX12_note_25 : decode cX12_note 25 = .ok (.ifCond .eq 37, 3) := by decide +kernel
theorem dX12_note_28 : decode cX12_note 28 = .ok (.aload_n 0, 1) := by decide +kernel
theorem dX12_note_29 : decode cX12_note 29 = .ok (.iload_n 2, 1) := by decide +kernel
theorem dX12_note_30 : decode cX12_note 30 = .ok (.invokevirtual 324, 3) := by decide +kernel
theorem dX12_note_33 : decode cX12_note 33 = .ok (.ifCond .eq 29, 3) := by decide +kernel
theorem dX12_note_36 : decode cX12_note 36 = .ok (.iload_n 3, 1) := by decide +kernel
theorem dX12_note_37 : decode cX12_note 37 = .ok (.iconst (-1), 1) := by decide +kernel
theorem dX12_note_38 : decode cX12_note 38 = .ok (.if_icmp .eq 11, 3) := by decide +kernel
theorem dX12_note_41 : decode cX12_note 41 = .ok (.aload_n 0, 1) := by decide +kernel
theorem dX12_note_42 : decode cX12_note 42 = .ok (.iload_n 3, 1) := by decide +kernel
theorem dX12_note_43 : decode cX12_note 43 = .ok (.invokevirtual 329, 3) := by decide +kernel
theorem dX12_note_46 : decode cX12_note 46 = .ok (.ifCond .eq 16, 3) := by decide +kernel
theorem dX12_note_49 : decode cX12_note 49 = .ok (.aload_n 0, 1) := by decide +kernel
theorem dX12_note_50 : decode cX12_note 50 = .ok (.getfield 39, 3) := by decide +kernel
theorem dX12_note_53 : decode cX12_note 53 = .ok (.sipush 183, 3) := by decide +kernel
theorem dX12_note_56 : decode cX12_note 56 = .ok (.iaload, 1) := by decide +kernel
theorem dX12_note_57 : decode cX12_note 57 = .ok (.bipush 10, 2) := by decide +kernel
theorem dX12_note_59 : decode cX12_note 59 = .ok (.if_icmp .ne 6, 3) := by decide +kernel
theorem dX12_note_62 : decode cX12_note 62 = .ok (.bipush (-2), 2) := by decide +kernel
theorem dX12_note_64 : decode cX12_note 64 = .ok (.ireturn, 1) := by decide +kernel
theorem dX12_note_65 : decode cX12_note 65 = .ok (.sipush 153, 3) := by decide +kernel
theorem dX12_note_68 : decode cX12_note 68 = .ok (.iconst 3, 1) := by decide +kernel
theorem dX12_note_69 : decode cX12_note 69 = .ok (.aload_n 0, 1) := by decide +kernel
theorem dX12_note_70 : decode cX12_note 70 = .ok (.getfield 39, 3) := by decide +kernel
theorem dX12_note_73 : decode cX12_note 73 = .ok (.sipush 183, 3) := by decide +kernel
theorem dX12_note_76 : decode cX12_note 76 = .ok (.iaload, 1) := by decide +kernel
theorem dX12_note_77 : decode cX12_note 77 = .ok (.imul, 1) := by decide +kernel
theorem dX12_note_78 : decode cX12_note 78 = .ok (.iadd, 1) := by decide +kernel
theorem dX12_note_79 : decode cX12_note 79 = .ok (.istore 4, 2) := by decide +kernel
theorem dX12_note_81 : decode cX12_note 81 = .ok (.aload_n 0, 1) := by decide +kernel
theorem dX12_note_82 : decode cX12_note 82 = .ok (.getfield 39, 3) := by decide +kernel
theorem dX12_note_85 : decode cX12_note 85 = .ok (.iload 4, 2) := by decide +kernel
theorem dX12_note_87 : decode cX12_note 87 = .ok (.iload_n 1, 1) := by decide +kernel
theorem dX12_note_88 : decode cX12_note 88 = .ok (.iastore, 1) := by decide +kernel
theorem dX12_note_89 : decode cX12_note 89 = .ok (.aload_n 0, 1) := by decide +kernel
theorem dX12_note_90 : decode cX12_note 90 = .ok (.getfield 39, 3) := by decide +kernel
theorem dX12_note_93 : decode cX12_note 93 = .ok (.iload 4, 2) := by decide +kernel
theorem dX12_note_95 : decode cX12_note 95 = .ok (.iconst 1, 1) := by decide +kernel
theorem dX12_note_96 : decode cX12_note 96 = .ok (.iadd, 1) := by decide +kernel
theorem dX12_note_97 : decode cX12_note 97 = .ok (.iload_n 2, 1) := by decide +kernel
theorem dX12_note_98 : decode cX12_note 98 = .ok (.iastore, 1) := by decide +kernel
theorem dX12_note_99 : decode cX12_note 99 = .ok (.aload_n 0, 1) := by decide +kernel
theorem dX12_note_100 : decode cX12_note 100 = .ok (.getfield 39, 3) := by decide +kernel
theorem dX12_note_103 : decode cX12_note 103 = .ok (.iload 4, 2) := by decide +kernel
theorem dX12_note_105 : decode cX12_note 105 = .ok (.iconst 2, 1) := by decide +kernel
theorem dX12_note_106 : decode cX12_note 106 = .ok (.iadd, 1) := by decide +kernel
theorem dX12_note_107 : decode cX12_note 107 = .ok (.iload_n 3, 1) := by decide +kernel
theorem dX12_note_108 : decode cX12_note 108 = .ok (.iastore, 1) := by decide +kernel
theorem dX12_note_109 : decode cX12_note 109 = .ok (.aload_n 0, 1) := by decide +kernel
theorem dX12_note_110 : decode cX12_note 110 = .ok (.getfield 39, 3) := by decide +kernel
theorem dX12_note_113 : decode cX12_note 113 = .ok (.sipush 183, 3) := by decide +kernel
theorem dX12_note_116 : decode cX12_note 116 = .ok (.dup2, 1) := by decide +kernel
theorem dX12_note_117 : decode cX12_note 117 = .ok (.iaload, 1) := by decide +kernel
theorem dX12_note_118 : decode cX12_note 118 = .ok (.iconst 1, 1) := by decide +kernel
theorem dX12_note_119 : decode cX12_note 119 = .ok (.iadd, 1) := by decide +kernel
theorem dX12_note_120 : decode cX12_note 120 = .ok (.iastore, 1) := by decide +kernel
theorem dX12_note_121 : decode cX12_note 121 = .ok (.aload_n 0, 1) := by decide +kernel
theorem dX12_note_122 : decode cX12_note 122 = .ok (.getfield 39, 3) := by decide +kernel
theorem dX12_note_125 : decode cX12_note 125 = .ok (.sipush 183, 3) := by decide +kernel
theorem dX12_note_128 : decode cX12_note 128 = .ok (.iaload, 1) := by decide +kernel
theorem dX12_note_129 : decode cX12_note 129 = .ok (.ireturn, 1) := by decide +kernel
theorem dX12_areNotesSo_0 : decode cX12_areNotesSo 0 = .ok (.iconst 0, 1) := by decide +kernel
theorem dX12_areNotesSo_1 : decode cX12_areNotesSo 1 = .ok (.istore_n 2, 1) := by decide +kernel
theorem dX12_areNotesSo_2 : decode cX12_areNotesSo 2 = .ok (.iload_n 2, 1) := by decide +kernel
theorem dX12_areNotesSo_3 : decode cX12_areNotesSo 3 = .ok (.iconst 3, 1) := by decide +kernel
theorem dX12_areNotesSo_4 : decode cX12_areNotesSo 4 = .ok (.aload_n 0, 1) := by decide +kernel
theorem dX12_areNotesSo_5 : decode cX12_areNotesSo 5 = .ok (.getfield 39, 3) := by decide +kernel
theorem dX12_areNotesSo_8 : decode cX12_areNotesSo 8 = .ok (.sipush 183, 3) := by decide +kernel
theorem dX12_areNotesSo_11 : decode cX12_areNotesSo 11 = .ok (.iaload, 1) := by decide +kernel
theorem dX12_areNotesSo_12 : decode cX12_areNotesSo 12 = .ok (.imul, 1) := by decide +kernel
theorem dX12_areNotesSo_13 : decode cX12_areNotesSo 13 = .ok (.if_icmp .ge 58, 3) := by decide +kernel
theorem dX12_areNotesSo_16 : decode cX12_areNotesSo 16 = .ok (.aload_n 0, 1) := by decide +kernel
theorem dX12_areNotesSo_17 : decode cX12_areNotesSo 17 = .ok (.getfield 39, 3) := by decide +kernel
theorem dX12_areNotesSo_20 : decode cX12_areNotesSo 20 = .ok (.sipush 153, 3) := by decide +kernel
theorem dX12_areNotesSo_23 : decode cX12_areNotesSo 23 = .ok (.iload_n 2, 1) := by decide +kernel
theorem dX12_areNotesSo_24 : decode cX12_areNotesSo 24 = .ok (.iadd, 1) := by decide +kernel
theorem dX12_areNotesSo_25 : decode cX12_areNotesSo 25 = .ok (.iaload, 1) := by decide +kernel
theorem dX12_areNotesSo_26 : decode cX12_areNotesSo 26 = .ok (.iload_n 1, 1) := by decide +kernel
theorem dX12_areNotesSo_27 : decode cX12_areNotesSo 27 = .ok (.if_icmp .ne 38, 3) := by decide +kernel
theorem dX12_areNotesSo_30 : decode cX12_areNotesSo 30 = .ok (.aload_n 0, 1) := by decide +kernel
theorem dX12_areNotesSo_31 : decode cX12_areNotesSo 31 = .ok (.iconst 0, 1) := by decide +kernel
theorem dX12_areNotesSo_32 : decode cX12_areNotesSo 32 = .ok (.aload_n 0, 1) := by decide +kernel
theorem dX12_areNotesSo_33 : decode cX12_areNotesSo 33 = .ok (.getfield 39, 3) := by decide +kernel
theorem dX12_areNotesSo_36 : decode cX12_areNotesSo 36 = .ok (.sipush 153, 3) := by decide +kernel
theorem dX12_areNotesSo_39 : decode cX12_areNotesSo 39 = .ok (.iload_n 2, 1) := by decide +kernel
theorem dX12_areNotesSo_40 : decode cX12_areNotesSo 40 = .ok (.iadd, 1) := by decide +kernel
theorem dX12_areNotesSo_41 : decode cX12_areNotesSo 41 = .ok (.iconst 1, 1) := by decide +kernel
theorem dX12_areNotesSo_42 : decode cX12_areNotesSo 42 = .ok (.iadd, 1) := by decide +kernel
theorem dX12_areNotesSo_43 : decode cX12_areNotesSo 43 = .ok (.iaload, 1) := by decide +kernel
theorem dX12_areNotesSo_44 : decode cX12_areNotesSo 44 = .ok (.iconst 1, 1) := by decide +kernel
theorem dX12_areNotesSo_45 : decode cX12_areNotesSo 45 = .ok (.invokevirtual 301, 3) := by decide +kernel
theorem dX12_areNotesSo_48 : decode cX12_areNotesSo 48 = .ok (.aload_n 0, 1) := by decide +kernel
theorem dX12_areNotesSo_49 : decode cX12_areNotesSo 49 = .ok (.getfield 39, 3) := by decide +kernel
theorem dX12_areNotesSo_52 : decode cX12_areNotesSo 52 = .ok (.sipush 153, 3) := by decide +kernel
theorem dX12_areNotesSo_55 : decode cX12_areNotesSo 55 = .ok (.iload_n 2, 1) := by decide +kernel
theorem dX12_areNotesSo_56 : decode cX12_areNotesSo 56 = .ok (.iadd, 1) := by decide +kernel
theorem dX12_areNotesSo_57 : decode cX12_areNotesSo 57 = .ok (.iconst 2, 1) := by decide +kernel
theorem dX12_areNotesSo_58 : decode cX12_areNotesSo 58 = .ok (.iadd, 1) := by decide +kernel
theorem dX12_areNotesSo_59 : decode cX12_areNotesSo 59 = .ok (.iaload, 1) := by decide +kernel
theorem dX12_areNotesSo_60 : decode cX12_areNotesSo 60 = .ok (.if_icmp .eq 5, 3) := by decide +kernel
theorem dX12_areNotesSo_63 : decode cX12_areNotesSo 63 = .ok (.iconst 0, 1) := by decide +kernel
theorem dX12_areNotesSo_64 : decode cX12_areNotesSo 64 = .ok (.ireturn, 1) := by decide +kernel
theorem dX12_areNotesSo_65 : decode cX12_areNotesSo 65 = .ok (.iinc 2 3, 3) := by decide +kernel
theorem dX12_areNotesSo_68 : decode cX12_areNotesSo 68 = .ok (.goto (-66), 3) := by decide +kernel
theorem dX12_areNotesSo_71 : decode cX12_areNotesSo 71 = .ok (.iconst 1, 1) := by decide +kernel
theorem dX12_areNotesSo_72 : decode cX12_areNotesSo 72 = .ok (.ireturn, 1) := by decide +kernel
theorem dX12_isSo_0 : decode cX12_isSo 0 = .ok (.iconst 1, 1) := by decide +kernel
theorem dX12_isSo_1 : decode cX12_isSo 1 = .ok (.istore_n 3, 1) := by decide +kernel
theorem dX12_isSo_2 : decode cX12_isSo 2 = .ok (.iconst 0, 1) := by decide +kernel
theorem dX12_isSo_3 : decode cX12_isSo 3 = .ok (.istore 4, 2) := by decide +kernel
theorem dX12_isSo_5 : decode cX12_isSo 5 = .ok (.iload 4, 2) := by decide +kernel
theorem dX12_isSo_7 : decode cX12_isSo 7 = .ok (.bipush 30, 2) := by decide +kernel
theorem dX12_isSo_9 : decode cX12_isSo 9 = .ok (.if_icmp .gt 73, 3) := by decide +kernel
theorem dX12_isSo_12 : decode cX12_isSo 12 = .ok (.aload_n 0, 1) := by decide +kernel
theorem dX12_isSo_13 : decode cX12_isSo 13 = .ok (.invokevirtual 374, 3) := by decide +kernel
theorem dX12_isSo_16 : decode cX12_isSo 16 = .ok (.pop, 1) := by decide +kernel
theorem dX12_isSo_17 : decode cX12_isSo 17 = .ok (.iload_n 3, 1) := by decide +kernel
theorem dX12_isSo_18 : decode cX12_isSo 18 = .ok (.ifCond .eq 16, 3) := by decide +kernel
theorem dX12_isSo_21 : decode cX12_isSo 21 = .ok (.aload_n 0, 1) := by decide +kernel
theorem dX12_isSo_22 : decode cX12_isSo 22 = .ok (.iload 4, 2) := by decide +kernel
theorem dX12_isSo_24 : decode cX12_isSo 24 = .ok (.invokevirtual 429, 3) := by decide +kernel
theorem dX12_isSo_27 : decode cX12_isSo 27 = .ok (.ifCond .eq 7, 3) := by decide +kernel
theorem dX12_isSo_30 : decode cX12_isSo 30 = .ok (.iconst 1, 1) := by decide +kernel
theorem dX12_isSo_31 : decode cX12_isSo 31 = .ok (.goto 4, 3) := by decide +kernel
theorem dX12_isSo_34 : decode cX12_isSo 34 = .ok (.iconst 0, 1) := by decide +kernel
theorem dX12_isSo_35 : decode cX12_isSo 35 = .ok (.istore_n 3, 1) := by decide +kernel
theorem dX12_isSo_36 : decode cX12_isSo 36 = .ok (.iconst 0, 1) := by decide +kernel
theorem dX12_isSo_37 : decode cX12_isSo 37 = .ok (.istore 5, 2) := by decide +kernel
theorem dX12_isSo_39 : decode cX12_isSo 39 = .ok (.iload 5, 2) := by decide +kernel
theorem dX12_isSo_41 : decode cX12_isSo 41 = .ok (.iconst 4, 1) := by decide +kernel
theorem dX12_isSo_42 : decode cX12_isSo 42 = .ok (.if_icmp .ge 34, 3) := by decide +kernel
theorem dX12_isSo_45 : decode cX12_isSo 45 = .ok (.iload 4, 2) := by decide +kernel
theorem dX12_isSo_47 : decode cX12_isSo 47 = .ok (.iload_n 2, 1) := by decide +kernel
theorem dX12_isSo_48 : decode cX12_isSo 48 = .ok (.if_icmp .ne 28, 3) := by decide +kernel
