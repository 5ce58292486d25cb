theorem dX8_passYear_43 : decode cX8_passYear 43 = .ok (.iload_n 1, 1) := by decide +kernel
theorem dX8_passYear_44 : decode cX8_passYear 44 = .ok (.iload_n 2, 1) := by decide +kernel
theorem dX8_passYear_45 : decode cX8_passYear 45 = .ok (.invokestatic 97, 3) := by decide +kernel
theorem dX8_passYear_48 : decode cX8_passYear 48 = .ok (.invokevirtual 100, 3) := by decide +kernel
theorem dX8_passYear_51 : decode cX8_passYear 51 = .ok (.iinc 1 1, 3) := by decide +kernel
theorem dX8_passYear_54 : decode cX8_passYear 54 = .ok (.goto (-52), 3) := by decide +kernel
theorem dX8_passYear_57 : decode cX8_passYear 57 = .ok (.aload_n 0, 1) := by decide +kernel
theorem dX8_passYear_58 : decode cX8_passYear 58 = .ok (.dup, 1) := by decide +kernel
theorem dX8_passYear_59 : decode cX8_passYear 59 = .ok (.getfield 28, 3) := by decide +kernel
theorem dX8_passYear_62 : decode cX8_passYear 62 = .ok (.iconst 1, 1) := by decide +kernel
theorem dX8_passYear_63 : decode cX8_passYear 63 = .ok (.iadd, 1) := by decide +kernel
theorem dX8_passYear_64 : decode cX8_passYear 64 = .ok (.putfield 28, 3) := by decide +kernel
theorem dX8_passYear_67 : decode cX8_passYear 67 = .ok (.return_, 1) := by decide +kernel
theorem dX8_learn_0 : decode cX8_learn 0 = .ok (.aload_n 0, 1) := by decide +kernel
theorem dX8_learn_1 : decode cX8_learn 1 = .ok (.getfield 48, 3) := by decide +kernel
theorem dX8_learn_4 : decode cX8_learn 4 = .ok (.iload_n 1, 1) := by decide +kernel
theorem dX8_learn_5 : decode cX8_learn 5 = .ok (.iaload, 1) := by decide +kernel
theorem dX8_learn_6 : decode cX8_learn 6 = .ok (.aload_n 0, 1) := by decide +kernel
theorem dX8_learn_7 : decode cX8_learn 7 = .ok (.getfield 51, 3) := by decide +kernel
theorem dX8_learn_10 : decode cX8_learn 10 = .ok (.iload_n 1, 1) := by decide +kernel
theorem dX8_learn_11 : decode cX8_learn 11 = .ok (.iaload, 1) := by decide +kernel
theorem dX8_learn_12 : decode cX8_learn 12 = .ok (.if_icmp .ge 16, 3) := by decide +kernel
theorem dX8_learn_15 : decode cX8_learn 15 = .ok (.aload_n 0, 1) := by decide +kernel
theorem dX8_learn_16 : decode cX8_learn 16 = .ok (.getfield 48, 3) := by decide +kernel
theorem dX8_learn_19 : decode cX8_learn 19 = .ok (.iload_n 1, 1) := by decide +kernel
theorem dX8_learn_20 : decode cX8_learn 20 = .ok (.dup2, 1) := by decide +kernel
theorem dX8_learn_21 : decode cX8_learn 21 = .ok (.iaload, 1) := by decide +kernel
theorem dX8_learn_22 : decode cX8_learn 22 = .ok (.iconst 1, 1) := by decide +kernel
theorem dX8_learn_23 : decode cX8_learn 23 = .ok (.iadd, 1) := by decide +kernel
theorem dX8_learn_24 : decode cX8_learn 24 = .ok (.iastore, 1) := by decide +kernel
theorem dX8_learn_25 : decode cX8_learn 25 = .ok (.goto 28, 3) := by decide +kernel
theorem dX8_learn_28 : decode cX8_learn 28 = .ok (.aload_n 0, 1) := by decide +kernel
theorem dX8_learn_29 : decode cX8_learn 29 = .ok (.getfield 48, 3) := by decide +kernel
theorem dX8_learn_32 : decode cX8_learn 32 = .ok (.iload_n 1, 1) := by decide +kernel
theorem dX8_learn_33 : decode cX8_learn 33 = .ok (.iaload, 1) := by decide +kernel
theorem dX8_learn_34 : decode cX8_learn 34 = .ok (.aload_n 0, 1) := by decide +kernel
theorem dX8_learn_35 : decode cX8_learn 35 = .ok (.getfield 51, 3) := by decide +kernel
theorem dX8_learn_38 : decode cX8_learn 38 = .ok (.iload_n 1, 1) := by decide +kernel
theorem dX8_learn_39 : decode cX8_learn 39 = .ok (.iaload, 1) := by decide +kernel
theorem dX8_learn_40 : decode cX8_learn 40 = .ok (.if_icmp .le 13, 3) := by decide +kernel
theorem dX8_learn_43 : decode cX8_learn 43 = .ok (.aload_n 0, 1) := by decide +kernel
theorem dX8_learn_44 : decode cX8_learn 44 = .ok (.getfield 48, 3) := by decide +kernel
theorem dX8_learn_47 : decode cX8_learn 47 = .ok (.iload_n 1, 1) := by decide +kernel
theorem dX8_learn_48 : decode cX8_learn 48 = .ok (.dup2, 1) := by decide +kernel
theorem dX8_learn_49 : decode cX8_learn 49 = .ok (.iaload, 1) := by decide +kernel
theorem dX8_learn_50 : decode cX8_learn 50 = .ok (.iconst 1, 1) := by decide +kernel
theorem dX8_learn_51 : decode cX8_learn 51 = .ok (.isub, 1) := by decide +kernel
theorem dX8_learn_52 : decode cX8_learn 52 = .ok (.iastore, 1) := by decide +kernel
theorem dX8_learn_53 : decode cX8_learn 53 = .ok (.return_, 1) := by decide +kernel
theorem dX9_init_0 : decode cX9_init 0 = .ok (.aload_n 0, 1) := by decide +kernel
theorem dX9_init_1 : decode cX9_init 1 = .ok (.invokespecial 3, 3) := by decide +kernel
theorem dX9_init_4 : decode cX9_init 4 = .ok (.aload_n 0, 1) := by decide +kernel
theorem dX9_init_5 : decode cX9_init 5 = .ok (.sipush 400, 3) := by decide +kernel
theorem dX9_init_8 : decode cX9_init 8 = .ok (.newarray .byte, 2) := by decide +kernel
theorem dX9_init_10 : decode cX9_init 10 = .ok (.putfield 9, 3) := by decide +kernel
theorem dX9_init_13 : decode cX9_init 13 = .ok (.aload_n 0, 1) := by decide +kernel
theorem dX9_init_14 : decode cX9_init 14 = .ok (.iconst 0, 1) := by decide +kernel
theorem dX9_init_15 : decode cX9_init 15 = .ok (.putfield 15, 3) := by decide +kernel
theorem dX9_init_18 : decode cX9_init 18 = .ok (.aload_n 0, 1) := by decide +kernel
theorem dX9_init_19 : decode cX9_init 19 = .ok (.iconst 0, 1) := by decide +kernel
theorem dX9_init_20 : decode cX9_init 20 = .ok (.putfield 19, 3) := by decide +kernel
theorem dX9_init_23 : decode cX9_init 23 = .ok (.aload_n 0, 1) := by decide +kernel
theorem dX9_init_24 : decode cX9_init 24 = .ok (.iconst 0, 1) := by decide +kernel
theorem dX9_init_25 : decode cX9_init 25 = .ok (.putfield 22, 3) := by decide +kernel
theorem dX9_init_28 : decode cX9_init 28 = .ok (.return_, 1) := by decide +kernel
theorem dX9_append_0 : decode cX9_append 0 = .ok (.bipush 24, 2) := by decide +kernel
theorem dX9_append_2 : decode cX9_append 2 = .ok (.istore_n 2, 1) := by decide +kernel
theorem dX9_append_3 : decode cX9_append 3 = .ok (.iload_n 2, 1) := by decide +kernel
theorem dX9_append_4 : decode cX9_append 4 = .ok (.ifCond .lt 42, 3) := by decide +kernel
theorem dX9_append_7 : decode cX9_append 7 = .ok (.aload_n 0, 1) := by decide +kernel
theorem dX9_append_8 : decode cX9_append 8 = .ok (.getfield 15, 3) := by decide +kernel
theorem dX9_append_11 : decode cX9_append 11 = .ok (.sipush 400, 3) := by decide +kernel
theorem dX9_append_14 : decode cX9_append 14 = .ok (.if_icmp .ge 32, 3) := by decide +kernel
theorem dX9_append_17 : decode cX9_append 17 = .ok (.aload_n 0, 1) := by decide +kernel
theorem dX9_append_18 : decode cX9_append 18 = .ok (.getfield 9, 3) := by decide +kernel
theorem dX9_append_21 : decode cX9_append 21 = .ok (.aload_n 0, 1) := by decide +kernel
theorem dX9_append_22 : decode cX9_append 22 = .ok (.getfield 15, 3) := by decide +kernel
theorem dX9_append_25 : decode cX9_append 25 = .ok (.iload_n 1, 1) := by decide +kernel
theorem dX9_append_26 : decode cX9_append 26 = .ok (.iload_n 2, 1) := by decide +kernel
theorem dX9_append_27 : decode cX9_append 27 = .ok (.ishr, 1) := by decide +kernel
theorem dX9_append_28 : decode cX9_append 28 = .ok (.i2b, 1) := by decide +kernel
theorem dX9_append_29 : decode cX9_append 29 = .ok (.bastore, 1) := by decide +kernel
theorem dX9_append_30 : decode cX9_append 30 = .ok (.aload_n 0, 1) := by decide +kernel
theorem dX9_append_31 : decode cX9_append 31 = .ok (.dup, 1) := by decide +kernel
theorem dX9_append_32 : decode cX9_append 32 = .ok (.getfield 15, 3) := by decide +kernel
theorem dX9_append_35 : decode cX9_append 35 = .ok (.iconst 1, 1) := by decide +kernel
theorem dX9_append_36 : decode cX9_append 36 = .ok (.iadd, 1) := by decide +kernel
theorem dX9_append_37 : decode cX9_append 37 = .ok (.putfield 15, 3) := by decide +kernel
theorem dX9_append_40 : decode cX9_append 40 = .ok (.iinc 2 (-8), 3) := by decide +kernel
theorem dX9_append_43 : decode cX9_append 43 = .ok (.goto (-40), 3) := by decide +kernel
theorem dX9_append_46 : decode cX9_append 46 = .ok (.return_, 1) := by decide +kernel
theorem dX9_rewind_0 : decode cX9_rewind 0 = .ok (.aload_n 0, 1) := by decide +kernel
theorem dX9_rewind_1 : decode cX9_rewind 1 = .ok (.iconst 0, 1) := by decide +kernel
theorem dX9_rewind_2 : decode cX9_rewind 2 = .ok (.putfield 19, 3) := by decide +kernel
theorem dX9_rewind_5 : decode cX9_rewind 5 = .ok (.aload_n 0, 1) := by decide +kernel
theorem dX9_rewind_6 : decode cX9_rewind 6 = .ok (.iconst 0, 1) := by decide +kernel
theorem dX9_rewind_7 : decode cX9_rewind 7 = .ok (.putfield 22, 3) := by decide +kernel
theorem dX9_rewind_10 : decode cX9_rewind 10 = .ok (.return_, 1) := by decide +kernel
theorem dX9_blame_0 : decode cX9_blame 0 = .ok (.aload_n 0, 1) := by decide +kernel
theorem dX9_blame_1 : decode cX9_blame 1 = .ok (.getfield 22, 3) := by decide +kernel
theorem dX9_blame_4 : decode cX9_blame 4 = .ok (.ifCond .ne 15, 3) := by decide +kernel
theorem dX9_blame_7 : decode cX9_blame 7 = .ok (.aload_n 0, 1) := by decide +kernel
theorem dX9_blame_8 : decode cX9_blame 8 = .ok (.iconst 1, 1) := by decide +kernel
theorem dX9_blame_9 : decode cX9_blame 9 = .ok (.bipush 8, 2) := by decide +kernel
theorem dX9_blame_11 : decode cX9_blame 11 = .ok (.iload_n 1, 1) := by decide +kernel
theorem dX9_blame_12 : decode cX9_blame 12 = .ok (.imul, 1) := by decide +kernel
theorem dX9_blame_13 : decode cX9_blame 13 = .ok (.iadd, 1) := by decide +kernel
theorem dX9_blame_14 : decode cX9_blame 14 = .ok (.iload_n 2, 1) := by decide +kernel
theorem dX9_blame_15 : decode cX9_blame 15 = .ok (.iadd, 1) := by decide +kernel
theorem dX9_blame_16 : decode cX9_blame 16 = .ok (.putfield 22, 3) := by decide +kernel
theorem dX9_blame_19 : decode cX9_blame 19 = .ok (.return_, 1) := by decide +kernel
theorem dX9_byteAt_0 : decode cX9_byteAt 0 = .ok (.iload_n 1, 1) := by decide +kernel
theorem dX9_byteAt_1 : decode cX9_byteAt 1 = .ok (.ifCond .lt 24, 3) := by decide +kernel
theorem dX9_byteAt_4 : decode cX9_byteAt 4 = .ok (.iload_n 1, 1) := by decide +kernel
theorem dX9_byteAt_5 : decode cX9_byteAt 5 = .ok (.aload_n 0, 1) := by decide +kernel
theorem dX9_byteAt_6 : decode cX9_byteAt 6 = .ok (.getfield 15, 3) := by decide +kernel
theorem dX9_byteAt_9 : decode cX9_byteAt 9 = .ok (.if_icmp .ge 16, 3) := by decide +kernel
theorem dX9_byteAt_12 : decode cX9_byteAt 12 = .ok (.aload_n 0, 1) := by decide +kernel
theorem dX9_byteAt_13 : decode cX9_byteAt 13 = .ok (.getfield 9, 3) := by decide +kernel
theorem dX9_byteAt_16 : decode cX9_byteAt 16 = .ok (.iload_n 1, 1) := by decide +kernel
theorem dX9_byteAt_17 : decode cX9_byteAt 17 = .ok (.baload, 1) := by decide +kernel
theorem dX9_byteAt_18 : decode cX9_byteAt 18 = .ok (.sipush 255, 3) := by decide +kernel
theorem dX9_byteAt_21 : decode cX9_byteAt 21 = .ok (.iand, 1) := by decide +kernel
theorem dX9_byteAt_22 : decode cX9_byteAt 22 = .ok (.goto 4, 3) := by decide +kernel
theorem dX9_byteAt_25 : decode cX9_byteAt 25 = .ok (.iconst (-1), 1) := by decide +kernel
theorem dX9_byteAt_26 : decode cX9_byteAt 26 = .ok (.ireturn, 1) := by decide +kernel
theorem dX9_seek_0 : decode cX9_seek 0 = .ok (.aload_n 0, 1) := by decide +kernel
theorem dX9_seek_1 : decode cX9_seek 1 = .ok (.getfield 19, 3) := by decide +kernel
theorem dX9_seek_4 : decode cX9_seek 4 = .ok (.aload_n 0, 1) := by decide +kernel
theorem dX9_seek_5 : decode cX9_seek 5 = .ok (.getfield 15, 3) := by decide +kernel
theorem dX9_seek_8 : decode cX9_seek 8 = .ok (.if_icmp .ge 30, 3) := by decide +kernel
theorem dX9_seek_11 : decode cX9_seek 11 = .ok (.aload_n 0, 1) := by decide +kernel
theorem dX9_seek_12 : decode cX9_seek 12 = .ok (.getfield 9, 3) := by decide +kernel
theorem dX9_seek_15 : decode cX9_seek 15 = .ok (.aload_n 0, 1) := by decide +kernel
theorem dX9_seek_16 : decode cX9_seek 16 = .ok (.getfield 19, 3) := by decide +kernel
theorem dX9_seek_19 : decode cX9_seek 19 = .ok (.baload, 1) := by decide +kernel
theorem dX9_seek_20 : decode cX9_seek 20 = .ok (.bipush 32, 2) := by decide +kernel
theorem dX9_seek_22 : decode cX9_seek 22 = .ok (.if_icmp .ne 16, 3) := by decide +kernel
theorem dX9_seek_25 : decode cX9_seek 25 = .ok (.aload_n 0, 1) := by decide +kernel
theorem dX9_seek_26 : decode cX9_seek 26 = .ok (.dup, 1) := by decide +kernel
theorem dX9_seek_27 : decode cX9_seek 27 = .ok (.getfield 19, 3) := by decide +kernel
theorem dX9_seek_30 : decode cX9_seek 30 = .ok (.iconst 1, 1) := by decide +kernel
theorem dX9_seek_31 : decode cX9_seek 31 = .ok (.iadd, 1) := by decide +kernel
theorem dX9_seek_32 : decode cX9_seek 32 = .ok (.putfield 19, 3) := by decide +kernel
theorem dX9_seek_35 : decode cX9_seek 35 = .ok (.goto (-35), 3) := by decide +kernel
theorem dX9_seek_38 : decode cX9_seek 38 = .ok (.aload_n 0, 1) := by decide +kernel
theorem dX9_seek_39 : decode cX9_seek 39 = .ok (.getfield 19, 3) := by decide +kernel
theorem dX9_seek_42 : decode cX9_seek 42 = .ok (.ireturn, 1) := by decide +kernel
theorem dX9_next_0 : decode cX9_next 0 = .ok (.aload_n 0, 1) := by decide +kernel
theorem dX9_next_1 : decode cX9_next 1 = .ok (.aload_n 0, 1) := by decide +kernel
theorem dX9_next_2 : decode cX9_next 2 = .ok (.invokevirtual 25, 3) := by decide +kernel
theorem dX9_next_5 : decode cX9_next 5 = .ok (.invokevirtual 29, 3) := by decide +kernel
theorem dX9_next_8 : decode cX9_next 8 = .ok (.ireturn, 1) := by decide +kernel
theorem dX9_takeSign_0 : decode cX9_takeSign 0 = .ok (.aload_n 0, 1) := by decide +kernel
theorem dX9_takeSign_1 : decode cX9_takeSign 1 = .ok (.invokevirtual 33, 3) := by decide +kernel
theorem dX9_takeSign_4 : decode cX9_takeSign 4 = .ok (.iload_n 1, 1) := by decide +kernel
theorem dX9_takeSign_5 : decode cX9_takeSign 5 = .ok (.if_icmp .eq 5, 3) := by decide +kernel
theorem dX9_takeSign_8 : decode cX9_takeSign 8 = .ok (.iconst 0, 1) := by decide +kernel
theorem dX9_takeSign_9 : decode cX9_takeSign 9 = .ok (.ireturn, 1) := by decide +kernel
theorem dX9_takeSign_10 : decode cX9_takeSign 10 = .ok (.aload_n 0, 1) := by decide +kernel
theorem dX9_takeSign_11 : decode cX9_takeSign 11 = .ok (.dup, 1) := by decide +kernel
theorem dX9_takeSign_12 : decode cX9_takeSign 12 = .ok (.getfield 19, 3) := by decide +kernel
theorem dX9_takeSign_15 : decode cX9_takeSign 15 = .ok (.iconst 1, 1) := by decide +kernel
theorem dX9_takeSign_16 : decode cX9_takeSign 16 = .ok (.iadd, 1) := by decide +kernel
theorem dX9_takeSign_17 : decode cX9_takeSign 17 = .ok (.putfield 19, 3) := by decide +kernel
theorem dX9_takeSign_20 : decode cX9_takeSign 20 = .ok (.iconst 1, 1) := by decide +kernel
theorem dX9_takeSign_21 : decode cX9_takeSign 21 = .ok (.ireturn, 1) := by decide +kernel
theorem dX9_takeSignAtOnce_0 : decode cX9_takeSignAtOnce 0 = .ok (.aload_n 0, 1) := by decide +kernel
theorem dX9_takeSignAtOnce_1 : decode cX9_takeSignAtOnce 1 = .ok (.aload_n 0, 1) := by decide +kernel
theorem dX9_takeSignAtOnce_2 : decode cX9_takeSignAtOnce 2 = .ok (.getfield 19, 3) := by decide +kernel
theorem dX9_takeSignAtOnce_5 : decode cX9_takeSignAtOnce 5 = .ok (.invokevirtual 29, 3) := by decide +kernel
theorem dX9_takeSignAtOnce_8 : decode cX9_takeSignAtOnce 8 = .ok (.iload_n 1, 1) := by decide +kernel
theorem dX9_takeSignAtOnce_9 : decode cX9_takeSignAtOnce 9 = .ok (.if_icmp .eq 5, 3) := by decide +kernel
theorem dX9_takeSignAtOnce_12 : decode cX9_takeSignAtOnce 12 = .ok (.iconst 0, 1) := by decide +kernel
theorem dX9_takeSignAtOnce_13 : decode cX9_takeSignAtOnce 13 = .ok (.ireturn, 1) := by decide +kernel
theorem dX9_takeSignAtOnce_14 : decode cX9_takeSignAtOnce 14 = .ok (.aload_n 0, 1) := by decide +kernel
theorem dX9_takeSignAtOnce_15 : decode cX9_takeSignAtOnce 15 = .ok (.dup, 1) := by decide +kernel
theorem dX9_takeSignAtOnce_16 : decode cX9_takeSignAtOnce 16 = .ok (.getfield 19, 3) := by decide +kernel
theorem dX9_takeSignAtOnce_19 : decode cX9_takeSignAtOnce 19 = .ok (.iconst 1, 1) := by decide +kernel
theorem dX9_takeSignAtOnce_20 : decode cX9_takeSignAtOnce 20 = .ok (.iadd, 1) := by decide +kernel
theorem dX9_takeSignAtOnce_21 : decode cX9_takeSignAtOnce 21 = .ok (.putfield 19, 3) := by decide +kernel
theorem dX9_takeSignAtOnce_24 : decode cX9_takeSignAtOnce 24 = .ok (.iconst 1, 1) := by decide +kernel
theorem dX9_takeSignAtOnce_25 : decode cX9_takeSignAtOnce 25 = .ok (.ireturn, 1) := by decide +kernel
theorem dX9_isDigitHere_0 : decode cX9_isDigitHere 0 = .ok (.aload_n 0, 1) := by decide +kernel
theorem dX9_isDigitHere_1 : decode cX9_isDigitHere 1 = .ok (.aload_n 0, 1) := by decide +kernel
theorem dX9_isDigitHere_2 : decode cX9_isDigitHere 2 = .ok (.aload_n 0, 1) := by decide +kernel
theorem dX9_isDigitHere_3 : decode cX9_isDigitHere 3 = .ok (.getfield 19, 3) := by decide +kernel
theorem dX9_isDigitHere_6 : decode cX9_isDigitHere 6 = .ok (.invokevirtual 29, 3) := by decide +kernel
theorem dX9_isDigitHere_9 : decode cX9_isDigitHere 9 = .ok (.invokevirtual 36, 3) := by decide +kernel
theorem dX9_isDigitHere_12 : decode cX9_isDigitHere 12 = .ok (.ireturn, 1) := by decide +kernel
theorem dX9_isDigit_0 : decode cX9_isDigit 0 = .ok (.iload_n 1, 1) := by decide +kernel
theorem dX9_isDigit_1 : decode cX9_isDigit 1 = .ok (.bipush 48, 2) := by decide +kernel
theorem dX9_isDigit_3 : decode cX9_isDigit 3 = .ok (.if_icmp .lt 13, 3) := by decide +kernel
theorem dX9_isDigit_6 : decode cX9_isDigit 6 = .ok (.iload_n 1, 1) := by decide +kernel
theorem dX9_isDigit_7 : decode cX9_isDigit 7 = .ok (.bipush 57, 2) := by decide +kernel
theorem dX9_isDigit_9 : decode cX9_isDigit 9 = .ok (.if_icmp .gt 7, 3) := by decide +kernel
theorem dX9_isDigit_12 : decode cX9_isDigit 12 = .ok (.iconst 1, 1) := by decide +kernel
theorem dX9_isDigit_13 : decode cX9_isDigit 13 = .ok (.goto 4, 3) := by decide +kernel
theorem dX9_isDigit_16 : decode cX9_isDigit 16 = .ok (.iconst 0, 1) := by decide +kernel
theorem dX9_isDigit_17 : decode cX9_isDigit 17 = .ok (.ireturn, 1) := by decide +kernel
theorem dX9_isLetter_0 : decode cX9_isLetter 0 = .ok (.iload_n 1, 1) := by decide +kernel
theorem dX9_isLetter_1 : decode cX9_isLetter 1 = .ok (.bipush 97, 2) := by decide +kernel
theorem dX9_isLetter_3 : decode cX9_isLetter 3 = .ok (.if_icmp .lt 13, 3) := by decide +kernel
theorem dX9_isLetter_6 : decode cX9_isLetter 6 = .ok (.iload_n 1, 1) := by decide +kernel
theorem dX9_isLetter_7 : decode cX9_isLetter 7 = .ok (.bipush 122, 2) := by decide +kernel
theorem dX9_isLetter_9 : decode cX9_isLetter 9 = .ok (.if_icmp .gt 7, 3) := by decide +kernel
theorem dX9_isLetter_12 : decode cX9_isLetter 12 = .ok (.iconst 1, 1) := by decide +kernel
theorem dX9_isLetter_13 : decode cX9_isLetter 13 = .ok (.goto 4, 3) := by decide +kernel
theorem dX9_isLetter_16 : decode cX9_isLetter 16 = .ok (.iconst 0, 1) := by decide +kernel
theorem dX9_isLetter_17 : decode cX9_isLetter 17 = .ok (.ireturn, 1) := by decide +kernel
theorem dX9_takeNumber_0 : decode cX9_takeNumber 0 = .ok (.aload_n 0, 1) := by decide +kernel
theorem dX9_takeNumber_1 : decode cX9_takeNumber 1 = .ok (.invokevirtual 25, 3) := by decide +kernel
theorem dX9_takeNumber_4 : decode cX9_takeNumber 4 = .ok (.istore_n 2, 1) := by decide +kernel
theorem dX9_takeNumber_5 : decode cX9_takeNumber 5 = .ok (.iconst 0, 1) := by decide +kernel
theorem dX9_takeNumber_6 : decode cX9_takeNumber 6 = .ok (.istore_n 3, 1) := by decide +kernel
theorem dX9_takeNumber_7 : decode cX9_takeNumber 7 = .ok (.aload_n 0, 1) := by decide +kernel
theorem dX9_takeNumber_8 : decode cX9_takeNumber 8 = .ok (.getfield 19, 3) := by decide +kernel
theorem dX9_takeNumber_11 : decode cX9_takeNumber 11 = .ok (.aload_n 0, 1) := by decide +kernel
theorem dX9_takeNumber_12 : decode cX9_takeNumber 12 = .ok (.getfield 15, 3) := by decide +kernel
theorem dX9_takeNumber_15 : decode cX9_takeNumber 15 = .ok (.if_icmp .ge 58, 3) := by decide +kernel
theorem dX9_takeNumber_18 : decode cX9_takeNumber 18 = .ok (.aload_n 0, 1) := by decide +kernel
theorem dX9_takeNumber_19 : decode cX9_takeNumber 19 = .ok (.aload_n 0, 1) := by decide +kernel
theorem dX9_takeNumber_20 : decode cX9_takeNumber 20 = .ok (.aload_n 0, 1) := by decide +kernel
theorem dX9_takeNumber_21 : decode cX9_takeNumber 21 = .ok (.getfield 19, 3) := by decide +kernel
theorem dX9_takeNumber_24 : decode cX9_takeNumber 24 = .ok (.invokevirtual 29, 3) := by decide +kernel
theorem dX9_takeNumber_27 : decode cX9_takeNumber 27 = .ok (.invokevirtual 36, 3) := by decide +kernel
theorem dX9_takeNumber_30 : decode cX9_takeNumber 30 = .ok (.ifCond .eq 43, 3) := by decide +kernel
theorem dX9_takeNumber_33 : decode cX9_takeNumber 33 = .ok (.aload_n 0, 1) := by decide +kernel
theorem dX9_takeNumber_34 : decode cX9_takeNumber 34 = .ok (.getfield 19, 3) := by decide +kernel
theorem dX9_takeNumber_37 : decode cX9_takeNumber 37 = .ok (.iload_n 2, 1) := by decide +kernel
theorem dX9_takeNumber_38 : decode cX9_takeNumber 38 = .ok (.isub, 1) := by decide +kernel
theorem dX9_takeNumber_39 : decode cX9_takeNumber 39 = .ok (.iconst 5, 1) := by decide +kernel
theorem dX9_takeNumber_40 : decode cX9_takeNumber 40 = .ok (.if_icmp .ge 20, 3) := by decide +kernel
theorem dX9_takeNumber_43 : decode cX9_takeNumber 43 = .ok (.iload_n 3, 1) := by decide +kernel
theorem dX9_takeNumber_44 : decode cX9_takeNumber 44 = .ok (.bipush 10, 2) := by decide +kernel
theorem dX9_takeNumber_46 : decode cX9_takeNumber 46 = .ok (.imul, 1) := by decide +kernel
theorem dX9_takeNumber_47 : decode cX9_takeNumber 47 = .ok (.aload_n 0, 1) := by decide +kernel
theorem dX9_takeNumber_48 : decode cX9_takeNumber 48 = .ok (.aload_n 0, 1) := by decide +kernel
theorem dX9_takeNumber_49 : decode cX9_takeNumber 49 = .ok (.getfield 19, 3) := by decide +kernel
theorem dX9_takeNumber_52 : decode cX9_takeNumber 52 = .ok (.invokevirtual 29, 3) := by decide +kernel
theorem dX9_takeNumber_55 : decode cX9_takeNumber 55 = .ok (.iadd, 1) := by decide +kernel
theorem dX9_takeNumber_56 : decode cX9_takeNumber 56 = .ok (.bipush 48, 2) := by decide +kernel
theorem dX9_takeNumber_58 : decode cX9_takeNumber 58 = .ok (.isub, 1) := by decide +kernel
theorem dX9_takeNumber_59 : decode cX9_takeNumber 59 = .ok (.istore_n 3, 1) := by decide +kernel
theorem dX9_takeNumber_60 : decode cX9_takeNumber 60 = .ok (.aload_n 0, 1) := by decide +kernel
theorem dX9_takeNumber_61 : decode cX9_takeNumber 61 = .ok (.dup, 1) := by decide +kernel
theorem dX9_takeNumber_62 : decode cX9_takeNumber 62 = .ok (.getfield 19, 3) := by decide +kernel
theorem dX9_takeNumber_65 : decode cX9_takeNumber 65 = .ok (.iconst 1, 1) := by decide +kernel
theorem dX9_takeNumber_66 : decode cX9_takeNumber 66 = .ok (.iadd, 1) := by decide +kernel
theorem dX9_takeNumber_67 : decode cX9_takeNumber 67 = .ok (.putfield 19, 3) := by decide +kernel
theorem dX9_takeNumber_70 : decode cX9_takeNumber 70 = .ok (.goto (-63), 3) := by decide +kernel
theorem dX9_takeNumber_73 : decode cX9_takeNumber 73 = .ok (.aload_n 0, 1) := by decide +kernel
theorem dX9_takeNumber_74 : decode cX9_takeNumber 74 = .ok (.getfield 19, 3) := by decide +kernel
theorem dX9_takeNumber_77 : decode cX9_takeNumber 77 = .ok (.iload_n 2, 1) := by decide +kernel
theorem dX9_takeNumber_78 : decode cX9_takeNumber 78 = .ok (.if_icmp .ne 12, 3) := by decide +kernel
theorem dX9_takeNumber_81 : decode cX9_takeNumber 81 = .ok (.aload_n 0, 1) := by decide +kernel
theorem dX9_takeNumber_82 : decode cX9_takeNumber 82 = .ok (.iload_n 2, 1) := by decide +kernel
theorem dX9_takeNumber_83 : decode cX9_takeNumber 83 = .ok (.iconst 0, 1) := by decide +kernel
theorem dX9_takeNumber_84 : decode cX9_takeNumber 84 = .ok (.invokevirtual 40, 3) := by decide +kernel
theorem dX9_takeNumber_87 : decode cX9_takeNumber 87 = .ok (.goto 24, 3) := by decide +kernel
theorem dX9_takeNumber_90 : decode cX9_takeNumber 90 = .ok (.aload_n 0, 1) := by decide +kernel
theorem dX9_takeNumber_91 : decode cX9_takeNumber 91 = .ok (.getfield 19, 3) := by decide +kernel
theorem dX9_takeNumber_94 : decode cX9_takeNumber 94 = .ok (.iload_n 2, 1) := by decide +kernel
theorem dX9_takeNumber_95 : decode cX9_takeNumber 95 = .ok (.isub, 1) := by decide +kernel
theorem dX9_takeNumber_96 : decode cX9_takeNumber 96 = .ok (.iconst 5, 1) := by decide +kernel
theorem dX9_takeNumber_97 : decode cX9_takeNumber 97 = .ok (.if_icmp .gt 8, 3) := by decide +kernel
theorem dX9_takeNumber_100 : decode cX9_takeNumber 100 = .ok (.iload_n 3, 1) := by decide +kernel
theorem dX9_takeNumber_101 : decode cX9_takeNumber 101 = .ok (.iload_n 1, 1) := by decide +kernel
theorem dX9_takeNumber_102 : decode cX9_takeNumber 102 = .ok (.if_icmp .le 9, 3) := by decide +kernel
theorem dX9_takeNumber_105 : decode cX9_takeNumber 105 = .ok (.aload_n 0, 1) := by decide +kernel
theorem dX9_takeNumber_106 : decode cX9_takeNumber 106 = .ok (.iload_n 2, 1) := by decide +kernel
theorem dX9_takeNumber_107 : decode cX9_takeNumber 107 = .ok (.iconst 1, 1) := by decide +kernel
theorem dX9_takeNumber_108 : decode cX9_takeNumber 108 = .ok (.invokevirtual 40, 3) := by decide +kernel
theorem dX9_takeNumber_111 : decode cX9_takeNumber 111 = .ok (.aload_n 0, 1) := by decide +kernel
theorem dX9_takeNumber_112 : decode cX9_takeNumber 112 = .ok (.getfield 22, 3) := by decide +kernel
theorem dX9_takeNumber_115 : decode cX9_takeNumber 115 = .ok (.ifCond .ne 7, 3) := by decide +kernel
theorem dX9_takeNumber_118 : decode cX9_takeNumber 118 = .ok (.iload_n 3, 1) := by decide +kernel
theorem dX9_takeNumber_119 : decode cX9_takeNumber 119 = .ok (.goto 4, 3) := by decide +kernel
theorem dX9_takeNumber_122 : decode cX9_takeNumber 122 = .ok (.iconst 0, 1) := by decide +kernel
theorem dX9_takeNumber_123 : decode cX9_takeNumber 123 = .ok (.ireturn, 1) := by decide +kernel
theorem dX9_takeWord_0 : decode cX9_takeWord 0 = .ok (.aload_n 0, 1) := by decide +kernel
theorem dX9_takeWord_1 : decode cX9_takeWord 1 = .ok (.invokevirtual 25, 3) := by decide +kernel
theorem dX9_takeWord_4 : decode cX9_takeWord 4 = .ok (.istore_n 2, 1) := by decide +kernel
theorem dX9_takeWord_5 : decode cX9_takeWord 5 = .ok (.iload_n 2, 1) := by decide +kernel
theorem dX9_takeWord_6 : decode cX9_takeWord 6 = .ok (.istore_n 3, 1) := by decide +kernel
theorem dX9_takeWord_7 : decode cX9_takeWord 7 = .ok (.iload_n 3, 1) := by decide +kernel
theorem dX9_takeWord_8 : decode cX9_takeWord 8 = .ok (.aload_n 0, 1) := by decide +kernel
theorem dX9_takeWord_9 : decode cX9_takeWord 9 = .ok (.getfield 15, 3) := by decide +kernel
theorem dX9_takeWord_12 : decode cX9_takeWord 12 = .ok (.if_icmp .ge 21, 3) := by decide +kernel
theorem dX9_takeWord_15 : decode cX9_takeWord 15 = .ok (.aload_n 0, 1) := by decide +kernel
theorem dX9_takeWord_16 : decode cX9_takeWord 16 = .ok (.aload_n 0, 1) := by decide +kernel
theorem dX9_takeWord_17 : decode cX9_takeWord 17 = .ok (.iload_n 3, 1) := by decide +kernel
theorem dX9_takeWord_18 : decode cX9_takeWord 18 = .ok (.invokevirtual 29, 3) := by decide +kernel
theorem dX9_takeWord_21 : decode cX9_takeWord 21 = .ok (.invokevirtual 44, 3) := by decide +kernel
theorem dX9_takeWord_24 : decode cX9_takeWord 24 = .ok (.ifCond .eq 9, 3) := by decide +kernel
theorem dX9_takeWord_27 : decode cX9_takeWord 27 = .ok (.iinc 3 1, 3) := by decide +kernel
theorem dX9_takeWord_30 : decode cX9_takeWord 30 = .ok (.goto (-23), 3) := by decide +kernel
theorem dX9_takeWord_33 : decode cX9_takeWord 33 = .ok (.iconst 0, 1) := by decide +kernel
theorem dX9_takeWord_34 : decode cX9_takeWord 34 = .ok (.istore 4, 2) := by decide +kernel
theorem dX9_takeWord_36 : decode cX9_takeWord 36 = .ok (.iload_n 2, 1) := by decide +kernel
theorem dX9_takeWord_37 : decode cX9_takeWord 37 = .ok (.istore 5, 2) := by decide +kernel
theorem dX9_takeWord_39 : decode cX9_takeWord 39 = .ok (.iconst 1, 1) := by decide +kernel
theorem dX9_takeWord_40 : decode cX9_takeWord 40 = .ok (.istore 6, 2) := by decide +kernel
theorem dX9_takeWord_42 : decode cX9_takeWord 42 = .ok (.iconst 0, 1) := by decide +kernel
theorem dX9_takeWord_43 : decode cX9_takeWord 43 = .ok (.istore 7, 2) := by decide +kernel
theorem dX9_takeWord_45 : decode cX9_takeWord 45 = .ok (.iload 7, 2) := by decide +kernel
theorem dX9_takeWord_47 : decode cX9_takeWord 47 = .ok (.aload_n 1, 1) := by decide +kernel
theorem dX9_takeWord_48 : decode cX9_takeWord 48 = .ok (.invokevirtual 47, 3) := by decide +kernel
theorem dX9_takeWord_51 : decode cX9_takeWord 51 = .ok (.if_icmp .gt 90, 3) := by decide +kernel
theorem dX9_takeWord_54 : decode cX9_takeWord 54 = .ok (.iload 7, 2) := by decide +kernel
theorem dX9_takeWord_56 : decode cX9_takeWord 56 = .ok (.aload_n 1, 1) := by decide +kernel
theorem dX9_takeWord_57 : decode cX9_takeWord 57 = .ok (.invokevirtual 47, 3) := by decide +kernel
theorem dX9_takeWord_60 : decode cX9_takeWord 60 = .ok (.if_icmp .ge 47, 3) := by decide +kernel
theorem dX9_takeWord_63 : decode cX9_takeWord 63 = .ok (.aload_n 1, 1) := by decide +kernel
theorem dX9_takeWord_64 : decode cX9_takeWord 64 = .ok (.iload 7, 2) := by decide +kernel
theorem dX9_takeWord_66 : decode cX9_takeWord 66 = .ok (.invokevirtual 51, 3) := by decide +kernel
theorem dX9_takeWord_69 : decode cX9_takeWord 69 = .ok (.bipush 32, 2) := by decide +kernel
theorem dX9_takeWord_71 : decode cX9_takeWord 71 = .ok (.if_icmp .eq 36, 3) := by decide +kernel
theorem dX9_takeWord_74 : decode cX9_takeWord 74 = .ok (.iload 6, 2) := by decide +kernel
theorem dX9_takeWord_76 : decode cX9_takeWord 76 = .ok (.ifCond .eq 22, 3) := by decide +kernel
theorem dX9_takeWord_79 : decode cX9_takeWord 79 = .ok (.aload_n 0, 1) := by decide +kernel
theorem dX9_takeWord_80 : decode cX9_takeWord 80 = .ok (.iload 5, 2) := by decide +kernel
theorem dX9_takeWord_82 : decode cX9_takeWord 82 = .ok (.invokevirtual 29, 3) := by decide +kernel
theorem dX9_takeWord_85 : decode cX9_takeWord 85 = .ok (.aload_n 1, 1) := by decide +kernel
theorem dX9_takeWord_86 : decode cX9_takeWord 86 = .ok (.iload 7, 2) := by decide +kernel
theorem dX9_takeWord_88 : decode cX9_takeWord 88 = .ok (.invokevirtual 51, 3) := by decide +kernel
theorem dX9_takeWord_91 : decode cX9_takeWord 91 = .ok (.if_icmp .ne 7, 3) := by decide +kernel
theorem dX9_takeWord_94 : decode cX9_takeWord 94 = .ok (.iconst 1, 1) := by decide +kernel
theorem dX9_takeWord_95 : decode cX9_takeWord 95 = .ok (.goto 4, 3) := by decide +kernel
theorem dX9_takeWord_98 : decode cX9_takeWord 98 = .ok (.iconst 0, 1) := by decide +kernel
theorem dX9_takeWord_99 : decode cX9_takeWord 99 = .ok (.istore 6, 2) := by decide +kernel
theorem dX9_takeWord_101 : decode cX9_takeWord 101 = .ok (.iinc 5 1, 3) := by decide +kernel
theorem dX9_takeWord_104 : decode cX9_takeWord 104 = .ok (.goto 31, 3) := by decide +kernel
theorem dX9_takeWord_107 : decode cX9_takeWord 107 = .ok (.iload 6, 2) := by decide +kernel
theorem dX9_takeWord_109 : decode cX9_takeWord 109 = .ok (.ifCond .eq 17, 3) := by decide +kernel
theorem dX9_takeWord_112 : decode cX9_takeWord 112 = .ok (.iload 5, 2) := by decide +kernel
theorem dX9_takeWord_114 : decode cX9_takeWord 114 = .ok (.iload_n 3, 1) := by decide +kernel
theorem dX9_takeWord_115 : decode cX9_takeWord 115 = .ok (.if_icmp .ne 11, 3) := by decide +kernel
theorem dX9_takeWord_118 : decode cX9_takeWord 118 = .ok (.aload_n 0, 1) := by decide +kernel
theorem dX9_takeWord_119 : decode cX9_takeWord 119 = .ok (.iload_n 3, 1) := by decide +kernel
theorem dX9_takeWord_120 : decode cX9_takeWord 120 = .ok (.putfield 19, 3) := by decide +kernel
theorem dX9_takeWord_123 : decode cX9_takeWord 123 = .ok (.iload 4, 2) := by decide +kernel
theorem dX9_takeWord_125 : decode cX9_takeWord 125 = .ok (.ireturn, 1) := by decide +kernel
theorem dX9_takeWord_126 : decode cX9_takeWord 126 = .ok (.iinc 4 1, 3) := by decide +kernel
theorem dX9_takeWord_129 : decode cX9_takeWord 129 = .ok (.iload_n 2, 1) := by decide +kernel
theorem dX9_takeWord_130 : decode cX9_takeWord 130 = .ok (.istore 5, 2) := by decide +kernel
theorem dX9_takeWord_132 : decode cX9_takeWord 132 = .ok (.iconst 1, 1) := by decide +kernel
theorem dX9_takeWord_133 : decode cX9_takeWord 133 = .ok (.istore 6, 2) := by decide +kernel
theorem dX9_takeWord_135 : decode cX9_takeWord 135 = .ok (.iinc 7 1, 3) := by decide +kernel
theorem dX9_takeWord_138 : decode cX9_takeWord 138 = .ok (.goto (-93), 3) := by decide +kernel
theorem dX9_takeWord_141 : decode cX9_takeWord 141 = .ok (.iconst (-1), 1) := by decide +kernel
theorem dX9_takeWord_142 : decode cX9_takeWord 142 = .ok (.ireturn, 1) := by decide +kernel
theorem dX10_init_0 : decode cX10_init 0 = .ok (.aload_n 0, 1) := by decide +kernel
theorem dX10_init_1 : decode cX10_init 1 = .ok (.invokespecial 3, 3) := by decide +kernel
theorem dX10_init_4 : decode cX10_init 4 = .ok (.aload_n 0, 1) := by decide +kernel
theorem dX10_init_5 : decode cX10_init 5 = .ok (.new 9, 3) := by decide +kernel
theorem dX10_init_8 : decode cX10_init 8 = .ok (.dup, 1) := by decide +kernel
theorem dX10_init_9 : decode cX10_init 9 = .ok (.invokespecial 11, 3) := by decide +kernel
theorem dX10_init_12 : decode cX10_init 12 = .ok (.putfield 12, 3) := by decide +kernel
theorem dX10_init_15 : decode cX10_init 15 = .ok (.aload_n 0, 1) := by decide +kernel
theorem dX10_init_16 : decode cX10_init 16 = .ok (.new 9, 3) := by decide +kernel
theorem dX10_init_19 : decode cX10_init 19 = .ok (.dup, 1) := by decide +kernel
theorem dX10_init_20 : decode cX10_init 20 = .ok (.invokespecial 11, 3) := by decide +kernel
theorem dX10_init_23 : decode cX10_init 23 = .ok (.putfield 18, 3) := by decide +kernel
theorem dX10_init_26 : decode cX10_init 26 = .ok (.aload_n 0, 1) := by decide +kernel
theorem dX10_init_27 : decode cX10_init 27 = .ok (.bipush 10, 2) := by decide +kernel
theorem dX10_init_29 : decode cX10_init 29 = .ok (.newarray .int, 2) := by decide +kernel
theorem dX10_init_31 : decode cX10_init 31 = .ok (.putfield 21, 3) := by decide +kernel
theorem dX10_init_34 : decode cX10_init 34 = .ok (.aload_n 0, 1) := by decide +kernel
theorem dX10_init_35 : decode cX10_init 35 = .ok (.bipush 10, 2) := by decide +kernel
theorem dX10_init_37 : decode cX10_init 37 = .ok (.newarray .int, 2) := by decide +kernel
theorem dX10_init_39 : decode cX10_init 39 = .ok (.putfield 25, 3) := by decide +kernel
theorem dX10_init_42 : decode cX10_init 42 = .ok (.aload_n 0, 1) := by decide +kernel
theorem dX10_init_43 : decode cX10_init 43 = .ok (.bipush 10, 2) := by decide +kernel
theorem dX10_init_45 : decode cX10_init 45 = .ok (.newarray .int, 2) := by decide +kernel
theorem dX10_init_47 : decode cX10_init 47 = .ok (.putfield 28, 3) := by decide +kernel
theorem dX10_init_50 : decode cX10_init 50 = .ok (.aload_n 0, 1) := by decide +kernel
theorem dX10_init_51 : decode cX10_init 51 = .ok (.iconst 0, 1) := by decide +kernel
theorem dX10_init_52 : decode cX10_init 52 = .ok (.putfield 31, 3) := by decide +kernel
theorem dX10_init_55 : decode cX10_init 55 = .ok (.aload_n 0, 1) := by decide +kernel
theorem dX10_init_56 : decode cX10_init 56 = .ok (.iconst (-1), 1) := by decide +kernel
theorem dX10_init_57 : decode cX10_init 57 = .ok (.putfield 35, 3) := by decide +kernel
theorem dX10_init_60 : decode cX10_init 60 = .ok (.aload_n 0, 1) := by decide +kernel
theorem dX10_init_61 : decode cX10_init 61 = .ok (.iconst 0, 1) := by decide +kernel
theorem dX10_init_62 : decode cX10_init 62 = .ok (.putfield 38, 3) := by decide +kernel
theorem dX10_init_65 : decode cX10_init 65 = .ok (.aload_n 0, 1) := by decide +kernel
theorem dX10_init_66 : decode cX10_init 66 = .ok (.iconst 0, 1) := by decide +kernel
theorem dX10_init_67 : decode cX10_init 67 = .ok (.putfield 41, 3) := by decide +kernel
theorem dX10_init_70 : decode cX10_init 70 = .ok (.return_, 1) := by decide +kernel
theorem dX10_copyFrom_0 : decode cX10_copyFrom 0 = .ok (.aload_n 0, 1) := by decide +kernel
theorem dX10_copyFrom_1 : decode cX10_copyFrom 1 = .ok (.getfield 12, 3) := by decide +kernel
theorem dX10_copyFrom_4 : decode cX10_copyFrom 4 = .ok (.aload_n 1, 1) := by decide +kernel
theorem dX10_copyFrom_5 : decode cX10_copyFrom 5 = .ok (.getfield 12, 3) := by decide +kernel
theorem dX10_copyFrom_8 : decode cX10_copyFrom 8 = .ok (.invokevirtual 45, 3) := by decide +kernel
theorem dX10_copyFrom_11 : decode cX10_copyFrom 11 = .ok (.aload_n 0, 1) := by decide +kernel
theorem dX10_copyFrom_12 : decode cX10_copyFrom 12 = .ok (.getfield 18, 3) := by decide +kernel
theorem dX10_copyFrom_15 : decode cX10_copyFrom 15 = .ok (.aload_n 1, 1) := by decide +kernel
theorem dX10_copyFrom_16 : decode cX10_copyFrom 16 = .ok (.getfield 18, 3) := by decide +kernel
theorem dX10_copyFrom_19 : decode cX10_copyFrom 19 = .ok (.invokevirtual 45, 3) := by decide +kernel
theorem dX10_copyFrom_22 : decode cX10_copyFrom 22 = .ok (.aload_n 1, 1) := by decide +kernel
theorem dX10_copyFrom_23 : decode cX10_copyFrom 23 = .ok (.getfield 21, 3) := by decide +kernel
theorem dX10_copyFrom_26 : decode cX10_copyFrom 26 = .ok (.iconst 0, 1) := by decide +kernel
theorem dX10_copyFrom_27 : decode cX10_copyFrom 27 = .ok (.aload_n 0, 1) := by decide +kernel
theorem dX10_copyFrom_28 : decode cX10_copyFrom 28 = .ok (.getfield 21, 3) := by decide +kernel
theorem dX10_copyFrom_31 : decode cX10_copyFrom 31 = .ok (.iconst 0, 1) := by decide +kernel
theorem dX10_copyFrom_32 : decode cX10_copyFrom 32 = .ok (.bipush 10, 2) := by decide +kernel
theorem dX10_copyFrom_34 : decode cX10_copyFrom 34 = .ok (.invokestatic 49, 3) := by decide +kernel
theorem dX10_copyFrom_37 : decode cX10_copyFrom 37 = .ok (.aload_n 1, 1) := by decide +kernel
theorem dX10_copyFrom_38 : decode cX10_copyFrom 38 = .ok (.getfield 25, 3) := by decide +kernel
theorem dX10_copyFrom_41 : decode cX10_copyFrom 41 = .ok (.iconst 0, 1) := by decide +kernel
theorem dX10_copyFrom_42 : decode cX10_copyFrom 42 = .ok (.aload_n 0, 1) := by decide +kernel
theorem dX10_copyFrom_43 : decode cX10_copyFrom 43 = .ok (.getfield 25, 3) := by decide +kernel
theorem dX10_copyFrom_46 : decode cX10_copyFrom 46 = .ok (.iconst 0, 1) := by decide +kernel
theorem dX10_copyFrom_47 : decode cX10_copyFrom 47 = .ok (.bipush 10, 2) := by decide +kernel
theorem dX10_copyFrom_49 : decode cX10_copyFrom 49 = .ok (.invokestatic 49, 3) := by decide +kernel
theorem dX10_copyFrom_52 : decode cX10_copyFrom 52 = .ok (.aload_n 1, 1) := by decide +kernel
theorem dX10_copyFrom_53 : decode cX10_copyFrom 53 = .ok (.getfield 28, 3) := by decide +kernel
theorem dX10_copyFrom_56 : decode cX10_copyFrom 56 = .ok (.iconst 0, 1) := by decide +kernel
theorem dX10_copyFrom_57 : decode cX10_copyFrom 57 = .ok (.aload_n 0, 1) := by decide +kernel
theorem dX10_copyFrom_58 : decode cX10_copyFrom 58 = .ok (.getfield 28, 3) := by decide +kernel
theorem dX10_copyFrom_61 : decode cX10_copyFrom 61 = .ok (.iconst 0, 1) := by decide +kernel
theorem dX10_copyFrom_62 : decode cX10_copyFrom 62 = .ok (.bipush 10, 2) := by decide +kernel
theorem dX10_copyFrom_64 : decode cX10_copyFrom 64 = .ok (.invokestatic 49, 3) := by decide +kernel
theorem dX10_copyFrom_67 : decode cX10_copyFrom 67 = .ok (.aload_n 0, 1) := by decide +kernel
theorem dX10_copyFrom_68 : decode cX10_copyFrom 68 = .ok (.aload_n 1, 1) := by decide +kernel
theorem dX10_copyFrom_69 : decode cX10_copyFrom 69 = .ok (.getfield 31, 3) := by decide +kernel
theorem dX10_copyFrom_72 : decode cX10_copyFrom 72 = .ok (.putfield 31, 3) := by decide +kernel
theorem dX10_copyFrom_75 : decode cX10_copyFrom 75 = .ok (.aload_n 0, 1) := by decide +kernel
theorem dX10_copyFrom_76 : decode cX10_copyFrom 76 = .ok (.aload_n 1, 1) := by decide +kernel
theorem dX10_copyFrom_77 : decode cX10_copyFrom 77 = .ok (.getfield 35, 3) := by decide +kernel
theorem dX10_copyFrom_80 : decode cX10_copyFrom 80 = .ok (.putfield 35, 3) := by decide +kernel
theorem dX10_copyFrom_83 : decode cX10_copyFrom 83 = .ok (.aload_n 0, 1) := by decide +kernel
theorem dX10_copyFrom_84 : decode cX10_copyFrom 84 = .ok (.aload_n 1, 1) := by decide +kernel
theorem dX10_copyFrom_85 : decode cX10_copyFrom 85 = .ok (.getfield 38, 3) := by decide +kernel
theorem dX10_copyFrom_88 : decode cX10_copyFrom 88 = .ok (.putfield 38, 3) := by decide +kernel
theorem dX10_copyFrom_91 : decode cX10_copyFrom 91 = .ok (.return_, 1) := by decide +kernel
theorem dX10_addNote_0 : decode cX10_addNote 0 = .ok (.aload_n 0, 1) := by decide +kernel
theorem dX10_addNote_1 : decode cX10_addNote 1 = .ok (.getfield 31, 3) := by decide +kernel
theorem dX10_addNote_4 : decode cX10_addNote 4 = .ok (.bipush 10, 2) := by decide +kernel
theorem dX10_addNote_6 : decode cX10_addNote 6 = .ok (.if_icmp .ge 43, 3) := by decide +kernel
theorem dX10_addNote_9 : decode cX10_addNote 9 = .ok (.aload_n 0, 1) := by decide +kernel
theorem dX10_addNote_10 : decode cX10_addNote 10 = .ok (.getfield 21, 3) := by decide +kernel
theorem dX10_addNote_13 : decode cX10_addNote 13 = .ok (.aload_n 0, 1) := by decide +kernel
theorem dX10_addNote_14 : decode cX10_addNote 14 = .ok (.getfield 31, 3) := by decide +kernel
theorem dX10_addNote_17 : decode cX10_addNote 17 = .ok (.iload_n 1, 1) := by decide +kernel
theorem dX10_addNote_18 : decode cX10_addNote 18 = .ok (.iastore, 1) := by decide +kernel
theorem dX10_addNote_19 : decode cX10_addNote 19 = .ok (.aload_n 0, 1) := by decide +kernel
theorem dX10_addNote_20 : decode cX10_addNote 20 = .ok (.getfield 25, 3) := by decide +kernel
theorem dX10_addNote_23 : decode cX10_addNote 23 = .ok (.aload_n 0, 1) := by decide +kernel
theorem dX10_addNote_24 : decode cX10_addNote 24 = .ok (.getfield 31, 3) := by decide +kernel
theorem dX10_addNote_27 : decode cX10_addNote 27 = .ok (.iload_n 2, 1) := by decide +kernel
theorem dX10_addNote_28 : decode cX10_addNote 28 = .ok (.iastore, 1) := by decide +kernel
theorem dX10_addNote_29 : decode cX10_addNote 29 = .ok (.aload_n 0, 1) := by decide +kernel
theorem dX10_addNote_30 : decode cX10_addNote 30 = .ok (.getfield 28, 3) := by decide +kernel
theorem dX10_addNote_33 : decode cX10_addNote 33 = .ok (.aload_n 0, 1) := by decide +kernel
theorem dX10_addNote_34 : decode cX10_addNote 34 = .ok (.getfield 31, 3) := by decide +kernel
theorem dX10_addNote_37 : decode cX10_addNote 37 = .ok (.iload_n 3, 1) := by decide +kernel
theorem dX10_addNote_38 : decode cX10_addNote 38 = .ok (.iastore, 1) := by decide +kernel
theorem dX10_addNote_39 : decode cX10_addNote 39 = .ok (.aload_n 0, 1) := by decide +kernel
theorem dX10_addNote_40 : decode cX10_addNote 40 = .ok (.dup, 1) := by decide +kernel
theorem dX10_addNote_41 : decode cX10_addNote 41 = .ok (.getfield 31, 3) := by decide +kernel
theorem dX10_addNote_44 : decode cX10_addNote 44 = .ok (.iconst 1, 1) := by decide +kernel
theorem dX10_addNote_45 : decode cX10_addNote 45 = .ok (.iadd, 1) := by decide +kernel
theorem dX10_addNote_46 : decode cX10_addNote 46 = .ok (.putfield 31, 3) := by decide +kernel
theorem dX10_addNote_49 : decode cX10_addNote 49 = .ok (.return_, 1) := by decide +kernel
theorem dX10_fairsToNotes_0 : decode cX10_fairsToNotes 0 = .ok (.iconst 0, 1) := by decide +kernel
theorem dX10_fairsToNotes_1 : decode cX10_fairsToNotes 1 = .ok (.istore_n 1, 1) := by decide +kernel
theorem dX10_fairsToNotes_2 : decode cX10_fairsToNotes 2 = .ok (.iconst 0, 1) := by decide +kernel
theorem dX10_fairsToNotes_3 : decode cX10_fairsToNotes 3 = .ok (.istore_n 2, 1) := by decide +kernel
theorem dX10_fairsToNotes_4 : decode cX10_fairsToNotes 4 = .ok (.iload_n 2, 1) := by decide +kernel
theorem dX10_fairsToNotes_5 : decode cX10_fairsToNotes 5 = .ok (.aload_n 0, 1) := by decide +kernel
theorem dX10_fairsToNotes_6 : decode cX10_fairsToNotes 6 = .ok (.getfield 31, 3) := by decide +kernel
theorem dX10_fairsToNotes_9 : decode cX10_fairsToNotes 9 = .ok (.if_icmp .ge 22, 3) := by decide +kernel
theorem dX10_fairsToNotes_12 : decode cX10_fairsToNotes 12 = .ok (.iload_n 1, 1) := by decide +kernel
theorem dX10_fairsToNotes_13 : decode cX10_fairsToNotes 13 = .ok (.aload_n 0, 1) := by decide +kernel
theorem dX10_fairsToNotes_14 : decode cX10_fairsToNotes 14 = .ok (.getfield 21, 3) := by decide +kernel
theorem dX10_fairsToNotes_17 : decode cX10_fairsToNotes 17 = .ok (.iload_n 2, 1) := by decide +kernel
theorem dX10_fairsToNotes_18 : decode cX10_fairsToNotes 18 = .ok (.iaload, 1) := by decide +kernel
theorem dX10_fairsToNotes_19 : decode cX10_fairsToNotes 19 = .ok (.iconst 1, 1) := by decide +kernel
theorem dX10_fairsToNotes_20 : decode cX10_fairsToNotes 20 = .ok (.iadd, 1) := by decide +kernel
theorem dX10_fairsToNotes_21 : decode cX10_fairsToNotes 21 = .ok (.invokestatic 55, 3) := by decide +kernel
theorem dX10_fairsToNotes_24 : decode cX10_fairsToNotes 24 = .ok (.istore_n 1, 1) := by decide +kernel
theorem dX10_fairsToNotes_25 : decode cX10_fairsToNotes 25 = .ok (.iinc 2 1, 3) := by decide +kernel
theorem dX10_fairsToNotes_28 : decode cX10_fairsToNotes 28 = .ok (.goto (-24), 3) := by decide +kernel
theorem dX10_fairsToNotes_31 : decode cX10_fairsToNotes 31 = .ok (.iload_n 1, 1) := by decide +kernel
theorem dX10_fairsToNotes_32 : decode cX10_fairsToNotes 32 = .ok (.ireturn, 1) := by decide +kernel
theorem dX10_notesAreSo_0 : decode cX10_notesAreSo 0 = .ok (.iconst 0, 1) := by decide +kernel
theorem dX10_notesAreSo_1 : decode cX10_notesAreSo 1 = .ok (.istore_n 3, 1) := by decide +kernel
theorem dX10_notesAreSo_2 : decode cX10_notesAreSo 2 = .ok (.iload_n 3, 1) := by decide +kernel
theorem dX10_notesAreSo_3 : decode cX10_notesAreSo 3 = .ok (.aload_n 0, 1) := by decide +kernel
theorem dX10_notesAreSo_4 : decode cX10_notesAreSo 4 = .ok (.getfield 31, 3) := by decide +kernel
theorem dX10_notesAreSo_7 : decode cX10_notesAreSo 7 = .ok (.if_icmp .ge 41, 3) := by decide +kernel
theorem dX10_notesAreSo_10 : decode cX10_notesAreSo 10 = .ok (.aload_n 0, 1) := by decide +kernel
theorem dX10_notesAreSo_11 : decode cX10_notesAreSo 11 = .ok (.getfield 21, 3) := by decide +kernel
theorem dX10_notesAreSo_14 : decode cX10_notesAreSo 14 = .ok (.iload_n 3, 1) := by decide +kernel
theorem dX10_notesAreSo_15 : decode cX10_notesAreSo 15 = .ok (.iaload, 1) := by decide +kernel
theorem dX10_notesAreSo_16 : decode cX10_notesAreSo 16 = .ok (.iload_n 2, 1) := by decide +kernel
theorem dX10_notesAreSo_17 : decode cX10_notesAreSo 17 = .ok (.if_icmp .ne 25, 3) := by decide +kernel
theorem dX10_notesAreSo_20 : decode cX10_notesAreSo 20 = .ok (.aload_n 1, 1) := by decide +kernel
theorem dX10_notesAreSo_21 : decode cX10_notesAreSo 21 = .ok (.iconst 0, 1) := by decide +kernel
theorem dX10_notesAreSo_22 : decode cX10_notesAreSo 22 = .ok (.aload_n 0, 1) := by decide +kernel
theorem dX10_notesAreSo_23 : decode cX10_notesAreSo 23 = .ok (.getfield 25, 3) := by decide +kernel
theorem dX10_notesAreSo_26 : decode cX10_notesAreSo 26 = .ok (.iload_n 3, 1) := by decide +kernel
theorem dX10_notesAreSo_27 : decode cX10_notesAreSo 27 = .ok (.iaload, 1) := by decide +kernel
theorem dX10_notesAreSo_28 : decode cX10_notesAreSo 28 = .ok (.invokevirtual 61, 3) := by decide +kernel
theorem dX10_notesAreSo_31 : decode cX10_notesAreSo 31 = .ok (.aload_n 0, 1) := by decide +kernel
theorem dX10_notesAreSo_32 : decode cX10_notesAreSo 32 = .ok (.getfield 28, 3) := by decide +kernel
theorem dX10_notesAreSo_35 : decode cX10_notesAreSo 35 = .ok (.iload_n 3, 1) := by decide +kernel
theorem dX10_notesAreSo_36 : decode cX10_notesAreSo 36 = .ok (.iaload, 1) := by decide +kernel
theorem dX10_notesAreSo_37 : decode cX10_notesAreSo 37 = .ok (.if_icmp .eq 5, 3) := by decide +kernel
theorem dX10_notesAreSo_40 : decode cX10_notesAreSo 40 = .ok (.iconst 0, 1) := by decide +kernel
theorem dX10_notesAreSo_41 : decode cX10_notesAreSo 41 = .ok (.ireturn, 1) := by decide +kernel
theorem dX10_notesAreSo_42 : decode cX10_notesAreSo 42 = .ok (.iinc 3 1, 3) := by decide +kernel
theorem dX10_notesAreSo_45 : decode cX10_notesAreSo 45 = .ok (.goto (-43), 3) := by decide +kernel
theorem dX10_notesAreSo_48 : decode cX10_notesAreSo 48 = .ok (.iconst 1, 1) := by decide +kernel
theorem dX10_notesAreSo_49 : decode cX10_notesAreSo 49 = .ok (.ireturn, 1) := by decide +kernel
theorem dX11_init_0 : decode cX11_init 0 = .ok (.aload_n 0, 1) := by decide +kernel
theorem dX11_init_1 : decode cX11_init 1 = .ok (.invokespecial 3, 3) := by decide +kernel
theorem dX11_init_4 : decode cX11_init 4 = .ok (.aload_n 0, 1) := by decide +kernel
theorem dX11_init_5 : decode cX11_init 5 = .ok (.new 9, 3) := by decide +kernel
theorem dX11_init_8 : decode cX11_init 8 = .ok (.dup, 1) := by decide +kernel
theorem dX11_init_9 : decode cX11_init 9 = .ok (.invokespecial 11, 3) := by decide +kernel
theorem dX11_init_12 : decode cX11_init 12 = .ok (.putfield 12, 3) := by decide +kernel
theorem dX11_init_15 : decode cX11_init 15 = .ok (.aload_n 0, 1) := by decide +kernel
theorem dX11_init_16 : decode cX11_init 16 = .ok (.new 16, 3) := by decide +kernel
theorem dX11_init_19 : decode cX11_init 19 = .ok (.dup, 1) := by decide +kernel
theorem dX11_init_20 : decode cX11_init 20 = .ok (.aload_n 0, 1) := by decide +kernel
theorem dX11_init_21 : decode cX11_init 21 = .ok (.getfield 12, 3) := by decide +kernel
theorem dX11_init_24 : decode cX11_init 24 = .ok (.invokespecial 18, 3) := by decide +kernel
theorem dX11_init_27 : decode cX11_init 27 = .ok (.putfield 21, 3) := by decide +kernel
theorem dX11_init_30 : decode cX11_init 30 = .ok (.aload_n 0, 1) := by decide +kernel
theorem dX11_init_31 : decode cX11_init 31 = .ok (.new 25, 3) := by decide +kernel
theorem dX11_init_34 : decode cX11_init 34 = .ok (.dup, 1) := by decide +kernel
theorem dX11_init_35 : decode cX11_init 35 = .ok (.aload_n 0, 1) := by decide +kernel
theorem dX11_init_36 : decode cX11_init 36 = .ok (.getfield 12, 3) := by decide +kernel
theorem dX11_init_39 : decode cX11_init 39 = .ok (.invokespecial 27, 3) := by decide +kernel
theorem dX11_init_42 : decode cX11_init 42 = .ok (.putfield 28, 3) := by decide +kernel
theorem dX11_init_45 : decode cX11_init 45 = .ok (.aload_n 0, 1) := by decide +kernel
theorem dX11_init_46 : decode cX11_init 46 = .ok (.bipush 6, 2) := by decide +kernel
theorem dX11_init_48 : decode cX11_init 48 = .ok (.anewarray 32, 3) := by decide +kernel
theorem dX11_init_51 : decode cX11_init 51 = .ok (.putfield 34, 3) := by decide +kernel
theorem dX11_init_54 : decode cX11_init 54 = .ok (.aload_n 0, 1) := by decide +kernel
theorem dX11_init_55 : decode cX11_init 55 = .ok (.iconst 0, 1) := by decide +kernel
theorem dX11_init_56 : decode cX11_init 56 = .ok (.putfield 38, 3) := by decide +kernel
theorem dX11_init_59 : decode cX11_init 59 = .ok (.aload_n 0, 1) := by decide +kernel
theorem dX11_init_60 : decode cX11_init 60 = .ok (.new 42, 3) := by decide +kernel
theorem dX11_init_63 : decode cX11_init 63 = .ok (.dup, 1) := by decide +kernel
theorem dX11_init_64 : decode cX11_init 64 = .ok (.invokespecial 44, 3) := by decide +kernel
theorem dX11_init_67 : decode cX11_init 67 = .ok (.putfield 45, 3) := by decide +kernel
theorem dX11_init_70 : decode cX11_init 70 = .ok (.aload_n 0, 1) := by decide +kernel
theorem dX11_init_71 : decode cX11_init 71 = .ok (.iconst 4, 1) := by decide +kernel
theorem dX11_init_72 : decode cX11_init 72 = .ok (.anewarray 42, 3) := by decide +kernel
theorem dX11_init_75 : decode cX11_init 75 = .ok (.putfield 49, 3) := by decide +kernel
theorem dX11_init_78 : decode cX11_init 78 = .ok (.aload_n 0, 1) := by decide +kernel
theorem dX11_init_79 : decode cX11_init 79 = .ok (.bipush 20, 2) := by decide +kernel
theorem dX11_init_81 : decode cX11_init 81 = .ok (.anewarray 53, 3) := by decide +kernel
theorem dX11_init_84 : decode cX11_init 84 = .ok (.putfield 55, 3) := by decide +kernel
theorem dX11_init_87 : decode cX11_init 87 = .ok (.aload_n 0, 1) := by decide +kernel
theorem dX11_init_88 : decode cX11_init 88 = .ok (.iconst 0, 1) := by decide +kernel
theorem dX11_init_89 : decode cX11_init 89 = .ok (.putfield 59, 3) := by decide +kernel
theorem dX11_init_92 : decode cX11_init 92 = .ok (.aload_n 0, 1) := by decide +kernel
theorem dX11_init_93 : decode cX11_init 93 = .ok (.iconst 0, 1) := by decide +kernel
theorem dX11_init_94 : decode cX11_init 94 = .ok (.putfield 62, 3) := by decide +kernel
theorem dX11_init_97 : decode cX11_init 97 = .ok (.aload_n 0, 1) := by decide +kernel
theorem dX11_init_98 : decode cX11_init 98 = .ok (.new 53, 3) := by decide +kernel
theorem dX11_init_101 : decode cX11_init 101 = .ok (.dup, 1) := by decide +kernel
theorem dX11_init_102 : decode cX11_init 102 = .ok (.invokespecial 65, 3) := by decide +kernel
theorem dX11_init_105 : decode cX11_init 105 = .ok (.putfield 66, 3) := by decide +kernel
theorem dX11_init_108 : decode cX11_init 108 = .ok (.aload_n 0, 1) := by decide +kernel
theorem dX11_init_109 : decode cX11_init 109 = .ok (.new 70, 3) := by decide +kernel
theorem dX11_init_112 : decode cX11_init 112 = .ok (.dup, 1) := by decide +kernel
theorem dX11_init_113 : decode cX11_init 113 = .ok (.invokespecial 72, 3) := by decide +kernel
theorem dX11_init_116 : decode cX11_init 116 = .ok (.putfield 73, 3) := by decide +kernel
theorem dX11_init_119 : decode cX11_init 119 = .ok (.aload_n 0, 1) := by decide +kernel
theorem dX11_init_120 : decode cX11_init 120 = .ok (.new 77, 3) := by decide +kernel
theorem dX11_init_123 : decode cX11_init 123 = .ok (.dup, 1) := by decide +kernel
theorem dX11_init_124 : decode cX11_init 124 = .ok (.aload_n 0, 1) := by decide +kernel
theorem dX11_init_125 : decode cX11_init 125 = .ok (.getfield 73, 3) := by decide +kernel
theorem dX11_init_128 : decode cX11_init 128 = .ok (.invokespecial 79, 3) := by decide +kernel
theorem dX11_init_131 : decode cX11_init 131 = .ok (.putfield 82, 3) := by decide +kernel
theorem dX11_init_134 : decode cX11_init 134 = .ok (.aload_n 0, 1) := by decide +kernel
theorem dX11_init_135 : decode cX11_init 135 = .ok (.new 86, 3) := by decide +kernel
theorem dX11_init_138 : decode cX11_init 138 = .ok (.dup, 1) := by decide +kernel
theorem dX11_init_139 : decode cX11_init 139 = .ok (.invokespecial 88, 3) := by decide +kernel
theorem dX11_init_142 : decode cX11_init 142 = .ok (.putfield 89, 3) := by decide +kernel
theorem dX11_init_145 : decode cX11_init 145 = .ok (.aload_n 0, 1) := by decide +kernel
theorem dX11_init_146 : decode cX11_init 146 = .ok (.new 93, 3) := by decide +kernel
theorem dX11_init_149 : decode cX11_init 149 = .ok (.dup, 1) := by decide +kernel
theorem dX11_init_150 : decode cX11_init 150 = .ok (.aload_n 0, 1) := by decide +kernel
theorem dX11_init_151 : decode cX11_init 151 = .ok (.getfield 73, 3) := by decide +kernel
theorem dX11_init_154 : decode cX11_init 154 = .ok (.invokespecial 95, 3) := by decide +kernel
theorem dX11_init_157 : decode cX11_init 157 = .ok (.putfield 96, 3) := by decide +kernel
theorem dX11_init_160 : decode cX11_init 160 = .ok (.iconst 0, 1) := by decide +kernel
theorem dX11_init_161 : decode cX11_init 161 = .ok (.istore_n 1, 1) := by decide +kernel
theorem dX11_init_162 : decode cX11_init 162 = .ok (.iload_n 1, 1) := by decide +kernel
theorem dX11_init_163 : decode cX11_init 163 = .ok (.bipush 6, 2) := by decide +kernel
theorem dX11_init_165 : decode cX11_init 165 = .ok (.if_icmp .ge 22, 3) := by decide +kernel
theorem dX11_init_168 : decode cX11_init 168 = .ok (.aload_n 0, 1) := by decide +kernel
theorem dX11_init_169 : decode cX11_init 169 = .ok (.getfield 34, 3) := by decide +kernel
theorem dX11_init_172 : decode cX11_init 172 = .ok (.iload_n 1, 1) := by decide +kernel
theorem dX11_init_173 : decode cX11_init 173 = .ok (.new 32, 3) := by decide +kernel
theorem dX11_init_176 : decode cX11_init 176 = .ok (.dup, 1) := by decide +kernel
theorem dX11_init_177 : decode cX11_init 177 = .ok (.invokespecial 100, 3) := by decide +kernel
theorem dX11_init_180 : decode cX11_init 180 = .ok (.aastore, 1) := by decide +kernel
theorem dX11_init_181 : decode cX11_init 181 = .ok (.iinc 1 1, 3) := by decide +kernel
theorem dX11_init_184 : decode cX11_init 184 = .ok (.goto (-22), 3) := by decide +kernel
theorem dX11_init_187 : decode cX11_init 187 = .ok (.iconst 0, 1) := by decide +kernel
theorem dX11_init_188 : decode cX11_init 188 = .ok (.istore_n 1, 1) := by decide +kernel
theorem dX11_init_189 : decode cX11_init 189 = .ok (.iload_n 1, 1) := by decide +kernel
theorem dX11_init_190 : decode cX11_init 190 = .ok (.iconst 4, 1) := by decide +kernel
theorem dX11_init_191 : decode cX11_init 191 = .ok (.if_icmp .ge 22, 3) := by decide +kernel
theorem dX11_init_194 : decode cX11_init 194 = .ok (.aload_n 0, 1) := by decide +kernel
theorem dX11_init_195 : decode cX11_init 195 = .ok (.getfield 49, 3) := by decide +kernel
theorem dX11_init_198 : decode cX11_init 198 = .ok (.iload_n 1, 1) := by decide +kernel
theorem dX11_init_199 : decode cX11_init 199 = .ok (.new 42, 3) := by decide +kernel
theorem dX11_init_202 : decode cX11_init 202 = .ok (.dup, 1) := by decide +kernel
theorem dX11_init_203 : decode cX11_init 203 = .ok (.invokespecial 44, 3) := by decide +kernel
theorem dX11_init_206 : decode cX11_init 206 = .ok (.aastore, 1) := by decide +kernel
theorem dX11_init_207 : decode cX11_init 207 = .ok (.iinc 1 1, 3) := by decide +kernel
theorem dX11_init_210 : decode cX11_init 210 = .ok (.goto (-21), 3) := by decide +kernel
theorem dX11_init_213 : decode cX11_init 213 = .ok (.iconst 0, 1) := by decide +kernel
theorem dX11_init_214 : decode cX11_init 214 = .ok (.istore_n 1, 1) := by decide +kernel
theorem dX11_init_215 : decode cX11_init 215 = .ok (.iload_n 1, 1) := by decide +kernel
theorem dX11_init_216 : decode cX11_init 216 = .ok (.bipush 20, 2) := by decide +kernel
theorem dX11_init_218 : decode cX11_init 218 = .ok (.if_icmp .ge 22, 3) := by decide +kernel
theorem dX11_init_221 : decode cX11_init 221 = .ok (.aload_n 0, 1) := by decide +kernel
theorem dX11_init_222 : decode cX11_init 222 = .ok (.getfield 55, 3) := by decide +kernel
theorem dX11_init_225 : decode cX11_init 225 = .ok (.iload_n 1, 1) := by decide +kernel
theorem dX11_init_226 : decode cX11_init 226 = .ok (.new 53, 3) := by decide +kernel
theorem dX11_init_229 : decode cX11_init 229 = .ok (.dup, 1) := by decide +kernel
theorem dX11_init_230 : decode cX11_init 230 = .ok (.invokespecial 65, 3) := by decide +kernel
theorem dX11_init_233 : decode cX11_init 233 = .ok (.aastore, 1) := by decide +kernel
theorem dX11_init_234 : decode cX11_init 234 = .ok (.iinc 1 1, 3) := by decide +kernel
theorem dX11_init_237 : decode cX11_init 237 = .ok (.goto (-22), 3) := by decide +kernel
theorem dX11_init_240 : decode cX11_init 240 = .ok (.return_, 1) := by decide +kernel
theorem dX11_feed_0 : decode cX11_feed 0 = .ok (.aload_n 0, 1) := by decide +kernel
theorem dX11_feed_1 : decode cX11_feed 1 = .ok (.getfield 12, 3) := by decide +kernel
theorem dX11_feed_4 : decode cX11_feed 4 = .ok (.getfield 101, 3) := by decide +kernel
theorem dX11_feed_7 : decode cX11_feed 7 = .ok (.bipush 20, 2) := by decide +kernel
theorem dX11_feed_9 : decode cX11_feed 9 = .ok (.iadd, 1) := by decide +kernel
theorem dX11_feed_10 : decode cX11_feed 10 = .ok (.sipush 400, 3) := by decide +kernel
theorem dX11_feed_13 : decode cX11_feed 13 = .ok (.if_icmp .le 5, 3) := by decide +kernel
theorem dX11_feed_16 : decode cX11_feed 16 = .ok (.iconst (-1), 1) := by decide +kernel
theorem dX11_feed_17 : decode cX11_feed 17 = .ok (.ireturn, 1) := by decide +kernel
theorem dX11_feed_18 : decode cX11_feed 18 = .ok (.aload_n 0, 1) := by decide +kernel
theorem dX11_feed_19 : decode cX11_feed 19 = .ok (.getfield 12, 3) := by decide +kernel
theorem dX11_feed_22 : decode cX11_feed 22 = .ok (.iload_n 1, 1) := by decide +kernel
theorem dX11_feed_23 : decode cX11_feed 23 = .ok (.invokevirtual 104, 3) := by decide +kernel
theorem dX11_feed_26 : decode cX11_feed 26 = .ok (.aload_n 0, 1) := by decide +kernel
theorem dX11_feed_27 : decode cX11_feed 27 = .ok (.getfield 12, 3) := by decide +kernel
theorem dX11_feed_30 : decode cX11_feed 30 = .ok (.iload_n 2, 1) := by decide +kernel
theorem dX11_feed_31 : decode cX11_feed 31 = .ok (.invokevirtual 104, 3) := by decide +kernel
theorem dX11_feed_34 : decode cX11_feed 34 = .ok (.aload_n 0, 1) := by decide +kernel
theorem dX11_feed_35 : decode cX11_feed 35 = .ok (.getfield 12, 3) := by decide +kernel
theorem dX11_feed_38 : decode cX11_feed 38 = .ok (.iload_n 3, 1) := by decide +kernel
theorem dX11_feed_39 : decode cX11_feed 39 = .ok (.invokevirtual 104, 3) := by decide +kernel
theorem dX11_feed_42 : decode cX11_feed 42 = .ok (.aload_n 0, 1) := by decide +kernel
theorem dX11_feed_43 : decode cX11_feed 43 = .ok (.getfield 12, 3) := by decide +kernel
theorem dX11_feed_46 : decode cX11_feed 46 = .ok (.iload 4, 2) := by decide +kernel
theorem dX11_feed_48 : decode cX11_feed 48 = .ok (.invokevirtual 104, 3) := by decide +kernel
theorem dX11_feed_51 : decode cX11_feed 51 = .ok (.aload_n 0, 1) := by decide +kernel
theorem dX11_feed_52 : decode cX11_feed 52 = .ok (.getfield 12, 3) := by decide +kernel
theorem dX11_feed_55 : decode cX11_feed 55 = .ok (.iload 5, 2) := by decide +kernel
theorem dX11_feed_57 : decode cX11_feed 57 = .ok (.invokevirtual 104, 3) := by decide +kernel
theorem dX11_feed_60 : decode cX11_feed 60 = .ok (.aload_n 0, 1) := by decide +kernel
theorem dX11_feed_61 : decode cX11_feed 61 = .ok (.getfield 12, 3) := by decide +kernel
theorem dX11_feed_64 : decode cX11_feed 64 = .ok (.getfield 101, 3) := by decide +kernel
theorem dX11_feed_67 : decode cX11_feed 67 = .ok (.ireturn, 1) := by decide +kernel
theorem dX11_end_0 : decode cX11_end 0 = .ok (.iload_n 1, 1) := by decide +kernel
theorem dX11_end_1 : decode cX11_end 1 = .ok (.ifCond .lt 14, 3) := by decide +kernel
theorem dX11_end_4 : decode cX11_end 4 = .ok (.iload_n 1, 1) := by decide +kernel
theorem dX11_end_5 : decode cX11_end 5 = .ok (.aload_n 0, 1) := by decide +kernel
theorem dX11_end_6 : decode cX11_end 6 = .ok (.getfield 12, 3) := by decide +kernel
theorem dX11_end_9 : decode cX11_end 9 = .ok (.getfield 101, 3) := by decide +kernel
theorem dX11_end_12 : decode cX11_end 12 = .ok (.if_icmp .le 5, 3) := by decide +kernel
theorem dX11_end_15 : decode cX11_end 15 = .ok (.iconst (-1), 1) := by decide +kernel
theorem dX11_end_16 : decode cX11_end 16 = .ok (.ireturn, 1) := by decide +kernel
theorem dX11_end_17 : decode cX11_end 17 = .ok (.aload_n 0, 1) := by decide +kernel
theorem dX11_end_18 : decode cX11_end 18 = .ok (.getfield 12, 3) := by decide +kernel
theorem dX11_end_21 : decode cX11_end 21 = .ok (.iload_n 1, 1) := by decide +kernel
theorem dX11_end_22 : decode cX11_end 22 = .ok (.putfield 101, 3) := by decide +kernel
theorem dX11_end_25 : decode cX11_end 25 = .ok (.iload_n 1, 1) := by decide +kernel
theorem dX11_end_26 : decode cX11_end 26 = .ok (.ireturn, 1) := by decide +kernel
theorem dX11_isle_0 : decode cX11_isle 0 = .ok (.aload_n 0, 1) := by decide +kernel
theorem dX11_isle_1 : decode cX11_isle 1 = .ok (.getfield 21, 3) := by decide +kernel
theorem dX11_isle_4 : decode cX11_isle 4 = .ok (.aload_n 0, 1) := by decide +kernel
theorem dX11_isle_5 : decode cX11_isle 5 = .ok (.getfield 66, 3) := by decide +kernel
theorem dX11_isle_8 : decode cX11_isle 8 = .ok (.invokevirtual 108, 3) := by decide +kernel
theorem dX11_isle_11 : decode cX11_isle 11 = .ok (.istore_n 1, 1) := by decide +kernel
theorem dX11_isle_12 : decode cX11_isle 12 = .ok (.aload_n 0, 1) := by decide +kernel
theorem dX11_isle_13 : decode cX11_isle 13 = .ok (.getfield 12, 3) := by decide +kernel
theorem dX11_isle_16 : decode cX11_isle 16 = .ok (.iconst 0, 1) := by decide +kernel
theorem dX11_isle_17 : decode cX11_isle 17 = .ok (.putfield 101, 3) := by decide +kernel
theorem dX11_isle_20 : decode cX11_isle 20 = .ok (.iload_n 1, 1) := by decide +kernel
theorem dX11_isle_21 : decode cX11_isle 21 = .ok (.ifCond .eq 8, 3) := by decide +kernel
theorem dX11_isle_24 : decode cX11_isle 24 = .ok (.bipush (-2), 2) := by decide +kernel
theorem dX11_isle_26 : decode cX11_isle 26 = .ok (.iload_n 1, 1) := by decide +kernel
theorem dX11_isle_27 : decode cX11_isle 27 = .ok (.isub, 1) := by decide +kernel
theorem dX11_isle_28 : decode cX11_isle 28 = .ok (.ireturn, 1) := by decide +kernel
theorem dX11_isle_29 : decode cX11_isle 29 = .ok (.aload_n 0, 1) := by decide +kernel
theorem dX11_isle_30 : decode cX11_isle 30 = .ok (.getfield 45, 3) := by decide +kernel
theorem dX11_isle_33 : decode cX11_isle 33 = .ok (.getfield 112, 3) := by decide +kernel
theorem dX11_isle_36 : decode cX11_isle 36 = .ok (.aload_n 0, 1) := by decide +kernel
theorem dX11_isle_37 : decode cX11_isle 37 = .ok (.getfield 66, 3) := by decide +kernel
theorem dX11_isle_40 : decode cX11_isle 40 = .ok (.invokevirtual 115, 3) := by decide +kernel
theorem dX11_isle_43 : decode cX11_isle 43 = .ok (.aload_n 0, 1) := by decide +kernel
theorem dX11_isle_44 : decode cX11_isle 44 = .ok (.getfield 45, 3) := by decide +kernel
theorem dX11_isle_47 : decode cX11_isle 47 = .ok (.getfield 119, 3) := by decide +kernel
theorem dX11_isle_50 : decode cX11_isle 50 = .ok (.aload_n 0, 1) := by decide +kernel
theorem dX11_isle_51 : decode cX11_isle 51 = .ok (.getfield 66, 3) := by decide +kernel
theorem dX11_isle_54 : decode cX11_isle 54 = .ok (.invokevirtual 115, 3) := by decide +kernel
theorem dX11_isle_57 : decode cX11_isle 57 = .ok (.aload_n 0, 1) := by decide +kernel
theorem dX11_isle_58 : decode cX11_isle 58 = .ok (.getfield 45, 3) := by decide +kernel
theorem dX11_isle_61 : decode cX11_isle 61 = .ok (.iconst 0, 1) := by decide +kernel
theorem dX11_isle_62 : decode cX11_isle 62 = .ok (.putfield 122, 3) := by decide +kernel
theorem dX11_isle_65 : decode cX11_isle 65 = .ok (.aload_n 0, 1) := by decide +kernel
theorem dX11_isle_66 : decode cX11_isle 66 = .ok (.iconst 0, 1) := by decide +kernel
theorem dX11_isle_67 : decode cX11_isle 67 = .ok (.putfield 62, 3) := by decide +kernel
theorem dX11_isle_70 : decode cX11_isle 70 = .ok (.aload_n 0, 1) := by decide +kernel
theorem dX11_isle_71 : decode cX11_isle 71 = .ok (.getfield 66, 3) := by decide +kernel
theorem dX11_isle_74 : decode cX11_isle 74 = .ok (.getfield 125, 3) := by decide +kernel
theorem dX11_isle_77 : decode cX11_isle 77 = .ok (.ireturn, 1) := by decide +kernel
theorem dX11_rule_0 : decode cX11_rule 0 = .ok (.aload_n 0, 1) := by decide +kernel
theorem dX11_rule_1 : decode cX11_rule 1 = .ok (.getfield 38, 3) := by decide +kernel
theorem dX11_rule_4 : decode cX11_rule 4 = .ok (.bipush 6, 2) := by decide +kernel
theorem dX11_rule_6 : decode cX11_rule 6 = .ok (.if_icmp .lt 5, 3) := by decide +kernel
theorem dX11_rule_9 : decode cX11_rule 9 = .ok (.iconst (-1), 1) := by decide +kernel
theorem dX11_rule_10 : decode cX11_rule 10 = .ok (.ireturn, 1) := by decide +kernel
theorem dX11_rule_11 : decode cX11_rule 11 = .ok (.aload_n 0, 1) := by decide +kernel
theorem dX11_rule_12 : decode cX11_rule 12 = .ok (.getfield 28, 3) := by decide +kernel
theorem dX11_rule_15 : decode cX11_rule 15 = .ok (.aload_n 0, 1) := by decide +kernel
theorem dX11_rule_16 : decode cX11_rule 16 = .ok (.getfield 34, 3) := by decide +kernel
theorem dX11_rule_19 : decode cX11_rule 19 = .ok (.aload_n 0, 1) := by decide +kernel
theorem dX11_rule_20 : decode cX11_rule 20 = .ok (.getfield 38, 3) := by decide +kernel
theorem dX11_rule_23 : decode cX11_rule 23 = .ok (.aaload, 1) := by decide +kernel
theorem dX11_rule_24 : decode cX11_rule 24 = .ok (.invokevirtual 128, 3) := by decide +kernel
theorem dX11_rule_27 : decode cX11_rule 27 = .ok (.istore_n 1, 1) := by decide +kernel
theorem dX11_rule_28 : decode cX11_rule 28 = .ok (.aload_n 0, 1) := by decide +kernel
theorem dX11_rule_29 : decode cX11_rule 29 = .ok (.getfield 12, 3) := by decide +kernel
theorem dX11_rule_32 : decode cX11_rule 32 = .ok (.iconst 0, 1) := by decide +kernel
theorem dX11_rule_33 : decode cX11_rule 33 = .ok (.putfield 101, 3) := by decide +kernel
theorem dX11_rule_36 : decode cX11_rule 36 = .ok (.iload_n 1, 1) := by decide +kernel
theorem dX11_rule_37 : decode cX11_rule 37 = .ok (.ifCond .eq 8, 3) := by decide +kernel
theorem dX11_rule_40 : decode cX11_rule 40 = .ok (.bipush (-2), 2) := by decide +kernel
theorem dX11_rule_42 : decode cX11_rule 42 = .ok (.iload_n 1, 1) := by decide +kernel
theorem dX11_rule_43 : decode cX11_rule 43 = .ok (.isub, 1) := by decide +kernel
theorem dX11_rule_44 : decode cX11_rule 44 = .ok (.ireturn, 1) := by decide +kernel
theorem dX11_rule_45 : decode cX11_rule 45 = .ok (.aload_n 0, 1) := by decide +kernel
theorem dX11_rule_46 : decode cX11_rule 46 = .ok (.dup, 1) := by decide +kernel
theorem dX11_rule_47 : decode cX11_rule 47 = .ok (.getfield 38, 3) := by decide +kernel
theorem dX11_rule_50 : decode cX11_rule 50 = .ok (.iconst 1, 1) := by decide +kernel
theorem dX11_rule_51 : decode cX11_rule 51 = .ok (.iadd, 1) := by decide +kernel
theorem dX11_rule_52 : decode cX11_rule 52 = .ok (.putfield 38, 3) := by decide +kernel
theorem dX11_rule_55 : decode cX11_rule 55 = .ok (.aload_n 0, 1) := by decide +kernel
theorem dX11_rule_56 : decode cX11_rule 56 = .ok (.getfield 38, 3) := by decide +kernel
theorem dX11_rule_59 : decode cX11_rule 59 = .ok (.iconst 1, 1) := by decide +kernel
theorem dX11_rule_60 : decode cX11_rule 60 = .ok (.isub, 1) := by decide +kernel
theorem dX11_rule_61 : decode cX11_rule 61 = .ok (.ireturn, 1) := by decide +kernel
theorem dX11_force_0 : decode cX11_force 0 = .ok (.aload_n 0, 1) := by decide +kernel
theorem dX11_force_1 : decode cX11_force 1 = .ok (.iload_n 1, 1) := by decide +kernel
theorem dX11_force_2 : decode cX11_force 2 = .ok (.invokevirtual 131, 3) := by decide +kernel
theorem dX11_force_5 : decode cX11_force 5 = .ok (.ifCond .ne 6, 3) := by decide +kernel
theorem dX11_force_8 : decode cX11_force 8 = .ok (.bipush (-2), 2) := by decide +kernel
theorem dX11_force_10 : decode cX11_force 10 = .ok (.ireturn, 1) := by decide +kernel
theorem dX11_force_11 : decode cX11_force 11 = .ok (.aload_n 0, 1) := by decide +kernel
theorem dX11_force_12 : decode cX11_force 12 = .ok (.getfield 45, 3) := by decide +kernel
theorem dX11_force_15 : decode cX11_force 15 = .ok (.getfield 135, 3) := by decide +kernel
theorem dX11_force_18 : decode cX11_force 18 = .ok (.istore_n 2, 1) := by decide +kernel
theorem dX11_force_19 : decode cX11_force 19 = .ok (.aload_n 0, 1) := by decide +kernel
theorem dX11_force_20 : decode cX11_force 20 = .ok (.getfield 45, 3) := by decide +kernel
theorem dX11_force_23 : decode cX11_force 23 = .ok (.iload_n 1, 1) := by decide +kernel
theorem dX11_force_24 : decode cX11_force 24 = .ok (.putfield 135, 3) := by decide +kernel
theorem dX11_force_27 : decode cX11_force 27 = .ok (.iload_n 2, 1) := by decide +kernel
theorem dX11_force_28 : decode cX11_force 28 = .ok (.ireturn, 1) := by decide +kernel
theorem dX11_isRuleOrNone_0 : decode cX11_isRuleOrNone 0 = .ok (.iload_n 1, 1) := by decide +kernel
theorem dX11_isRuleOrNone_1 : decode cX11_isRuleOrNone 1 = .ok (.iconst (-1), 1) := by decide +kernel
theorem dX11_isRuleOrNone_2 : decode cX11_isRuleOrNone 2 = .ok (.if_icmp .lt 15, 3) := by decide +kernel
theorem dX11_isRuleOrNone_5 : decode cX11_isRuleOrNone 5 = .ok (.iload_n 1, 1) := by decide +kernel
theorem dX11_isRuleOrNone_6 : decode cX11_isRuleOrNone 6 = .ok (.aload_n 0, 1) := by decide +kernel
theorem dX11_isRuleOrNone_7 : decode cX11_isRuleOrNone 7 = .ok (.getfield 38, 3) := by decide +kernel
theorem dX11_isRuleOrNone_10 : decode cX11_isRuleOrNone 10 = .ok (.if_icmp .ge 7, 3) := by decide +kernel
theorem dX11_isRuleOrNone_13 : decode cX11_isRuleOrNone 13 = .ok (.iconst 1, 1) := by decide +kernel
theorem dX11_isRuleOrNone_14 : decode cX11_isRuleOrNone 14 = .ok (.goto 4, 3) := by decide +kernel
theorem dX11_isRuleOrNone_17 : decode cX11_isRuleOrNone 17 = .ok (.iconst 0, 1) := by decide +kernel
theorem dX11_isRuleOrNone_18 : decode cX11_isRuleOrNone 18 = .ok (.ireturn, 1) := by decide +kernel
theorem dX11_ruleOf_0 : decode cX11_ruleOf 0 = .ok (.iload_n 1, 1) := by decide +kernel
theorem dX11_ruleOf_1 : decode cX11_ruleOf 1 = .ok (.ifCond .lt 20, 3) := by decide +kernel
theorem dX11_ruleOf_4 : decode cX11_ruleOf 4 = .ok (.iload_n 1, 1) := by decide +kernel
theorem dX11_ruleOf_5 : decode cX11_ruleOf 5 = .ok (.aload_n 0, 1) := by decide +kernel
theorem dX11_ruleOf_6 : decode cX11_ruleOf 6 = .ok (.getfield 38, 3) := by decide +kernel
theorem dX11_ruleOf_9 : decode cX11_ruleOf 9 = .ok (.if_icmp .ge 12, 3) := by decide +kernel
theorem dX11_ruleOf_12 : decode cX11_ruleOf 12 = .ok (.aload_n 0, 1) := by decide +kernel
theorem dX11_ruleOf_13 : decode cX11_ruleOf 13 = .ok (.getfield 34, 3) := by decide +kernel
theorem dX11_ruleOf_16 : decode cX11_ruleOf 16 = .ok (.iload_n 1, 1) := by decide +kernel
theorem dX11_ruleOf_17 : decode cX11_ruleOf 17 = .ok (.aaload, 1) := by decide +kernel
theorem dX11_ruleOf_18 : decode cX11_ruleOf 18 = .ok (.goto 4, 3) := by decide +kernel
theorem dX11_ruleOf_21 : decode cX11_ruleOf 21 = .ok (.aconst_null, 1) := by decide +kernel
theorem dX11_ruleOf_22 : decode cX11_ruleOf 22 = .ok (.areturn, 1) := by decide +kernel
theorem dX11_ruleInForce_0 : decode cX11_ruleInForce 0 = .ok (.aload_n 0, 1) := by decide +kernel
theorem dX11_ruleInForce_1 : decode cX11_ruleInForce 1 = .ok (.aload_n 0, 1) := by decide +kernel
theorem dX11_ruleInForce_2 : decode cX11_ruleInForce 2 = .ok (.getfield 45, 3) := by decide +kernel
theorem dX11_ruleInForce_5 : decode cX11_ruleInForce 5 = .ok (.getfield 135, 3) := by decide +kernel
theorem dX11_ruleInForce_8 : decode cX11_ruleInForce 8 = .ok (.invokevirtual 138, 3) := by decide +kernel
theorem dX11_ruleInForce_11 : decode cX11_ruleInForce 11 = .ok (.areturn, 1) := by decide +kernel
theorem dX11_east_0 : decode cX11_east 0 = .ok (.aload_n 0, 1) := by decide +kernel
theorem dX11_east_1 : decode cX11_east 1 = .ok (.getfield 45, 3) := by decide +kernel
theorem dX11_east_4 : decode cX11_east 4 = .ok (.getfield 119, 3) := by decide +kernel
theorem dX11_east_7 : decode cX11_east 7 = .ok (.iload_n 1, 1) := by decide +kernel
theorem dX11_east_8 : decode cX11_east 8 = .ok (.invokevirtual 142, 3) := by decide +kernel
theorem dX11_east_11 : decode cX11_east 11 = .ok (.ifCond .eq 19, 3) := by decide +kernel
theorem dX11_east_14 : decode cX11_east 14 = .ok (.aload_n 0, 1) := by decide +kernel
theorem dX11_east_15 : decode cX11_east 15 = .ok (.getfield 45, 3) := by decide +kernel
theorem dX11_east_18 : decode cX11_east 18 = .ok (.getfield 119, 3) := by decide +kernel
theorem dX11_east_21 : decode cX11_east 21 = .ok (.iconst 0, 1) := by decide +kernel
theorem dX11_east_22 : decode cX11_east 22 = .ok (.iload_n 1, 1) := by decide +kernel
theorem dX11_east_23 : decode cX11_east 23 = .ok (.iload_n 2, 1) := by decide +kernel
theorem dX11_east_24 : decode cX11_east 24 = .ok (.invokevirtual 145, 3) := by decide +kernel
theorem dX11_east_27 : decode cX11_east 27 = .ok (.goto 5, 3) := by decide +kernel
theorem dX11_east_30 : decode cX11_east 30 = .ok (.bipush (-2), 2) := by decide +kernel
theorem dX11_east_32 : decode cX11_east 32 = .ok (.ireturn, 1) := by decide +kernel
theorem dX11_west_0 : decode cX11_west 0 = .ok (.aload_n 0, 1) := by decide +kernel
theorem dX11_west_1 : decode cX11_west 1 = .ok (.getfield 45, 3) := by decide +kernel
theorem dX11_west_4 : decode cX11_west 4 = .ok (.getfield 119, 3) := by decide +kernel
theorem dX11_west_7 : decode cX11_west 7 = .ok (.iload_n 1, 1) := by decide +kernel
theorem dX11_west_8 : decode cX11_west 8 = .ok (.invokevirtual 149, 3) := by decide +kernel
theorem dX11_west_11 : decode cX11_west 11 = .ok (.ifCond .eq 19, 3) := by decide +kernel
theorem dX11_west_14 : decode cX11_west 14 = .ok (.aload_n 0, 1) := by decide +kernel
theorem dX11_west_15 : decode cX11_west 15 = .ok (.getfield 45, 3) := by decide +kernel
theorem dX11_west_18 : decode cX11_west 18 = .ok (.getfield 119, 3) := by decide +kernel
theorem dX11_west_21 : decode cX11_west 21 = .ok (.iconst 1, 1) := by decide +kernel
theorem dX11_west_22 : decode cX11_west 22 = .ok (.iload_n 1, 1) := by decide +kernel
theorem dX11_west_23 : decode cX11_west 23 = .ok (.iload_n 2, 1) := by decide +kernel
theorem dX11_west_24 : decode cX11_west 24 = .ok (.invokevirtual 145, 3) := by decide +kernel
theorem dX11_west_27 : decode cX11_west 27 = .ok (.goto 5, 3) := by decide +kernel
theorem dX11_west_30 : decode cX11_west 30 = .ok (.bipush (-2), 2) := by decide +kernel
theorem dX11_west_32 : decode cX11_west 32 = .ok (.ireturn, 1) := by decide +kernel
theorem dX11_likes_0 : decode cX11_likes 0 = .ok (.aload_n 0, 1) := by decide +kernel
theorem dX11_likes_1 : decode cX11_likes 1 = .ok (.getfield 45, 3) := by decide +kernel
theorem dX11_likes_4 : decode cX11_likes 4 = .ok (.getfield 119, 3) := by decide +kernel
theorem dX11_likes_7 : decode cX11_likes 7 = .ok (.astore 4, 2) := by decide +kernel
theorem dX11_likes_9 : decode cX11_likes 9 = .ok (.aload 4, 2) := by decide +kernel
theorem dX11_likes_11 : decode cX11_likes 11 = .ok (.iload_n 1, 1) := by decide +kernel
theorem dX11_likes_12 : decode cX11_likes 12 = .ok (.invokevirtual 142, 3) := by decide +kernel
theorem dX11_likes_15 : decode cX11_likes 15 = .ok (.ifCond .eq 12, 3) := by decide +kernel
theorem dX11_likes_18 : decode cX11_likes 18 = .ok (.aload 4, 2) := by decide +kernel
theorem dX11_likes_20 : decode cX11_likes 20 = .ok (.iload_n 2, 1) := by decide +kernel
theorem dX11_likes_21 : decode cX11_likes 21 = .ok (.invokevirtual 149, 3) := by decide +kernel
theorem dX11_likes_24 : decode cX11_likes 24 = .ok (.ifCond .ne 5, 3) := by decide +kernel
theorem dX11_likes_27 : decode cX11_likes 27 = .ok (.iconst (-1), 1) := by decide +kernel
theorem dX11_likes_28 : decode cX11_likes 28 = .ok (.ireturn, 1) := by decide +kernel
theorem dX11_likes_29 : decode cX11_likes 29 = .ok (.iload_n 3, 1) := by decide +kernel
theorem dX11_likes_30 : decode cX11_likes 30 = .ok (.tableswitch 66 0 3 #[30, 39, 48, 57], 30) := by decide +kernel
theorem dX11_likes_60 : decode cX11_likes 60 = .ok (.aload 4, 2) := by decide +kernel
theorem dX11_likes_62 : decode cX11_likes 62 = .ok (.iconst 0, 1) := by decide +kernel
theorem dX11_likes_63 : decode cX11_likes 63 = .ok (.iload_n 1, 1) := by decide +kernel
theorem dX11_likes_64 : decode cX11_likes 64 = .ok (.iload_n 2, 1) := by decide +kernel
theorem dX11_likes_65 : decode cX11_likes 65 = .ok (.invokevirtual 152, 3) := by decide +kernel
theorem dX11_likes_68 : decode cX11_likes 68 = .ok (.ireturn, 1) := by decide +kernel
theorem dX11_likes_69 : decode cX11_likes 69 = .ok (.aload 4, 2) := by decide +kernel
theorem dX11_likes_71 : decode cX11_likes 71 = .ok (.iconst 1, 1) := by decide +kernel
theorem dX11_likes_72 : decode cX11_likes 72 = .ok (.iload_n 1, 1) := by decide +kernel
theorem dX11_likes_73 : decode cX11_likes 73 = .ok (.iload_n 2, 1) := by decide +kernel
theorem dX11_likes_74 : decode cX11_likes 74 = .ok (.invokevirtual 152, 3) := by decide +kernel
theorem dX11_likes_77 : decode cX11_likes 77 = .ok (.ireturn, 1) := by decide +kernel
theorem dX11_likes_78 : decode cX11_likes 78 = .ok (.aload 4, 2) := by decide +kernel
theorem dX11_likes_80 : decode cX11_likes 80 = .ok (.iconst 0, 1) := by decide +kernel
theorem dX11_likes_81 : decode cX11_likes 81 = .ok (.iload_n 1, 1) := by decide +kernel
theorem dX11_likes_82 : decode cX11_likes 82 = .ok (.iload_n 2, 1) := by decide +kernel
theorem dX11_likes_83 : decode cX11_likes 83 = .ok (.invokevirtual 155, 3) := by decide +kernel
theorem dX11_likes_86 : decode cX11_likes 86 = .ok (.ireturn, 1) := by decide +kernel
theorem dX11_likes_87 : decode cX11_likes 87 = .ok (.aload 4, 2) := by decide +kernel
theorem dX11_likes_89 : decode cX11_likes 89 = .ok (.iconst 1, 1) := by decide +kernel
theorem dX11_likes_90 : decode cX11_likes 90 = .ok (.iload_n 1, 1) := by decide +kernel
theorem dX11_likes_91 : decode cX11_likes 91 = .ok (.iload_n 2, 1) := by decide +kernel
theorem dX11_likes_92 : decode cX11_likes 92 = .ok (.invokevirtual 155, 3) := by decide +kernel
theorem dX11_likes_95 : decode cX11_likes 95 = .ok (.ireturn, 1) := by decide +kernel
theorem dX11_likes_96 : decode cX11_likes 96 = .ok (.iconst (-1), 1) := by decide +kernel
theorem dX11_likes_97 : decode cX11_likes 97 = .ok (.ireturn, 1) := by decide +kernel
theorem dX11_count_0 : decode cX11_count 0 = .ok (.aload_n 0, 1) := by decide +kernel
theorem dX11_count_1 : decode cX11_count 1 = .ok (.getfield 45, 3) := by decide +kernel
theorem dX11_count_4 : decode cX11_count 4 = .ok (.getfield 119, 3) := by decide +kernel
theorem dX11_count_7 : decode cX11_count 7 = .ok (.astore_n 2, 1) := by decide +kernel
theorem dX11_count_8 : decode cX11_count 8 = .ok (.iload_n 1, 1) := by decide +kernel
theorem dX11_count_9 : decode cX11_count 9 = .ok (.tableswitch 183 0 14 #[75, 80, 85, 90, 95, 100, 108, 113, 123, 133, 146, 154, 162, 167, 175], 75) := by decide +kernel
theorem dX11_count_84 : decode cX11_count 84 = .ok (.aload_n 2, 1) := by decide +kernel
theorem dX11_count_85 : decode cX11_count 85 = .ok (.getfield 158, 3) := by decide +kernel
theorem dX11_count_88 : decode cX11_count 88 = .ok (.ireturn, 1) := by decide +kernel
theorem dX11_count_89 : decode cX11_count 89 = .ok (.aload_n 2, 1) := by decide +kernel
theorem dX11_count_90 : decode cX11_count 90 = .ok (.getfield 161, 3) := by decide +kernel
theorem dX11_count_93 : decode cX11_count 93 = .ok (.ireturn, 1) := by decide +kernel
theorem dX11_count_94 : decode cX11_count 94 = .ok (.aload_n 2, 1) := by decide +kernel
theorem dX11_count_95 : decode cX11_count 95 = .ok (.getfield 125, 3) := by decide +kernel
theorem dX11_count_98 : decode cX11_count 98 = .ok (.ireturn, 1) := by decide +kernel
theorem dX11_count_99 : decode cX11_count 99 = .ok (.aload_n 2, 1) := by decide +kernel
theorem dX11_count_100 : decode cX11_count 100 = .ok (.getfield 164, 3) := by decide +kernel
theorem dX11_count_103 : decode cX11_count 103 = .ok (.ireturn, 1) := by decide +kernel
theorem dX11_count_104 : decode cX11_count 104 = .ok (.aload_n 0, 1) := by decide +kernel
theorem dX11_count_105 : decode cX11_count 105 = .ok (.getfield 38, 3) := by decide +kernel
theorem dX11_count_108 : decode cX11_count 108 = .ok (.ireturn, 1) := by decide +kernel
theorem dX11_count_109 : decode cX11_count 109 = .ok (.aload_n 0, 1) := by decide +kernel
theorem dX11_count_110 : decode cX11_count 110 = .ok (.getfield 45, 3) := by decide +kernel
theorem dX11_count_113 : decode cX11_count 113 = .ok (.getfield 135, 3) := by decide +kernel
theorem dX11_count_116 : decode cX11_count 116 = .ok (.ireturn, 1) := by decide +kernel
theorem dX11_count_117 : decode cX11_count 117 = .ok (.aload_n 2, 1) := by decide +kernel
theorem dX11_count_118 : decode cX11_count 118 = .ok (.getfield 167, 3) := by decide +kernel
theorem dX11_count_121 : decode cX11_count 121 = .ok (.ireturn, 1) := by decide +kernel
theorem dX11_count_122 : decode cX11_count 122 = .ok (.aload_n 2, 1) := by decide +kernel
theorem dX11_count_123 : decode cX11_count 123 = .ok (.iconst 0, 1) := by decide +kernel
theorem dX11_count_124 : decode cX11_count 124 = .ok (.aload_n 2, 1) := by decide +kernel
theorem dX11_count_125 : decode cX11_count 125 = .ok (.getfield 125, 3) := by decide +kernel
theorem dX11_count_128 : decode cX11_count 128 = .ok (.invokevirtual 170, 3) := by decide +kernel
theorem dX11_count_131 : decode cX11_count 131 = .ok (.ireturn, 1) := by decide +kernel
theorem dX11_count_132 : decode cX11_count 132 = .ok (.aload_n 2, 1) := by decide +kernel
theorem dX11_count_133 : decode cX11_count 133 = .ok (.iconst 1, 1) := by decide +kernel
theorem dX11_count_134 : decode cX11_count 134 = .ok (.aload_n 2, 1) := by decide +kernel
theorem dX11_count_135 : decode cX11_count 135 = .ok (.getfield 164, 3) := by decide +kernel
theorem dX11_count_138 : decode cX11_count 138 = .ok (.invokevirtual 170, 3) := by decide +kernel
theorem dX11_count_141 : decode cX11_count 141 = .ok (.ireturn, 1) := by decide +kernel
theorem dX11_count_142 : decode cX11_count 142 = .ok (.aload_n 2, 1) := by decide +kernel
theorem dX11_count_143 : decode cX11_count 143 = .ok (.invokevirtual 174, 3) := by decide +kernel
theorem dX11_count_146 : decode cX11_count 146 = .ok (.ifCond .eq 7, 3) := by decide +kernel
theorem dX11_count_149 : decode cX11_count 149 = .ok (.iconst 1, 1) := by decide +kernel
theorem dX11_count_150 : decode cX11_count 150 = .ok (.goto 4, 3) := by decide +kernel
theorem dX11_count_153 : decode cX11_count 153 = .ok (.iconst 0, 1) := by decide +kernel
theorem dX11_count_154 : decode cX11_count 154 = .ok (.ireturn, 1) := by decide +kernel
theorem dX11_count_155 : decode cX11_count 155 = .ok (.aload_n 2, 1) := by decide +kernel
theorem dX11_count_156 : decode cX11_count 156 = .ok (.getfield 178, 3) := by decide +kernel
theorem dX11_count_159 : decode cX11_count 159 = .ok (.invokestatic 182, 3) := by decide +kernel
theorem dX11_count_162 : decode cX11_count 162 = .ok (.ireturn, 1) := by decide +kernel
theorem dX11_count_163 : decode cX11_count 163 = .ok (.aload_n 0, 1) := by decide +kernel
theorem dX11_count_164 : decode cX11_count 164 = .ok (.getfield 45, 3) := by decide +kernel
theorem dX11_count_167 : decode cX11_count 167 = .ok (.getfield 122, 3) := by decide +kernel
theorem dX11_count_170 : decode cX11_count 170 = .ok (.ireturn, 1) := by decide +kernel
theorem dX11_count_171 : decode cX11_count 171 = .ok (.aload_n 0, 1) := by decide +kernel
theorem dX11_count_172 : decode cX11_count 172 = .ok (.getfield 62, 3) := by decide +kernel
theorem dX11_count_175 : decode cX11_count 175 = .ok (.ireturn, 1) := by decide +kernel
theorem dX11_count_176 : decode cX11_count 176 = .ok (.aload_n 0, 1) := by decide +kernel
theorem dX11_count_177 : decode cX11_count 177 = .ok (.getfield 45, 3) := by decide +kernel
theorem dX11_count_180 : decode cX11_count 180 = .ok (.getfield 188, 3) := by decide +kernel
theorem dX11_count_183 : decode cX11_count 183 = .ok (.ireturn, 1) := by decide +kernel
theorem dX11_count_184 : decode cX11_count 184 = .ok (.aload_n 0, 1) := by decide +kernel
theorem dX11_count_185 : decode cX11_count 185 = .ok (.getfield 12, 3) := by decide +kernel
theorem dX11_count_188 : decode cX11_count 188 = .ok (.getfield 101, 3) := by decide +kernel
theorem dX11_count_191 : decode cX11_count 191 = .ok (.ireturn, 1) := by decide +kernel
theorem dX11_count_192 : decode cX11_count 192 = .ok (.iconst (-1), 1) := by decide +kernel
theorem dX11_count_193 : decode cX11_count 193 = .ok (.ireturn, 1) := by decide +kernel
theorem dX11_fair_0 : decode cX11_fair 0 = .ok (.aload_n 0, 1) := by decide +kernel
theorem dX11_fair_1 : decode cX11_fair 1 = .ok (.getfield 45, 3) := by decide +kernel
theorem dX11_fair_4 : decode cX11_fair 4 = .ok (.getfield 119, 3) := by decide +kernel
theorem dX11_fair_7 : decode cX11_fair 7 = .ok (.astore_n 1, 1) := by decide +kernel
theorem dX11_fair_8 : decode cX11_fair 8 = .ok (.aload_n 1, 1) := by decide +kernel
theorem dX11_fair_9 : decode cX11_fair 9 = .ok (.getfield 191, 3) := by decide +kernel
theorem dX11_fair_12 : decode cX11_fair 12 = .ok (.ifCond .eq 13, 3) := by decide +kernel
theorem dX11_fair_15 : decode cX11_fair 15 = .ok (.aload_n 1, 1) := by decide +kernel
theorem dX11_fair_16 : decode cX11_fair 16 = .ok (.getfield 167, 3) := by decide +kernel
theorem dX11_fair_19 : decode cX11_fair 19 = .ok (.sipush 999, 3) := by decide +kernel
theorem dX11_fair_22 : decode cX11_fair 22 = .ok (.if_icmp .lt 5, 3) := by decide +kernel
theorem dX11_fair_25 : decode cX11_fair 25 = .ok (.iconst (-1), 1) := by decide +kernel
theorem dX11_fair_26 : decode cX11_fair 26 = .ok (.ireturn, 1) := by decide +kernel
theorem dX11_fair_27 : decode cX11_fair 27 = .ok (.aload_n 0, 1) := by decide +kernel
theorem dX11_fair_28 : decode cX11_fair 28 = .ok (.invokevirtual 195, 3) := by decide +kernel
theorem dX11_fair_31 : decode cX11_fair 31 = .ok (.aload_n 0, 1) := by decide +kernel
theorem dX11_fair_32 : decode cX11_fair 32 = .ok (.getfield 73, 3) := by decide +kernel
theorem dX11_fair_35 : decode cX11_fair 35 = .ok (.aload_n 1, 1) := by decide +kernel
theorem dX11_fair_36 : decode cX11_fair 36 = .ok (.aload_n 0, 1) := by decide +kernel
theorem dX11_fair_37 : decode cX11_fair 37 = .ok (.invokevirtual 198, 3) := by decide +kernel
theorem dX11_fair_40 : decode cX11_fair 40 = .ok (.aload_n 1, 1) := by decide +kernel
theorem dX11_fair_41 : decode cX11_fair 41 = .ok (.invokevirtual 174, 3) := by decide +kernel
theorem dX11_fair_44 : decode cX11_fair 44 = .ok (.invokevirtual 202, 3) := by decide +kernel
theorem dX11_fair_47 : decode cX11_fair 47 = .ok (.ireturn, 1) := by decide +kernel
theorem dX11_join_0 : decode cX11_join 0 = .ok (.aload_n 0, 1) := by decide +kernel
theorem dX11_join_1 : decode cX11_join 1 = .ok (.getfield 45, 3) := by decide +kernel
theorem dX11_join_4 : decode cX11_join 4 = .ok (.getfield 119, 3) := by decide +kernel
theorem dX11_join_7 : decode cX11_join 7 = .ok (.astore_n 3, 1) := by decide +kernel
theorem dX11_join_8 : decode cX11_join 8 = .ok (.aload_n 3, 1) := by decide +kernel
theorem dX11_join_9 : decode cX11_join 9 = .ok (.iload_n 1, 1) := by decide +kernel
theorem dX11_join_10 : decode cX11_join 10 = .ok (.invokevirtual 142, 3) := by decide +kernel
theorem dX11_join_13 : decode cX11_join 13 = .ok (.ifCond .eq 20, 3) := by decide +kernel
theorem dX11_join_16 : decode cX11_join 16 = .ok (.aload_n 3, 1) := by decide +kernel
theorem dX11_join_17 : decode cX11_join 17 = .ok (.iload_n 2, 1) := by decide +kernel
theorem dX11_join_18 : decode cX11_join 18 = .ok (.invokevirtual 149, 3) := by decide +kernel
theorem dX11_join_21 : decode cX11_join 21 = .ok (.ifCond .eq 12, 3) := by decide +kernel
theorem dX11_join_24 : decode cX11_join 24 = .ok (.aload_n 3, 1) := by decide +kernel
theorem dX11_join_25 : decode cX11_join 25 = .ok (.iload_n 1, 1) := by decide +kernel
theorem dX11_join_26 : decode cX11_join 26 = .ok (.iload_n 2, 1) := by decide +kernel
theorem dX11_join_27 : decode cX11_join 27 = .ok (.invokevirtual 206, 3) := by decide +kernel
theorem dX11_join_30 : decode cX11_join 30 = .ok (.ifCond .ne 5, 3) := by decide +kernel
theorem dX11_join_33 : decode cX11_join 33 = .ok (.iconst (-1), 1) := by decide +kernel
theorem dX11_join_34 : decode cX11_join 34 = .ok (.ireturn, 1) := by decide +kernel
theorem dX11_join_35 : decode cX11_join 35 = .ok (.aload_n 0, 1) := by decide +kernel
theorem dX11_join_36 : decode cX11_join 36 = .ok (.invokevirtual 195, 3) := by decide +kernel
theorem dX11_join_39 : decode cX11_join 39 = .ok (.aload_n 3, 1) := by decide +kernel
theorem dX11_join_40 : decode cX11_join 40 = .ok (.iload_n 1, 1) := by decide +kernel
theorem dX11_join_41 : decode cX11_join 41 = .ok (.iload_n 2, 1) := by decide +kernel
theorem dX11_join_42 : decode cX11_join 42 = .ok (.invokevirtual 210, 3) := by decide +kernel
theorem dX11_join_45 : decode cX11_join 45 = .ok (.ireturn, 1) := by decide +kernel
theorem dX11_part_0 : decode cX11_part 0 = .ok (.aload_n 0, 1) := by decide +kernel
theorem dX11_part_1 : decode cX11_part 1 = .ok (.getfield 45, 3) := by decide +kernel
theorem dX11_part_4 : decode cX11_part 4 = .ok (.getfield 119, 3) := by decide +kernel
theorem dX11_part_7 : decode cX11_part 7 = .ok (.astore_n 2, 1) := by decide +kernel
theorem dX11_part_8 : decode cX11_part 8 = .ok (.aload_n 2, 1) := by decide +kernel
theorem dX11_part_9 : decode cX11_part 9 = .ok (.iload_n 1, 1) := by decide +kernel
theorem dX11_part_10 : decode cX11_part 10 = .ok (.invokevirtual 213, 3) := by decide +kernel
theorem dX11_part_13 : decode cX11_part 13 = .ok (.ifCond .ne 5, 3) := by decide +kernel
theorem dX11_part_16 : decode cX11_part 16 = .ok (.iconst (-1), 1) := by decide +kernel
theorem dX11_part_17 : decode cX11_part 17 = .ok (.ireturn, 1) := by decide +kernel
theorem dX11_part_18 : decode cX11_part 18 = .ok (.aload_n 0, 1) := by decide +kernel
theorem dX11_part_19 : decode cX11_part 19 = .ok (.invokevirtual 195, 3) := by decide +kernel
theorem dX11_part_22 : decode cX11_part 22 = .ok (.aload_n 2, 1) := by decide +kernel
theorem dX11_part_23 : decode cX11_part 23 = .ok (.iload_n 1, 1) := by decide +kernel
theorem dX11_part_24 : decode cX11_part 24 = .ok (.invokevirtual 216, 3) := by decide +kernel
theorem dX11_part_27 : decode cX11_part 27 = .ok (.ireturn, 1) := by decide +kernel
theorem dX11_hold_0 : decode cX11_hold 0 = .ok (.aload_n 0, 1) := by decide +kernel
theorem dX11_hold_1 : decode cX11_hold 1 = .ok (.getfield 45, 3) := by decide +kernel
theorem dX11_hold_4 : decode cX11_hold 4 = .ok (.getfield 119, 3) := by decide +kernel
theorem dX11_hold_7 : decode cX11_hold 7 = .ok (.astore_n 1, 1) := by decide +kernel
theorem dX11_hold_8 : decode cX11_hold 8 = .ok (.aload_n 1, 1) := by decide +kernel
theorem dX11_hold_9 : decode cX11_hold 9 = .ok (.getfield 191, 3) := by decide +kernel
theorem dX11_hold_12 : decode cX11_hold 12 = .ok (.ifCond .eq 19, 3) := by decide +kernel
theorem dX11_hold_15 : decode cX11_hold 15 = .ok (.aload_n 1, 1) := by decide +kernel
theorem dX11_hold_16 : decode cX11_hold 16 = .ok (.getfield 167, 3) := by decide +kernel
theorem dX11_hold_19 : decode cX11_hold 19 = .ok (.bipush 60, 2) := by decide +kernel
theorem dX11_hold_21 : decode cX11_hold 21 = .ok (.if_icmp .gt 10, 3) := by decide +kernel
theorem dX11_hold_24 : decode cX11_hold 24 = .ok (.aload_n 1, 1) := by decide +kernel
theorem dX11_hold_25 : decode cX11_hold 25 = .ok (.invokevirtual 174, 3) := by decide +kernel
theorem dX11_hold_28 : decode cX11_hold 28 = .ok (.ifCond .eq 5, 3) := by decide +kernel
theorem dX11_hold_31 : decode cX11_hold 31 = .ok (.iconst (-1), 1) := by decide +kernel
theorem dX11_hold_32 : decode cX11_hold 32 = .ok (.ireturn, 1) := by decide +kernel
theorem dX11_hold_33 : decode cX11_hold 33 = .ok (.aload_n 0, 1) := by decide +kernel
theorem dX11_hold_34 : decode cX11_hold 34 = .ok (.invokevirtual 195, 3) := by decide +kernel
theorem dX11_hold_37 : decode cX11_hold 37 = .ok (.aload_n 1, 1) := by decide +kernel
theorem dX11_hold_38 : decode cX11_hold 38 = .ok (.dup, 1) := by decide +kernel
theorem dX11_hold_39 : decode cX11_hold 39 = .ok (.getfield 178, 3) := by decide +kernel
theorem dX11_hold_42 : decode cX11_hold 42 = .ok (.lconst 1, 1) := by decide +kernel
theorem dX11_hold_43 : decode cX11_hold 43 = .ok (.aload_n 1, 1) := by decide +kernel
theorem dX11_hold_44 : decode cX11_hold 44 = .ok (.getfield 167, 3) := by decide +kernel
theorem dX11_hold_47 : decode cX11_hold 47 = .ok (.lshl, 1) := by decide +kernel
theorem dX11_hold_48 : decode cX11_hold 48 = .ok (.lor, 1) := by decide +kernel
theorem dX11_hold_49 : decode cX11_hold 49 = .ok (.putfield 178, 3) := by decide +kernel
theorem dX11_hold_52 : decode cX11_hold 52 = .ok (.aload_n 1, 1) := by decide +kernel
theorem dX11_hold_53 : decode cX11_hold 53 = .ok (.getfield 178, 3) := by decide +kernel
theorem dX11_hold_56 : decode cX11_hold 56 = .ok (.invokestatic 182, 3) := by decide +kernel
theorem dX11_hold_59 : decode cX11_hold 59 = .ok (.ireturn, 1) := by decide +kernel
theorem dX11_undo_0 : decode cX11_undo 0 = .ok (.aload_n 0, 1) := by decide +kernel
theorem dX11_undo_1 : decode cX11_undo 1 = .ok (.getfield 62, 3) := by decide +kernel
theorem dX11_undo_4 : decode cX11_undo 4 = .ok (.ifCond .ne 5, 3) := by decide +kernel
theorem dX11_undo_7 : decode cX11_undo 7 = .ok (.iconst (-1), 1) := by decide +kernel
theorem dX11_undo_8 : decode cX11_undo 8 = .ok (.ireturn, 1) := by decide +kernel
theorem dX11_undo_9 : decode cX11_undo 9 = .ok (.aload_n 0, 1) := by decide +kernel
theorem dX11_undo_10 : decode cX11_undo 10 = .ok (.aload_n 0, 1) := by decide +kernel
theorem dX11_undo_11 : decode cX11_undo 11 = .ok (.getfield 59, 3) := by decide +kernel
theorem dX11_undo_14 : decode cX11_undo 14 = .ok (.bipush 20, 2) := by decide +kernel
theorem dX11_undo_16 : decode cX11_undo 16 = .ok (.iadd, 1) := by decide +kernel
theorem dX11_undo_17 : decode cX11_undo 17 = .ok (.iconst 1, 1) := by decide +kernel
theorem dX11_undo_18 : decode cX11_undo 18 = .ok (.isub, 1) := by decide +kernel
theorem dX11_undo_19 : decode cX11_undo 19 = .ok (.bipush 20, 2) := by decide +kernel
theorem dX11_undo_21 : decode cX11_undo 21 = .ok (.irem, 1) := by decide +kernel
theorem dX11_undo_22 : decode cX11_undo 22 = .ok (.putfield 59, 3) := by decide +kernel
theorem dX11_undo_25 : decode cX11_undo 25 = .ok (.aload_n 0, 1) := by decide +kernel
theorem dX11_undo_26 : decode cX11_undo 26 = .ok (.dup, 1) := by decide +kernel
theorem dX11_undo_27 : decode cX11_undo 27 = .ok (.getfield 62, 3) := by decide +kernel
theorem dX11_undo_30 : decode cX11_undo 30 = .ok (.iconst 1, 1) := by decide +kernel
theorem dX11_undo_31 : decode cX11_undo 31 = .ok (.isub, 1) := by decide +kernel
theorem dX11_undo_32 : decode cX11_undo 32 = .ok (.putfield 62, 3) := by decide +kernel
theorem dX11_undo_35 : decode cX11_undo 35 = .ok (.aload_n 0, 1) := by decide +kernel
theorem dX11_undo_36 : decode cX11_undo 36 = .ok (.getfield 45, 3) := by decide +kernel
theorem dX11_undo_39 : decode cX11_undo 39 = .ok (.getfield 119, 3) := by decide +kernel
theorem dX11_undo_42 : decode cX11_undo 42 = .ok (.aload_n 0, 1) := by decide +kernel
theorem dX11_undo_43 : decode cX11_undo 43 = .ok (.getfield 55, 3) := by decide +kernel
theorem dX11_undo_46 : decode cX11_undo 46 = .ok (.aload_n 0, 1) := by decide +kernel
theorem dX11_undo_47 : decode cX11_undo 47 = .ok (.getfield 59, 3) := by decide +kernel
theorem dX11_undo_50 : decode cX11_undo 50 = .ok (.aaload, 1) := by decide +kernel
theorem dX11_undo_51 : decode cX11_undo 51 = .ok (.invokevirtual 115, 3) := by decide +kernel
theorem dX11_undo_54 : decode cX11_undo 54 = .ok (.aload_n 0, 1) := by decide +kernel
theorem dX11_undo_55 : decode cX11_undo 55 = .ok (.getfield 62, 3) := by decide +kernel
theorem dX11_undo_58 : decode cX11_undo 58 = .ok (.ireturn, 1) := by decide +kernel
theorem dX11_remember_0 : decode cX11_remember 0 = .ok (.aload_n 0, 1) := by decide +kernel
theorem dX11_remember_1 : decode cX11_remember 1 = .ok (.getfield 55, 3) := by decide +kernel
theorem dX11_remember_4 : decode cX11_remember 4 = .ok (.aload_n 0, 1) := by decide +kernel
theorem dX11_remember_5 : decode cX11_remember 5 = .ok (.getfield 59, 3) := by decide +kernel
theorem dX11_remember_8 : decode cX11_remember 8 = .ok (.aaload, 1) := by decide +kernel
theorem dX11_remember_9 : decode cX11_remember 9 = .ok (.aload_n 0, 1) := by decide +kernel
theorem dX11_remember_10 : decode cX11_remember 10 = .ok (.getfield 45, 3) := by decide +kernel
theorem dX11_remember_13 : decode cX11_remember 13 = .ok (.getfield 119, 3) := by decide +kernel
theorem dX11_remember_16 : decode cX11_remember 16 = .ok (.invokevirtual 115, 3) := by decide +kernel
theorem dX11_remember_19 : decode cX11_remember 19 = .ok (.aload_n 0, 1) := by decide +kernel
theorem dX11_remember_20 : decode cX11_remember 20 = .ok (.aload_n 0, 1) := by decide +kernel
theorem dX11_remember_21 : decode cX11_remember 21 = .ok (.getfield 59, 3) := by decide +kernel
theorem dX11_remember_24 : decode cX11_remember 24 = .ok (.iconst 1, 1) := by decide +kernel
theorem dX11_remember_25 : decode cX11_remember 25 = .ok (.iadd, 1) := by decide +kernel
theorem dX11_remember_26 : decode cX11_remember 26 = .ok (.bipush 20, 2) := by decide +kernel
theorem dX11_remember_28 : decode cX11_remember 28 = .ok (.irem, 1) := by decide +kernel
theorem dX11_remember_29 : decode cX11_remember 29 = .ok (.putfield 59, 3) := by decide +kernel
theorem dX11_remember_32 : decode cX11_remember 32 = .ok (.aload_n 0, 1) := by decide +kernel
theorem dX11_remember_33 : decode cX11_remember 33 = .ok (.aload_n 0, 1) := by decide +kernel
theorem dX11_remember_34 : decode cX11_remember 34 = .ok (.getfield 62, 3) := by decide +kernel
theorem dX11_remember_37 : decode cX11_remember 37 = .ok (.iconst 1, 1) := by decide +kernel
theorem dX11_remember_38 : decode cX11_remember 38 = .ok (.iadd, 1) := by decide +kernel
theorem dX11_remember_39 : decode cX11_remember 39 = .ok (.bipush 20, 2) := by decide +kernel
theorem dX11_remember_41 : decode cX11_remember 41 = .ok (.invokestatic 220, 3) := by decide +kernel
theorem dX11_remember_44 : decode cX11_remember 44 = .ok (.putfield 62, 3) := by decide +kernel
theorem dX11_remember_47 : decode cX11_remember 47 = .ok (.return_, 1) := by decide +kernel
theorem dX11_ahead_0 : decode cX11_ahead 0 = .ok (.aload_n 0, 1) := by decide +kernel
theorem dX11_ahead_1 : decode cX11_ahead 1 = .ok (.getfield 45, 3) := by decide +kernel
theorem dX11_ahead_4 : decode cX11_ahead 4 = .ok (.getfield 119, 3) := by decide +kernel
theorem dX11_ahead_7 : decode cX11_ahead 7 = .ok (.astore 4, 2) := by decide +kernel
theorem dX11_ahead_9 : decode cX11_ahead 9 = .ok (.iload_n 3, 1) := by decide +kernel
theorem dX11_ahead_10 : decode cX11_ahead 10 = .ok (.iconst 3, 1) := by decide +kernel
theorem dX11_ahead_11 : decode cX11_ahead 11 = .ok (.if_icmp .ne 12, 3) := by decide +kernel
theorem dX11_ahead_14 : decode cX11_ahead 14 = .ok (.aload 4, 2) := by decide +kernel
theorem dX11_ahead_16 : decode cX11_ahead 16 = .ok (.iload_n 1, 1) := by decide +kernel
theorem dX11_ahead_17 : decode cX11_ahead 17 = .ok (.invokevirtual 149, 3) := by decide +kernel
theorem dX11_ahead_20 : decode cX11_ahead 20 = .ok (.goto 9, 3) := by decide +kernel
theorem dX11_ahead_23 : decode cX11_ahead 23 = .ok (.aload 4, 2) := by decide +kernel
theorem dX11_ahead_25 : decode cX11_ahead 25 = .ok (.iload_n 1, 1) := by decide +kernel
theorem dX11_ahead_26 : decode cX11_ahead 26 = .ok (.invokevirtual 142, 3) := by decide +kernel
theorem dX11_ahead_29 : decode cX11_ahead 29 = .ok (.istore 5, 2) := by decide +kernel
theorem dX11_ahead_31 : decode cX11_ahead 31 = .ok (.iload 5, 2) := by decide +kernel
theorem dX11_ahead_33 : decode cX11_ahead 33 = .ok (.ifCond .eq 22, 3) := by decide +kernel
theorem dX11_ahead_36 : decode cX11_ahead 36 = .ok (.iload_n 2, 1) := by decide +kernel
theorem dX11_ahead_37 : decode cX11_ahead 37 = .ok (.ifCond .lt 18, 3) := by decide +kernel
theorem dX11_ahead_40 : decode cX11_ahead 40 = .ok (.iload_n 2, 1) := by decide +kernel
theorem dX11_ahead_41 : decode cX11_ahead 41 = .ok (.bipush 60, 2) := by decide +kernel
theorem dX11_ahead_43 : decode cX11_ahead 43 = .ok (.if_icmp .gt 12, 3) := by decide +kernel
theorem dX11_ahead_46 : decode cX11_ahead 46 = .ok (.iload_n 3, 1) := by decide +kernel
theorem dX11_ahead_47 : decode cX11_ahead 47 = .ok (.ifCond .lt 8, 3) := by decide +kernel
theorem dX11_ahead_50 : decode cX11_ahead 50 = .ok (.iload_n 3, 1) := by decide +kernel
theorem dX11_ahead_51 : decode cX11_ahead 51 = .ok (.iconst 3, 1) := by decide +kernel
theorem dX11_ahead_52 : decode cX11_ahead 52 = .ok (.if_icmp .le 6, 3) := by decide +kernel
theorem dX11_ahead_55 : decode cX11_ahead 55 = .ok (.bipush (-2), 2) := by decide +kernel
theorem dX11_ahead_57 : decode cX11_ahead 57 = .ok (.ireturn, 1) := by decide +kernel
theorem dX11_ahead_58 : decode cX11_ahead 58 = .ok (.aload_n 0, 1) := by decide +kernel
theorem dX11_ahead_59 : decode cX11_ahead 59 = .ok (.getfield 82, 3) := by decide +kernel
theorem dX11_ahead_62 : decode cX11_ahead 62 = .ok (.aload 4, 2) := by decide +kernel
theorem dX11_ahead_64 : decode cX11_ahead 64 = .ok (.aload_n 0, 1) := by decide +kernel
theorem dX11_ahead_65 : decode cX11_ahead 65 = .ok (.invokevirtual 198, 3) := by decide +kernel
theorem dX11_ahead_68 : decode cX11_ahead 68 = .ok (.iload_n 2, 1) := by decide +kernel
theorem dX11_ahead_69 : decode cX11_ahead 69 = .ok (.invokevirtual 225, 3) := by decide +kernel
theorem dX11_ahead_72 : decode cX11_ahead 72 = .ok (.astore 6, 2) := by decide +kernel
theorem dX11_ahead_74 : decode cX11_ahead 74 = .ok (.iload_n 3, 1) := by decide +kernel
theorem dX11_ahead_75 : decode cX11_ahead 75 = .ok (.tableswitch 48 0 2 #[25, 33, 40], 25) := by decide +kernel
theorem dX11_ahead_100 : decode cX11_ahead 100 = .ok (.aload 6, 2) := by decide +kernel
theorem dX11_ahead_102 : decode cX11_ahead 102 = .ok (.iconst 0, 1) := by decide +kernel
theorem dX11_ahead_103 : decode cX11_ahead 103 = .ok (.iload_n 1, 1) := by decide +kernel
theorem dX11_ahead_104 : decode cX11_ahead 104 = .ok (.invokevirtual 229, 3) := by decide +kernel
theorem dX11_ahead_107 : decode cX11_ahead 107 = .ok (.ireturn, 1) := by decide +kernel
theorem dX11_ahead_108 : decode cX11_ahead 108 = .ok (.aload 6, 2) := by decide +kernel
theorem dX11_ahead_110 : decode cX11_ahead 110 = .ok (.iload_n 1, 1) := by decide +kernel
theorem dX11_ahead_111 : decode cX11_ahead 111 = .ok (.invokevirtual 232, 3) := by decide +kernel
theorem dX11_ahead_114 : decode cX11_ahead 114 = .ok (.ireturn, 1) := by decide +kernel
theorem dX11_ahead_115 : decode cX11_ahead 115 = .ok (.aload 6, 2) := by decide +kernel
theorem dX11_ahead_117 : decode cX11_ahead 117 = .ok (.iconst 0, 1) := by decide +kernel
theorem dX11_ahead_118 : decode cX11_ahead 118 = .ok (.iload_n 1, 1) := by decide +kernel
theorem dX11_ahead_119 : decode cX11_ahead 119 = .ok (.invokevirtual 235, 3) := by decide +kernel
theorem dX11_ahead_122 : decode cX11_ahead 122 = .ok (.ireturn, 1) := by decide +kernel
theorem dX11_ahead_123 : decode cX11_ahead 123 = .ok (.aload 6, 2) := by decide +kernel
theorem dX11_ahead_125 : decode cX11_ahead 125 = .ok (.iconst 1, 1) := by decide +kernel
theorem dX11_ahead_126 : decode cX11_ahead 126 = .ok (.iload_n 1, 1) := by decide +kernel
theorem dX11_ahead_127 : decode cX11_ahead 127 = .ok (.invokevirtual 235, 3) := by decide +kernel
theorem dX11_ahead_130 : decode cX11_ahead 130 = .ok (.ireturn, 1) := by decide +kernel
theorem dX11_lasts_0 : decode cX11_lasts 0 = .ok (.aload_n 0, 1) := by decide +kernel
theorem dX11_lasts_1 : decode cX11_lasts 1 = .ok (.getfield 45, 3) := by decide +kernel
theorem dX11_lasts_4 : decode cX11_lasts 4 = .ok (.getfield 119, 3) := by decide +kernel
theorem dX11_lasts_7 : decode cX11_lasts 7 = .ok (.iload_n 1, 1) := by decide +kernel
theorem dX11_lasts_8 : decode cX11_lasts 8 = .ok (.invokevirtual 213, 3) := by decide +kernel
theorem dX11_lasts_11 : decode cX11_lasts 11 = .ok (.ifCond .ne 5, 3) := by decide +kernel
theorem dX11_lasts_14 : decode cX11_lasts 14 = .ok (.iconst (-1), 1) := by decide +kernel
theorem dX11_lasts_15 : decode cX11_lasts 15 = .ok (.ireturn, 1) := by decide +kernel
theorem dX11_lasts_16 : decode cX11_lasts 16 = .ok (.aload_n 0, 1) := by decide +kernel
theorem dX11_lasts_17 : decode cX11_lasts 17 = .ok (.getfield 82, 3) := by decide +kernel
theorem dX11_lasts_20 : decode cX11_lasts 20 = .ok (.aload_n 0, 1) := by decide +kernel
theorem dX11_lasts_21 : decode cX11_lasts 21 = .ok (.getfield 45, 3) := by decide +kernel
theorem dX11_lasts_24 : decode cX11_lasts 24 = .ok (.getfield 119, 3) := by decide +kernel
theorem dX11_lasts_27 : decode cX11_lasts 27 = .ok (.aload_n 0, 1) := by decide +kernel
theorem dX11_lasts_28 : decode cX11_lasts 28 = .ok (.invokevirtual 198, 3) := by decide +kernel
theorem dX11_lasts_31 : decode cX11_lasts 31 = .ok (.iload_n 1, 1) := by decide +kernel
theorem dX11_lasts_32 : decode cX11_lasts 32 = .ok (.bipush 60, 2) := by decide +kernel
theorem dX11_lasts_34 : decode cX11_lasts 34 = .ok (.invokevirtual 238, 3) := by decide +kernel
theorem dX11_lasts_37 : decode cX11_lasts 37 = .ok (.istore_n 2, 1) := by decide +kernel
theorem dX11_lasts_38 : decode cX11_lasts 38 = .ok (.iload_n 2, 1) := by decide +kernel
theorem dX11_lasts_39 : decode cX11_lasts 39 = .ok (.bipush 60, 2) := by decide +kernel
theorem dX11_lasts_41 : decode cX11_lasts 41 = .ok (.if_icmp .ne 8, 3) := by decide +kernel
theorem dX11_lasts_44 : decode cX11_lasts 44 = .ok (.bipush (-2), 2) := by decide +kernel
theorem dX11_lasts_46 : decode cX11_lasts 46 = .ok (.goto 15, 3) := by decide +kernel
theorem dX11_lasts_49 : decode cX11_lasts 49 = .ok (.aload_n 0, 1) := by decide +kernel
theorem dX11_lasts_50 : decode cX11_lasts 50 = .ok (.getfield 45, 3) := by decide +kernel
theorem dX11_lasts_53 : decode cX11_lasts 53 = .ok (.getfield 119, 3) := by decide +kernel
theorem dX11_lasts_56 : decode cX11_lasts 56 = .ok (.getfield 167, 3) := by decide +kernel
theorem dX11_lasts_59 : decode cX11_lasts 59 = .ok (.iload_n 2, 1) := by decide +kernel
theorem dX11_lasts_60 : decode cX11_lasts 60 = .ok (.iadd, 1) := by decide +kernel
theorem dX11_lasts_61 : decode cX11_lasts 61 = .ok (.ireturn, 1) := by decide +kernel
theorem dX11_settled_0 : decode cX11_settled 0 = .ok (.aload_n 0, 1) := by decide +kernel
theorem dX11_settled_1 : decode cX11_settled 1 = .ok (.getfield 45, 3) := by decide +kernel
theorem dX11_settled_4 : decode cX11_settled 4 = .ok (.getfield 119, 3) := by decide +kernel
theorem dX11_settled_7 : decode cX11_settled 7 = .ok (.astore_n 2, 1) := by decide +kernel
theorem dX11_settled_8 : decode cX11_settled 8 = .ok (.aload_n 2, 1) := by decide +kernel
theorem dX11_settled_9 : decode cX11_settled 9 = .ok (.getfield 191, 3) := by decide +kernel
theorem dX11_settled_12 : decode cX11_settled 12 = .ok (.ifCond .eq 12, 3) := by decide +kernel
theorem dX11_settled_15 : decode cX11_settled 15 = .ok (.iload_n 1, 1) := by decide +kernel
theorem dX11_settled_16 : decode cX11_settled 16 = .ok (.ifCond .lt 8, 3) := by decide +kernel
theorem dX11_settled_19 : decode cX11_settled 19 = .ok (.iload_n 1, 1) := by decide +kernel
theorem dX11_settled_20 : decode cX11_settled 20 = .ok (.iconst 5, 1) := by decide +kernel
theorem dX11_settled_21 : decode cX11_settled 21 = .ok (.if_icmp .le 6, 3) := by decide +kernel
theorem dX11_settled_24 : decode cX11_settled 24 = .ok (.bipush (-3), 2) := by decide +kernel
theorem dX11_settled_26 : decode cX11_settled 26 = .ok (.ireturn, 1) := by decide +kernel
theorem dX11_settled_27 : decode cX11_settled 27 = .ok (.iload_n 1, 1) := by decide +kernel
theorem dX11_settled_28 : decode cX11_settled 28 = .ok (.iconst 1, 1) := by decide +kernel
theorem dX11_settled_29 : decode cX11_settled 29 = .ok (.if_icmp .lt 21, 3) := by decide +kernel
theorem dX11_settled_32 : decode cX11_settled 32 = .ok (.iload_n 1, 1) := by decide +kernel
theorem dX11_settled_33 : decode cX11_settled 33 = .ok (.iconst 4, 1) := by decide +kernel
theorem dX11_settled_34 : decode cX11_settled 34 = .ok (.if_icmp .gt 16, 3) := by decide +kernel
theorem dX11_settled_37 : decode cX11_settled 37 = .ok (.aload_n 2, 1) := by decide +kernel
theorem dX11_settled_38 : decode cX11_settled 38 = .ok (.iload_n 1, 1) := by decide +kernel
theorem dX11_settled_39 : decode cX11_settled 39 = .ok (.iconst 1, 1) := by decide +kernel
theorem dX11_settled_40 : decode cX11_settled 40 = .ok (.isub, 1) := by decide +kernel
theorem dX11_settled_41 : decode cX11_settled 41 = .ok (.invokevirtual 242, 3) := by decide +kernel
theorem dX11_settled_44 : decode cX11_settled 44 = .ok (.ifCond .ne 6, 3) := by decide +kernel
theorem dX11_settled_47 : decode cX11_settled 47 = .ok (.bipush (-2), 2) := by decide +kernel
theorem dX11_settled_49 : decode cX11_settled 49 = .ok (.ireturn, 1) := by decide +kernel
theorem dX11_settled_50 : decode cX11_settled 50 = .ok (.aload_n 0, 1) := by decide +kernel
theorem dX11_settled_51 : decode cX11_settled 51 = .ok (.getfield 89, 3) := by decide +kernel
theorem dX11_settled_54 : decode cX11_settled 54 = .ok (.aload_n 2, 1) := by decide +kernel
theorem dX11_settled_55 : decode cX11_settled 55 = .ok (.invokevirtual 245, 3) := by decide +kernel
theorem dX11_settled_58 : decode cX11_settled 58 = .ok (.iload_n 1, 1) := by decide +kernel
theorem dX11_settled_59 : decode cX11_settled 59 = .ok (.lookupswitch 41 #[(0, 25), (5, 33)], 25) := by decide +kernel
theorem dX11_settled_84 : decode cX11_settled 84 = .ok (.aload_n 0, 1) := by decide +kernel
theorem dX11_settled_85 : decode cX11_settled 85 = .ok (.getfield 89, 3) := by decide +kernel
theorem dX11_settled_88 : decode cX11_settled 88 = .ok (.getfield 248, 3) := by decide +kernel
theorem dX11_settled_91 : decode cX11_settled 91 = .ok (.ireturn, 1) := by decide +kernel
theorem dX11_settled_92 : decode cX11_settled 92 = .ok (.aload_n 0, 1) := by decide +kernel
theorem dX11_settled_93 : decode cX11_settled 93 = .ok (.getfield 89, 3) := by decide +kernel
theorem dX11_settled_96 : decode cX11_settled 96 = .ok (.getfield 251, 3) := by decide +kernel
theorem dX11_settled_99 : decode cX11_settled 99 = .ok (.ireturn, 1) := by decide +kernel
theorem dX11_settled_100 : decode cX11_settled 100 = .ok (.aload_n 0, 1) := by decide +kernel
theorem dX11_settled_101 : decode cX11_settled 101 = .ok (.getfield 89, 3) := by decide +kernel
theorem dX11_settled_104 : decode cX11_settled 104 = .ok (.getfield 254, 3) := by decide +kernel
theorem dX11_settled_107 : decode cX11_settled 107 = .ok (.iload_n 1, 1) := by decide +kernel
theorem dX11_settled_108 : decode cX11_settled 108 = .ok (.iconst 1, 1) := by decide +kernel
theorem dX11_settled_109 : decode cX11_settled 109 = .ok (.isub, 1) := by decide +kernel
theorem dX11_settled_110 : decode cX11_settled 110 = .ok (.iaload, 1) := by decide +kernel
theorem dX11_settled_111 : decode cX11_settled 111 = .ok (.ireturn, 1) := by decide +kernel
theorem dX11_tries_0 : decode cX11_tries 0 = .ok (.aload_n 0, 1) := by decide +kernel
theorem dX11_tries_1 : decode cX11_tries 1 = .ok (.getfield 45, 3) := by decide +kernel
theorem dX11_tries_4 : decode cX11_tries 4 = .ok (.getfield 119, 3) := by decide +kernel
theorem dX11_tries_7 : decode cX11_tries 7 = .ok (.iload_n 1, 1) := by decide +kernel
theorem dX11_tries_8 : decode cX11_tries 8 = .ok (.invokevirtual 242, 3) := by decide +kernel
theorem dX11_tries_11 : decode cX11_tries 11 = .ok (.ifCond .eq 23, 3) := by decide +kernel
theorem dX11_tries_14 : decode cX11_tries 14 = .ok (.iload_n 2, 1) := by decide +kernel
theorem dX11_tries_15 : decode cX11_tries 15 = .ok (.iconst 1, 1) := by decide +kernel
theorem dX11_tries_16 : decode cX11_tries 16 = .ok (.if_icmp .lt 18, 3) := by decide +kernel
theorem dX11_tries_19 : decode cX11_tries 19 = .ok (.iload_n 2, 1) := by decide +kernel
theorem dX11_tries_20 : decode cX11_tries 20 = .ok (.bipush 30, 2) := by decide +kernel
theorem dX11_tries_22 : decode cX11_tries 22 = .ok (.if_icmp .gt 12, 3) := by decide +kernel
theorem dX11_tries_25 : decode cX11_tries 25 = .ok (.iload_n 3, 1) := by decide +kernel
theorem dX11_tries_26 : decode cX11_tries 26 = .ok (.ifCond .lt 8, 3) := by decide +kernel
theorem dX11_tries_29 : decode cX11_tries 29 = .ok (.iload_n 3, 1) := by decide +kernel
theorem dX11_tries_30 : decode cX11_tries 30 = .ok (.iconst 1, 1) := by decide +kernel
theorem dX11_tries_31 : decode cX11_tries 31 = .ok (.if_icmp .le 6, 3) := by decide +kernel
theorem dX11_tries_34 : decode cX11_tries 34 = .ok (.bipush (-2), 2) := by decide +kernel
theorem dX11_tries_36 : decode cX11_tries 36 = .ok (.ireturn, 1) := by decide +kernel
theorem dX11_tries_37 : decode cX11_tries 37 = .ok (.aload_n 0, 1) := by decide +kernel
theorem dX11_tries_38 : decode cX11_tries 38 = .ok (.getfield 82, 3) := by decide +kernel
theorem dX11_tries_41 : decode cX11_tries 41 = .ok (.aload_n 0, 1) := by decide +kernel
theorem dX11_tries_42 : decode cX11_tries 42 = .ok (.getfield 45, 3) := by decide +kernel
theorem dX11_tries_45 : decode cX11_tries 45 = .ok (.getfield 119, 3) := by decide +kernel
theorem dX11_tries_48 : decode cX11_tries 48 = .ok (.aload_n 0, 1) := by decide +kernel
theorem dX11_tries_49 : decode cX11_tries 49 = .ok (.invokevirtual 198, 3) := by decide +kernel
theorem dX11_tries_52 : decode cX11_tries 52 = .ok (.iload_n 1, 1) := by decide +kernel
theorem dX11_tries_53 : decode cX11_tries 53 = .ok (.iload_n 2, 1) := by decide +kernel
theorem dX11_tries_54 : decode cX11_tries 54 = .ok (.invokevirtual 258, 3) := by decide +kernel
theorem dX11_tries_57 : decode cX11_tries 57 = .ok (.iload_n 3, 1) := by decide +kernel
theorem dX11_tries_58 : decode cX11_tries 58 = .ok (.ifCond .ne 13, 3) := by decide +kernel
theorem dX11_tries_61 : decode cX11_tries 61 = .ok (.aload_n 0, 1) := by decide +kernel
theorem dX11_tries_62 : decode cX11_tries 62 = .ok (.getfield 82, 3) := by decide +kernel
theorem dX11_tries_65 : decode cX11_tries 65 = .ok (.getfield 262, 3) := by decide +kernel
theorem dX11_tries_68 : decode cX11_tries 68 = .ok (.goto 10, 3) := by decide +kernel
theorem dX11_tries_71 : decode cX11_tries 71 = .ok (.aload_n 0, 1) := by decide +kernel
theorem dX11_tries_72 : decode cX11_tries 72 = .ok (.getfield 82, 3) := by decide +kernel
theorem dX11_tries_75 : decode cX11_tries 75 = .ok (.getfield 265, 3) := by decide +kernel
theorem dX11_tries_78 : decode cX11_tries 78 = .ok (.ireturn, 1) := by decide +kernel
theorem dX11_liked_0 : decode cX11_liked 0 = .ok (.aload_n 0, 1) := by decide +kernel
theorem dX11_liked_1 : decode cX11_liked 1 = .ok (.getfield 45, 3) := by decide +kernel
theorem dX11_liked_4 : decode cX11_liked 4 = .ok (.getfield 119, 3) := by decide +kernel
theorem dX11_liked_7 : decode cX11_liked 7 = .ok (.astore_n 2, 1) := by decide +kernel
theorem dX11_liked_8 : decode cX11_liked 8 = .ok (.aload_n 2, 1) := by decide +kernel
theorem dX11_liked_9 : decode cX11_liked 9 = .ok (.getfield 191, 3) := by decide +kernel
theorem dX11_liked_12 : decode cX11_liked 12 = .ok (.ifCond .eq 12, 3) := by decide +kernel
theorem dX11_liked_15 : decode cX11_liked 15 = .ok (.iload_n 1, 1) := by decide +kernel
theorem dX11_liked_16 : decode cX11_liked 16 = .ok (.ifCond .lt 8, 3) := by decide +kernel
theorem dX11_liked_19 : decode cX11_liked 19 = .ok (.iload_n 1, 1) := by decide +kernel
theorem dX11_liked_20 : decode cX11_liked 20 = .ok (.iconst 1, 1) := by decide +kernel
theorem dX11_liked_21 : decode cX11_liked 21 = .ok (.if_icmp .le 5, 3) := by decide +kernel
theorem dX11_liked_24 : decode cX11_liked 24 = .ok (.iconst (-1), 1) := by decide +kernel
theorem dX11_liked_25 : decode cX11_liked 25 = .ok (.ireturn, 1) := by decide +kernel
theorem dX11_liked_26 : decode cX11_liked 26 = .ok (.bipush (-2), 2) := by decide +kernel
theorem dX11_liked_28 : decode cX11_liked 28 = .ok (.istore_n 3, 1) := by decide +kernel
theorem dX11_liked_29 : decode cX11_liked 29 = .ok (.bipush (-2), 2) := by decide +kernel
theorem dX11_liked_31 : decode cX11_liked 31 = .ok (.istore 4, 2) := by decide +kernel
theorem dX11_liked_33 : decode cX11_liked 33 = .ok (.iconst 0, 1) := by decide +kernel
theorem dX11_liked_34 : decode cX11_liked 34 = .ok (.istore 5, 2) := by decide +kernel
theorem dX11_liked_36 : decode cX11_liked 36 = .ok (.iload 5, 2) := by decide +kernel
theorem dX11_liked_38 : decode cX11_liked 38 = .ok (.aload_n 2, 1) := by decide +kernel
theorem dX11_liked_39 : decode cX11_liked 39 = .ok (.getfield 125, 3) := by decide +kernel
theorem dX11_liked_42 : decode cX11_liked 42 = .ok (.if_icmp .ge 58, 3) := by decide +kernel
theorem dX11_liked_45 : decode cX11_liked 45 = .ok (.iconst 0, 1) := by decide +kernel
theorem dX11_liked_46 : decode cX11_liked 46 = .ok (.istore 6, 2) := by decide +kernel
theorem dX11_liked_48 : decode cX11_liked 48 = .ok (.iconst 0, 1) := by decide +kernel
theorem dX11_liked_49 : decode cX11_liked 49 = .ok (.istore 7, 2) := by decide +kernel
theorem dX11_liked_51 : decode cX11_liked 51 = .ok (.iload 7, 2) := by decide +kernel
theorem dX11_liked_53 : decode cX11_liked 53 = .ok (.aload_n 2, 1) := by decide +kernel
theorem dX11_liked_54 : decode cX11_liked 54 = .ok (.getfield 164, 3) := by decide +kernel
theorem dX11_liked_57 : decode cX11_liked 57 = .ok (.if_icmp .ge 23, 3) := by decide +kernel
theorem dX11_liked_60 : decode cX11_liked 60 = .ok (.iload 6, 2) := by decide +kernel
theorem dX11_liked_62 : decode cX11_liked 62 = .ok (.aload_n 2, 1) := by decide +kernel
theorem dX11_liked_63 : decode cX11_liked 63 = .ok (.iconst 1, 1) := by decide +kernel
theorem dX11_liked_64 : decode cX11_liked 64 = .ok (.iload 5, 2) := by decide +kernel
theorem dX11_liked_66 : decode cX11_liked 66 = .ok (.iload 7, 2) := by decide +kernel
theorem dX11_liked_68 : decode cX11_liked 68 = .ok (.invokevirtual 155, 3) := by decide +kernel
theorem dX11_liked_71 : decode cX11_liked 71 = .ok (.iadd, 1) := by decide +kernel
theorem dX11_liked_72 : decode cX11_liked 72 = .ok (.istore 6, 2) := by decide +kernel
theorem dX11_liked_74 : decode cX11_liked 74 = .ok (.iinc 7 1, 3) := by decide +kernel
theorem dX11_liked_77 : decode cX11_liked 77 = .ok (.goto (-26), 3) := by decide +kernel
theorem dX11_liked_80 : decode cX11_liked 80 = .ok (.iload 6, 2) := by decide +kernel
theorem dX11_liked_82 : decode cX11_liked 82 = .ok (.iload 4, 2) := by decide +kernel
theorem dX11_liked_84 : decode cX11_liked 84 = .ok (.if_icmp .le 10, 3) := by decide +kernel
theorem dX11_liked_87 : decode cX11_liked 87 = .ok (.iload 5, 2) := by decide +kernel
theorem dX11_liked_89 : decode cX11_liked 89 = .ok (.istore_n 3, 1) := by decide +kernel
theorem dX11_liked_90 : decode cX11_liked 90 = .ok (.iload 6, 2) := by decide +kernel
theorem dX11_liked_92 : decode cX11_liked 92 = .ok (.istore 4, 2) := by decide +kernel
theorem dX11_liked_94 : decode cX11_liked 94 = .ok (.iinc 5 1, 3) := by decide +kernel
theorem dX11_liked_97 : decode cX11_liked 97 = .ok (.goto (-61), 3) := by decide +kernel
theorem dX11_liked_100 : decode cX11_liked 100 = .ok (.iload_n 1, 1) := by decide +kernel
theorem dX11_liked_101 : decode cX11_liked 101 = .ok (.ifCond .ne 7, 3) := by decide +kernel
theorem dX11_liked_104 : decode cX11_liked 104 = .ok (.iload_n 3, 1) := by decide +kernel
theorem dX11_liked_105 : decode cX11_liked 105 = .ok (.goto 5, 3) := by decide +kernel
theorem dX11_liked_108 : decode cX11_liked 108 = .ok (.iload 4, 2) := by decide +kernel
theorem dX11_liked_110 : decode cX11_liked 110 = .ok (.ireturn, 1) := by decide +kernel
theorem dX11_doors_0 : decode cX11_doors 0 = .ok (.aload_n 0, 1) := by decide +kernel
theorem dX11_doors_1 : decode cX11_doors 1 = .ok (.getfield 45, 3) := by decide +kernel
theorem dX11_doors_4 : decode cX11_doors 4 = .ok (.getfield 119, 3) := by decide +kernel
theorem dX11_doors_7 : decode cX11_doors 7 = .ok (.iload_n 1, 1) := by decide +kernel
theorem dX11_doors_8 : decode cX11_doors 8 = .ok (.invokevirtual 213, 3) := by decide +kernel
theorem dX11_doors_11 : decode cX11_doors 11 = .ok (.ifCond .eq 12, 3) := by decide +kernel
theorem dX11_doors_14 : decode cX11_doors 14 = .ok (.iload_n 2, 1) := by decide +kernel
theorem dX11_doors_15 : decode cX11_doors 15 = .ok (.ifCond .lt 8, 3) := by decide +kernel
theorem dX11_doors_18 : decode cX11_doors 18 = .ok (.iload_n 2, 1) := by decide +kernel
theorem dX11_doors_19 : decode cX11_doors 19 = .ok (.iconst 1, 1) := by decide +kernel
theorem dX11_doors_20 : decode cX11_doors 20 = .ok (.if_icmp .le 5, 3) := by decide +kernel
theorem dX11_doors_23 : decode cX11_doors 23 = .ok (.iconst (-1), 1) := by decide +kernel
theorem dX11_doors_24 : decode cX11_doors 24 = .ok (.ireturn, 1) := by decide +kernel
theorem dX11_doors_25 : decode cX11_doors 25 = .ok (.iconst 0, 1) := by decide +kernel
theorem dX11_doors_26 : decode cX11_doors 26 = .ok (.istore_n 3, 1) := by decide +kernel
theorem dX11_doors_27 : decode cX11_doors 27 = .ok (.bipush (-2), 2) := by decide +kernel
theorem dX11_doors_29 : decode cX11_doors 29 = .ok (.istore 4, 2) := by decide +kernel
theorem dX11_doors_31 : decode cX11_doors 31 = .ok (.iconst 3, 1) := by decide +kernel
theorem dX11_doors_32 : decode cX11_doors 32 = .ok (.istore 5, 2) := by decide +kernel
theorem dX11_doors_34 : decode cX11_doors 34 = .ok (.iload 5, 2) := by decide +kernel
theorem dX11_doors_36 : decode cX11_doors 36 = .ok (.ifCond .lt 32, 3) := by decide +kernel
theorem dX11_doors_39 : decode cX11_doors 39 = .ok (.aload_n 0, 1) := by decide +kernel
theorem dX11_doors_40 : decode cX11_doors 40 = .ok (.iload_n 1, 1) := by decide +kernel
theorem dX11_doors_41 : decode cX11_doors 41 = .ok (.iload 5, 2) := by decide +kernel
theorem dX11_doors_43 : decode cX11_doors 43 = .ok (.iconst 1, 1) := by decide +kernel
theorem dX11_doors_44 : decode cX11_doors 44 = .ok (.ishr, 1) := by decide +kernel
theorem dX11_doors_45 : decode cX11_doors 45 = .ok (.iload 5, 2) := by decide +kernel
theorem dX11_doors_47 : decode cX11_doors 47 = .ok (.iconst 1, 1) := by decide +kernel
theorem dX11_doors_48 : decode cX11_doors 48 = .ok (.iand, 1) := by decide +kernel
theorem dX11_doors_49 : decode cX11_doors 49 = .ok (.invokevirtual 268, 3) := by decide +kernel
theorem dX11_doors_52 : decode cX11_doors 52 = .ok (.ifCond .eq 10, 3) := by decide +kernel
theorem dX11_doors_55 : decode cX11_doors 55 = .ok (.iinc 3 1, 3) := by decide +kernel
theorem dX11_doors_58 : decode cX11_doors 58 = .ok (.iload 5, 2) := by decide +kernel
theorem dX11_doors_60 : decode cX11_doors 60 = .ok (.istore 4, 2) := by decide +kernel
theorem dX11_doors_62 : decode cX11_doors 62 = .ok (.iinc 5 (-1), 3) := by decide +kernel
theorem dX11_doors_65 : decode cX11_doors 65 = .ok (.goto (-31), 3) := by decide +kernel
theorem dX11_doors_68 : decode cX11_doors 68 = .ok (.iload_n 2, 1) := by decide +kernel
theorem dX11_doors_69 : decode cX11_doors 69 = .ok (.ifCond .ne 7, 3) := by decide +kernel
theorem dX11_doors_72 : decode cX11_doors 72 = .ok (.iload_n 3, 1) := by decide +kernel
theorem dX11_doors_73 : decode cX11_doors 73 = .ok (.goto 5, 3) := by decide +kernel
theorem dX11_doors_76 : decode cX11_doors 76 = .ok (.iload 4, 2) := by decide +kernel
theorem dX11_doors_78 : decode cX11_doors 78 = .ok (.ireturn, 1) := by decide +kernel
theorem dX11_neitherWouldChange_0 : decode cX11_neitherWouldChange 0 = .ok (.aload_n 0, 1) := by decide +kernel
theorem dX11_neitherWouldChange_1 : decode cX11_neitherWouldChange 1 = .ok (.iconst 0, 1) := by decide +kernel
theorem dX11_neitherWouldChange_2 : decode cX11_neitherWouldChange 2 = .ok (.iload_n 1, 1) := by decide +kernel
theorem dX11_neitherWouldChange_3 : decode cX11_neitherWouldChange 3 = .ok (.iconst 1, 1) := by decide +kernel
theorem dX11_neitherWouldChange_4 : decode cX11_neitherWouldChange 4 = .ok (.iload_n 2, 1) := by decide +kernel
theorem dX11_neitherWouldChange_5 : decode cX11_neitherWouldChange 5 = .ok (.isub, 1) := by decide +kernel
theorem dX11_neitherWouldChange_6 : decode cX11_neitherWouldChange 6 = .ok (.iload_n 3, 1) := by decide +kernel
theorem dX11_neitherWouldChange_7 : decode cX11_neitherWouldChange 7 = .ok (.invokevirtual 272, 3) := by decide +kernel
theorem dX11_neitherWouldChange_10 : decode cX11_neitherWouldChange 10 = .ok (.aload_n 0, 1) := by decide +kernel
theorem dX11_neitherWouldChange_11 : decode cX11_neitherWouldChange 11 = .ok (.iconst 0, 1) := by decide +kernel
theorem dX11_neitherWouldChange_12 : decode cX11_neitherWouldChange 12 = .ok (.iload_n 1, 1) := by decide +kernel
theorem dX11_neitherWouldChange_13 : decode cX11_neitherWouldChange 13 = .ok (.iload_n 2, 1) := by decide +kernel
theorem dX11_neitherWouldChange_14 : decode cX11_neitherWouldChange 14 = .ok (.iload_n 3, 1) := by decide +kernel
theorem dX11_neitherWouldChange_15 : decode cX11_neitherWouldChange 15 = .ok (.invokevirtual 272, 3) := by decide +kernel
theorem dX11_neitherWouldChange_18 : decode cX11_neitherWouldChange 18 = .ok (.if_icmp .gt 28, 3) := by decide +kernel
theorem dX11_neitherWouldChange_21 : decode cX11_neitherWouldChange 21 = .ok (.aload_n 0, 1) := by decide +kernel
theorem dX11_neitherWouldChange_22 : decode cX11_neitherWouldChange 22 = .ok (.iconst 1, 1) := by decide +kernel
theorem dX11_neitherWouldChange_23 : decode cX11_neitherWouldChange 23 = .ok (.iload_n 1, 1) := by decide +kernel
theorem dX11_neitherWouldChange_24 : decode cX11_neitherWouldChange 24 = .ok (.iconst 1, 1) := by decide +kernel
theorem dX11_neitherWouldChange_25 : decode cX11_neitherWouldChange 25 = .ok (.iload_n 3, 1) := by decide +kernel
theorem dX11_neitherWouldChange_26 : decode cX11_neitherWouldChange 26 = .ok (.isub, 1) := by decide +kernel
theorem dX11_neitherWouldChange_27 : decode cX11_neitherWouldChange 27 = .ok (.iload_n 2, 1) := by decide +kernel
theorem dX11_neitherWouldChange_28 : decode cX11_neitherWouldChange 28 = .ok (.invokevirtual 272, 3) := by decide +kernel
theorem dX11_neitherWouldChange_31 : decode cX11_neitherWouldChange 31 = .ok (.aload_n 0, 1) := by decide +kernel
theorem dX11_neitherWouldChange_32 : decode cX11_neitherWouldChange 32 = .ok (.iconst 1, 1) := by decide +kernel
theorem dX11_neitherWouldChange_33 : decode cX11_neitherWouldChange 33 = .ok (.iload_n 1, 1) := by decide +kernel
theorem dX11_neitherWouldChange_34 : decode cX11_neitherWouldChange 34 = .ok (.iload_n 3, 1) := by decide +kernel
theorem dX11_neitherWouldChange_35 : decode cX11_neitherWouldChange 35 = .ok (.iload_n 2, 1) := by decide +kernel
theorem dX11_neitherWouldChange_36 : decode cX11_neitherWouldChange 36 = .ok (.invokevirtual 272, 3) := by decide +kernel
theorem dX11_neitherWouldChange_39 : decode cX11_neitherWouldChange 39 = .ok (.if_icmp .gt 7, 3) := by decide +kernel
theorem dX11_neitherWouldChange_42 : decode cX11_neitherWouldChange 42 = .ok (.iconst 1, 1) := by decide +kernel
theorem dX11_neitherWouldChange_43 : decode cX11_neitherWouldChange 43 = .ok (.goto 4, 3) := by decide +kernel
theorem dX11_neitherWouldChange_46 : decode cX11_neitherWouldChange 46 = .ok (.iconst 0, 1) := by decide +kernel
theorem dX11_neitherWouldChange_47 : decode cX11_neitherWouldChange 47 = .ok (.ireturn, 1) := by decide +kernel
theorem dX11_doorValue_0 : decode cX11_doorValue 0 = .ok (.aload_n 0, 1) := by decide +kernel
theorem dX11_doorValue_1 : decode cX11_doorValue 1 = .ok (.getfield 45, 3) := by decide +kernel
theorem dX11_doorValue_4 : decode cX11_doorValue 4 = .ok (.getfield 119, 3) := by decide +kernel
theorem dX11_doorValue_7 : decode cX11_doorValue 7 = .ok (.astore 5, 2) := by decide +kernel
theorem dX11_doorValue_9 : decode cX11_doorValue 9 = .ok (.iload_n 3, 1) := by decide +kernel
theorem dX11_doorValue_10 : decode cX11_doorValue 10 = .ok (.iconst 1, 1) := by decide +kernel
theorem dX11_doorValue_11 : decode cX11_doorValue 11 = .ok (.if_icmp .ne 24, 3) := by decide +kernel
theorem dX11_doorValue_14 : decode cX11_doorValue 14 = .ok (.iload 4, 2) := by decide +kernel
theorem dX11_doorValue_16 : decode cX11_doorValue 16 = .ok (.ifCond .ne 11, 3) := by decide +kernel
theorem dX11_doorValue_19 : decode cX11_doorValue 19 = .ok (.aload 5, 2) := by decide +kernel
theorem dX11_doorValue_21 : decode cX11_doorValue 21 = .ok (.getfield 161, 3) := by decide +kernel
theorem dX11_doorValue_24 : decode cX11_doorValue 24 = .ok (.goto 10, 3) := by decide +kernel
theorem dX11_doorValue_27 : decode cX11_doorValue 27 = .ok (.aload 5, 2) := by decide +kernel
theorem dX11_doorValue_29 : decode cX11_doorValue 29 = .ok (.getfield 161, 3) := by decide +kernel
theorem dX11_doorValue_32 : decode cX11_doorValue 32 = .ok (.iconst 2, 1) := by decide +kernel
theorem dX11_doorValue_33 : decode cX11_doorValue 33 = .ok (.idiv, 1) := by decide +kernel
theorem dX11_doorValue_34 : decode cX11_doorValue 34 = .ok (.ireturn, 1) := by decide +kernel
theorem dX11_doorValue_35 : decode cX11_doorValue 35 = .ok (.iload 4, 2) := by decide +kernel
theorem dX11_doorValue_37 : decode cX11_doorValue 37 = .ok (.iconst 1, 1) := by decide +kernel
theorem dX11_doorValue_38 : decode cX11_doorValue 38 = .ok (.if_icmp .ne 14, 3) := by decide +kernel
theorem dX11_doorValue_41 : decode cX11_doorValue 41 = .ok (.aload 5, 2) := by decide +kernel
theorem dX11_doorValue_43 : decode cX11_doorValue 43 = .ok (.getfield 158, 3) := by decide +kernel
theorem dX11_doorValue_46 : decode cX11_doorValue 46 = .ok (.iconst 2, 1) := by decide +kernel
theorem dX11_doorValue_47 : decode cX11_doorValue 47 = .ok (.idiv, 1) := by decide +kernel
theorem dX11_doorValue_48 : decode cX11_doorValue 48 = .ok (.bipush 10, 2) := by decide +kernel
theorem dX11_doorValue_50 : decode cX11_doorValue 50 = .ok (.isub, 1) := by decide +kernel
theorem dX11_doorValue_51 : decode cX11_doorValue 51 = .ok (.ireturn, 1) := by decide +kernel
theorem dX11_doorValue_52 : decode cX11_doorValue 52 = .ok (.aload 5, 2) := by decide +kernel
theorem dX11_doorValue_54 : decode cX11_doorValue 54 = .ok (.iconst 0, 1) := by decide +kernel
theorem dX11_doorValue_55 : decode cX11_doorValue 55 = .ok (.iload_n 2, 1) := by decide +kernel
theorem dX11_doorValue_56 : decode cX11_doorValue 56 = .ok (.invokevirtual 229, 3) := by decide +kernel
theorem dX11_doorValue_59 : decode cX11_doorValue 59 = .ok (.istore 6, 2) := by decide +kernel
theorem dX11_doorValue_61 : decode cX11_doorValue 61 = .ok (.iload 6, 2) := by decide +kernel
theorem dX11_doorValue_63 : decode cX11_doorValue 63 = .ok (.ifCond .ge 7, 3) := by decide +kernel
theorem dX11_doorValue_66 : decode cX11_doorValue 66 = .ok (.iconst 0, 1) := by decide +kernel
theorem dX11_doorValue_67 : decode cX11_doorValue 67 = .ok (.goto 20, 3) := by decide +kernel
theorem dX11_doorValue_70 : decode cX11_doorValue 70 = .ok (.aload 5, 2) := by decide +kernel
theorem dX11_doorValue_72 : decode cX11_doorValue 72 = .ok (.iload_n 1, 1) := by decide +kernel
theorem dX11_doorValue_73 : decode cX11_doorValue 73 = .ok (.iload_n 2, 1) := by decide +kernel
theorem dX11_doorValue_74 : decode cX11_doorValue 74 = .ok (.iload 6, 2) := by decide +kernel
theorem dX11_doorValue_76 : decode cX11_doorValue 76 = .ok (.invokevirtual 152, 3) := by decide +kernel
theorem dX11_doorValue_79 : decode cX11_doorValue 79 = .ok (.aload 5, 2) := by decide +kernel
theorem dX11_doorValue_81 : decode cX11_doorValue 81 = .ok (.getfield 276, 3) := by decide +kernel
theorem dX11_doorValue_84 : decode cX11_doorValue 84 = .ok (.iload_n 2, 1) := by decide +kernel
theorem dX11_doorValue_85 : decode cX11_doorValue 85 = .ok (.iaload, 1) := by decide +kernel
theorem dX11_doorValue_86 : decode cX11_doorValue 86 = .ok (.isub, 1) := by decide +kernel
theorem dX11_doorValue_87 : decode cX11_doorValue 87 = .ok (.ireturn, 1) := by decide +kernel
theorem dX11_keep_0 : decode cX11_keep 0 = .ok (.aload_n 0, 1) := by decide +kernel
theorem dX11_keep_1 : decode cX11_keep 1 = .ok (.getfield 45, 3) := by decide +kernel
theorem dX11_keep_4 : decode cX11_keep 4 = .ok (.getfield 119, 3) := by decide +kernel
theorem dX11_keep_7 : decode cX11_keep 7 = .ok (.iload_n 1, 1) := by decide +kernel
theorem dX11_keep_8 : decode cX11_keep 8 = .ok (.invokevirtual 213, 3) := by decide +kernel
theorem dX11_keep_11 : decode cX11_keep 11 = .ok (.ifCond .eq 14, 3) := by decide +kernel
theorem dX11_keep_14 : decode cX11_keep 14 = .ok (.iload_n 2, 1) := by decide +kernel
theorem dX11_keep_15 : decode cX11_keep 15 = .ok (.iconst 1, 1) := by decide +kernel
theorem dX11_keep_16 : decode cX11_keep 16 = .ok (.if_icmp .lt 9, 3) := by decide +kernel
theorem dX11_keep_19 : decode cX11_keep 19 = .ok (.iload_n 2, 1) := by decide +kernel
theorem dX11_keep_20 : decode cX11_keep 20 = .ok (.bipush 30, 2) := by decide +kernel
theorem dX11_keep_22 : decode cX11_keep 22 = .ok (.if_icmp .le 5, 3) := by decide +kernel
theorem dX11_keep_25 : decode cX11_keep 25 = .ok (.iconst (-1), 1) := by decide +kernel
theorem dX11_keep_26 : decode cX11_keep 26 = .ok (.ireturn, 1) := by decide +kernel
theorem dX11_keep_27 : decode cX11_keep 27 = .ok (.aload_n 0, 1) := by decide +kernel
theorem dX11_keep_28 : decode cX11_keep 28 = .ok (.getfield 82, 3) := by decide +kernel
theorem dX11_keep_31 : decode cX11_keep 31 = .ok (.aload_n 0, 1) := by decide +kernel
theorem dX11_keep_32 : decode cX11_keep 32 = .ok (.getfield 45, 3) := by decide +kernel
theorem dX11_keep_35 : decode cX11_keep 35 = .ok (.getfield 119, 3) := by decide +kernel
theorem dX11_keep_38 : decode cX11_keep 38 = .ok (.aload_n 0, 1) := by decide +kernel
theorem dX11_keep_39 : decode cX11_keep 39 = .ok (.invokevirtual 198, 3) := by decide +kernel
theorem dX11_keep_42 : decode cX11_keep 42 = .ok (.iload_n 1, 1) := by decide +kernel
theorem dX11_keep_43 : decode cX11_keep 43 = .ok (.iload_n 2, 1) := by decide +kernel
theorem dX11_keep_44 : decode cX11_keep 44 = .ok (.invokevirtual 279, 3) := by decide +kernel
theorem dX11_keep_47 : decode cX11_keep 47 = .ok (.ireturn, 1) := by decide +kernel
theorem dX11_note_0 : decode cX11_note 0 = .ok (.iload_n 1, 1) := by decide +kernel
theorem dX11_note_1 : decode cX11_note 1 = .ok (.iconst (-1), 1) := by decide +kernel
theorem dX11_note_2 : decode cX11_note 2 = .ok (.if_icmp .ne 13, 3) := by decide +kernel
theorem dX11_note_5 : decode cX11_note 5 = .ok (.aload_n 0, 1) := by decide +kernel
theorem dX11_note_6 : decode cX11_note 6 = .ok (.getfield 45, 3) := by decide +kernel
theorem dX11_note_9 : decode cX11_note 9 = .ok (.iconst 0, 1) := by decide +kernel
theorem dX11_note_10 : decode cX11_note 10 = .ok (.putfield 122, 3) := by decide +kernel
theorem dX11_note_13 : decode cX11_note 13 = .ok (.iconst 0, 1) := by decide +kernel
theorem dX11_note_14 : decode cX11_note 14 = .ok (.ireturn, 1) := by decide +kernel
theorem dX11_note_15 : decode cX11_note 15 = .ok (.aload_n 0, 1) := by decide +kernel
theorem dX11_note_16 : decode cX11_note 16 = .ok (.getfield 45, 3) := by decide +kernel
theorem dX11_note_19 : decode cX11_note 19 = .ok (.getfield 119, 3) := by decide +kernel
theorem dX11_note_22 : decode cX11_note 22 = .ok (.iload_n 2, 1) := by decide +kernel
theorem dX11_note_23 : decode cX11_note 23 = .ok (.invokevirtual 142, 3) := by decide +kernel
theorem dX11_note_26 : decode cX11_note 26 = .ok (.ifCond .eq 26, 3) := by decide +kernel
