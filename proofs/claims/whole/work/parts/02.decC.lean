theorem dX8_init_0 : decode cX8_init 0 = .ok (.aload_n 0, 1) := by decide +kernel
theorem dX8_init_1 : decode cX8_init 1 = .ok (.invokespecial 3, 3) := by decide +kernel
theorem dX8_init_4 : decode cX8_init 4 = .ok (.aload_n 0, 1) := by decide +kernel
theorem dX8_init_5 : decode cX8_init 5 = .ok (.iconst (-1), 1) := by decide +kernel
theorem dX8_init_6 : decode cX8_init 6 = .ok (.putfield 9, 3) := by decide +kernel
theorem dX8_init_9 : decode cX8_init 9 = .ok (.aload_n 0, 1) := by decide +kernel
theorem dX8_init_10 : decode cX8_init 10 = .ok (.sipush 900, 3) := by decide +kernel
theorem dX8_init_13 : decode cX8_init 13 = .ok (.newarray .byte, 2) := by decide +kernel
theorem dX8_init_15 : decode cX8_init 15 = .ok (.putfield 13, 3) := by decide +kernel
theorem dX8_init_18 : decode cX8_init 18 = .ok (.aload_n 0, 1) := by decide +kernel
theorem dX8_init_19 : decode cX8_init 19 = .ok (.bipush 25, 2) := by decide +kernel
theorem dX8_init_21 : decode cX8_init 21 = .ok (.newarray .int, 2) := by decide +kernel
theorem dX8_init_23 : decode cX8_init 23 = .ok (.putfield 17, 3) := by decide +kernel
theorem dX8_init_26 : decode cX8_init 26 = .ok (.aload_n 0, 1) := by decide +kernel
theorem dX8_init_27 : decode cX8_init 27 = .ok (.bipush 25, 2) := by decide +kernel
theorem dX8_init_29 : decode cX8_init 29 = .ok (.newarray .int, 2) := by decide +kernel
theorem dX8_init_31 : decode cX8_init 31 = .ok (.putfield 21, 3) := by decide +kernel
theorem dX8_init_34 : decode cX8_init 34 = .ok (.aload_n 0, 1) := by decide +kernel
theorem dX8_init_35 : decode cX8_init 35 = .ok (.sipush 400, 3) := by decide +kernel
theorem dX8_init_38 : decode cX8_init 38 = .ok (.newarray .int, 2) := by decide +kernel
theorem dX8_init_40 : decode cX8_init 40 = .ok (.putfield 24, 3) := by decide +kernel
theorem dX8_init_43 : decode cX8_init 43 = .ok (.aload_n 0, 1) := by decide +kernel
theorem dX8_init_44 : decode cX8_init 44 = .ok (.bipush 75, 2) := by decide +kernel
theorem dX8_init_46 : decode cX8_init 46 = .ok (.newarray .int, 2) := by decide +kernel
theorem dX8_init_48 : decode cX8_init 48 = .ok (.putfield 27, 3) := by decide +kernel
theorem dX8_init_51 : decode cX8_init 51 = .ok (.aload_n 0, 1) := by decide +kernel
theorem dX8_init_52 : decode cX8_init 52 = .ok (.bipush 8, 2) := by decide +kernel
theorem dX8_init_54 : decode cX8_init 54 = .ok (.newarray .long, 2) := by decide +kernel
theorem dX8_init_56 : decode cX8_init 56 = .ok (.putfield 30, 3) := by decide +kernel
theorem dX8_init_59 : decode cX8_init 59 = .ok (.aload_n 0, 1) := by decide +kernel
theorem dX8_init_60 : decode cX8_init 60 = .ok (.bipush 8, 2) := by decide +kernel
theorem dX8_init_62 : decode cX8_init 62 = .ok (.newarray .int, 2) := by decide +kernel
theorem dX8_init_64 : decode cX8_init 64 = .ok (.putfield 34, 3) := by decide +kernel
theorem dX8_init_67 : decode cX8_init 67 = .ok (.aload_n 0, 1) := by decide +kernel
theorem dX8_init_68 : decode cX8_init 68 = .ok (.bipush 8, 2) := by decide +kernel
theorem dX8_init_70 : decode cX8_init 70 = .ok (.newarray .int, 2) := by decide +kernel
theorem dX8_init_72 : decode cX8_init 72 = .ok (.putfield 37, 3) := by decide +kernel
theorem dX8_init_75 : decode cX8_init 75 = .ok (.aload_n 0, 1) := by decide +kernel
theorem dX8_init_76 : decode cX8_init 76 = .ok (.iconst 5, 1) := by decide +kernel
theorem dX8_init_77 : decode cX8_init 77 = .ok (.newarray .int, 2) := by decide +kernel
theorem dX8_init_79 : decode cX8_init 79 = .ok (.putfield 40, 3) := by decide +kernel
theorem dX8_init_82 : decode cX8_init 82 = .ok (.return_, 1) := by decide +kernel
theorem dX8_thrown_0 : decode cX8_thrown 0 = .ok (.aload_n 0, 1) := by decide +kernel
theorem dX8_thrown_1 : decode cX8_thrown 1 = .ok (.getfield 43, 3) := by decide +kernel
theorem dX8_thrown_4 : decode cX8_thrown 4 = .ok (.ireturn, 1) := by decide +kernel
theorem dX8_refused_0 : decode cX8_refused 0 = .ok (.aload_n 0, 1) := by decide +kernel
theorem dX8_refused_1 : decode cX8_refused 1 = .ok (.iload_n 1, 1) := by decide +kernel
theorem dX8_refused_2 : decode cX8_refused 2 = .ok (.putfield 46, 3) := by decide +kernel
theorem dX8_refused_5 : decode cX8_refused 5 = .ok (.aload_n 0, 1) := by decide +kernel
theorem dX8_refused_6 : decode cX8_refused 6 = .ok (.iconst (-1), 1) := by decide +kernel
theorem dX8_refused_7 : decode cX8_refused 7 = .ok (.putfield 9, 3) := by decide +kernel
theorem dX8_refused_10 : decode cX8_refused 10 = .ok (.iconst (-1), 1) := by decide +kernel
theorem dX8_refused_11 : decode cX8_refused 11 = .ok (.ireturn, 1) := by decide +kernel
theorem dX8_lost_0 : decode cX8_lost 0 = .ok (.aload_n 0, 1) := by decide +kernel
theorem dX8_lost_1 : decode cX8_lost 1 = .ok (.iload_n 1, 1) := by decide +kernel
theorem dX8_lost_2 : decode cX8_lost 2 = .ok (.invokevirtual 49, 3) := by decide +kernel
theorem dX8_lost_5 : decode cX8_lost 5 = .ok (.pop, 1) := by decide +kernel
theorem dX8_lost_6 : decode cX8_lost 6 = .ok (.bipush (-100), 2) := by decide +kernel
theorem dX8_lost_8 : decode cX8_lost 8 = .ok (.ireturn, 1) := by decide +kernel
theorem dX8_denied_0 : decode cX8_denied 0 = .ok (.aload_n 0, 1) := by decide +kernel
theorem dX8_denied_1 : decode cX8_denied 1 = .ok (.iload_n 1, 1) := by decide +kernel
theorem dX8_denied_2 : decode cX8_denied 2 = .ok (.invokevirtual 49, 3) := by decide +kernel
theorem dX8_denied_5 : decode cX8_denied 5 = .ok (.pop, 1) := by decide +kernel
theorem dX8_denied_6 : decode cX8_denied 6 = .ok (.iconst 0, 1) := by decide +kernel
theorem dX8_denied_7 : decode cX8_denied 7 = .ok (.ireturn, 1) := by decide +kernel
theorem dX8_good_0 : decode cX8_good 0 = .ok (.aload_n 0, 1) := by decide +kernel
theorem dX8_good_1 : decode cX8_good 1 = .ok (.iconst 0, 1) := by decide +kernel
theorem dX8_good_2 : decode cX8_good 2 = .ok (.putfield 46, 3) := by decide +kernel
theorem dX8_good_5 : decode cX8_good 5 = .ok (.aload_n 0, 1) := by decide +kernel
theorem dX8_good_6 : decode cX8_good 6 = .ok (.iconst (-1), 1) := by decide +kernel
theorem dX8_good_7 : decode cX8_good 7 = .ok (.putfield 9, 3) := by decide +kernel
theorem dX8_good_10 : decode cX8_good 10 = .ok (.iload_n 1, 1) := by decide +kernel
theorem dX8_good_11 : decode cX8_good 11 = .ok (.ireturn, 1) := by decide +kernel
theorem dX8_granted_0 : decode cX8_granted 0 = .ok (.aload_n 0, 1) := by decide +kernel
theorem dX8_granted_1 : decode cX8_granted 1 = .ok (.iconst 0, 1) := by decide +kernel
theorem dX8_granted_2 : decode cX8_granted 2 = .ok (.invokevirtual 53, 3) := by decide +kernel
theorem dX8_granted_5 : decode cX8_granted 5 = .ok (.pop, 1) := by decide +kernel
theorem dX8_granted_6 : decode cX8_granted 6 = .ok (.iconst 1, 1) := by decide +kernel
theorem dX8_granted_7 : decode cX8_granted 7 = .ok (.ireturn, 1) := by decide +kernel
theorem dX8_in_0 : decode cX8_in 0 = .ok (.iload_n 0, 1) := by decide +kernel
theorem dX8_in_1 : decode cX8_in 1 = .ok (.iload_n 1, 1) := by decide +kernel
theorem dX8_in_2 : decode cX8_in 2 = .ok (.if_icmp .lt 12, 3) := by decide +kernel
theorem dX8_in_5 : decode cX8_in 5 = .ok (.iload_n 0, 1) := by decide +kernel
theorem dX8_in_6 : decode cX8_in 6 = .ok (.iload_n 2, 1) := by decide +kernel
theorem dX8_in_7 : decode cX8_in 7 = .ok (.if_icmp .gt 7, 3) := by decide +kernel
theorem dX8_in_10 : decode cX8_in 10 = .ok (.iconst 1, 1) := by decide +kernel
theorem dX8_in_11 : decode cX8_in 11 = .ok (.goto 4, 3) := by decide +kernel
theorem dX8_in_14 : decode cX8_in 14 = .ok (.iconst 0, 1) := by decide +kernel
theorem dX8_in_15 : decode cX8_in 15 = .ok (.ireturn, 1) := by decide +kernel
theorem dX8_bit_0 : decode cX8_bit 0 = .ok (.iload_n 0, 1) := by decide +kernel
theorem dX8_bit_1 : decode cX8_bit 1 = .ok (.iload_n 1, 1) := by decide +kernel
theorem dX8_bit_2 : decode cX8_bit 2 = .ok (.ishr, 1) := by decide +kernel
theorem dX8_bit_3 : decode cX8_bit 3 = .ok (.iconst 1, 1) := by decide +kernel
theorem dX8_bit_4 : decode cX8_bit 4 = .ok (.iand, 1) := by decide +kernel
theorem dX8_bit_5 : decode cX8_bit 5 = .ok (.iconst 1, 1) := by decide +kernel
theorem dX8_bit_6 : decode cX8_bit 6 = .ok (.if_icmp .ne 7, 3) := by decide +kernel
theorem dX8_bit_9 : decode cX8_bit 9 = .ok (.iconst 1, 1) := by decide +kernel
theorem dX8_bit_10 : decode cX8_bit 10 = .ok (.goto 4, 3) := by decide +kernel
theorem dX8_bit_13 : decode cX8_bit 13 = .ok (.iconst 0, 1) := by decide +kernel
theorem dX8_bit_14 : decode cX8_bit 14 = .ok (.ireturn, 1) := by decide +kernel
theorem dX8_bits_0 : decode cX8_bits 0 = .ok (.iconst 0, 1) := by decide +kernel
theorem dX8_bits_1 : decode cX8_bits 1 = .ok (.istore_n 1, 1) := by decide +kernel
theorem dX8_bits_2 : decode cX8_bits 2 = .ok (.iload_n 0, 1) := by decide +kernel
theorem dX8_bits_3 : decode cX8_bits 3 = .ok (.istore_n 2, 1) := by decide +kernel
theorem dX8_bits_4 : decode cX8_bits 4 = .ok (.iload_n 2, 1) := by decide +kernel
theorem dX8_bits_5 : decode cX8_bits 5 = .ok (.ifCond .eq 15, 3) := by decide +kernel
theorem dX8_bits_8 : decode cX8_bits 8 = .ok (.iinc 1 1, 3) := by decide +kernel
theorem dX8_bits_11 : decode cX8_bits 11 = .ok (.iload_n 2, 1) := by decide +kernel
theorem dX8_bits_12 : decode cX8_bits 12 = .ok (.iload_n 2, 1) := by decide +kernel
theorem dX8_bits_13 : decode cX8_bits 13 = .ok (.iconst 1, 1) := by decide +kernel
theorem dX8_bits_14 : decode cX8_bits 14 = .ok (.isub, 1) := by decide +kernel
theorem dX8_bits_15 : decode cX8_bits 15 = .ok (.iand, 1) := by decide +kernel
theorem dX8_bits_16 : decode cX8_bits 16 = .ok (.istore_n 2, 1) := by decide +kernel
theorem dX8_bits_17 : decode cX8_bits 17 = .ok (.goto (-13), 3) := by decide +kernel
theorem dX8_bits_20 : decode cX8_bits 20 = .ok (.iload_n 1, 1) := by decide +kernel
theorem dX8_bits_21 : decode cX8_bits 21 = .ok (.ireturn, 1) := by decide +kernel
theorem dX8_many_0 : decode cX8_many 0 = .ok (.iconst 0, 1) := by decide +kernel
theorem dX8_many_1 : decode cX8_many 1 = .ok (.istore_n 2, 1) := by decide +kernel
theorem dX8_many_2 : decode cX8_many 2 = .ok (.lload_n 0, 1) := by decide +kernel
theorem dX8_many_3 : decode cX8_many 3 = .ok (.lstore_n 3, 1) := by decide +kernel
theorem dX8_many_4 : decode cX8_many 4 = .ok (.lload_n 3, 1) := by decide +kernel
theorem dX8_many_5 : decode cX8_many 5 = .ok (.lconst 0, 1) := by decide +kernel
theorem dX8_many_6 : decode cX8_many 6 = .ok (.lcmp, 1) := by decide +kernel
theorem dX8_many_7 : decode cX8_many 7 = .ok (.ifCond .eq 15, 3) := by decide +kernel
theorem dX8_many_10 : decode cX8_many 10 = .ok (.iinc 2 1, 3) := by decide +kernel
theorem dX8_many_13 : decode cX8_many 13 = .ok (.lload_n 3, 1) := by decide +kernel
theorem dX8_many_14 : decode cX8_many 14 = .ok (.lload_n 3, 1) := by decide +kernel
theorem dX8_many_15 : decode cX8_many 15 = .ok (.lconst 1, 1) := by decide +kernel
theorem dX8_many_16 : decode cX8_many 16 = .ok (.lsub, 1) := by decide +kernel
theorem dX8_many_17 : decode cX8_many 17 = .ok (.land, 1) := by decide +kernel
theorem dX8_many_18 : decode cX8_many 18 = .ok (.lstore_n 3, 1) := by decide +kernel
theorem dX8_many_19 : decode cX8_many 19 = .ok (.goto (-15), 3) := by decide +kernel
theorem dX8_many_22 : decode cX8_many 22 = .ok (.iload_n 2, 1) := by decide +kernel
theorem dX8_many_23 : decode cX8_many 23 = .ok (.ireturn, 1) := by decide +kernel
theorem dX8_common_0 : decode cX8_common 0 = .ok (.lload_n 0, 1) := by decide +kernel
theorem dX8_common_1 : decode cX8_common 1 = .ok (.lstore 4, 2) := by decide +kernel
theorem dX8_common_3 : decode cX8_common 3 = .ok (.lload_n 2, 1) := by decide +kernel
theorem dX8_common_4 : decode cX8_common 4 = .ok (.lstore 6, 2) := by decide +kernel
theorem dX8_common_6 : decode cX8_common 6 = .ok (.lload 6, 2) := by decide +kernel
theorem dX8_common_8 : decode cX8_common 8 = .ok (.lconst 0, 1) := by decide +kernel
theorem dX8_common_9 : decode cX8_common 9 = .ok (.lcmp, 1) := by decide +kernel
theorem dX8_common_10 : decode cX8_common 10 = .ok (.ifCond .eq 21, 3) := by decide +kernel
theorem dX8_common_13 : decode cX8_common 13 = .ok (.lload 4, 2) := by decide +kernel
theorem dX8_common_15 : decode cX8_common 15 = .ok (.lload 6, 2) := by decide +kernel
theorem dX8_common_17 : decode cX8_common 17 = .ok (.lrem, 1) := by decide +kernel
theorem dX8_common_18 : decode cX8_common 18 = .ok (.lstore 8, 2) := by decide +kernel
theorem dX8_common_20 : decode cX8_common 20 = .ok (.lload 6, 2) := by decide +kernel
theorem dX8_common_22 : decode cX8_common 22 = .ok (.lstore 4, 2) := by decide +kernel
theorem dX8_common_24 : decode cX8_common 24 = .ok (.lload 8, 2) := by decide +kernel
theorem dX8_common_26 : decode cX8_common 26 = .ok (.lstore 6, 2) := by decide +kernel
theorem dX8_common_28 : decode cX8_common 28 = .ok (.goto (-22), 3) := by decide +kernel
theorem dX8_common_31 : decode cX8_common 31 = .ok (.lload 4, 2) := by decide +kernel
theorem dX8_common_33 : decode cX8_common 33 = .ok (.lreturn, 1) := by decide +kernel
theorem dX8_fraction_0 : decode cX8_fraction 0 = .ok (.aload_n 0, 1) := by decide +kernel
theorem dX8_fraction_1 : decode cX8_fraction 1 = .ok (.iconst 0, 1) := by decide +kernel
theorem dX8_fraction_2 : decode cX8_fraction 2 = .ok (.invokevirtual 53, 3) := by decide +kernel
theorem dX8_fraction_5 : decode cX8_fraction 5 = .ok (.pop, 1) := by decide +kernel
theorem dX8_fraction_6 : decode cX8_fraction 6 = .ok (.lload_n 3, 1) := by decide +kernel
theorem dX8_fraction_7 : decode cX8_fraction 7 = .ok (.lconst 0, 1) := by decide +kernel
theorem dX8_fraction_8 : decode cX8_fraction 8 = .ok (.lcmp, 1) := by decide +kernel
theorem dX8_fraction_9 : decode cX8_fraction 9 = .ok (.ifCond .ne 14, 3) := by decide +kernel
theorem dX8_fraction_12 : decode cX8_fraction 12 = .ok (.iload 5, 2) := by decide +kernel
theorem dX8_fraction_14 : decode cX8_fraction 14 = .ok (.ifCond .eq 7, 3) := by decide +kernel
theorem dX8_fraction_17 : decode cX8_fraction 17 = .ok (.lconst 1, 1) := by decide +kernel
theorem dX8_fraction_18 : decode cX8_fraction 18 = .ok (.goto 4, 3) := by decide +kernel
theorem dX8_fraction_21 : decode cX8_fraction 21 = .ok (.lconst 0, 1) := by decide +kernel
theorem dX8_fraction_22 : decode cX8_fraction 22 = .ok (.lreturn, 1) := by decide +kernel
theorem dX8_fraction_23 : decode cX8_fraction 23 = .ok (.iload 5, 2) := by decide +kernel
theorem dX8_fraction_25 : decode cX8_fraction 25 = .ok (.ifCond .eq 7, 3) := by decide +kernel
theorem dX8_fraction_28 : decode cX8_fraction 28 = .ok (.lload_n 3, 1) := by decide +kernel
theorem dX8_fraction_29 : decode cX8_fraction 29 = .ok (.goto 4, 3) := by decide +kernel
theorem dX8_fraction_32 : decode cX8_fraction 32 = .ok (.lload_n 1, 1) := by decide +kernel
theorem dX8_fraction_33 : decode cX8_fraction 33 = .ok (.lload_n 1, 1) := by decide +kernel
theorem dX8_fraction_34 : decode cX8_fraction 34 = .ok (.lload_n 3, 1) := by decide +kernel
theorem dX8_fraction_35 : decode cX8_fraction 35 = .ok (.invokestatic 56, 3) := by decide +kernel
theorem dX8_fraction_38 : decode cX8_fraction 38 = .ok (.ldiv, 1) := by decide +kernel
theorem dX8_fraction_39 : decode cX8_fraction 39 = .ok (.lreturn, 1) := by decide +kernel
theorem dX8_byteAt_0 : decode cX8_byteAt 0 = .ok (.iload_n 1, 1) := by decide +kernel
theorem dX8_byteAt_1 : decode cX8_byteAt 1 = .ok (.aload_n 0, 1) := by decide +kernel
theorem dX8_byteAt_2 : decode cX8_byteAt 2 = .ok (.getfield 60, 3) := by decide +kernel
theorem dX8_byteAt_5 : decode cX8_byteAt 5 = .ok (.if_icmp .ge 16, 3) := by decide +kernel
theorem dX8_byteAt_8 : decode cX8_byteAt 8 = .ok (.aload_n 0, 1) := by decide +kernel
theorem dX8_byteAt_9 : decode cX8_byteAt 9 = .ok (.getfield 13, 3) := by decide +kernel
theorem dX8_byteAt_12 : decode cX8_byteAt 12 = .ok (.iload_n 1, 1) := by decide +kernel
theorem dX8_byteAt_13 : decode cX8_byteAt 13 = .ok (.baload, 1) := by decide +kernel
theorem dX8_byteAt_14 : decode cX8_byteAt 14 = .ok (.sipush 255, 3) := by decide +kernel
theorem dX8_byteAt_17 : decode cX8_byteAt 17 = .ok (.iand, 1) := by decide +kernel
theorem dX8_byteAt_18 : decode cX8_byteAt 18 = .ok (.goto 4, 3) := by decide +kernel
theorem dX8_byteAt_21 : decode cX8_byteAt 21 = .ok (.iconst (-1), 1) := by decide +kernel
theorem dX8_byteAt_22 : decode cX8_byteAt 22 = .ok (.ireturn, 1) := by decide +kernel
theorem dX8_isLetter_0 : decode cX8_isLetter 0 = .ok (.iload_n 0, 1) := by decide +kernel
theorem dX8_isLetter_1 : decode cX8_isLetter 1 = .ok (.bipush 97, 2) := by decide +kernel
theorem dX8_isLetter_3 : decode cX8_isLetter 3 = .ok (.if_icmp .lt 13, 3) := by decide +kernel
theorem dX8_isLetter_6 : decode cX8_isLetter 6 = .ok (.iload_n 0, 1) := by decide +kernel
theorem dX8_isLetter_7 : decode cX8_isLetter 7 = .ok (.bipush 122, 2) := by decide +kernel
theorem dX8_isLetter_9 : decode cX8_isLetter 9 = .ok (.if_icmp .gt 7, 3) := by decide +kernel
theorem dX8_isLetter_12 : decode cX8_isLetter 12 = .ok (.iconst 1, 1) := by decide +kernel
theorem dX8_isLetter_13 : decode cX8_isLetter 13 = .ok (.goto 4, 3) := by decide +kernel
theorem dX8_isLetter_16 : decode cX8_isLetter 16 = .ok (.iconst 0, 1) := by decide +kernel
theorem dX8_isLetter_17 : decode cX8_isLetter 17 = .ok (.ireturn, 1) := by decide +kernel
theorem dX8_isDigit_0 : decode cX8_isDigit 0 = .ok (.iload_n 0, 1) := by decide +kernel
theorem dX8_isDigit_1 : decode cX8_isDigit 1 = .ok (.bipush 48, 2) := by decide +kernel
theorem dX8_isDigit_3 : decode cX8_isDigit 3 = .ok (.if_icmp .lt 13, 3) := by decide +kernel
theorem dX8_isDigit_6 : decode cX8_isDigit 6 = .ok (.iload_n 0, 1) := by decide +kernel
theorem dX8_isDigit_7 : decode cX8_isDigit 7 = .ok (.bipush 57, 2) := by decide +kernel
theorem dX8_isDigit_9 : decode cX8_isDigit 9 = .ok (.if_icmp .gt 7, 3) := by decide +kernel
theorem dX8_isDigit_12 : decode cX8_isDigit 12 = .ok (.iconst 1, 1) := by decide +kernel
theorem dX8_isDigit_13 : decode cX8_isDigit 13 = .ok (.goto 4, 3) := by decide +kernel
theorem dX8_isDigit_16 : decode cX8_isDigit 16 = .ok (.iconst 0, 1) := by decide +kernel
theorem dX8_isDigit_17 : decode cX8_isDigit 17 = .ok (.ireturn, 1) := by decide +kernel
theorem dX8_packed_0 : decode cX8_packed 0 = .ok (.lconst 0, 1) := by decide +kernel
theorem dX8_packed_1 : decode cX8_packed 1 = .ok (.lstore_n 1, 1) := by decide +kernel
theorem dX8_packed_2 : decode cX8_packed 2 = .ok (.iconst 0, 1) := by decide +kernel
theorem dX8_packed_3 : decode cX8_packed 3 = .ok (.istore_n 3, 1) := by decide +kernel
theorem dX8_packed_4 : decode cX8_packed 4 = .ok (.iload_n 3, 1) := by decide +kernel
theorem dX8_packed_5 : decode cX8_packed 5 = .ok (.aload_n 0, 1) := by decide +kernel
theorem dX8_packed_6 : decode cX8_packed 6 = .ok (.invokevirtual 63, 3) := by decide +kernel
theorem dX8_packed_9 : decode cX8_packed 9 = .ok (.if_icmp .ge 27, 3) := by decide +kernel
theorem dX8_packed_12 : decode cX8_packed 12 = .ok (.ldc2_w 69, 3) := by decide +kernel
theorem dX8_packed_15 : decode cX8_packed 15 = .ok (.lload_n 1, 1) := by decide +kernel
theorem dX8_packed_16 : decode cX8_packed 16 = .ok (.lmul, 1) := by decide +kernel
theorem dX8_packed_17 : decode cX8_packed 17 = .ok (.aload_n 0, 1) := by decide +kernel
theorem dX8_packed_18 : decode cX8_packed 18 = .ok (.iload_n 3, 1) := by decide +kernel
theorem dX8_packed_19 : decode cX8_packed 19 = .ok (.invokevirtual 71, 3) := by decide +kernel
theorem dX8_packed_22 : decode cX8_packed 22 = .ok (.bipush 97, 2) := by decide +kernel
theorem dX8_packed_24 : decode cX8_packed 24 = .ok (.isub, 1) := by decide +kernel
theorem dX8_packed_25 : decode cX8_packed 25 = .ok (.iconst 1, 1) := by decide +kernel
theorem dX8_packed_26 : decode cX8_packed 26 = .ok (.iadd, 1) := by decide +kernel
theorem dX8_packed_27 : decode cX8_packed 27 = .ok (.i2l, 1) := by decide +kernel
theorem dX8_packed_28 : decode cX8_packed 28 = .ok (.ladd, 1) := by decide +kernel
theorem dX8_packed_29 : decode cX8_packed 29 = .ok (.lstore_n 1, 1) := by decide +kernel
theorem dX8_packed_30 : decode cX8_packed 30 = .ok (.iinc 3 1, 3) := by decide +kernel
theorem dX8_packed_33 : decode cX8_packed 33 = .ok (.goto (-29), 3) := by decide +kernel
theorem dX8_packed_36 : decode cX8_packed 36 = .ok (.lload_n 1, 1) := by decide +kernel
theorem dX8_packed_37 : decode cX8_packed 37 = .ok (.lreturn, 1) := by decide +kernel
theorem dX8_goesOn_0 : decode cX8_goesOn 0 = .ok (.aload_n 0, 1) := by decide +kernel
theorem dX8_goesOn_1 : decode cX8_goesOn 1 = .ok (.getfield 75, 3) := by decide +kernel
theorem dX8_goesOn_4 : decode cX8_goesOn 4 = .ok (.iconst 5, 1) := by decide +kernel
theorem dX8_goesOn_5 : decode cX8_goesOn 5 = .ok (.if_icmp .ne 4, 3) := by decide +kernel
theorem dX8_goesOn_8 : decode cX8_goesOn 8 = .ok (.return_, 1) := by decide +kernel
theorem dX8_goesOn_9 : decode cX8_goesOn 9 = .ok (.aload_n 0, 1) := by decide +kernel
theorem dX8_goesOn_10 : decode cX8_goesOn 10 = .ok (.aload_n 0, 1) := by decide +kernel
theorem dX8_goesOn_11 : decode cX8_goesOn 11 = .ok (.getfield 78, 3) := by decide +kernel
theorem dX8_goesOn_14 : decode cX8_goesOn 14 = .ok (.invokevirtual 81, 3) := by decide +kernel
theorem dX8_goesOn_17 : decode cX8_goesOn 17 = .ok (.bipush 32, 2) := by decide +kernel
theorem dX8_goesOn_19 : decode cX8_goesOn 19 = .ok (.if_icmp .ne 16, 3) := by decide +kernel
theorem dX8_goesOn_22 : decode cX8_goesOn 22 = .ok (.aload_n 0, 1) := by decide +kernel
theorem dX8_goesOn_23 : decode cX8_goesOn 23 = .ok (.dup, 1) := by decide +kernel
theorem dX8_goesOn_24 : decode cX8_goesOn 24 = .ok (.getfield 78, 3) := by decide +kernel
theorem dX8_goesOn_27 : decode cX8_goesOn 27 = .ok (.iconst 1, 1) := by decide +kernel
theorem dX8_goesOn_28 : decode cX8_goesOn 28 = .ok (.iadd, 1) := by decide +kernel
theorem dX8_goesOn_29 : decode cX8_goesOn 29 = .ok (.putfield 78, 3) := by decide +kernel
theorem dX8_goesOn_32 : decode cX8_goesOn 32 = .ok (.goto (-23), 3) := by decide +kernel
theorem dX8_goesOn_35 : decode cX8_goesOn 35 = .ok (.aload_n 0, 1) := by decide +kernel
theorem dX8_goesOn_36 : decode cX8_goesOn 36 = .ok (.aload_n 0, 1) := by decide +kernel
theorem dX8_goesOn_37 : decode cX8_goesOn 37 = .ok (.getfield 78, 3) := by decide +kernel
theorem dX8_goesOn_40 : decode cX8_goesOn 40 = .ok (.putfield 84, 3) := by decide +kernel
theorem dX8_goesOn_43 : decode cX8_goesOn 43 = .ok (.aload_n 0, 1) := by decide +kernel
theorem dX8_goesOn_44 : decode cX8_goesOn 44 = .ok (.iconst 0, 1) := by decide +kernel
theorem dX8_goesOn_45 : decode cX8_goesOn 45 = .ok (.putfield 75, 3) := by decide +kernel
theorem dX8_goesOn_48 : decode cX8_goesOn 48 = .ok (.aload_n 0, 1) := by decide +kernel
theorem dX8_goesOn_49 : decode cX8_goesOn 49 = .ok (.aload_n 0, 1) := by decide +kernel
theorem dX8_goesOn_50 : decode cX8_goesOn 50 = .ok (.getfield 78, 3) := by decide +kernel
theorem dX8_goesOn_53 : decode cX8_goesOn 53 = .ok (.invokevirtual 81, 3) := by decide +kernel
theorem dX8_goesOn_56 : decode cX8_goesOn 56 = .ok (.istore_n 1, 1) := by decide +kernel
theorem dX8_goesOn_57 : decode cX8_goesOn 57 = .ok (.iconst 0, 1) := by decide +kernel
theorem dX8_goesOn_58 : decode cX8_goesOn 58 = .ok (.istore_n 2, 1) := by decide +kernel
theorem dX8_goesOn_59 : decode cX8_goesOn 59 = .ok (.iload_n 1, 1) := by decide +kernel
theorem dX8_goesOn_60 : decode cX8_goesOn 60 = .ok (.iconst (-1), 1) := by decide +kernel
theorem dX8_goesOn_61 : decode cX8_goesOn 61 = .ok (.if_icmp .ne 11, 3) := by decide +kernel
theorem dX8_goesOn_64 : decode cX8_goesOn 64 = .ok (.aload_n 0, 1) := by decide +kernel
theorem dX8_goesOn_65 : decode cX8_goesOn 65 = .ok (.iconst 1, 1) := by decide +kernel
theorem dX8_goesOn_66 : decode cX8_goesOn 66 = .ok (.putfield 75, 3) := by decide +kernel
theorem dX8_goesOn_69 : decode cX8_goesOn 69 = .ok (.goto 207, 3) := by decide +kernel
theorem dX8_goesOn_72 : decode cX8_goesOn 72 = .ok (.iload_n 1, 1) := by decide +kernel
theorem dX8_goesOn_73 : decode cX8_goesOn 73 = .ok (.invokestatic 87, 3) := by decide +kernel
theorem dX8_goesOn_76 : decode cX8_goesOn 76 = .ok (.ifCond .eq 85, 3) := by decide +kernel
theorem dX8_goesOn_79 : decode cX8_goesOn 79 = .ok (.aload_n 0, 1) := by decide +kernel
theorem dX8_goesOn_80 : decode cX8_goesOn 80 = .ok (.lconst 0, 1) := by decide +kernel
theorem dX8_goesOn_81 : decode cX8_goesOn 81 = .ok (.putfield 91, 3) := by decide +kernel
theorem dX8_goesOn_84 : decode cX8_goesOn 84 = .ok (.aload_n 0, 1) := by decide +kernel
theorem dX8_goesOn_85 : decode cX8_goesOn 85 = .ok (.aload_n 0, 1) := by decide +kernel
theorem dX8_goesOn_86 : decode cX8_goesOn 86 = .ok (.getfield 78, 3) := by decide +kernel
theorem dX8_goesOn_89 : decode cX8_goesOn 89 = .ok (.invokevirtual 81, 3) := by decide +kernel
theorem dX8_goesOn_92 : decode cX8_goesOn 92 = .ok (.invokestatic 87, 3) := by decide +kernel
theorem dX8_goesOn_95 : decode cX8_goesOn 95 = .ok (.ifCond .eq 52, 3) := by decide +kernel
theorem dX8_goesOn_98 : decode cX8_goesOn 98 = .ok (.iload_n 2, 1) := by decide +kernel
theorem dX8_goesOn_99 : decode cX8_goesOn 99 = .ok (.bipush 8, 2) := by decide +kernel
theorem dX8_goesOn_101 : decode cX8_goesOn 101 = .ok (.if_icmp .ge 30, 3) := by decide +kernel
theorem dX8_goesOn_104 : decode cX8_goesOn 104 = .ok (.aload_n 0, 1) := by decide +kernel
theorem dX8_goesOn_105 : decode cX8_goesOn 105 = .ok (.ldc2_w 69, 3) := by decide +kernel
theorem dX8_goesOn_108 : decode cX8_goesOn 108 = .ok (.aload_n 0, 1) := by decide +kernel
theorem dX8_goesOn_109 : decode cX8_goesOn 109 = .ok (.getfield 91, 3) := by decide +kernel
theorem dX8_goesOn_112 : decode cX8_goesOn 112 = .ok (.lmul, 1) := by decide +kernel
theorem dX8_goesOn_113 : decode cX8_goesOn 113 = .ok (.aload_n 0, 1) := by decide +kernel
theorem dX8_goesOn_114 : decode cX8_goesOn 114 = .ok (.aload_n 0, 1) := by decide +kernel
theorem dX8_goesOn_115 : decode cX8_goesOn 115 = .ok (.getfield 78, 3) := by decide +kernel
theorem dX8_goesOn_118 : decode cX8_goesOn 118 = .ok (.invokevirtual 81, 3) := by decide +kernel
theorem dX8_goesOn_121 : decode cX8_goesOn 121 = .ok (.bipush 97, 2) := by decide +kernel
theorem dX8_goesOn_123 : decode cX8_goesOn 123 = .ok (.isub, 1) := by decide +kernel
theorem dX8_goesOn_124 : decode cX8_goesOn 124 = .ok (.iconst 1, 1) := by decide +kernel
theorem dX8_goesOn_125 : decode cX8_goesOn 125 = .ok (.iadd, 1) := by decide +kernel
theorem dX8_goesOn_126 : decode cX8_goesOn 126 = .ok (.i2l, 1) := by decide +kernel
theorem dX8_goesOn_127 : decode cX8_goesOn 127 = .ok (.ladd, 1) := by decide +kernel
theorem dX8_goesOn_128 : decode cX8_goesOn 128 = .ok (.putfield 91, 3) := by decide +kernel
theorem dX8_goesOn_131 : decode cX8_goesOn 131 = .ok (.iinc 2 1, 3) := by decide +kernel
theorem dX8_goesOn_134 : decode cX8_goesOn 134 = .ok (.aload_n 0, 1) := by decide +kernel
theorem dX8_goesOn_135 : decode cX8_goesOn 135 = .ok (.dup, 1) := by decide +kernel
theorem dX8_goesOn_136 : decode cX8_goesOn 136 = .ok (.getfield 78, 3) := by decide +kernel
theorem dX8_goesOn_139 : decode cX8_goesOn 139 = .ok (.iconst 1, 1) := by decide +kernel
theorem dX8_goesOn_140 : decode cX8_goesOn 140 = .ok (.iadd, 1) := by decide +kernel
theorem dX8_goesOn_141 : decode cX8_goesOn 141 = .ok (.putfield 78, 3) := by decide +kernel
theorem dX8_goesOn_144 : decode cX8_goesOn 144 = .ok (.goto (-60), 3) := by decide +kernel
theorem dX8_goesOn_147 : decode cX8_goesOn 147 = .ok (.iload_n 2, 1) := by decide +kernel
theorem dX8_goesOn_148 : decode cX8_goesOn 148 = .ok (.bipush 8, 2) := by decide +kernel
theorem dX8_goesOn_150 : decode cX8_goesOn 150 = .ok (.if_icmp .gt 126, 3) := by decide +kernel
theorem dX8_goesOn_153 : decode cX8_goesOn 153 = .ok (.aload_n 0, 1) := by decide +kernel
theorem dX8_goesOn_154 : decode cX8_goesOn 154 = .ok (.iconst 2, 1) := by decide +kernel
theorem dX8_goesOn_155 : decode cX8_goesOn 155 = .ok (.putfield 75, 3) := by decide +kernel
theorem dX8_goesOn_158 : decode cX8_goesOn 158 = .ok (.goto 118, 3) := by decide +kernel
theorem dX8_goesOn_161 : decode cX8_goesOn 161 = .ok (.iload_n 1, 1) := by decide +kernel
theorem dX8_goesOn_162 : decode cX8_goesOn 162 = .ok (.invokestatic 95, 3) := by decide +kernel
theorem dX8_goesOn_165 : decode cX8_goesOn 165 = .ok (.ifCond .eq 79, 3) := by decide +kernel
theorem dX8_goesOn_168 : decode cX8_goesOn 168 = .ok (.aload_n 0, 1) := by decide +kernel
theorem dX8_goesOn_169 : decode cX8_goesOn 169 = .ok (.iconst 0, 1) := by decide +kernel
theorem dX8_goesOn_170 : decode cX8_goesOn 170 = .ok (.putfield 98, 3) := by decide +kernel
theorem dX8_goesOn_173 : decode cX8_goesOn 173 = .ok (.aload_n 0, 1) := by decide +kernel
theorem dX8_goesOn_174 : decode cX8_goesOn 174 = .ok (.aload_n 0, 1) := by decide +kernel
theorem dX8_goesOn_175 : decode cX8_goesOn 175 = .ok (.getfield 78, 3) := by decide +kernel
theorem dX8_goesOn_178 : decode cX8_goesOn 178 = .ok (.invokevirtual 81, 3) := by decide +kernel
theorem dX8_goesOn_181 : decode cX8_goesOn 181 = .ok (.invokestatic 95, 3) := by decide +kernel
theorem dX8_goesOn_184 : decode cX8_goesOn 184 = .ok (.ifCond .eq 47, 3) := by decide +kernel
theorem dX8_goesOn_187 : decode cX8_goesOn 187 = .ok (.iload_n 2, 1) := by decide +kernel
theorem dX8_goesOn_188 : decode cX8_goesOn 188 = .ok (.iconst 3, 1) := by decide +kernel
theorem dX8_goesOn_189 : decode cX8_goesOn 189 = .ok (.if_icmp .ge 26, 3) := by decide +kernel
theorem dX8_goesOn_192 : decode cX8_goesOn 192 = .ok (.aload_n 0, 1) := by decide +kernel
theorem dX8_goesOn_193 : decode cX8_goesOn 193 = .ok (.bipush 10, 2) := by decide +kernel
theorem dX8_goesOn_195 : decode cX8_goesOn 195 = .ok (.aload_n 0, 1) := by decide +kernel
theorem dX8_goesOn_196 : decode cX8_goesOn 196 = .ok (.getfield 98, 3) := by decide +kernel
theorem dX8_goesOn_199 : decode cX8_goesOn 199 = .ok (.imul, 1) := by decide +kernel
theorem dX8_goesOn_200 : decode cX8_goesOn 200 = .ok (.aload_n 0, 1) := by decide +kernel
theorem dX8_goesOn_201 : decode cX8_goesOn 201 = .ok (.aload_n 0, 1) := by decide +kernel
theorem dX8_goesOn_202 : decode cX8_goesOn 202 = .ok (.getfield 78, 3) := by decide +kernel
theorem dX8_goesOn_205 : decode cX8_goesOn 205 = .ok (.invokevirtual 81, 3) := by decide +kernel
theorem dX8_goesOn_208 : decode cX8_goesOn 208 = .ok (.iadd, 1) := by decide +kernel
theorem dX8_goesOn_209 : decode cX8_goesOn 209 = .ok (.bipush 48, 2) := by decide +kernel
theorem dX8_goesOn_211 : decode cX8_goesOn 211 = .ok (.isub, 1) := by decide +kernel
theorem dX8_goesOn_212 : decode cX8_goesOn 212 = .ok (.putfield 98, 3) := by decide +kernel
theorem dX8_goesOn_215 : decode cX8_goesOn 215 = .ok (.iinc 2 1, 3) := by decide +kernel
theorem dX8_goesOn_218 : decode cX8_goesOn 218 = .ok (.aload_n 0, 1) := by decide +kernel
theorem dX8_goesOn_219 : decode cX8_goesOn 219 = .ok (.dup, 1) := by decide +kernel
theorem dX8_goesOn_220 : decode cX8_goesOn 220 = .ok (.getfield 78, 3) := by decide +kernel
theorem dX8_goesOn_223 : decode cX8_goesOn 223 = .ok (.iconst 1, 1) := by decide +kernel
theorem dX8_goesOn_224 : decode cX8_goesOn 224 = .ok (.iadd, 1) := by decide +kernel
theorem dX8_goesOn_225 : decode cX8_goesOn 225 = .ok (.putfield 78, 3) := by decide +kernel
theorem dX8_goesOn_228 : decode cX8_goesOn 228 = .ok (.goto (-55), 3) := by decide +kernel
theorem dX8_goesOn_231 : decode cX8_goesOn 231 = .ok (.iload_n 2, 1) := by decide +kernel
theorem dX8_goesOn_232 : decode cX8_goesOn 232 = .ok (.iconst 3, 1) := by decide +kernel
theorem dX8_goesOn_233 : decode cX8_goesOn 233 = .ok (.if_icmp .gt 43, 3) := by decide +kernel
theorem dX8_goesOn_236 : decode cX8_goesOn 236 = .ok (.aload_n 0, 1) := by decide +kernel
theorem dX8_goesOn_237 : decode cX8_goesOn 237 = .ok (.iconst 3, 1) := by decide +kernel
theorem dX8_goesOn_238 : decode cX8_goesOn 238 = .ok (.putfield 75, 3) := by decide +kernel
theorem dX8_goesOn_241 : decode cX8_goesOn 241 = .ok (.goto 35, 3) := by decide +kernel
theorem dX8_goesOn_244 : decode cX8_goesOn 244 = .ok (.iload_n 1, 1) := by decide +kernel
theorem dX8_goesOn_245 : decode cX8_goesOn 245 = .ok (.bipush 59, 2) := by decide +kernel
theorem dX8_goesOn_247 : decode cX8_goesOn 247 = .ok (.if_icmp .eq 9, 3) := by decide +kernel
theorem dX8_goesOn_250 : decode cX8_goesOn 250 = .ok (.iload_n 1, 1) := by decide +kernel
theorem dX8_goesOn_251 : decode cX8_goesOn 251 = .ok (.bipush 44, 2) := by decide +kernel
theorem dX8_goesOn_253 : decode cX8_goesOn 253 = .ok (.if_icmp .ne 23, 3) := by decide +kernel
theorem dX8_goesOn_256 : decode cX8_goesOn 256 = .ok (.aload_n 0, 1) := by decide +kernel
theorem dX8_goesOn_257 : decode cX8_goesOn 257 = .ok (.iconst 4, 1) := by decide +kernel
theorem dX8_goesOn_258 : decode cX8_goesOn 258 = .ok (.putfield 75, 3) := by decide +kernel
theorem dX8_goesOn_261 : decode cX8_goesOn 261 = .ok (.aload_n 0, 1) := by decide +kernel
theorem dX8_goesOn_262 : decode cX8_goesOn 262 = .ok (.iload_n 1, 1) := by decide +kernel
theorem dX8_goesOn_263 : decode cX8_goesOn 263 = .ok (.putfield 98, 3) := by decide +kernel
theorem dX8_goesOn_266 : decode cX8_goesOn 266 = .ok (.aload_n 0, 1) := by decide +kernel
theorem dX8_goesOn_267 : decode cX8_goesOn 267 = .ok (.dup, 1) := by decide +kernel
theorem dX8_goesOn_268 : decode cX8_goesOn 268 = .ok (.getfield 78, 3) := by decide +kernel
theorem dX8_goesOn_271 : decode cX8_goesOn 271 = .ok (.iconst 1, 1) := by decide +kernel
theorem dX8_goesOn_272 : decode cX8_goesOn 272 = .ok (.iadd, 1) := by decide +kernel
theorem dX8_goesOn_273 : decode cX8_goesOn 273 = .ok (.putfield 78, 3) := by decide +kernel
theorem dX8_goesOn_276 : decode cX8_goesOn 276 = .ok (.return_, 1) := by decide +kernel
theorem dX8_flaw_0 : decode cX8_flaw 0 = .ok (.aload_n 0, 1) := by decide +kernel
theorem dX8_flaw_1 : decode cX8_flaw 1 = .ok (.getfield 75, 3) := by decide +kernel
theorem dX8_flaw_4 : decode cX8_flaw 4 = .ok (.iconst 5, 1) := by decide +kernel
theorem dX8_flaw_5 : decode cX8_flaw 5 = .ok (.if_icmp .ne 4, 3) := by decide +kernel
theorem dX8_flaw_8 : decode cX8_flaw 8 = .ok (.return_, 1) := by decide +kernel
theorem dX8_flaw_9 : decode cX8_flaw 9 = .ok (.aload_n 0, 1) := by decide +kernel
theorem dX8_flaw_10 : decode cX8_flaw 10 = .ok (.iload_n 1, 1) := by decide +kernel
theorem dX8_flaw_11 : decode cX8_flaw 11 = .ok (.putfield 101, 3) := by decide +kernel
theorem dX8_flaw_14 : decode cX8_flaw 14 = .ok (.aload_n 0, 1) := by decide +kernel
theorem dX8_flaw_15 : decode cX8_flaw 15 = .ok (.aload_n 0, 1) := by decide +kernel
theorem dX8_flaw_16 : decode cX8_flaw 16 = .ok (.getfield 84, 3) := by decide +kernel
theorem dX8_flaw_19 : decode cX8_flaw 19 = .ok (.putfield 104, 3) := by decide +kernel
theorem dX8_flaw_22 : decode cX8_flaw 22 = .ok (.aload_n 0, 1) := by decide +kernel
theorem dX8_flaw_23 : decode cX8_flaw 23 = .ok (.iconst 5, 1) := by decide +kernel
theorem dX8_flaw_24 : decode cX8_flaw 24 = .ok (.putfield 75, 3) := by decide +kernel
theorem dX8_flaw_27 : decode cX8_flaw 27 = .ok (.return_, 1) := by decide +kernel
theorem dX8_isWord_0 : decode cX8_isWord 0 = .ok (.aload_n 0, 1) := by decide +kernel
theorem dX8_isWord_1 : decode cX8_isWord 1 = .ok (.getfield 75, 3) := by decide +kernel
theorem dX8_isWord_4 : decode cX8_isWord 4 = .ok (.iconst 2, 1) := by decide +kernel
theorem dX8_isWord_5 : decode cX8_isWord 5 = .ok (.if_icmp .ne 19, 3) := by decide +kernel
theorem dX8_isWord_8 : decode cX8_isWord 8 = .ok (.aload_n 0, 1) := by decide +kernel
theorem dX8_isWord_9 : decode cX8_isWord 9 = .ok (.getfield 91, 3) := by decide +kernel
theorem dX8_isWord_12 : decode cX8_isWord 12 = .ok (.aload_n 1, 1) := by decide +kernel
theorem dX8_isWord_13 : decode cX8_isWord 13 = .ok (.invokestatic 107, 3) := by decide +kernel
theorem dX8_isWord_16 : decode cX8_isWord 16 = .ok (.lcmp, 1) := by decide +kernel
theorem dX8_isWord_17 : decode cX8_isWord 17 = .ok (.ifCond .ne 7, 3) := by decide +kernel
theorem dX8_isWord_20 : decode cX8_isWord 20 = .ok (.iconst 1, 1) := by decide +kernel
theorem dX8_isWord_21 : decode cX8_isWord 21 = .ok (.goto 4, 3) := by decide +kernel
theorem dX8_isWord_24 : decode cX8_isWord 24 = .ok (.iconst 0, 1) := by decide +kernel
theorem dX8_isWord_25 : decode cX8_isWord 25 = .ok (.ireturn, 1) := by decide +kernel
theorem dX8_eats_0 : decode cX8_eats 0 = .ok (.aload_n 0, 1) := by decide +kernel
theorem dX8_eats_1 : decode cX8_eats 1 = .ok (.getfield 75, 3) := by decide +kernel
theorem dX8_eats_4 : decode cX8_eats 4 = .ok (.iconst 4, 1) := by decide +kernel
theorem dX8_eats_5 : decode cX8_eats 5 = .ok (.if_icmp .ne 15, 3) := by decide +kernel
theorem dX8_eats_8 : decode cX8_eats 8 = .ok (.aload_n 0, 1) := by decide +kernel
theorem dX8_eats_9 : decode cX8_eats 9 = .ok (.getfield 98, 3) := by decide +kernel
theorem dX8_eats_12 : decode cX8_eats 12 = .ok (.iload_n 1, 1) := by decide +kernel
theorem dX8_eats_13 : decode cX8_eats 13 = .ok (.if_icmp .ne 7, 3) := by decide +kernel
theorem dX8_eats_16 : decode cX8_eats 16 = .ok (.iconst 1, 1) := by decide +kernel
theorem dX8_eats_17 : decode cX8_eats 17 = .ok (.goto 4, 3) := by decide +kernel
theorem dX8_eats_20 : decode cX8_eats 20 = .ok (.iconst 0, 1) := by decide +kernel
theorem dX8_eats_21 : decode cX8_eats 21 = .ok (.istore_n 2, 1) := by decide +kernel
theorem dX8_eats_22 : decode cX8_eats 22 = .ok (.iload_n 2, 1) := by decide +kernel
theorem dX8_eats_23 : decode cX8_eats 23 = .ok (.ifCond .eq 7, 3) := by decide +kernel
theorem dX8_eats_26 : decode cX8_eats 26 = .ok (.aload_n 0, 1) := by decide +kernel
theorem dX8_eats_27 : decode cX8_eats 27 = .ok (.invokevirtual 111, 3) := by decide +kernel
theorem dX8_eats_30 : decode cX8_eats 30 = .ok (.iload_n 2, 1) := by decide +kernel
theorem dX8_eats_31 : decode cX8_eats 31 = .ok (.ireturn, 1) := by decide +kernel
theorem dX8_needs_0 : decode cX8_needs 0 = .ok (.aload_n 0, 1) := by decide +kernel
theorem dX8_needs_1 : decode cX8_needs 1 = .ok (.aload_n 1, 1) := by decide +kernel
theorem dX8_needs_2 : decode cX8_needs 2 = .ok (.invokevirtual 114, 3) := by decide +kernel
theorem dX8_needs_5 : decode cX8_needs 5 = .ok (.ifCond .ne 8, 3) := by decide +kernel
theorem dX8_needs_8 : decode cX8_needs 8 = .ok (.aload_n 0, 1) := by decide +kernel
theorem dX8_needs_9 : decode cX8_needs 9 = .ok (.iconst 1, 1) := by decide +kernel
theorem dX8_needs_10 : decode cX8_needs 10 = .ok (.invokevirtual 118, 3) := by decide +kernel
theorem dX8_needs_13 : decode cX8_needs 13 = .ok (.aload_n 0, 1) := by decide +kernel
theorem dX8_needs_14 : decode cX8_needs 14 = .ok (.invokevirtual 111, 3) := by decide +kernel
theorem dX8_needs_17 : decode cX8_needs 17 = .ok (.return_, 1) := by decide +kernel
theorem dX8_readPart_0 : decode cX8_readPart 0 = .ok (.aload_n 0, 1) := by decide +kernel
theorem dX8_readPart_1 : decode cX8_readPart 1 = .ok (.aload_n 1, 1) := by decide +kernel
theorem dX8_readPart_2 : decode cX8_readPart 2 = .ok (.invokevirtual 122, 3) := by decide +kernel
theorem dX8_readPart_5 : decode cX8_readPart 5 = .ok (.aload_n 0, 1) := by decide +kernel
theorem dX8_readPart_6 : decode cX8_readPart 6 = .ok (.getfield 75, 3) := by decide +kernel
theorem dX8_readPart_9 : decode cX8_readPart 9 = .ok (.iconst 3, 1) := by decide +kernel
theorem dX8_readPart_10 : decode cX8_readPart 10 = .ok (.if_icmp .eq 11, 3) := by decide +kernel
theorem dX8_readPart_13 : decode cX8_readPart 13 = .ok (.aload_n 0, 1) := by decide +kernel
theorem dX8_readPart_14 : decode cX8_readPart 14 = .ok (.iconst 1, 1) := by decide +kernel
theorem dX8_readPart_15 : decode cX8_readPart 15 = .ok (.invokevirtual 118, 3) := by decide +kernel
theorem dX8_readPart_18 : decode cX8_readPart 18 = .ok (.goto 20, 3) := by decide +kernel
theorem dX8_readPart_21 : decode cX8_readPart 21 = .ok (.aload_n 0, 1) := by decide +kernel
theorem dX8_readPart_22 : decode cX8_readPart 22 = .ok (.getfield 98, 3) := by decide +kernel
theorem dX8_readPart_25 : decode cX8_readPart 25 = .ok (.iload_n 2, 1) := by decide +kernel
theorem dX8_readPart_26 : decode cX8_readPart 26 = .ok (.iload_n 3, 1) := by decide +kernel
theorem dX8_readPart_27 : decode cX8_readPart 27 = .ok (.invokestatic 126, 3) := by decide +kernel
theorem dX8_readPart_30 : decode cX8_readPart 30 = .ok (.ifCond .ne 8, 3) := by decide +kernel
theorem dX8_readPart_33 : decode cX8_readPart 33 = .ok (.aload_n 0, 1) := by decide +kernel
theorem dX8_readPart_34 : decode cX8_readPart 34 = .ok (.iconst 4, 1) := by decide +kernel
theorem dX8_readPart_35 : decode cX8_readPart 35 = .ok (.invokevirtual 118, 3) := by decide +kernel
theorem dX8_readPart_38 : decode cX8_readPart 38 = .ok (.aload_n 0, 1) := by decide +kernel
theorem dX8_readPart_39 : decode cX8_readPart 39 = .ok (.getfield 75, 3) := by decide +kernel
theorem dX8_readPart_42 : decode cX8_readPart 42 = .ok (.iconst 5, 1) := by decide +kernel
theorem dX8_readPart_43 : decode cX8_readPart 43 = .ok (.if_icmp .ne 7, 3) := by decide +kernel
theorem dX8_readPart_46 : decode cX8_readPart 46 = .ok (.iload_n 2, 1) := by decide +kernel
theorem dX8_readPart_47 : decode cX8_readPart 47 = .ok (.goto 7, 3) := by decide +kernel
theorem dX8_readPart_50 : decode cX8_readPart 50 = .ok (.aload_n 0, 1) := by decide +kernel
theorem dX8_readPart_51 : decode cX8_readPart 51 = .ok (.getfield 98, 3) := by decide +kernel
theorem dX8_readPart_54 : decode cX8_readPart 54 = .ok (.istore 4, 2) := by decide +kernel
theorem dX8_readPart_56 : decode cX8_readPart 56 = .ok (.aload_n 0, 1) := by decide +kernel
theorem dX8_readPart_57 : decode cX8_readPart 57 = .ok (.invokevirtual 111, 3) := by decide +kernel
theorem dX8_readPart_60 : decode cX8_readPart 60 = .ok (.iload 4, 2) := by decide +kernel
theorem dX8_readPart_62 : decode cX8_readPart 62 = .ok (.ireturn, 1) := by decide +kernel
theorem dX8_isName_0 : decode cX8_isName 0 = .ok (.aload_n 0, 1) := by decide +kernel
theorem dX8_isName_1 : decode cX8_isName 1 = .ok (.getfield 75, 3) := by decide +kernel
theorem dX8_isName_4 : decode cX8_isName 4 = .ok (.iconst 2, 1) := by decide +kernel
theorem dX8_isName_5 : decode cX8_isName 5 = .ok (.if_icmp .ne 30, 3) := by decide +kernel
theorem dX8_isName_8 : decode cX8_isName 8 = .ok (.aload_n 0, 1) := by decide +kernel
theorem dX8_isName_9 : decode cX8_isName 9 = .ok (.ldc 130, 2) := by decide +kernel
theorem dX8_isName_11 : decode cX8_isName 11 = .ok (.invokevirtual 114, 3) := by decide +kernel
theorem dX8_isName_14 : decode cX8_isName 14 = .ok (.ifCond .ne 21, 3) := by decide +kernel
theorem dX8_isName_17 : decode cX8_isName 17 = .ok (.aload_n 0, 1) := by decide +kernel
theorem dX8_isName_18 : decode cX8_isName 18 = .ok (.ldc 132, 2) := by decide +kernel
theorem dX8_isName_20 : decode cX8_isName 20 = .ok (.invokevirtual 114, 3) := by decide +kernel
theorem dX8_isName_23 : decode cX8_isName 23 = .ok (.ifCond .ne 12, 3) := by decide +kernel
theorem dX8_isName_26 : decode cX8_isName 26 = .ok (.aload_n 0, 1) := by decide +kernel
theorem dX8_isName_27 : decode cX8_isName 27 = .ok (.ldc 134, 2) := by decide +kernel
theorem dX8_isName_29 : decode cX8_isName 29 = .ok (.invokevirtual 114, 3) := by decide +kernel
theorem dX8_isName_32 : decode cX8_isName 32 = .ok (.ifCond .eq 5, 3) := by decide +kernel
theorem dX8_isName_35 : decode cX8_isName 35 = .ok (.iconst 0, 1) := by decide +kernel
theorem dX8_isName_36 : decode cX8_isName 36 = .ok (.ireturn, 1) := by decide +kernel
theorem dX8_isName_37 : decode cX8_isName 37 = .ok (.aload_n 0, 1) := by decide +kernel
theorem dX8_isName_38 : decode cX8_isName 38 = .ok (.ldc 136, 2) := by decide +kernel
theorem dX8_isName_40 : decode cX8_isName 40 = .ok (.invokevirtual 114, 3) := by decide +kernel
theorem dX8_isName_43 : decode cX8_isName 43 = .ok (.ifCond .ne 25, 3) := by decide +kernel
theorem dX8_isName_46 : decode cX8_isName 46 = .ok (.aload_n 0, 1) := by decide +kernel
theorem dX8_isName_47 : decode cX8_isName 47 = .ok (.ldc 138, 2) := by decide +kernel
theorem dX8_isName_49 : decode cX8_isName 49 = .ok (.invokevirtual 114, 3) := by decide +kernel
theorem dX8_isName_52 : decode cX8_isName 52 = .ok (.ifCond .ne 16, 3) := by decide +kernel
theorem dX8_isName_55 : decode cX8_isName 55 = .ok (.aload_n 0, 1) := by decide +kernel
theorem dX8_isName_56 : decode cX8_isName 56 = .ok (.ldc 140, 2) := by decide +kernel
theorem dX8_isName_58 : decode cX8_isName 58 = .ok (.invokevirtual 114, 3) := by decide +kernel
theorem dX8_isName_61 : decode cX8_isName 61 = .ok (.ifCond .ne 7, 3) := by decide +kernel
theorem dX8_isName_64 : decode cX8_isName 64 = .ok (.iconst 1, 1) := by decide +kernel
theorem dX8_isName_65 : decode cX8_isName 65 = .ok (.goto 4, 3) := by decide +kernel
theorem dX8_isName_68 : decode cX8_isName 68 = .ok (.iconst 0, 1) := by decide +kernel
theorem dX8_isName_69 : decode cX8_isName 69 = .ok (.ireturn, 1) := by decide +kernel
theorem dX8_lineBegins_0 : decode cX8_lineBegins 0 = .ok (.iload_n 1, 1) := by decide +kernel
theorem dX8_lineBegins_1 : decode cX8_lineBegins 1 = .ok (.iload_n 2, 1) := by decide +kernel
theorem dX8_lineBegins_2 : decode cX8_lineBegins 2 = .ok (.if_icmp .ne 8, 3) := by decide +kernel
theorem dX8_lineBegins_5 : decode cX8_lineBegins 5 = .ok (.aload_n 0, 1) := by decide +kernel
theorem dX8_lineBegins_6 : decode cX8_lineBegins 6 = .ok (.iconst 5, 1) := by decide +kernel
theorem dX8_lineBegins_7 : decode cX8_lineBegins 7 = .ok (.invokevirtual 118, 3) := by decide +kernel
theorem dX8_lineBegins_10 : decode cX8_lineBegins 10 = .ok (.aload_n 0, 1) := by decide +kernel
theorem dX8_lineBegins_11 : decode cX8_lineBegins 11 = .ok (.getfield 142, 3) := by decide +kernel
theorem dX8_lineBegins_14 : decode cX8_lineBegins 14 = .ok (.getfield 146, 3) := by decide +kernel
theorem dX8_lineBegins_17 : decode cX8_lineBegins 17 = .ok (.iconst (-1), 1) := by decide +kernel
theorem dX8_lineBegins_18 : decode cX8_lineBegins 18 = .ok (.if_icmp .ne 9, 3) := by decide +kernel
theorem dX8_lineBegins_21 : decode cX8_lineBegins 21 = .ok (.aload_n 0, 1) := by decide +kernel
theorem dX8_lineBegins_22 : decode cX8_lineBegins 22 = .ok (.bipush 6, 2) := by decide +kernel
theorem dX8_lineBegins_24 : decode cX8_lineBegins 24 = .ok (.invokevirtual 118, 3) := by decide +kernel
theorem dX8_lineBegins_27 : decode cX8_lineBegins 27 = .ok (.aload_n 0, 1) := by decide +kernel
theorem dX8_lineBegins_28 : decode cX8_lineBegins 28 = .ok (.invokevirtual 111, 3) := by decide +kernel
theorem dX8_lineBegins_31 : decode cX8_lineBegins 31 = .ok (.return_, 1) := by decide +kernel
theorem dX8_readFresh_0 : decode cX8_readFresh 0 = .ok (.aload_n 0, 1) := by decide +kernel
theorem dX8_readFresh_1 : decode cX8_readFresh 1 = .ok (.invokevirtual 151, 3) := by decide +kernel
theorem dX8_readFresh_4 : decode cX8_readFresh 4 = .ok (.ifCond .ne 8, 3) := by decide +kernel
theorem dX8_readFresh_7 : decode cX8_readFresh 7 = .ok (.aload_n 0, 1) := by decide +kernel
theorem dX8_readFresh_8 : decode cX8_readFresh 8 = .ok (.iconst 1, 1) := by decide +kernel
theorem dX8_readFresh_9 : decode cX8_readFresh 9 = .ok (.invokevirtual 118, 3) := by decide +kernel
theorem dX8_readFresh_12 : decode cX8_readFresh 12 = .ok (.aload_n 0, 1) := by decide +kernel
theorem dX8_readFresh_13 : decode cX8_readFresh 13 = .ok (.getfield 142, 3) := by decide +kernel
theorem dX8_readFresh_16 : decode cX8_readFresh 16 = .ok (.aload_n 0, 1) := by decide +kernel
theorem dX8_readFresh_17 : decode cX8_readFresh 17 = .ok (.getfield 91, 3) := by decide +kernel
theorem dX8_readFresh_20 : decode cX8_readFresh 20 = .ok (.invokevirtual 155, 3) := by decide +kernel
theorem dX8_readFresh_23 : decode cX8_readFresh 23 = .ok (.iconst (-1), 1) := by decide +kernel
theorem dX8_readFresh_24 : decode cX8_readFresh 24 = .ok (.if_icmp .eq 8, 3) := by decide +kernel
theorem dX8_readFresh_27 : decode cX8_readFresh 27 = .ok (.aload_n 0, 1) := by decide +kernel
theorem dX8_readFresh_28 : decode cX8_readFresh 28 = .ok (.iconst 3, 1) := by decide +kernel
theorem dX8_readFresh_29 : decode cX8_readFresh 29 = .ok (.invokevirtual 118, 3) := by decide +kernel
theorem dX8_readFresh_32 : decode cX8_readFresh 32 = .ok (.aload_n 0, 1) := by decide +kernel
theorem dX8_readFresh_33 : decode cX8_readFresh 33 = .ok (.getfield 91, 3) := by decide +kernel
theorem dX8_readFresh_36 : decode cX8_readFresh 36 = .ok (.lstore_n 1, 1) := by decide +kernel
theorem dX8_readFresh_37 : decode cX8_readFresh 37 = .ok (.aload_n 0, 1) := by decide +kernel
theorem dX8_readFresh_38 : decode cX8_readFresh 38 = .ok (.invokevirtual 111, 3) := by decide +kernel
theorem dX8_readFresh_41 : decode cX8_readFresh 41 = .ok (.lload_n 1, 1) := by decide +kernel
theorem dX8_readFresh_42 : decode cX8_readFresh 42 = .ok (.lreturn, 1) := by decide +kernel
theorem dX8_names_0 : decode cX8_names 0 = .ok (.aload_n 0, 1) := by decide +kernel
theorem dX8_names_1 : decode cX8_names 1 = .ok (.getfield 142, 3) := by decide +kernel
theorem dX8_names_4 : decode cX8_names 4 = .ok (.getfield 159, 3) := by decide +kernel
theorem dX8_names_7 : decode cX8_names 7 = .ok (.aload_n 0, 1) := by decide +kernel
theorem dX8_names_8 : decode cX8_names 8 = .ok (.getfield 142, 3) := by decide +kernel
theorem dX8_names_11 : decode cX8_names 11 = .ok (.getfield 162, 3) := by decide +kernel
theorem dX8_names_14 : decode cX8_names 14 = .ok (.lload_n 1, 1) := by decide +kernel
theorem dX8_names_15 : decode cX8_names 15 = .ok (.lastore, 1) := by decide +kernel
theorem dX8_names_16 : decode cX8_names 16 = .ok (.aload_n 0, 1) := by decide +kernel
theorem dX8_names_17 : decode cX8_names 17 = .ok (.getfield 142, 3) := by decide +kernel
theorem dX8_names_20 : decode cX8_names 20 = .ok (.getfield 165, 3) := by decide +kernel
theorem dX8_names_23 : decode cX8_names 23 = .ok (.aload_n 0, 1) := by decide +kernel
theorem dX8_names_24 : decode cX8_names 24 = .ok (.getfield 142, 3) := by decide +kernel
theorem dX8_names_27 : decode cX8_names 27 = .ok (.getfield 162, 3) := by decide +kernel
theorem dX8_names_30 : decode cX8_names 30 = .ok (.iload_n 3, 1) := by decide +kernel
theorem dX8_names_31 : decode cX8_names 31 = .ok (.iastore, 1) := by decide +kernel
theorem dX8_names_32 : decode cX8_names 32 = .ok (.aload_n 0, 1) := by decide +kernel
theorem dX8_names_33 : decode cX8_names 33 = .ok (.getfield 142, 3) := by decide +kernel
theorem dX8_names_36 : decode cX8_names 36 = .ok (.getfield 168, 3) := by decide +kernel
theorem dX8_names_39 : decode cX8_names 39 = .ok (.aload_n 0, 1) := by decide +kernel
theorem dX8_names_40 : decode cX8_names 40 = .ok (.getfield 142, 3) := by decide +kernel
theorem dX8_names_43 : decode cX8_names 43 = .ok (.getfield 162, 3) := by decide +kernel
theorem dX8_names_46 : decode cX8_names 46 = .ok (.iload 4, 2) := by decide +kernel
theorem dX8_names_48 : decode cX8_names 48 = .ok (.iastore, 1) := by decide +kernel
theorem dX8_names_49 : decode cX8_names 49 = .ok (.aload_n 0, 1) := by decide +kernel
theorem dX8_names_50 : decode cX8_names 50 = .ok (.getfield 142, 3) := by decide +kernel
theorem dX8_names_53 : decode cX8_names 53 = .ok (.dup, 1) := by decide +kernel
theorem dX8_names_54 : decode cX8_names 54 = .ok (.getfield 162, 3) := by decide +kernel
theorem dX8_names_57 : decode cX8_names 57 = .ok (.iconst 1, 1) := by decide +kernel
theorem dX8_names_58 : decode cX8_names 58 = .ok (.iadd, 1) := by decide +kernel
theorem dX8_names_59 : decode cX8_names 59 = .ok (.putfield 162, 3) := by decide +kernel
theorem dX8_names_62 : decode cX8_names 62 = .ok (.return_, 1) := by decide +kernel
theorem dX8_knownOne_0 : decode cX8_knownOne 0 = .ok (.aload_n 0, 1) := by decide +kernel
theorem dX8_knownOne_1 : decode cX8_knownOne 1 = .ok (.invokevirtual 151, 3) := by decide +kernel
theorem dX8_knownOne_4 : decode cX8_knownOne 4 = .ok (.ifCond .ne 8, 3) := by decide +kernel
theorem dX8_knownOne_7 : decode cX8_knownOne 7 = .ok (.aload_n 0, 1) := by decide +kernel
theorem dX8_knownOne_8 : decode cX8_knownOne 8 = .ok (.iconst 1, 1) := by decide +kernel
theorem dX8_knownOne_9 : decode cX8_knownOne 9 = .ok (.invokevirtual 118, 3) := by decide +kernel
theorem dX8_knownOne_12 : decode cX8_knownOne 12 = .ok (.aload_n 0, 1) := by decide +kernel
theorem dX8_knownOne_13 : decode cX8_knownOne 13 = .ok (.getfield 142, 3) := by decide +kernel
theorem dX8_knownOne_16 : decode cX8_knownOne 16 = .ok (.aload_n 0, 1) := by decide +kernel
theorem dX8_knownOne_17 : decode cX8_knownOne 17 = .ok (.getfield 91, 3) := by decide +kernel
theorem dX8_knownOne_20 : decode cX8_knownOne 20 = .ok (.invokevirtual 155, 3) := by decide +kernel
theorem dX8_knownOne_23 : decode cX8_knownOne 23 = .ok (.istore_n 2, 1) := by decide +kernel
theorem dX8_knownOne_24 : decode cX8_knownOne 24 = .ok (.iload_n 2, 1) := by decide +kernel
theorem dX8_knownOne_25 : decode cX8_knownOne 25 = .ok (.iconst (-1), 1) := by decide +kernel
theorem dX8_knownOne_26 : decode cX8_knownOne 26 = .ok (.if_icmp .eq 16, 3) := by decide +kernel
theorem dX8_knownOne_29 : decode cX8_knownOne 29 = .ok (.aload_n 0, 1) := by decide +kernel
theorem dX8_knownOne_30 : decode cX8_knownOne 30 = .ok (.getfield 142, 3) := by decide +kernel
theorem dX8_knownOne_33 : decode cX8_knownOne 33 = .ok (.getfield 165, 3) := by decide +kernel
theorem dX8_knownOne_36 : decode cX8_knownOne 36 = .ok (.iload_n 2, 1) := by decide +kernel
theorem dX8_knownOne_37 : decode cX8_knownOne 37 = .ok (.iaload, 1) := by decide +kernel
theorem dX8_knownOne_38 : decode cX8_knownOne 38 = .ok (.iload_n 1, 1) := by decide +kernel
theorem dX8_knownOne_39 : decode cX8_knownOne 39 = .ok (.if_icmp .eq 8, 3) := by decide +kernel
theorem dX8_knownOne_42 : decode cX8_knownOne 42 = .ok (.aload_n 0, 1) := by decide +kernel
theorem dX8_knownOne_43 : decode cX8_knownOne 43 = .ok (.iconst 2, 1) := by decide +kernel
theorem dX8_knownOne_44 : decode cX8_knownOne 44 = .ok (.invokevirtual 118, 3) := by decide +kernel
theorem dX8_knownOne_47 : decode cX8_knownOne 47 = .ok (.aload_n 0, 1) := by decide +kernel
theorem dX8_knownOne_48 : decode cX8_knownOne 48 = .ok (.getfield 75, 3) := by decide +kernel
theorem dX8_knownOne_51 : decode cX8_knownOne 51 = .ok (.iconst 5, 1) := by decide +kernel
theorem dX8_knownOne_52 : decode cX8_knownOne 52 = .ok (.if_icmp .ne 7, 3) := by decide +kernel
theorem dX8_knownOne_55 : decode cX8_knownOne 55 = .ok (.iconst 0, 1) := by decide +kernel
theorem dX8_knownOne_56 : decode cX8_knownOne 56 = .ok (.goto 12, 3) := by decide +kernel
theorem dX8_knownOne_59 : decode cX8_knownOne 59 = .ok (.aload_n 0, 1) := by decide +kernel
theorem dX8_knownOne_60 : decode cX8_knownOne 60 = .ok (.getfield 142, 3) := by decide +kernel
theorem dX8_knownOne_63 : decode cX8_knownOne 63 = .ok (.getfield 168, 3) := by decide +kernel
theorem dX8_knownOne_66 : decode cX8_knownOne 66 = .ok (.iload_n 2, 1) := by decide +kernel
theorem dX8_knownOne_67 : decode cX8_knownOne 67 = .ok (.iaload, 1) := by decide +kernel
theorem dX8_knownOne_68 : decode cX8_knownOne 68 = .ok (.ireturn, 1) := by decide +kernel
theorem dX8_readKnown_0 : decode cX8_readKnown 0 = .ok (.aload_n 0, 1) := by decide +kernel
theorem dX8_readKnown_1 : decode cX8_readKnown 1 = .ok (.iload_n 1, 1) := by decide +kernel
theorem dX8_readKnown_2 : decode cX8_readKnown 2 = .ok (.invokevirtual 171, 3) := by decide +kernel
theorem dX8_readKnown_5 : decode cX8_readKnown 5 = .ok (.istore_n 2, 1) := by decide +kernel
theorem dX8_readKnown_6 : decode cX8_readKnown 6 = .ok (.aload_n 0, 1) := by decide +kernel
theorem dX8_readKnown_7 : decode cX8_readKnown 7 = .ok (.invokevirtual 111, 3) := by decide +kernel
theorem dX8_readKnown_10 : decode cX8_readKnown 10 = .ok (.iload_n 2, 1) := by decide +kernel
theorem dX8_readKnown_11 : decode cX8_readKnown 11 = .ok (.ireturn, 1) := by decide +kernel
theorem dX8_readAll_0 : decode cX8_readAll 0 = .ok (.iconst 1, 1) := by decide +kernel
theorem dX8_readAll_1 : decode cX8_readAll 1 = .ok (.istore_n 1, 1) := by decide +kernel
theorem dX8_readAll_2 : decode cX8_readAll 2 = .ok (.iload_n 1, 1) := by decide +kernel
theorem dX8_readAll_3 : decode cX8_readAll 3 = .ok (.ifCond .eq 17, 3) := by decide +kernel
theorem dX8_readAll_6 : decode cX8_readAll 6 = .ok (.aload_n 0, 1) := by decide +kernel
theorem dX8_readAll_7 : decode cX8_readAll 7 = .ok (.invokevirtual 174, 3) := by decide +kernel
theorem dX8_readAll_10 : decode cX8_readAll 10 = .ok (.aload_n 0, 1) := by decide +kernel
theorem dX8_readAll_11 : decode cX8_readAll 11 = .ok (.bipush 59, 2) := by decide +kernel
theorem dX8_readAll_13 : decode cX8_readAll 13 = .ok (.invokevirtual 177, 3) := by decide +kernel
theorem dX8_readAll_16 : decode cX8_readAll 16 = .ok (.istore_n 1, 1) := by decide +kernel
theorem dX8_readAll_17 : decode cX8_readAll 17 = .ok (.goto (-15), 3) := by decide +kernel
theorem dX8_readAll_20 : decode cX8_readAll 20 = .ok (.aload_n 0, 1) := by decide +kernel
theorem dX8_readAll_21 : decode cX8_readAll 21 = .ok (.getfield 75, 3) := by decide +kernel
theorem dX8_readAll_24 : decode cX8_readAll 24 = .ok (.iconst 1, 1) := by decide +kernel
theorem dX8_readAll_25 : decode cX8_readAll 25 = .ok (.if_icmp .eq 8, 3) := by decide +kernel
theorem dX8_readAll_28 : decode cX8_readAll 28 = .ok (.aload_n 0, 1) := by decide +kernel
theorem dX8_readAll_29 : decode cX8_readAll 29 = .ok (.iconst 1, 1) := by decide +kernel
theorem dX8_readAll_30 : decode cX8_readAll 30 = .ok (.invokevirtual 118, 3) := by decide +kernel
theorem dX8_readAll_33 : decode cX8_readAll 33 = .ok (.aload_n 0, 1) := by decide +kernel
theorem dX8_readAll_34 : decode cX8_readAll 34 = .ok (.getfield 142, 3) := by decide +kernel
theorem dX8_readAll_37 : decode cX8_readAll 37 = .ok (.getfield 180, 3) := by decide +kernel
theorem dX8_readAll_40 : decode cX8_readAll 40 = .ok (.ifCond .eq 13, 3) := by decide +kernel
theorem dX8_readAll_43 : decode cX8_readAll 43 = .ok (.aload_n 0, 1) := by decide +kernel
theorem dX8_readAll_44 : decode cX8_readAll 44 = .ok (.getfield 142, 3) := by decide +kernel
theorem dX8_readAll_47 : decode cX8_readAll 47 = .ok (.getfield 183, 3) := by decide +kernel
theorem dX8_readAll_50 : decode cX8_readAll 50 = .ok (.ifCond .ne 9, 3) := by decide +kernel
theorem dX8_readAll_53 : decode cX8_readAll 53 = .ok (.aload_n 0, 1) := by decide +kernel
theorem dX8_readAll_54 : decode cX8_readAll 54 = .ok (.bipush 6, 2) := by decide +kernel
theorem dX8_readAll_56 : decode cX8_readAll 56 = .ok (.invokevirtual 118, 3) := by decide +kernel
theorem dX8_readAll_59 : decode cX8_readAll 59 = .ok (.return_, 1) := by decide +kernel
theorem dX8_readLine_0 : decode cX8_readLine 0 = .ok (.aload_n 0, 1) := by decide +kernel
theorem dX8_readLine_1 : decode cX8_readLine 1 = .ok (.ldc 130, 2) := by decide +kernel
theorem dX8_readLine_3 : decode cX8_readLine 3 = .ok (.invokevirtual 114, 3) := by decide +kernel
theorem dX8_readLine_6 : decode cX8_readLine 6 = .ok (.ifCond .eq 10, 3) := by decide +kernel
theorem dX8_readLine_9 : decode cX8_readLine 9 = .ok (.aload_n 0, 1) := by decide +kernel
theorem dX8_readLine_10 : decode cX8_readLine 10 = .ok (.invokevirtual 186, 3) := by decide +kernel
theorem dX8_readLine_13 : decode cX8_readLine 13 = .ok (.goto 88, 3) := by decide +kernel
theorem dX8_readLine_16 : decode cX8_readLine 16 = .ok (.aload_n 0, 1) := by decide +kernel
theorem dX8_readLine_17 : decode cX8_readLine 17 = .ok (.ldc 132, 2) := by decide +kernel
theorem dX8_readLine_19 : decode cX8_readLine 19 = .ok (.invokevirtual 114, 3) := by decide +kernel
theorem dX8_readLine_22 : decode cX8_readLine 22 = .ok (.ifCond .eq 10, 3) := by decide +kernel
theorem dX8_readLine_25 : decode cX8_readLine 25 = .ok (.aload_n 0, 1) := by decide +kernel
theorem dX8_readLine_26 : decode cX8_readLine 26 = .ok (.invokevirtual 189, 3) := by decide +kernel
theorem dX8_readLine_29 : decode cX8_readLine 29 = .ok (.goto 72, 3) := by decide +kernel
theorem dX8_readLine_32 : decode cX8_readLine 32 = .ok (.aload_n 0, 1) := by decide +kernel
theorem dX8_readLine_33 : decode cX8_readLine 33 = .ok (.ldc 134, 2) := by decide +kernel
theorem dX8_readLine_35 : decode cX8_readLine 35 = .ok (.invokevirtual 114, 3) := by decide +kernel
theorem dX8_readLine_38 : decode cX8_readLine 38 = .ok (.ifCond .eq 10, 3) := by decide +kernel
theorem dX8_readLine_41 : decode cX8_readLine 41 = .ok (.aload_n 0, 1) := by decide +kernel
theorem dX8_readLine_42 : decode cX8_readLine 42 = .ok (.invokevirtual 192, 3) := by decide +kernel
theorem dX8_readLine_45 : decode cX8_readLine 45 = .ok (.goto 56, 3) := by decide +kernel
theorem dX8_readLine_48 : decode cX8_readLine 48 = .ok (.aload_n 0, 1) := by decide +kernel
theorem dX8_readLine_49 : decode cX8_readLine 49 = .ok (.ldc 136, 2) := by decide +kernel
theorem dX8_readLine_51 : decode cX8_readLine 51 = .ok (.invokevirtual 114, 3) := by decide +kernel
theorem dX8_readLine_54 : decode cX8_readLine 54 = .ok (.ifCond .eq 10, 3) := by decide +kernel
theorem dX8_readLine_57 : decode cX8_readLine 57 = .ok (.aload_n 0, 1) := by decide +kernel
theorem dX8_readLine_58 : decode cX8_readLine 58 = .ok (.invokevirtual 195, 3) := by decide +kernel
theorem dX8_readLine_61 : decode cX8_readLine 61 = .ok (.goto 40, 3) := by decide +kernel
theorem dX8_readLine_64 : decode cX8_readLine 64 = .ok (.aload_n 0, 1) := by decide +kernel
theorem dX8_readLine_65 : decode cX8_readLine 65 = .ok (.ldc 138, 2) := by decide +kernel
theorem dX8_readLine_67 : decode cX8_readLine 67 = .ok (.invokevirtual 114, 3) := by decide +kernel
theorem dX8_readLine_70 : decode cX8_readLine 70 = .ok (.ifCond .eq 10, 3) := by decide +kernel
theorem dX8_readLine_73 : decode cX8_readLine 73 = .ok (.aload_n 0, 1) := by decide +kernel
theorem dX8_readLine_74 : decode cX8_readLine 74 = .ok (.invokevirtual 198, 3) := by decide +kernel
theorem dX8_readLine_77 : decode cX8_readLine 77 = .ok (.goto 24, 3) := by decide +kernel
theorem dX8_readLine_80 : decode cX8_readLine 80 = .ok (.aload_n 0, 1) := by decide +kernel
theorem dX8_readLine_81 : decode cX8_readLine 81 = .ok (.ldc 140, 2) := by decide +kernel
theorem dX8_readLine_83 : decode cX8_readLine 83 = .ok (.invokevirtual 114, 3) := by decide +kernel
theorem dX8_readLine_86 : decode cX8_readLine 86 = .ok (.ifCond .eq 10, 3) := by decide +kernel
theorem dX8_readLine_89 : decode cX8_readLine 89 = .ok (.aload_n 0, 1) := by decide +kernel
theorem dX8_readLine_90 : decode cX8_readLine 90 = .ok (.invokevirtual 201, 3) := by decide +kernel
theorem dX8_readLine_93 : decode cX8_readLine 93 = .ok (.goto 8, 3) := by decide +kernel
theorem dX8_readLine_96 : decode cX8_readLine 96 = .ok (.aload_n 0, 1) := by decide +kernel
theorem dX8_readLine_97 : decode cX8_readLine 97 = .ok (.iconst 1, 1) := by decide +kernel
theorem dX8_readLine_98 : decode cX8_readLine 98 = .ok (.invokevirtual 118, 3) := by decide +kernel
theorem dX8_readLine_101 : decode cX8_readLine 101 = .ok (.return_, 1) := by decide +kernel
theorem dX8_readCity_0 : decode cX8_readCity 0 = .ok (.aload_n 0, 1) := by decide +kernel
theorem dX8_readCity_1 : decode cX8_readCity 1 = .ok (.getfield 142, 3) := by decide +kernel
theorem dX8_readCity_4 : decode cX8_readCity 4 = .ok (.getfield 146, 3) := by decide +kernel
theorem dX8_readCity_7 : decode cX8_readCity 7 = .ok (.iconst (-1), 1) := by decide +kernel
theorem dX8_readCity_8 : decode cX8_readCity 8 = .ok (.if_icmp .eq 8, 3) := by decide +kernel
theorem dX8_readCity_11 : decode cX8_readCity 11 = .ok (.aload_n 0, 1) := by decide +kernel
theorem dX8_readCity_12 : decode cX8_readCity 12 = .ok (.iconst 3, 1) := by decide +kernel
theorem dX8_readCity_13 : decode cX8_readCity 13 = .ok (.invokevirtual 118, 3) := by decide +kernel
theorem dX8_readCity_16 : decode cX8_readCity 16 = .ok (.aload_n 0, 1) := by decide +kernel
theorem dX8_readCity_17 : decode cX8_readCity 17 = .ok (.invokevirtual 111, 3) := by decide +kernel
theorem dX8_readCity_20 : decode cX8_readCity 20 = .ok (.aload_n 0, 1) := by decide +kernel
theorem dX8_readCity_21 : decode cX8_readCity 21 = .ok (.ldc 204, 2) := by decide +kernel
theorem dX8_readCity_23 : decode cX8_readCity 23 = .ok (.iconst 0, 1) := by decide +kernel
theorem dX8_readCity_24 : decode cX8_readCity 24 = .ok (.bipush 9, 2) := by decide +kernel
theorem dX8_readCity_26 : decode cX8_readCity 26 = .ok (.invokevirtual 205, 3) := by decide +kernel
theorem dX8_readCity_29 : decode cX8_readCity 29 = .ok (.istore_n 1, 1) := by decide +kernel
theorem dX8_readCity_30 : decode cX8_readCity 30 = .ok (.aload_n 0, 1) := by decide +kernel
theorem dX8_readCity_31 : decode cX8_readCity 31 = .ok (.ldc 209, 2) := by decide +kernel
theorem dX8_readCity_33 : decode cX8_readCity 33 = .ok (.iconst 0, 1) := by decide +kernel
theorem dX8_readCity_34 : decode cX8_readCity 34 = .ok (.bipush 100, 2) := by decide +kernel
theorem dX8_readCity_36 : decode cX8_readCity 36 = .ok (.invokevirtual 205, 3) := by decide +kernel
theorem dX8_readCity_39 : decode cX8_readCity 39 = .ok (.istore_n 2, 1) := by decide +kernel
theorem dX8_readCity_40 : decode cX8_readCity 40 = .ok (.aload_n 0, 1) := by decide +kernel
theorem dX8_readCity_41 : decode cX8_readCity 41 = .ok (.ldc 211, 2) := by decide +kernel
theorem dX8_readCity_43 : decode cX8_readCity 43 = .ok (.iconst 0, 1) := by decide +kernel
theorem dX8_readCity_44 : decode cX8_readCity 44 = .ok (.bipush 100, 2) := by decide +kernel
theorem dX8_readCity_46 : decode cX8_readCity 46 = .ok (.invokevirtual 205, 3) := by decide +kernel
theorem dX8_readCity_49 : decode cX8_readCity 49 = .ok (.istore_n 3, 1) := by decide +kernel
theorem dX8_readCity_50 : decode cX8_readCity 50 = .ok (.aload_n 0, 1) := by decide +kernel
theorem dX8_readCity_51 : decode cX8_readCity 51 = .ok (.getfield 75, 3) := by decide +kernel
theorem dX8_readCity_54 : decode cX8_readCity 54 = .ok (.iconst 5, 1) := by decide +kernel
theorem dX8_readCity_55 : decode cX8_readCity 55 = .ok (.if_icmp .ne 4, 3) := by decide +kernel
theorem dX8_readCity_58 : decode cX8_readCity 58 = .ok (.return_, 1) := by decide +kernel
theorem dX8_readCity_59 : decode cX8_readCity 59 = .ok (.aload_n 0, 1) := by decide +kernel
theorem dX8_readCity_60 : decode cX8_readCity 60 = .ok (.getfield 142, 3) := by decide +kernel
theorem dX8_readCity_63 : decode cX8_readCity 63 = .ok (.iload_n 1, 1) := by decide +kernel
theorem dX8_readCity_64 : decode cX8_readCity 64 = .ok (.putfield 146, 3) := by decide +kernel
theorem dX8_readCity_67 : decode cX8_readCity 67 = .ok (.aload_n 0, 1) := by decide +kernel
theorem dX8_readCity_68 : decode cX8_readCity 68 = .ok (.getfield 142, 3) := by decide +kernel
theorem dX8_readCity_71 : decode cX8_readCity 71 = .ok (.iload_n 2, 1) := by decide +kernel
theorem dX8_readCity_72 : decode cX8_readCity 72 = .ok (.putfield 213, 3) := by decide +kernel
theorem dX8_readCity_75 : decode cX8_readCity 75 = .ok (.aload_n 0, 1) := by decide +kernel
theorem dX8_readCity_76 : decode cX8_readCity 76 = .ok (.getfield 142, 3) := by decide +kernel
theorem dX8_readCity_79 : decode cX8_readCity 79 = .ok (.iload_n 3, 1) := by decide +kernel
theorem dX8_readCity_80 : decode cX8_readCity 80 = .ok (.putfield 215, 3) := by decide +kernel
theorem dX8_readCity_83 : decode cX8_readCity 83 = .ok (.return_, 1) := by decide +kernel
theorem dX8_readMan_0 : decode cX8_readMan 0 = .ok (.aload_n 0, 1) := by decide +kernel
theorem dX8_readMan_1 : decode cX8_readMan 1 = .ok (.aload_n 0, 1) := by decide +kernel
theorem dX8_readMan_2 : decode cX8_readMan 2 = .ok (.getfield 142, 3) := by decide +kernel
theorem dX8_readMan_5 : decode cX8_readMan 5 = .ok (.getfield 180, 3) := by decide +kernel
theorem dX8_readMan_8 : decode cX8_readMan 8 = .ok (.iconst 4, 1) := by decide +kernel
theorem dX8_readMan_9 : decode cX8_readMan 9 = .ok (.invokevirtual 217, 3) := by decide +kernel
theorem dX8_readMan_12 : decode cX8_readMan 12 = .ok (.aload_n 0, 1) := by decide +kernel
theorem dX8_readMan_13 : decode cX8_readMan 13 = .ok (.invokevirtual 221, 3) := by decide +kernel
theorem dX8_readMan_16 : decode cX8_readMan 16 = .ok (.lstore_n 1, 1) := by decide +kernel
theorem dX8_readMan_17 : decode cX8_readMan 17 = .ok (.aload_n 0, 1) := by decide +kernel
theorem dX8_readMan_18 : decode cX8_readMan 18 = .ok (.getfield 75, 3) := by decide +kernel
theorem dX8_readMan_21 : decode cX8_readMan 21 = .ok (.iconst 5, 1) := by decide +kernel
theorem dX8_readMan_22 : decode cX8_readMan 22 = .ok (.if_icmp .ne 4, 3) := by decide +kernel
theorem dX8_readMan_25 : decode cX8_readMan 25 = .ok (.return_, 1) := by decide +kernel
theorem dX8_readMan_26 : decode cX8_readMan 26 = .ok (.aload_n 0, 1) := by decide +kernel
theorem dX8_readMan_27 : decode cX8_readMan 27 = .ok (.lload_n 1, 1) := by decide +kernel
theorem dX8_readMan_28 : decode cX8_readMan 28 = .ok (.iconst 0, 1) := by decide +kernel
theorem dX8_readMan_29 : decode cX8_readMan 29 = .ok (.aload_n 0, 1) := by decide +kernel
theorem dX8_readMan_30 : decode cX8_readMan 30 = .ok (.getfield 142, 3) := by decide +kernel
theorem dX8_readMan_33 : decode cX8_readMan 33 = .ok (.getfield 180, 3) := by decide +kernel
theorem dX8_readMan_36 : decode cX8_readMan 36 = .ok (.invokevirtual 225, 3) := by decide +kernel
theorem dX8_readMan_39 : decode cX8_readMan 39 = .ok (.aload_n 0, 1) := by decide +kernel
theorem dX8_readMan_40 : decode cX8_readMan 40 = .ok (.getfield 142, 3) := by decide +kernel
theorem dX8_readMan_43 : decode cX8_readMan 43 = .ok (.dup, 1) := by decide +kernel
theorem dX8_readMan_44 : decode cX8_readMan 44 = .ok (.getfield 180, 3) := by decide +kernel
theorem dX8_readMan_47 : decode cX8_readMan 47 = .ok (.iconst 1, 1) := by decide +kernel
theorem dX8_readMan_48 : decode cX8_readMan 48 = .ok (.iadd, 1) := by decide +kernel
theorem dX8_readMan_49 : decode cX8_readMan 49 = .ok (.putfield 180, 3) := by decide +kernel
theorem dX8_readMan_52 : decode cX8_readMan 52 = .ok (.return_, 1) := by decide +kernel
theorem dX8_readDeed_0 : decode cX8_readDeed 0 = .ok (.aload_n 0, 1) := by decide +kernel
theorem dX8_readDeed_1 : decode cX8_readDeed 1 = .ok (.aload_n 0, 1) := by decide +kernel
theorem dX8_readDeed_2 : decode cX8_readDeed 2 = .ok (.getfield 142, 3) := by decide +kernel
theorem dX8_readDeed_5 : decode cX8_readDeed 5 = .ok (.getfield 183, 3) := by decide +kernel
theorem dX8_readDeed_8 : decode cX8_readDeed 8 = .ok (.bipush 6, 2) := by decide +kernel
theorem dX8_readDeed_10 : decode cX8_readDeed 10 = .ok (.invokevirtual 217, 3) := by decide +kernel
theorem dX8_readDeed_13 : decode cX8_readDeed 13 = .ok (.aload_n 0, 1) := by decide +kernel
theorem dX8_readDeed_14 : decode cX8_readDeed 14 = .ok (.invokevirtual 221, 3) := by decide +kernel
theorem dX8_readDeed_17 : decode cX8_readDeed 17 = .ok (.lstore_n 1, 1) := by decide +kernel
theorem dX8_readDeed_18 : decode cX8_readDeed 18 = .ok (.aload_n 0, 1) := by decide +kernel
theorem dX8_readDeed_19 : decode cX8_readDeed 19 = .ok (.getfield 75, 3) := by decide +kernel
theorem dX8_readDeed_22 : decode cX8_readDeed 22 = .ok (.iconst 5, 1) := by decide +kernel
theorem dX8_readDeed_23 : decode cX8_readDeed 23 = .ok (.if_icmp .ne 4, 3) := by decide +kernel
theorem dX8_readDeed_26 : decode cX8_readDeed 26 = .ok (.return_, 1) := by decide +kernel
theorem dX8_readDeed_27 : decode cX8_readDeed 27 = .ok (.aload_n 0, 1) := by decide +kernel
theorem dX8_readDeed_28 : decode cX8_readDeed 28 = .ok (.lload_n 1, 1) := by decide +kernel
theorem dX8_readDeed_29 : decode cX8_readDeed 29 = .ok (.iconst 1, 1) := by decide +kernel
theorem dX8_readDeed_30 : decode cX8_readDeed 30 = .ok (.aload_n 0, 1) := by decide +kernel
theorem dX8_readDeed_31 : decode cX8_readDeed 31 = .ok (.getfield 142, 3) := by decide +kernel
theorem dX8_readDeed_34 : decode cX8_readDeed 34 = .ok (.getfield 183, 3) := by decide +kernel
theorem dX8_readDeed_37 : decode cX8_readDeed 37 = .ok (.invokevirtual 225, 3) := by decide +kernel
theorem dX8_readDeed_40 : decode cX8_readDeed 40 = .ok (.aload_n 0, 1) := by decide +kernel
theorem dX8_readDeed_41 : decode cX8_readDeed 41 = .ok (.getfield 142, 3) := by decide +kernel
theorem dX8_readDeed_44 : decode cX8_readDeed 44 = .ok (.dup, 1) := by decide +kernel
theorem dX8_readDeed_45 : decode cX8_readDeed 45 = .ok (.getfield 183, 3) := by decide +kernel
theorem dX8_readDeed_48 : decode cX8_readDeed 48 = .ok (.iconst 1, 1) := by decide +kernel
theorem dX8_readDeed_49 : decode cX8_readDeed 49 = .ok (.iadd, 1) := by decide +kernel
theorem dX8_readDeed_50 : decode cX8_readDeed 50 = .ok (.putfield 183, 3) := by decide +kernel
theorem dX8_readDeed_53 : decode cX8_readDeed 53 = .ok (.return_, 1) := by decide +kernel
theorem dX8_formAtHand_0 : decode cX8_formAtHand 0 = .ok (.aload_n 0, 1) := by decide +kernel
theorem dX8_formAtHand_1 : decode cX8_formAtHand 1 = .ok (.ldc 228, 2) := by decide +kernel
theorem dX8_formAtHand_3 : decode cX8_formAtHand 3 = .ok (.invokevirtual 114, 3) := by decide +kernel
theorem dX8_formAtHand_6 : decode cX8_formAtHand 6 = .ok (.ifCond .eq 5, 3) := by decide +kernel
theorem dX8_formAtHand_9 : decode cX8_formAtHand 9 = .ok (.iconst 0, 1) := by decide +kernel
theorem dX8_formAtHand_10 : decode cX8_formAtHand 10 = .ok (.ireturn, 1) := by decide +kernel
theorem dX8_formAtHand_11 : decode cX8_formAtHand 11 = .ok (.aload_n 0, 1) := by decide +kernel
theorem dX8_formAtHand_12 : decode cX8_formAtHand 12 = .ok (.ldc 230, 2) := by decide +kernel
theorem dX8_formAtHand_14 : decode cX8_formAtHand 14 = .ok (.invokevirtual 114, 3) := by decide +kernel
theorem dX8_formAtHand_17 : decode cX8_formAtHand 17 = .ok (.ifCond .eq 5, 3) := by decide +kernel
theorem dX8_formAtHand_20 : decode cX8_formAtHand 20 = .ok (.iconst 1, 1) := by decide +kernel
theorem dX8_formAtHand_21 : decode cX8_formAtHand 21 = .ok (.ireturn, 1) := by decide +kernel
theorem dX8_formAtHand_22 : decode cX8_formAtHand 22 = .ok (.aload_n 0, 1) := by decide +kernel
theorem dX8_formAtHand_23 : decode cX8_formAtHand 23 = .ok (.ldc 232, 2) := by decide +kernel
theorem dX8_formAtHand_25 : decode cX8_formAtHand 25 = .ok (.invokevirtual 114, 3) := by decide +kernel
theorem dX8_formAtHand_28 : decode cX8_formAtHand 28 = .ok (.ifCond .eq 5, 3) := by decide +kernel
theorem dX8_formAtHand_31 : decode cX8_formAtHand 31 = .ok (.iconst 2, 1) := by decide +kernel
theorem dX8_formAtHand_32 : decode cX8_formAtHand 32 = .ok (.ireturn, 1) := by decide +kernel
theorem dX8_formAtHand_33 : decode cX8_formAtHand 33 = .ok (.aload_n 0, 1) := by decide +kernel
theorem dX8_formAtHand_34 : decode cX8_formAtHand 34 = .ok (.ldc 234, 2) := by decide +kernel
theorem dX8_formAtHand_36 : decode cX8_formAtHand 36 = .ok (.invokevirtual 114, 3) := by decide +kernel
theorem dX8_formAtHand_39 : decode cX8_formAtHand 39 = .ok (.ifCond .eq 5, 3) := by decide +kernel
theorem dX8_formAtHand_42 : decode cX8_formAtHand 42 = .ok (.iconst 3, 1) := by decide +kernel
theorem dX8_formAtHand_43 : decode cX8_formAtHand 43 = .ok (.ireturn, 1) := by decide +kernel
theorem dX8_formAtHand_44 : decode cX8_formAtHand 44 = .ok (.aload_n 0, 1) := by decide +kernel
theorem dX8_formAtHand_45 : decode cX8_formAtHand 45 = .ok (.ldc 236, 2) := by decide +kernel
theorem dX8_formAtHand_47 : decode cX8_formAtHand 47 = .ok (.invokevirtual 114, 3) := by decide +kernel
theorem dX8_formAtHand_50 : decode cX8_formAtHand 50 = .ok (.ifCond .eq 7, 3) := by decide +kernel
theorem dX8_formAtHand_53 : decode cX8_formAtHand 53 = .ok (.iconst 4, 1) := by decide +kernel
theorem dX8_formAtHand_54 : decode cX8_formAtHand 54 = .ok (.goto 17, 3) := by decide +kernel
theorem dX8_formAtHand_57 : decode cX8_formAtHand 57 = .ok (.aload_n 0, 1) := by decide +kernel
theorem dX8_formAtHand_58 : decode cX8_formAtHand 58 = .ok (.ldc 238, 2) := by decide +kernel
theorem dX8_formAtHand_60 : decode cX8_formAtHand 60 = .ok (.invokevirtual 114, 3) := by decide +kernel
theorem dX8_formAtHand_63 : decode cX8_formAtHand 63 = .ok (.ifCond .eq 7, 3) := by decide +kernel
theorem dX8_formAtHand_66 : decode cX8_formAtHand 66 = .ok (.iconst 5, 1) := by decide +kernel
theorem dX8_formAtHand_67 : decode cX8_formAtHand 67 = .ok (.goto 4, 3) := by decide +kernel
theorem dX8_formAtHand_70 : decode cX8_formAtHand 70 = .ok (.iconst (-1), 1) := by decide +kernel
theorem dX8_formAtHand_71 : decode cX8_formAtHand 71 = .ok (.ireturn, 1) := by decide +kernel
theorem dX8_readClause_0 : decode cX8_readClause 0 = .ok (.aload_n 0, 1) := by decide +kernel
theorem dX8_readClause_1 : decode cX8_readClause 1 = .ok (.aload_n 0, 1) := by decide +kernel
theorem dX8_readClause_2 : decode cX8_readClause 2 = .ok (.getfield 142, 3) := by decide +kernel
theorem dX8_readClause_5 : decode cX8_readClause 5 = .ok (.getfield 240, 3) := by decide +kernel
theorem dX8_readClause_8 : decode cX8_readClause 8 = .ok (.bipush 8, 2) := by decide +kernel
theorem dX8_readClause_10 : decode cX8_readClause 10 = .ok (.invokevirtual 217, 3) := by decide +kernel
theorem dX8_readClause_13 : decode cX8_readClause 13 = .ok (.aload_n 0, 1) := by decide +kernel
theorem dX8_readClause_14 : decode cX8_readClause 14 = .ok (.invokevirtual 221, 3) := by decide +kernel
theorem dX8_readClause_17 : decode cX8_readClause 17 = .ok (.lstore_n 1, 1) := by decide +kernel
theorem dX8_readClause_18 : decode cX8_readClause 18 = .ok (.aload_n 0, 1) := by decide +kernel
theorem dX8_readClause_19 : decode cX8_readClause 19 = .ok (.ldc 243, 2) := by decide +kernel
theorem dX8_readClause_21 : decode cX8_readClause 21 = .ok (.invokevirtual 122, 3) := by decide +kernel
theorem dX8_readClause_24 : decode cX8_readClause 24 = .ok (.aload_n 0, 1) := by decide +kernel
theorem dX8_readClause_25 : decode cX8_readClause 25 = .ok (.iconst 0, 1) := by decide +kernel
theorem dX8_readClause_26 : decode cX8_readClause 26 = .ok (.invokevirtual 245, 3) := by decide +kernel
theorem dX8_readClause_29 : decode cX8_readClause 29 = .ok (.istore_n 3, 1) := by decide +kernel
theorem dX8_readClause_30 : decode cX8_readClause 30 = .ok (.aload_n 0, 1) := by decide +kernel
theorem dX8_readClause_31 : decode cX8_readClause 31 = .ok (.ldc 248, 2) := by decide +kernel
theorem dX8_readClause_33 : decode cX8_readClause 33 = .ok (.iconst 1, 1) := by decide +kernel
theorem dX8_readClause_34 : decode cX8_readClause 34 = .ok (.bipush 40, 2) := by decide +kernel
theorem dX8_readClause_36 : decode cX8_readClause 36 = .ok (.invokevirtual 205, 3) := by decide +kernel
theorem dX8_readClause_39 : decode cX8_readClause 39 = .ok (.istore 4, 2) := by decide +kernel
theorem dX8_readClause_41 : decode cX8_readClause 41 = .ok (.aload_n 0, 1) := by decide +kernel
theorem dX8_readClause_42 : decode cX8_readClause 42 = .ok (.invokevirtual 250, 3) := by decide +kernel
theorem dX8_readClause_45 : decode cX8_readClause 45 = .ok (.istore 5, 2) := by decide +kernel
theorem dX8_readClause_47 : decode cX8_readClause 47 = .ok (.iload 5, 2) := by decide +kernel
theorem dX8_readClause_49 : decode cX8_readClause 49 = .ok (.iconst (-1), 1) := by decide +kernel
theorem dX8_readClause_50 : decode cX8_readClause 50 = .ok (.if_icmp .ne 8, 3) := by decide +kernel
theorem dX8_readClause_53 : decode cX8_readClause 53 = .ok (.aload_n 0, 1) := by decide +kernel
theorem dX8_readClause_54 : decode cX8_readClause 54 = .ok (.iconst 1, 1) := by decide +kernel
theorem dX8_readClause_55 : decode cX8_readClause 55 = .ok (.invokevirtual 118, 3) := by decide +kernel
theorem dX8_readClause_58 : decode cX8_readClause 58 = .ok (.aload_n 0, 1) := by decide +kernel
theorem dX8_readClause_59 : decode cX8_readClause 59 = .ok (.invokevirtual 111, 3) := by decide +kernel
theorem dX8_readClause_62 : decode cX8_readClause 62 = .ok (.aload_n 0, 1) := by decide +kernel
theorem dX8_readClause_63 : decode cX8_readClause 63 = .ok (.iconst 1, 1) := by decide +kernel
theorem dX8_readClause_64 : decode cX8_readClause 64 = .ok (.invokevirtual 245, 3) := by decide +kernel
theorem dX8_readClause_67 : decode cX8_readClause 67 = .ok (.istore 6, 2) := by decide +kernel
theorem dX8_readClause_69 : decode cX8_readClause 69 = .ok (.bipush (-2), 2) := by decide +kernel
theorem dX8_readClause_71 : decode cX8_readClause 71 = .ok (.istore 7, 2) := by decide +kernel
theorem dX8_readClause_73 : decode cX8_readClause 73 = .ok (.iload 5, 2) := by decide +kernel
theorem dX8_readClause_75 : decode cX8_readClause 75 = .ok (.iconst 1, 1) := by decide +kernel
theorem dX8_readClause_76 : decode cX8_readClause 76 = .ok (.if_icmp .le 34, 3) := by decide +kernel
theorem dX8_readClause_79 : decode cX8_readClause 79 = .ok (.aload_n 0, 1) := by decide +kernel
theorem dX8_readClause_80 : decode cX8_readClause 80 = .ok (.iconst 1, 1) := by decide +kernel
theorem dX8_readClause_81 : decode cX8_readClause 81 = .ok (.invokevirtual 171, 3) := by decide +kernel
theorem dX8_readClause_84 : decode cX8_readClause 84 = .ok (.istore 7, 2) := by decide +kernel
theorem dX8_readClause_86 : decode cX8_readClause 86 = .ok (.aload_n 0, 1) := by decide +kernel
theorem dX8_readClause_87 : decode cX8_readClause 87 = .ok (.getfield 75, 3) := by decide +kernel
theorem dX8_readClause_90 : decode cX8_readClause 90 = .ok (.iconst 5, 1) := by decide +kernel
theorem dX8_readClause_91 : decode cX8_readClause 91 = .ok (.if_icmp .eq 15, 3) := by decide +kernel
theorem dX8_readClause_94 : decode cX8_readClause 94 = .ok (.iload 6, 2) := by decide +kernel
theorem dX8_readClause_96 : decode cX8_readClause 96 = .ok (.iload 7, 2) := by decide +kernel
theorem dX8_readClause_98 : decode cX8_readClause 98 = .ok (.if_icmp .ne 8, 3) := by decide +kernel
theorem dX8_readClause_101 : decode cX8_readClause 101 = .ok (.aload_n 0, 1) := by decide +kernel
theorem dX8_readClause_102 : decode cX8_readClause 102 = .ok (.iconst 3, 1) := by decide +kernel
theorem dX8_readClause_103 : decode cX8_readClause 103 = .ok (.invokevirtual 118, 3) := by decide +kernel
theorem dX8_readClause_106 : decode cX8_readClause 106 = .ok (.aload_n 0, 1) := by decide +kernel
theorem dX8_readClause_107 : decode cX8_readClause 107 = .ok (.invokevirtual 111, 3) := by decide +kernel
theorem dX8_readClause_110 : decode cX8_readClause 110 = .ok (.aload_n 0, 1) := by decide +kernel
theorem dX8_readClause_111 : decode cX8_readClause 111 = .ok (.getfield 75, 3) := by decide +kernel
theorem dX8_readClause_114 : decode cX8_readClause 114 = .ok (.iconst 5, 1) := by decide +kernel
theorem dX8_readClause_115 : decode cX8_readClause 115 = .ok (.if_icmp .ne 4, 3) := by decide +kernel
theorem dX8_readClause_118 : decode cX8_readClause 118 = .ok (.return_, 1) := by decide +kernel
theorem dX8_readClause_119 : decode cX8_readClause 119 = .ok (.aload_n 0, 1) := by decide +kernel
theorem dX8_readClause_120 : decode cX8_readClause 120 = .ok (.getfield 142, 3) := by decide +kernel
theorem dX8_readClause_123 : decode cX8_readClause 123 = .ok (.getfield 240, 3) := by decide +kernel
theorem dX8_readClause_126 : decode cX8_readClause 126 = .ok (.istore 8, 2) := by decide +kernel
theorem dX8_readClause_128 : decode cX8_readClause 128 = .ok (.aload_n 0, 1) := by decide +kernel
theorem dX8_readClause_129 : decode cX8_readClause 129 = .ok (.lload_n 1, 1) := by decide +kernel
theorem dX8_readClause_130 : decode cX8_readClause 130 = .ok (.iconst 2, 1) := by decide +kernel
theorem dX8_readClause_131 : decode cX8_readClause 131 = .ok (.iload 8, 2) := by decide +kernel
theorem dX8_readClause_133 : decode cX8_readClause 133 = .ok (.invokevirtual 225, 3) := by decide +kernel
theorem dX8_readClause_136 : decode cX8_readClause 136 = .ok (.aload_n 0, 1) := by decide +kernel
theorem dX8_readClause_137 : decode cX8_readClause 137 = .ok (.getfield 142, 3) := by decide +kernel
theorem dX8_readClause_140 : decode cX8_readClause 140 = .ok (.getfield 253, 3) := by decide +kernel
theorem dX8_readClause_143 : decode cX8_readClause 143 = .ok (.iload 8, 2) := by decide +kernel
theorem dX8_readClause_145 : decode cX8_readClause 145 = .ok (.iload_n 3, 1) := by decide +kernel
theorem dX8_readClause_146 : decode cX8_readClause 146 = .ok (.iastore, 1) := by decide +kernel
theorem dX8_readClause_147 : decode cX8_readClause 147 = .ok (.aload_n 0, 1) := by decide +kernel
theorem dX8_readClause_148 : decode cX8_readClause 148 = .ok (.getfield 142, 3) := by decide +kernel
theorem dX8_readClause_151 : decode cX8_readClause 151 = .ok (.getfield 255, 3) := by decide +kernel
theorem dX8_readClause_154 : decode cX8_readClause 154 = .ok (.iload 8, 2) := by decide +kernel
theorem dX8_readClause_156 : decode cX8_readClause 156 = .ok (.iload 4, 2) := by decide +kernel
theorem dX8_readClause_158 : decode cX8_readClause 158 = .ok (.iastore, 1) := by decide +kernel
theorem dX8_readClause_159 : decode cX8_readClause 159 = .ok (.aload_n 0, 1) := by decide +kernel
theorem dX8_readClause_160 : decode cX8_readClause 160 = .ok (.getfield 142, 3) := by decide +kernel
theorem dX8_readClause_163 : decode cX8_readClause 163 = .ok (.getfield 257, 3) := by decide +kernel
theorem dX8_readClause_166 : decode cX8_readClause 166 = .ok (.iload 8, 2) := by decide +kernel
theorem dX8_readClause_168 : decode cX8_readClause 168 = .ok (.iload 5, 2) := by decide +kernel
theorem dX8_readClause_170 : decode cX8_readClause 170 = .ok (.iastore, 1) := by decide +kernel
theorem dX8_readClause_171 : decode cX8_readClause 171 = .ok (.aload_n 0, 1) := by decide +kernel
theorem dX8_readClause_172 : decode cX8_readClause 172 = .ok (.getfield 142, 3) := by decide +kernel
theorem dX8_readClause_175 : decode cX8_readClause 175 = .ok (.getfield 260, 3) := by decide +kernel
theorem dX8_readClause_178 : decode cX8_readClause 178 = .ok (.iload 8, 2) := by decide +kernel
theorem dX8_readClause_180 : decode cX8_readClause 180 = .ok (.iload 6, 2) := by decide +kernel
theorem dX8_readClause_182 : decode cX8_readClause 182 = .ok (.iastore, 1) := by decide +kernel
theorem dX8_readClause_183 : decode cX8_readClause 183 = .ok (.aload_n 0, 1) := by decide +kernel
theorem dX8_readClause_184 : decode cX8_readClause 184 = .ok (.getfield 142, 3) := by decide +kernel
theorem dX8_readClause_187 : decode cX8_readClause 187 = .ok (.getfield 263, 3) := by decide +kernel
theorem dX8_readClause_190 : decode cX8_readClause 190 = .ok (.iload 8, 2) := by decide +kernel
theorem dX8_readClause_192 : decode cX8_readClause 192 = .ok (.iload 7, 2) := by decide +kernel
theorem dX8_readClause_194 : decode cX8_readClause 194 = .ok (.iastore, 1) := by decide +kernel
theorem dX8_readClause_195 : decode cX8_readClause 195 = .ok (.aload_n 0, 1) := by decide +kernel
theorem dX8_readClause_196 : decode cX8_readClause 196 = .ok (.getfield 142, 3) := by decide +kernel
theorem dX8_readClause_199 : decode cX8_readClause 199 = .ok (.dup, 1) := by decide +kernel
theorem dX8_readClause_200 : decode cX8_readClause 200 = .ok (.getfield 240, 3) := by decide +kernel
theorem dX8_readClause_203 : decode cX8_readClause 203 = .ok (.iconst 1, 1) := by decide +kernel
theorem dX8_readClause_204 : decode cX8_readClause 204 = .ok (.iadd, 1) := by decide +kernel
theorem dX8_readClause_205 : decode cX8_readClause 205 = .ok (.putfield 240, 3) := by decide +kernel
theorem dX8_readClause_208 : decode cX8_readClause 208 = .ok (.return_, 1) := by decide +kernel
theorem dX8_readUnsure_0 : decode cX8_readUnsure 0 = .ok (.aload_n 0, 1) := by decide +kernel
theorem dX8_readUnsure_1 : decode cX8_readUnsure 1 = .ok (.aload_n 0, 1) := by decide +kernel
theorem dX8_readUnsure_2 : decode cX8_readUnsure 2 = .ok (.getfield 142, 3) := by decide +kernel
theorem dX8_readUnsure_5 : decode cX8_readUnsure 5 = .ok (.getfield 266, 3) := by decide +kernel
theorem dX8_readUnsure_8 : decode cX8_readUnsure 8 = .ok (.iconst 5, 1) := by decide +kernel
theorem dX8_readUnsure_9 : decode cX8_readUnsure 9 = .ok (.invokevirtual 217, 3) := by decide +kernel
theorem dX8_readUnsure_12 : decode cX8_readUnsure 12 = .ok (.aload_n 0, 1) := by decide +kernel
theorem dX8_readUnsure_13 : decode cX8_readUnsure 13 = .ok (.iconst 2, 1) := by decide +kernel
theorem dX8_readUnsure_14 : decode cX8_readUnsure 14 = .ok (.invokevirtual 171, 3) := by decide +kernel
theorem dX8_readUnsure_17 : decode cX8_readUnsure 17 = .ok (.istore_n 1, 1) := by decide +kernel
theorem dX8_readUnsure_18 : decode cX8_readUnsure 18 = .ok (.aload_n 0, 1) := by decide +kernel
theorem dX8_readUnsure_19 : decode cX8_readUnsure 19 = .ok (.getfield 75, 3) := by decide +kernel
theorem dX8_readUnsure_22 : decode cX8_readUnsure 22 = .ok (.iconst 5, 1) := by decide +kernel
theorem dX8_readUnsure_23 : decode cX8_readUnsure 23 = .ok (.if_icmp .eq 19, 3) := by decide +kernel
theorem dX8_readUnsure_26 : decode cX8_readUnsure 26 = .ok (.aload_n 0, 1) := by decide +kernel
theorem dX8_readUnsure_27 : decode cX8_readUnsure 27 = .ok (.getfield 142, 3) := by decide +kernel
theorem dX8_readUnsure_30 : decode cX8_readUnsure 30 = .ok (.iload_n 1, 1) := by decide +kernel
theorem dX8_readUnsure_31 : decode cX8_readUnsure 31 = .ok (.invokevirtual 269, 3) := by decide +kernel
theorem dX8_readUnsure_34 : decode cX8_readUnsure 34 = .ok (.ifCond .eq 8, 3) := by decide +kernel
theorem dX8_readUnsure_37 : decode cX8_readUnsure 37 = .ok (.aload_n 0, 1) := by decide +kernel
theorem dX8_readUnsure_38 : decode cX8_readUnsure 38 = .ok (.iconst 3, 1) := by decide +kernel
theorem dX8_readUnsure_39 : decode cX8_readUnsure 39 = .ok (.invokevirtual 118, 3) := by decide +kernel
theorem dX8_readUnsure_42 : decode cX8_readUnsure 42 = .ok (.aload_n 0, 1) := by decide +kernel
theorem dX8_readUnsure_43 : decode cX8_readUnsure 43 = .ok (.invokevirtual 111, 3) := by decide +kernel
theorem dX8_readUnsure_46 : decode cX8_readUnsure 46 = .ok (.aload_n 0, 1) := by decide +kernel
theorem dX8_readUnsure_47 : decode cX8_readUnsure 47 = .ok (.getfield 75, 3) := by decide +kernel
theorem dX8_readUnsure_50 : decode cX8_readUnsure 50 = .ok (.iconst 5, 1) := by decide +kernel
theorem dX8_readUnsure_51 : decode cX8_readUnsure 51 = .ok (.if_icmp .ne 4, 3) := by decide +kernel
theorem dX8_readUnsure_54 : decode cX8_readUnsure 54 = .ok (.return_, 1) := by decide +kernel
theorem dX8_readUnsure_55 : decode cX8_readUnsure 55 = .ok (.aload_n 0, 1) := by decide +kernel
theorem dX8_readUnsure_56 : decode cX8_readUnsure 56 = .ok (.getfield 142, 3) := by decide +kernel
theorem dX8_readUnsure_59 : decode cX8_readUnsure 59 = .ok (.getfield 272, 3) := by decide +kernel
theorem dX8_readUnsure_62 : decode cX8_readUnsure 62 = .ok (.aload_n 0, 1) := by decide +kernel
theorem dX8_readUnsure_63 : decode cX8_readUnsure 63 = .ok (.getfield 142, 3) := by decide +kernel
theorem dX8_readUnsure_66 : decode cX8_readUnsure 66 = .ok (.getfield 266, 3) := by decide +kernel
theorem dX8_readUnsure_69 : decode cX8_readUnsure 69 = .ok (.iload_n 1, 1) := by decide +kernel
theorem dX8_readUnsure_70 : decode cX8_readUnsure 70 = .ok (.iastore, 1) := by decide +kernel
theorem dX8_readUnsure_71 : decode cX8_readUnsure 71 = .ok (.aload_n 0, 1) := by decide +kernel
theorem dX8_readUnsure_72 : decode cX8_readUnsure 72 = .ok (.getfield 142, 3) := by decide +kernel
theorem dX8_readUnsure_75 : decode cX8_readUnsure 75 = .ok (.dup, 1) := by decide +kernel
theorem dX8_readUnsure_76 : decode cX8_readUnsure 76 = .ok (.getfield 266, 3) := by decide +kernel
theorem dX8_readUnsure_79 : decode cX8_readUnsure 79 = .ok (.iconst 1, 1) := by decide +kernel
theorem dX8_readUnsure_80 : decode cX8_readUnsure 80 = .ok (.iadd, 1) := by decide +kernel
theorem dX8_readUnsure_81 : decode cX8_readUnsure 81 = .ok (.putfield 266, 3) := by decide +kernel
theorem dX8_readUnsure_84 : decode cX8_readUnsure 84 = .ok (.return_, 1) := by decide +kernel
theorem dX8_readDeeds_0 : decode cX8_readDeeds 0 = .ok (.iconst 0, 1) := by decide +kernel
theorem dX8_readDeeds_1 : decode cX8_readDeeds 1 = .ok (.istore_n 1, 1) := by decide +kernel
theorem dX8_readDeeds_2 : decode cX8_readDeeds 2 = .ok (.aload_n 0, 1) := by decide +kernel
theorem dX8_readDeeds_3 : decode cX8_readDeeds 3 = .ok (.getfield 75, 3) := by decide +kernel
theorem dX8_readDeeds_6 : decode cX8_readDeeds 6 = .ok (.iconst 1, 1) := by decide +kernel
theorem dX8_readDeeds_7 : decode cX8_readDeeds 7 = .ok (.if_icmp .eq 32, 3) := by decide +kernel
theorem dX8_readDeeds_10 : decode cX8_readDeeds 10 = .ok (.aload_n 0, 1) := by decide +kernel
theorem dX8_readDeeds_11 : decode cX8_readDeeds 11 = .ok (.getfield 75, 3) := by decide +kernel
theorem dX8_readDeeds_14 : decode cX8_readDeeds 14 = .ok (.iconst 5, 1) := by decide +kernel
theorem dX8_readDeeds_15 : decode cX8_readDeeds 15 = .ok (.if_icmp .eq 24, 3) := by decide +kernel
theorem dX8_readDeeds_18 : decode cX8_readDeeds 18 = .ok (.aload_n 0, 1) := by decide +kernel
theorem dX8_readDeeds_19 : decode cX8_readDeeds 19 = .ok (.getfield 75, 3) := by decide +kernel
theorem dX8_readDeeds_22 : decode cX8_readDeeds 22 = .ok (.iconst 4, 1) := by decide +kernel
theorem dX8_readDeeds_23 : decode cX8_readDeeds 23 = .ok (.if_icmp .ne 12, 3) := by decide +kernel
theorem dX8_readDeeds_26 : decode cX8_readDeeds 26 = .ok (.aload_n 0, 1) := by decide +kernel
theorem dX8_readDeeds_27 : decode cX8_readDeeds 27 = .ok (.getfield 98, 3) := by decide +kernel
theorem dX8_readDeeds_30 : decode cX8_readDeeds 30 = .ok (.bipush 59, 2) := by decide +kernel
theorem dX8_readDeeds_32 : decode cX8_readDeeds 32 = .ok (.if_icmp .eq 7, 3) := by decide +kernel
theorem dX8_readDeeds_35 : decode cX8_readDeeds 35 = .ok (.iconst 1, 1) := by decide +kernel
theorem dX8_readDeeds_36 : decode cX8_readDeeds 36 = .ok (.goto 4, 3) := by decide +kernel
theorem dX8_readDeeds_39 : decode cX8_readDeeds 39 = .ok (.iconst 0, 1) := by decide +kernel
theorem dX8_readDeeds_40 : decode cX8_readDeeds 40 = .ok (.istore_n 2, 1) := by decide +kernel
theorem dX8_readDeeds_41 : decode cX8_readDeeds 41 = .ok (.iload_n 2, 1) := by decide +kernel
theorem dX8_readDeeds_42 : decode cX8_readDeeds 42 = .ok (.ifCond .eq 50, 3) := by decide +kernel
theorem dX8_readDeeds_45 : decode cX8_readDeeds 45 = .ok (.aload_n 0, 1) := by decide +kernel
theorem dX8_readDeeds_46 : decode cX8_readDeeds 46 = .ok (.iconst 1, 1) := by decide +kernel
theorem dX8_readDeeds_47 : decode cX8_readDeeds 47 = .ok (.invokevirtual 171, 3) := by decide +kernel
theorem dX8_readDeeds_50 : decode cX8_readDeeds 50 = .ok (.istore_n 3, 1) := by decide +kernel
theorem dX8_readDeeds_51 : decode cX8_readDeeds 51 = .ok (.aload_n 0, 1) := by decide +kernel
theorem dX8_readDeeds_52 : decode cX8_readDeeds 52 = .ok (.getfield 75, 3) := by decide +kernel
theorem dX8_readDeeds_55 : decode cX8_readDeeds 55 = .ok (.iconst 5, 1) := by decide +kernel
theorem dX8_readDeeds_56 : decode cX8_readDeeds 56 = .ok (.if_icmp .eq 16, 3) := by decide +kernel
theorem dX8_readDeeds_59 : decode cX8_readDeeds 59 = .ok (.iload_n 1, 1) := by decide +kernel
theorem dX8_readDeeds_60 : decode cX8_readDeeds 60 = .ok (.iload_n 3, 1) := by decide +kernel
theorem dX8_readDeeds_61 : decode cX8_readDeeds 61 = .ok (.invokestatic 274, 3) := by decide +kernel
theorem dX8_readDeeds_64 : decode cX8_readDeeds 64 = .ok (.ifCond .eq 8, 3) := by decide +kernel
theorem dX8_readDeeds_67 : decode cX8_readDeeds 67 = .ok (.aload_n 0, 1) := by decide +kernel
theorem dX8_readDeeds_68 : decode cX8_readDeeds 68 = .ok (.iconst 3, 1) := by decide +kernel
theorem dX8_readDeeds_69 : decode cX8_readDeeds 69 = .ok (.invokevirtual 118, 3) := by decide +kernel
theorem dX8_readDeeds_72 : decode cX8_readDeeds 72 = .ok (.iload_n 1, 1) := by decide +kernel
theorem dX8_readDeeds_73 : decode cX8_readDeeds 73 = .ok (.iconst 1, 1) := by decide +kernel
theorem dX8_readDeeds_74 : decode cX8_readDeeds 74 = .ok (.iload_n 3, 1) := by decide +kernel
theorem dX8_readDeeds_75 : decode cX8_readDeeds 75 = .ok (.ishl, 1) := by decide +kernel
theorem dX8_readDeeds_76 : decode cX8_readDeeds 76 = .ok (.ior, 1) := by decide +kernel
theorem dX8_readDeeds_77 : decode cX8_readDeeds 77 = .ok (.istore_n 1, 1) := by decide +kernel
theorem dX8_readDeeds_78 : decode cX8_readDeeds 78 = .ok (.aload_n 0, 1) := by decide +kernel
theorem dX8_readDeeds_79 : decode cX8_readDeeds 79 = .ok (.invokevirtual 111, 3) := by decide +kernel
theorem dX8_readDeeds_82 : decode cX8_readDeeds 82 = .ok (.aload_n 0, 1) := by decide +kernel
theorem dX8_readDeeds_83 : decode cX8_readDeeds 83 = .ok (.bipush 44, 2) := by decide +kernel
theorem dX8_readDeeds_85 : decode cX8_readDeeds 85 = .ok (.invokevirtual 177, 3) := by decide +kernel
theorem dX8_readDeeds_88 : decode cX8_readDeeds 88 = .ok (.istore_n 2, 1) := by decide +kernel
theorem dX8_readDeeds_89 : decode cX8_readDeeds 89 = .ok (.goto (-48), 3) := by decide +kernel
theorem dX8_readDeeds_92 : decode cX8_readDeeds 92 = .ok (.iload_n 1, 1) := by decide +kernel
theorem dX8_readDeeds_93 : decode cX8_readDeeds 93 = .ok (.ireturn, 1) := by decide +kernel
theorem dX8_readDid_0 : decode cX8_readDid 0 = .ok (.aload_n 0, 1) := by decide +kernel
theorem dX8_readDid_1 : decode cX8_readDid 1 = .ok (.aload_n 0, 1) := by decide +kernel
theorem dX8_readDid_2 : decode cX8_readDid 2 = .ok (.getfield 142, 3) := by decide +kernel
theorem dX8_readDid_5 : decode cX8_readDid 5 = .ok (.getfield 278, 3) := by decide +kernel
theorem dX8_readDid_8 : decode cX8_readDid 8 = .ok (.bipush 6, 2) := by decide +kernel
theorem dX8_readDid_10 : decode cX8_readDid 10 = .ok (.invokevirtual 217, 3) := by decide +kernel
theorem dX8_readDid_13 : decode cX8_readDid 13 = .ok (.aload_n 0, 1) := by decide +kernel
theorem dX8_readDid_14 : decode cX8_readDid 14 = .ok (.iconst 0, 1) := by decide +kernel
theorem dX8_readDid_15 : decode cX8_readDid 15 = .ok (.invokevirtual 245, 3) := by decide +kernel
theorem dX8_readDid_18 : decode cX8_readDid 18 = .ok (.istore_n 1, 1) := by decide +kernel
theorem dX8_readDid_19 : decode cX8_readDid 19 = .ok (.aload_n 0, 1) := by decide +kernel
theorem dX8_readDid_20 : decode cX8_readDid 20 = .ok (.ldc_w 281, 3) := by decide +kernel
theorem dX8_readDid_23 : decode cX8_readDid 23 = .ok (.iconst 0, 1) := by decide +kernel
theorem dX8_readDid_24 : decode cX8_readDid 24 = .ok (.bipush 40, 2) := by decide +kernel
theorem dX8_readDid_26 : decode cX8_readDid 26 = .ok (.invokevirtual 205, 3) := by decide +kernel
theorem dX8_readDid_29 : decode cX8_readDid 29 = .ok (.istore_n 2, 1) := by decide +kernel
theorem dX8_readDid_30 : decode cX8_readDid 30 = .ok (.aload_n 0, 1) := by decide +kernel
theorem dX8_readDid_31 : decode cX8_readDid 31 = .ok (.ldc_w 283, 3) := by decide +kernel
theorem dX8_readDid_34 : decode cX8_readDid 34 = .ok (.invokevirtual 114, 3) := by decide +kernel
theorem dX8_readDid_37 : decode cX8_readDid 37 = .ok (.istore_n 3, 1) := by decide +kernel
theorem dX8_readDid_38 : decode cX8_readDid 38 = .ok (.iload_n 3, 1) := by decide +kernel
theorem dX8_readDid_39 : decode cX8_readDid 39 = .ok (.ifCond .ne 18, 3) := by decide +kernel
theorem dX8_readDid_42 : decode cX8_readDid 42 = .ok (.aload_n 0, 1) := by decide +kernel
theorem dX8_readDid_43 : decode cX8_readDid 43 = .ok (.ldc_w 284, 3) := by decide +kernel
theorem dX8_readDid_46 : decode cX8_readDid 46 = .ok (.invokevirtual 114, 3) := by decide +kernel
theorem dX8_readDid_49 : decode cX8_readDid 49 = .ok (.ifCond .ne 8, 3) := by decide +kernel
theorem dX8_readDid_52 : decode cX8_readDid 52 = .ok (.aload_n 0, 1) := by decide +kernel
theorem dX8_readDid_53 : decode cX8_readDid 53 = .ok (.iconst 1, 1) := by decide +kernel
theorem dX8_readDid_54 : decode cX8_readDid 54 = .ok (.invokevirtual 118, 3) := by decide +kernel
theorem dX8_readDid_57 : decode cX8_readDid 57 = .ok (.aload_n 0, 1) := by decide +kernel
theorem dX8_readDid_58 : decode cX8_readDid 58 = .ok (.invokevirtual 111, 3) := by decide +kernel
theorem dX8_readDid_61 : decode cX8_readDid 61 = .ok (.aload_n 0, 1) := by decide +kernel
theorem dX8_readDid_62 : decode cX8_readDid 62 = .ok (.invokevirtual 286, 3) := by decide +kernel
theorem dX8_readDid_65 : decode cX8_readDid 65 = .ok (.istore 4, 2) := by decide +kernel
theorem dX8_readDid_67 : decode cX8_readDid 67 = .ok (.aload_n 0, 1) := by decide +kernel
theorem dX8_readDid_68 : decode cX8_readDid 68 = .ok (.getfield 75, 3) := by decide +kernel
theorem dX8_readDid_71 : decode cX8_readDid 71 = .ok (.iconst 5, 1) := by decide +kernel
theorem dX8_readDid_72 : decode cX8_readDid 72 = .ok (.if_icmp .ne 4, 3) := by decide +kernel
theorem dX8_readDid_75 : decode cX8_readDid 75 = .ok (.return_, 1) := by decide +kernel
theorem dX8_readDid_76 : decode cX8_readDid 76 = .ok (.aload_n 0, 1) := by decide +kernel
theorem dX8_readDid_77 : decode cX8_readDid 77 = .ok (.getfield 142, 3) := by decide +kernel
theorem dX8_readDid_80 : decode cX8_readDid 80 = .ok (.getfield 289, 3) := by decide +kernel
theorem dX8_readDid_83 : decode cX8_readDid 83 = .ok (.aload_n 0, 1) := by decide +kernel
theorem dX8_readDid_84 : decode cX8_readDid 84 = .ok (.getfield 142, 3) := by decide +kernel
theorem dX8_readDid_87 : decode cX8_readDid 87 = .ok (.getfield 278, 3) := by decide +kernel
theorem dX8_readDid_90 : decode cX8_readDid 90 = .ok (.iload_n 1, 1) := by decide +kernel
theorem dX8_readDid_91 : decode cX8_readDid 91 = .ok (.iastore, 1) := by decide +kernel
theorem dX8_readDid_92 : decode cX8_readDid 92 = .ok (.aload_n 0, 1) := by decide +kernel
theorem dX8_readDid_93 : decode cX8_readDid 93 = .ok (.getfield 142, 3) := by decide +kernel
theorem dX8_readDid_96 : decode cX8_readDid 96 = .ok (.getfield 292, 3) := by decide +kernel
theorem dX8_readDid_99 : decode cX8_readDid 99 = .ok (.aload_n 0, 1) := by decide +kernel
theorem dX8_readDid_100 : decode cX8_readDid 100 = .ok (.getfield 142, 3) := by decide +kernel
theorem dX8_readDid_103 : decode cX8_readDid 103 = .ok (.getfield 278, 3) := by decide +kernel
theorem dX8_readDid_106 : decode cX8_readDid 106 = .ok (.iload_n 2, 1) := by decide +kernel
theorem dX8_readDid_107 : decode cX8_readDid 107 = .ok (.iastore, 1) := by decide +kernel
theorem dX8_readDid_108 : decode cX8_readDid 108 = .ok (.aload_n 0, 1) := by decide +kernel
theorem dX8_readDid_109 : decode cX8_readDid 109 = .ok (.getfield 142, 3) := by decide +kernel
theorem dX8_readDid_112 : decode cX8_readDid 112 = .ok (.getfield 295, 3) := by decide +kernel
theorem dX8_readDid_115 : decode cX8_readDid 115 = .ok (.aload_n 0, 1) := by decide +kernel
theorem dX8_readDid_116 : decode cX8_readDid 116 = .ok (.getfield 142, 3) := by decide +kernel
theorem dX8_readDid_119 : decode cX8_readDid 119 = .ok (.getfield 278, 3) := by decide +kernel
theorem dX8_readDid_122 : decode cX8_readDid 122 = .ok (.iload 4, 2) := by decide +kernel
theorem dX8_readDid_124 : decode cX8_readDid 124 = .ok (.iastore, 1) := by decide +kernel
theorem dX8_readDid_125 : decode cX8_readDid 125 = .ok (.aload_n 0, 1) := by decide +kernel
theorem dX8_readDid_126 : decode cX8_readDid 126 = .ok (.getfield 142, 3) := by decide +kernel
theorem dX8_readDid_129 : decode cX8_readDid 129 = .ok (.dup, 1) := by decide +kernel
theorem dX8_readDid_130 : decode cX8_readDid 130 = .ok (.getfield 297, 3) := by decide +kernel
theorem dX8_readDid_133 : decode cX8_readDid 133 = .ok (.iload_n 3, 1) := by decide +kernel
theorem dX8_readDid_134 : decode cX8_readDid 134 = .ok (.ifCond .eq 15, 3) := by decide +kernel
theorem dX8_readDid_137 : decode cX8_readDid 137 = .ok (.iconst 1, 1) := by decide +kernel
theorem dX8_readDid_138 : decode cX8_readDid 138 = .ok (.aload_n 0, 1) := by decide +kernel
theorem dX8_readDid_139 : decode cX8_readDid 139 = .ok (.getfield 142, 3) := by decide +kernel
theorem dX8_readDid_142 : decode cX8_readDid 142 = .ok (.getfield 278, 3) := by decide +kernel
theorem dX8_readDid_145 : decode cX8_readDid 145 = .ok (.ishl, 1) := by decide +kernel
theorem dX8_readDid_146 : decode cX8_readDid 146 = .ok (.goto 4, 3) := by decide +kernel
theorem dX8_readDid_149 : decode cX8_readDid 149 = .ok (.iconst 0, 1) := by decide +kernel
theorem dX8_readDid_150 : decode cX8_readDid 150 = .ok (.ior, 1) := by decide +kernel
theorem dX8_readDid_151 : decode cX8_readDid 151 = .ok (.putfield 297, 3) := by decide +kernel
theorem dX8_readDid_154 : decode cX8_readDid 154 = .ok (.aload_n 0, 1) := by decide +kernel
theorem dX8_readDid_155 : decode cX8_readDid 155 = .ok (.getfield 142, 3) := by decide +kernel
theorem dX8_readDid_158 : decode cX8_readDid 158 = .ok (.dup, 1) := by decide +kernel
theorem dX8_readDid_159 : decode cX8_readDid 159 = .ok (.getfield 278, 3) := by decide +kernel
theorem dX8_readDid_162 : decode cX8_readDid 162 = .ok (.iconst 1, 1) := by decide +kernel
theorem dX8_readDid_163 : decode cX8_readDid 163 = .ok (.iadd, 1) := by decide +kernel
theorem dX8_readDid_164 : decode cX8_readDid 164 = .ok (.putfield 278, 3) := by decide +kernel
theorem dX8_readDid_167 : decode cX8_readDid 167 = .ok (.return_, 1) := by decide +kernel
theorem dX8_feed_0 : decode cX8_feed 0 = .ok (.aload_n 0, 1) := by decide +kernel
theorem dX8_feed_1 : decode cX8_feed 1 = .ok (.iconst 0, 1) := by decide +kernel
theorem dX8_feed_2 : decode cX8_feed 2 = .ok (.putfield 43, 3) := by decide +kernel
theorem dX8_feed_5 : decode cX8_feed 5 = .ok (.aload_n 0, 1) := by decide +kernel
theorem dX8_feed_6 : decode cX8_feed 6 = .ok (.getfield 299, 3) := by decide +kernel
theorem dX8_feed_9 : decode cX8_feed 9 = .ok (.bipush 20, 2) := by decide +kernel
theorem dX8_feed_11 : decode cX8_feed 11 = .ok (.iadd, 1) := by decide +kernel
theorem dX8_feed_12 : decode cX8_feed 12 = .ok (.sipush 900, 3) := by decide +kernel
theorem dX8_feed_15 : decode cX8_feed 15 = .ok (.if_icmp .le 5, 3) := by decide +kernel
theorem dX8_feed_18 : decode cX8_feed 18 = .ok (.iconst (-1), 1) := by decide +kernel
theorem dX8_feed_19 : decode cX8_feed 19 = .ok (.ireturn, 1) := by decide +kernel
theorem dX8_feed_20 : decode cX8_feed 20 = .ok (.iconst 0, 1) := by decide +kernel
theorem dX8_feed_21 : decode cX8_feed 21 = .ok (.istore 6, 2) := by decide +kernel
theorem dX8_feed_23 : decode cX8_feed 23 = .ok (.iload 6, 2) := by decide +kernel
theorem dX8_feed_25 : decode cX8_feed 25 = .ok (.bipush 20, 2) := by decide +kernel
theorem dX8_feed_27 : decode cX8_feed 27 = .ok (.if_icmp .ge 90, 3) := by decide +kernel
theorem dX8_feed_30 : decode cX8_feed 30 = .ok (.iload 6, 2) := by decide +kernel
theorem dX8_feed_32 : decode cX8_feed 32 = .ok (.iconst 4, 1) := by decide +kernel
theorem dX8_feed_33 : decode cX8_feed 33 = .ok (.if_icmp .ge 7, 3) := by decide +kernel
theorem dX8_feed_36 : decode cX8_feed 36 = .ok (.iload_n 1, 1) := by decide +kernel
theorem dX8_feed_37 : decode cX8_feed 37 = .ok (.goto 39, 3) := by decide +kernel
theorem dX8_feed_40 : decode cX8_feed 40 = .ok (.iload 6, 2) := by decide +kernel
theorem dX8_feed_42 : decode cX8_feed 42 = .ok (.bipush 8, 2) := by decide +kernel
theorem dX8_feed_44 : decode cX8_feed 44 = .ok (.if_icmp .ge 7, 3) := by decide +kernel
theorem dX8_feed_47 : decode cX8_feed 47 = .ok (.iload_n 2, 1) := by decide +kernel
theorem dX8_feed_48 : decode cX8_feed 48 = .ok (.goto 28, 3) := by decide +kernel
theorem dX8_feed_51 : decode cX8_feed 51 = .ok (.iload 6, 2) := by decide +kernel
theorem dX8_feed_53 : decode cX8_feed 53 = .ok (.bipush 12, 2) := by decide +kernel
theorem dX8_feed_55 : decode cX8_feed 55 = .ok (.if_icmp .ge 7, 3) := by decide +kernel
theorem dX8_feed_58 : decode cX8_feed 58 = .ok (.iload_n 3, 1) := by decide +kernel
theorem dX8_feed_59 : decode cX8_feed 59 = .ok (.goto 17, 3) := by decide +kernel
theorem dX8_feed_62 : decode cX8_feed 62 = .ok (.iload 6, 2) := by decide +kernel
theorem dX8_feed_64 : decode cX8_feed 64 = .ok (.bipush 16, 2) := by decide +kernel
theorem dX8_feed_66 : decode cX8_feed 66 = .ok (.if_icmp .ge 8, 3) := by decide +kernel
theorem dX8_feed_69 : decode cX8_feed 69 = .ok (.iload 4, 2) := by decide +kernel
theorem dX8_feed_71 : decode cX8_feed 71 = .ok (.goto 5, 3) := by decide +kernel
theorem dX8_feed_74 : decode cX8_feed 74 = .ok (.iload 5, 2) := by decide +kernel
theorem dX8_feed_76 : decode cX8_feed 76 = .ok (.istore 7, 2) := by decide +kernel
theorem dX8_feed_78 : decode cX8_feed 78 = .ok (.aload_n 0, 1) := by decide +kernel
theorem dX8_feed_79 : decode cX8_feed 79 = .ok (.getfield 13, 3) := by decide +kernel
theorem dX8_feed_82 : decode cX8_feed 82 = .ok (.aload_n 0, 1) := by decide +kernel
theorem dX8_feed_83 : decode cX8_feed 83 = .ok (.getfield 299, 3) := by decide +kernel
theorem dX8_feed_86 : decode cX8_feed 86 = .ok (.iload 7, 2) := by decide +kernel
theorem dX8_feed_88 : decode cX8_feed 88 = .ok (.bipush 24, 2) := by decide +kernel
theorem dX8_feed_90 : decode cX8_feed 90 = .ok (.bipush 8, 2) := by decide +kernel
theorem dX8_feed_92 : decode cX8_feed 92 = .ok (.iload 6, 2) := by decide +kernel
theorem dX8_feed_94 : decode cX8_feed 94 = .ok (.iconst 4, 1) := by decide +kernel
theorem dX8_feed_95 : decode cX8_feed 95 = .ok (.irem, 1) := by decide +kernel
theorem dX8_feed_96 : decode cX8_feed 96 = .ok (.imul, 1) := by decide +kernel
theorem dX8_feed_97 : decode cX8_feed 97 = .ok (.isub, 1) := by decide +kernel
theorem dX8_feed_98 : decode cX8_feed 98 = .ok (.ishr, 1) := by decide +kernel
theorem dX8_feed_99 : decode cX8_feed 99 = .ok (.i2b, 1) := by decide +kernel
theorem dX8_feed_100 : decode cX8_feed 100 = .ok (.bastore, 1) := by decide +kernel
theorem dX8_feed_101 : decode cX8_feed 101 = .ok (.aload_n 0, 1) := by decide +kernel
theorem dX8_feed_102 : decode cX8_feed 102 = .ok (.dup, 1) := by decide +kernel
theorem dX8_feed_103 : decode cX8_feed 103 = .ok (.getfield 299, 3) := by decide +kernel
theorem dX8_feed_106 : decode cX8_feed 106 = .ok (.iconst 1, 1) := by decide +kernel
theorem dX8_feed_107 : decode cX8_feed 107 = .ok (.iadd, 1) := by decide +kernel
theorem dX8_feed_108 : decode cX8_feed 108 = .ok (.putfield 299, 3) := by decide +kernel
theorem dX8_feed_111 : decode cX8_feed 111 = .ok (.iinc 6 1, 3) := by decide +kernel
theorem dX8_feed_114 : decode cX8_feed 114 = .ok (.goto (-91), 3) := by decide +kernel
theorem dX8_feed_117 : decode cX8_feed 117 = .ok (.aload_n 0, 1) := by decide +kernel
theorem dX8_feed_118 : decode cX8_feed 118 = .ok (.getfield 299, 3) := by decide +kernel
theorem dX8_feed_121 : decode cX8_feed 121 = .ok (.ireturn, 1) := by decide +kernel
theorem dX8_city_0 : decode cX8_city 0 = .ok (.aload_n 0, 1) := by decide +kernel
theorem dX8_city_1 : decode cX8_city 1 = .ok (.iconst 0, 1) := by decide +kernel
theorem dX8_city_2 : decode cX8_city 2 = .ok (.putfield 43, 3) := by decide +kernel
theorem dX8_city_5 : decode cX8_city 5 = .ok (.iload_n 1, 1) := by decide +kernel
theorem dX8_city_6 : decode cX8_city 6 = .ok (.ifCond .lt 11, 3) := by decide +kernel
theorem dX8_city_9 : decode cX8_city 9 = .ok (.iload_n 1, 1) := by decide +kernel
theorem dX8_city_10 : decode cX8_city 10 = .ok (.aload_n 0, 1) := by decide +kernel
theorem dX8_city_11 : decode cX8_city 11 = .ok (.getfield 299, 3) := by decide +kernel
theorem dX8_city_14 : decode cX8_city 14 = .ok (.if_icmp .le 9, 3) := by decide +kernel
theorem dX8_city_17 : decode cX8_city 17 = .ok (.aload_n 0, 1) := by decide +kernel
theorem dX8_city_18 : decode cX8_city 18 = .ok (.iconst 2, 1) := by decide +kernel
theorem dX8_city_19 : decode cX8_city 19 = .ok (.invokevirtual 49, 3) := by decide +kernel
theorem dX8_city_22 : decode cX8_city 22 = .ok (.ireturn, 1) := by decide +kernel
theorem dX8_city_23 : decode cX8_city 23 = .ok (.aload_n 0, 1) := by decide +kernel
theorem dX8_city_24 : decode cX8_city 24 = .ok (.iload_n 1, 1) := by decide +kernel
theorem dX8_city_25 : decode cX8_city 25 = .ok (.putfield 60, 3) := by decide +kernel
theorem dX8_city_28 : decode cX8_city 28 = .ok (.aload_n 0, 1) := by decide +kernel
theorem dX8_city_29 : decode cX8_city 29 = .ok (.iconst 0, 1) := by decide +kernel
theorem dX8_city_30 : decode cX8_city 30 = .ok (.putfield 299, 3) := by decide +kernel
theorem dX8_city_33 : decode cX8_city 33 = .ok (.aload_n 0, 1) := by decide +kernel
theorem dX8_city_34 : decode cX8_city 34 = .ok (.iconst 0, 1) := by decide +kernel
theorem dX8_city_35 : decode cX8_city 35 = .ok (.putfield 78, 3) := by decide +kernel
theorem dX8_city_38 : decode cX8_city 38 = .ok (.aload_n 0, 1) := by decide +kernel
theorem dX8_city_39 : decode cX8_city 39 = .ok (.iconst 0, 1) := by decide +kernel
theorem dX8_city_40 : decode cX8_city 40 = .ok (.putfield 101, 3) := by decide +kernel
theorem dX8_city_43 : decode cX8_city 43 = .ok (.aload_n 0, 1) := by decide +kernel
theorem dX8_city_44 : decode cX8_city 44 = .ok (.new 147, 3) := by decide +kernel
theorem dX8_city_47 : decode cX8_city 47 = .ok (.dup, 1) := by decide +kernel
theorem dX8_city_48 : decode cX8_city 48 = .ok (.invokespecial 302, 3) := by decide +kernel
theorem dX8_city_51 : decode cX8_city 51 = .ok (.putfield 142, 3) := by decide +kernel
theorem dX8_city_54 : decode cX8_city 54 = .ok (.aload_n 0, 1) := by decide +kernel
theorem dX8_city_55 : decode cX8_city 55 = .ok (.iconst 0, 1) := by decide +kernel
theorem dX8_city_56 : decode cX8_city 56 = .ok (.putfield 75, 3) := by decide +kernel
theorem dX8_city_59 : decode cX8_city 59 = .ok (.aload_n 0, 1) := by decide +kernel
theorem dX8_city_60 : decode cX8_city 60 = .ok (.invokevirtual 111, 3) := by decide +kernel
theorem dX8_city_63 : decode cX8_city 63 = .ok (.aload_n 0, 1) := by decide +kernel
theorem dX8_city_64 : decode cX8_city 64 = .ok (.invokevirtual 303, 3) := by decide +kernel
theorem dX8_city_67 : decode cX8_city 67 = .ok (.aload_n 0, 1) := by decide +kernel
theorem dX8_city_68 : decode cX8_city 68 = .ok (.getfield 101, 3) := by decide +kernel
theorem dX8_city_71 : decode cX8_city 71 = .ok (.ifCond .le 18, 3) := by decide +kernel
theorem dX8_city_74 : decode cX8_city 74 = .ok (.aload_n 0, 1) := by decide +kernel
theorem dX8_city_75 : decode cX8_city 75 = .ok (.iconst 4, 1) := by decide +kernel
theorem dX8_city_76 : decode cX8_city 76 = .ok (.putfield 46, 3) := by decide +kernel
theorem dX8_city_79 : decode cX8_city 79 = .ok (.aload_n 0, 1) := by decide +kernel
theorem dX8_city_80 : decode cX8_city 80 = .ok (.aload_n 0, 1) := by decide +kernel
theorem dX8_city_81 : decode cX8_city 81 = .ok (.getfield 104, 3) := by decide +kernel
theorem dX8_city_84 : decode cX8_city 84 = .ok (.putfield 9, 3) := by decide +kernel
theorem dX8_city_87 : decode cX8_city 87 = .ok (.iconst (-1), 1) := by decide +kernel
theorem dX8_city_88 : decode cX8_city 88 = .ok (.ireturn, 1) := by decide +kernel
theorem dX8_city_89 : decode cX8_city 89 = .ok (.aload_n 0, 1) := by decide +kernel
theorem dX8_city_90 : decode cX8_city 90 = .ok (.aload_n 0, 1) := by decide +kernel
theorem dX8_city_91 : decode cX8_city 91 = .ok (.getfield 142, 3) := by decide +kernel
theorem dX8_city_94 : decode cX8_city 94 = .ok (.putfield 306, 3) := by decide +kernel
theorem dX8_city_97 : decode cX8_city 97 = .ok (.aload_n 0, 1) := by decide +kernel
theorem dX8_city_98 : decode cX8_city 98 = .ok (.invokevirtual 308, 3) := by decide +kernel
theorem dX8_city_101 : decode cX8_city 101 = .ok (.iconst 0, 1) := by decide +kernel
theorem dX8_city_102 : decode cX8_city 102 = .ok (.istore_n 2, 1) := by decide +kernel
theorem dX8_city_103 : decode cX8_city 103 = .ok (.iload_n 2, 1) := by decide +kernel
theorem dX8_city_104 : decode cX8_city 104 = .ok (.bipush 25, 2) := by decide +kernel
theorem dX8_city_106 : decode cX8_city 106 = .ok (.if_icmp .ge 21, 3) := by decide +kernel
theorem dX8_city_109 : decode cX8_city 109 = .ok (.aload_n 0, 1) := by decide +kernel
theorem dX8_city_110 : decode cX8_city 110 = .ok (.getfield 17, 3) := by decide +kernel
theorem dX8_city_113 : decode cX8_city 113 = .ok (.iload_n 2, 1) := by decide +kernel
theorem dX8_city_114 : decode cX8_city 114 = .ok (.aload_n 0, 1) := by decide +kernel
theorem dX8_city_115 : decode cX8_city 115 = .ok (.getfield 21, 3) := by decide +kernel
theorem dX8_city_118 : decode cX8_city 118 = .ok (.iload_n 2, 1) := by decide +kernel
theorem dX8_city_119 : decode cX8_city 119 = .ok (.iaload, 1) := by decide +kernel
theorem dX8_city_120 : decode cX8_city 120 = .ok (.iastore, 1) := by decide +kernel
theorem dX8_city_121 : decode cX8_city 121 = .ok (.iinc 2 1, 3) := by decide +kernel
theorem dX8_city_124 : decode cX8_city 124 = .ok (.goto (-21), 3) := by decide +kernel
theorem dX8_city_127 : decode cX8_city 127 = .ok (.aload_n 0, 1) := by decide +kernel
theorem dX8_city_128 : decode cX8_city 128 = .ok (.iconst 0, 1) := by decide +kernel
theorem dX8_city_129 : decode cX8_city 129 = .ok (.putfield 311, 3) := by decide +kernel
theorem dX8_city_132 : decode cX8_city 132 = .ok (.aload_n 0, 1) := by decide +kernel
theorem dX8_city_133 : decode cX8_city 133 = .ok (.iconst 0, 1) := by decide +kernel
theorem dX8_city_134 : decode cX8_city 134 = .ok (.putfield 314, 3) := by decide +kernel
theorem dX8_city_137 : decode cX8_city 137 = .ok (.aload_n 0, 1) := by decide +kernel
theorem dX8_city_138 : decode cX8_city 138 = .ok (.aload_n 0, 1) := by decide +kernel
theorem dX8_city_139 : decode cX8_city 139 = .ok (.getfield 306, 3) := by decide +kernel
theorem dX8_city_142 : decode cX8_city 142 = .ok (.getfield 180, 3) := by decide +kernel
theorem dX8_city_145 : decode cX8_city 145 = .ok (.invokevirtual 53, 3) := by decide +kernel
theorem dX8_city_148 : decode cX8_city 148 = .ok (.ireturn, 1) := by decide +kernel
theorem dX8_fault_0 : decode cX8_fault 0 = .ok (.aload_n 0, 1) := by decide +kernel
theorem dX8_fault_1 : decode cX8_fault 1 = .ok (.iconst 0, 1) := by decide +kernel
theorem dX8_fault_2 : decode cX8_fault 2 = .ok (.putfield 43, 3) := by decide +kernel
theorem dX8_fault_5 : decode cX8_fault 5 = .ok (.aload_n 0, 1) := by decide +kernel
theorem dX8_fault_6 : decode cX8_fault 6 = .ok (.getfield 101, 3) := by decide +kernel
theorem dX8_fault_9 : decode cX8_fault 9 = .ok (.ireturn, 1) := by decide +kernel
theorem dX8_where_0 : decode cX8_where 0 = .ok (.aload_n 0, 1) := by decide +kernel
theorem dX8_where_1 : decode cX8_where 1 = .ok (.iconst 0, 1) := by decide +kernel
theorem dX8_where_2 : decode cX8_where 2 = .ok (.putfield 43, 3) := by decide +kernel
theorem dX8_where_5 : decode cX8_where 5 = .ok (.aload_n 0, 1) := by decide +kernel
theorem dX8_where_6 : decode cX8_where 6 = .ok (.getfield 9, 3) := by decide +kernel
theorem dX8_where_9 : decode cX8_where 9 = .ok (.ireturn, 1) := by decide +kernel
theorem dX8_isMan_0 : decode cX8_isMan 0 = .ok (.aload_n 0, 1) := by decide +kernel
theorem dX8_isMan_1 : decode cX8_isMan 1 = .ok (.getfield 306, 3) := by decide +kernel
theorem dX8_isMan_4 : decode cX8_isMan 4 = .ok (.ifnull 22, 3) := by decide +kernel
theorem dX8_isMan_7 : decode cX8_isMan 7 = .ok (.iload_n 1, 1) := by decide +kernel
theorem dX8_isMan_8 : decode cX8_isMan 8 = .ok (.ifCond .lt 18, 3) := by decide +kernel
theorem dX8_isMan_11 : decode cX8_isMan 11 = .ok (.iload_n 1, 1) := by decide +kernel
theorem dX8_isMan_12 : decode cX8_isMan 12 = .ok (.aload_n 0, 1) := by decide +kernel
theorem dX8_isMan_13 : decode cX8_isMan 13 = .ok (.getfield 306, 3) := by decide +kernel
theorem dX8_isMan_16 : decode cX8_isMan 16 = .ok (.getfield 180, 3) := by decide +kernel
theorem dX8_isMan_19 : decode cX8_isMan 19 = .ok (.if_icmp .ge 7, 3) := by decide +kernel
theorem dX8_isMan_22 : decode cX8_isMan 22 = .ok (.iconst 1, 1) := by decide +kernel
theorem dX8_isMan_23 : decode cX8_isMan 23 = .ok (.goto 4, 3) := by decide +kernel
theorem dX8_isMan_26 : decode cX8_isMan 26 = .ok (.iconst 0, 1) := by decide +kernel
theorem dX8_isMan_27 : decode cX8_isMan 27 = .ok (.ireturn, 1) := by decide +kernel
theorem dX8_isClause_0 : decode cX8_isClause 0 = .ok (.aload_n 0, 1) := by decide +kernel
theorem dX8_isClause_1 : decode cX8_isClause 1 = .ok (.getfield 306, 3) := by decide +kernel
theorem dX8_isClause_4 : decode cX8_isClause 4 = .ok (.ifnull 22, 3) := by decide +kernel
theorem dX8_isClause_7 : decode cX8_isClause 7 = .ok (.iload_n 1, 1) := by decide +kernel
theorem dX8_isClause_8 : decode cX8_isClause 8 = .ok (.ifCond .lt 18, 3) := by decide +kernel
theorem dX8_isClause_11 : decode cX8_isClause 11 = .ok (.iload_n 1, 1) := by decide +kernel
theorem dX8_isClause_12 : decode cX8_isClause 12 = .ok (.aload_n 0, 1) := by decide +kernel
theorem dX8_isClause_13 : decode cX8_isClause 13 = .ok (.getfield 306, 3) := by decide +kernel
theorem dX8_isClause_16 : decode cX8_isClause 16 = .ok (.getfield 240, 3) := by decide +kernel
theorem dX8_isClause_19 : decode cX8_isClause 19 = .ok (.if_icmp .ge 7, 3) := by decide +kernel
theorem dX8_isClause_22 : decode cX8_isClause 22 = .ok (.iconst 1, 1) := by decide +kernel
theorem dX8_isClause_23 : decode cX8_isClause 23 = .ok (.goto 4, 3) := by decide +kernel
theorem dX8_isClause_26 : decode cX8_isClause 26 = .ok (.iconst 0, 1) := by decide +kernel
theorem dX8_isClause_27 : decode cX8_isClause 27 = .ok (.ireturn, 1) := by decide +kernel
theorem dX8_isSet_0 : decode cX8_isSet 0 = .ok (.iload_n 1, 1) := by decide +kernel
theorem dX8_isSet_1 : decode cX8_isSet 1 = .ok (.ifCond .lt 20, 3) := by decide +kernel
theorem dX8_isSet_4 : decode cX8_isSet 4 = .ok (.iload_n 1, 1) := by decide +kernel
theorem dX8_isSet_5 : decode cX8_isSet 5 = .ok (.iconst 1, 1) := by decide +kernel
theorem dX8_isSet_6 : decode cX8_isSet 6 = .ok (.aload_n 0, 1) := by decide +kernel
theorem dX8_isSet_7 : decode cX8_isSet 7 = .ok (.getfield 306, 3) := by decide +kernel
theorem dX8_isSet_10 : decode cX8_isSet 10 = .ok (.getfield 183, 3) := by decide +kernel
theorem dX8_isSet_13 : decode cX8_isSet 13 = .ok (.ishl, 1) := by decide +kernel
theorem dX8_isSet_14 : decode cX8_isSet 14 = .ok (.if_icmp .ge 7, 3) := by decide +kernel
theorem dX8_isSet_17 : decode cX8_isSet 17 = .ok (.iconst 1, 1) := by decide +kernel
theorem dX8_isSet_18 : decode cX8_isSet 18 = .ok (.goto 4, 3) := by decide +kernel
theorem dX8_isSet_21 : decode cX8_isSet 21 = .ok (.iconst 0, 1) := by decide +kernel
theorem dX8_isSet_22 : decode cX8_isSet 22 = .ok (.ireturn, 1) := by decide +kernel
theorem dX8_works_0 : decode cX8_works 0 = .ok (.iconst 0, 1) := by decide +kernel
theorem dX8_works_1 : decode cX8_works 1 = .ok (.istore_n 1, 1) := by decide +kernel
theorem dX8_works_2 : decode cX8_works 2 = .ok (.iload_n 1, 1) := by decide +kernel
theorem dX8_works_3 : decode cX8_works 3 = .ok (.bipush 25, 2) := by decide +kernel
theorem dX8_works_5 : decode cX8_works 5 = .ok (.if_icmp .ge 21, 3) := by decide +kernel
theorem dX8_works_8 : decode cX8_works 8 = .ok (.aload_n 0, 1) := by decide +kernel
theorem dX8_works_9 : decode cX8_works 9 = .ok (.getfield 21, 3) := by decide +kernel
theorem dX8_works_12 : decode cX8_works 12 = .ok (.iload_n 1, 1) := by decide +kernel
theorem dX8_works_13 : decode cX8_works 13 = .ok (.aload_n 0, 1) := by decide +kernel
theorem dX8_works_14 : decode cX8_works 14 = .ok (.getfield 17, 3) := by decide +kernel
theorem dX8_works_17 : decode cX8_works 17 = .ok (.iload_n 1, 1) := by decide +kernel
theorem dX8_works_18 : decode cX8_works 18 = .ok (.iaload, 1) := by decide +kernel
theorem dX8_works_19 : decode cX8_works 19 = .ok (.iastore, 1) := by decide +kernel
theorem dX8_works_20 : decode cX8_works 20 = .ok (.iinc 1 1, 3) := by decide +kernel
theorem dX8_works_23 : decode cX8_works 23 = .ok (.goto (-21), 3) := by decide +kernel
theorem dX8_works_26 : decode cX8_works 26 = .ok (.return_, 1) := by decide +kernel
theorem dX8_presses_0 : decode cX8_presses 0 = .ok (.iconst 0, 1) := by decide +kernel
theorem dX8_presses_1 : decode cX8_presses 1 = .ok (.istore_n 3, 1) := by decide +kernel
theorem dX8_presses_2 : decode cX8_presses 2 = .ok (.iload_n 3, 1) := by decide +kernel
theorem dX8_presses_3 : decode cX8_presses 3 = .ok (.aload_n 0, 1) := by decide +kernel
theorem dX8_presses_4 : decode cX8_presses 4 = .ok (.getfield 306, 3) := by decide +kernel
theorem dX8_presses_7 : decode cX8_presses 7 = .ok (.getfield 240, 3) := by decide +kernel
theorem dX8_presses_10 : decode cX8_presses 10 = .ok (.if_icmp .ge 73, 3) := by decide +kernel
theorem dX8_presses_13 : decode cX8_presses 13 = .ok (.iload_n 3, 1) := by decide +kernel
theorem dX8_presses_14 : decode cX8_presses 14 = .ok (.iload_n 1, 1) := by decide +kernel
theorem dX8_presses_15 : decode cX8_presses 15 = .ok (.if_icmp .eq 62, 3) := by decide +kernel
theorem dX8_presses_18 : decode cX8_presses 18 = .ok (.aload_n 0, 1) := by decide +kernel
theorem dX8_presses_19 : decode cX8_presses 19 = .ok (.getfield 21, 3) := by decide +kernel
theorem dX8_presses_22 : decode cX8_presses 22 = .ok (.iload_n 3, 1) := by decide +kernel
theorem dX8_presses_23 : decode cX8_presses 23 = .ok (.iaload, 1) := by decide +kernel
theorem dX8_presses_24 : decode cX8_presses 24 = .ok (.iload_n 2, 1) := by decide +kernel
theorem dX8_presses_25 : decode cX8_presses 25 = .ok (.if_icmp .ne 52, 3) := by decide +kernel
theorem dX8_presses_28 : decode cX8_presses 28 = .ok (.aload_n 0, 1) := by decide +kernel
theorem dX8_presses_29 : decode cX8_presses 29 = .ok (.getfield 21, 3) := by decide +kernel
theorem dX8_presses_32 : decode cX8_presses 32 = .ok (.bipush 8, 2) := by decide +kernel
theorem dX8_presses_34 : decode cX8_presses 34 = .ok (.iload_n 3, 1) := by decide +kernel
theorem dX8_presses_35 : decode cX8_presses 35 = .ok (.iadd, 1) := by decide +kernel
theorem dX8_presses_36 : decode cX8_presses 36 = .ok (.aload_n 0, 1) := by decide +kernel
theorem dX8_presses_37 : decode cX8_presses 37 = .ok (.getfield 21, 3) := by decide +kernel
theorem dX8_presses_40 : decode cX8_presses 40 = .ok (.bipush 8, 2) := by decide +kernel
theorem dX8_presses_42 : decode cX8_presses 42 = .ok (.iload_n 3, 1) := by decide +kernel
theorem dX8_presses_43 : decode cX8_presses 43 = .ok (.iadd, 1) := by decide +kernel
theorem dX8_presses_44 : decode cX8_presses 44 = .ok (.iaload, 1) := by decide +kernel
theorem dX8_presses_45 : decode cX8_presses 45 = .ok (.aload_n 0, 1) := by decide +kernel
theorem dX8_presses_46 : decode cX8_presses 46 = .ok (.getfield 306, 3) := by decide +kernel
theorem dX8_presses_49 : decode cX8_presses 49 = .ok (.getfield 146, 3) := by decide +kernel
theorem dX8_presses_52 : decode cX8_presses 52 = .ok (.if_icmp .le 23, 3) := by decide +kernel
theorem dX8_presses_55 : decode cX8_presses 55 = .ok (.aload_n 0, 1) := by decide +kernel
theorem dX8_presses_56 : decode cX8_presses 56 = .ok (.getfield 21, 3) := by decide +kernel
theorem dX8_presses_59 : decode cX8_presses 59 = .ok (.bipush 8, 2) := by decide +kernel
theorem dX8_presses_61 : decode cX8_presses 61 = .ok (.iload_n 3, 1) := by decide +kernel
theorem dX8_presses_62 : decode cX8_presses 62 = .ok (.iadd, 1) := by decide +kernel
theorem dX8_presses_63 : decode cX8_presses 63 = .ok (.iaload, 1) := by decide +kernel
theorem dX8_presses_64 : decode cX8_presses 64 = .ok (.aload_n 0, 1) := by decide +kernel
theorem dX8_presses_65 : decode cX8_presses 65 = .ok (.getfield 306, 3) := by decide +kernel
theorem dX8_presses_68 : decode cX8_presses 68 = .ok (.getfield 146, 3) := by decide +kernel
theorem dX8_presses_71 : decode cX8_presses 71 = .ok (.isub, 1) := by decide +kernel
theorem dX8_presses_72 : decode cX8_presses 72 = .ok (.goto 4, 3) := by decide +kernel
theorem dX8_presses_75 : decode cX8_presses 75 = .ok (.iconst 0, 1) := by decide +kernel
theorem dX8_presses_76 : decode cX8_presses 76 = .ok (.iastore, 1) := by decide +kernel
theorem dX8_presses_77 : decode cX8_presses 77 = .ok (.iinc 3 1, 3) := by decide +kernel
theorem dX8_presses_80 : decode cX8_presses 80 = .ok (.goto (-78), 3) := by decide +kernel
theorem dX8_presses_83 : decode cX8_presses 83 = .ok (.aload_n 0, 1) := by decide +kernel
theorem dX8_presses_84 : decode cX8_presses 84 = .ok (.getfield 21, 3) := by decide +kernel
theorem dX8_presses_87 : decode cX8_presses 87 = .ok (.iload_n 1, 1) := by decide +kernel
theorem dX8_presses_88 : decode cX8_presses 88 = .ok (.iload_n 2, 1) := by decide +kernel
theorem dX8_presses_89 : decode cX8_presses 89 = .ok (.iastore, 1) := by decide +kernel
theorem dX8_presses_90 : decode cX8_presses 90 = .ok (.aload_n 0, 1) := by decide +kernel
theorem dX8_presses_91 : decode cX8_presses 91 = .ok (.getfield 21, 3) := by decide +kernel
theorem dX8_presses_94 : decode cX8_presses 94 = .ok (.bipush 8, 2) := by decide +kernel
theorem dX8_presses_96 : decode cX8_presses 96 = .ok (.iload_n 1, 1) := by decide +kernel
theorem dX8_presses_97 : decode cX8_presses 97 = .ok (.iadd, 1) := by decide +kernel
theorem dX8_presses_98 : decode cX8_presses 98 = .ok (.aload_n 0, 1) := by decide +kernel
theorem dX8_presses_99 : decode cX8_presses 99 = .ok (.getfield 306, 3) := by decide +kernel
theorem dX8_presses_102 : decode cX8_presses 102 = .ok (.getfield 255, 3) := by decide +kernel
theorem dX8_presses_105 : decode cX8_presses 105 = .ok (.iload_n 1, 1) := by decide +kernel
theorem dX8_presses_106 : decode cX8_presses 106 = .ok (.iaload, 1) := by decide +kernel
theorem dX8_presses_107 : decode cX8_presses 107 = .ok (.iastore, 1) := by decide +kernel
theorem dX8_presses_108 : decode cX8_presses 108 = .ok (.return_, 1) := by decide +kernel
theorem dX8_asTold_0 : decode cX8_asTold 0 = .ok (.iconst 0, 1) := by decide +kernel
theorem dX8_asTold_1 : decode cX8_asTold 1 = .ok (.istore_n 1, 1) := by decide +kernel
theorem dX8_asTold_2 : decode cX8_asTold 2 = .ok (.iload_n 1, 1) := by decide +kernel
theorem dX8_asTold_3 : decode cX8_asTold 3 = .ok (.bipush 25, 2) := by decide +kernel
theorem dX8_asTold_5 : decode cX8_asTold 5 = .ok (.if_icmp .ge 26, 3) := by decide +kernel
theorem dX8_asTold_8 : decode cX8_asTold 8 = .ok (.aload_n 0, 1) := by decide +kernel
theorem dX8_asTold_9 : decode cX8_asTold 9 = .ok (.getfield 21, 3) := by decide +kernel
theorem dX8_asTold_12 : decode cX8_asTold 12 = .ok (.iload_n 1, 1) := by decide +kernel
theorem dX8_asTold_13 : decode cX8_asTold 13 = .ok (.iload_n 1, 1) := by decide +kernel
theorem dX8_asTold_14 : decode cX8_asTold 14 = .ok (.bipush 8, 2) := by decide +kernel
theorem dX8_asTold_16 : decode cX8_asTold 16 = .ok (.if_icmp .ge 7, 3) := by decide +kernel
theorem dX8_asTold_19 : decode cX8_asTold 19 = .ok (.iconst (-1), 1) := by decide +kernel
theorem dX8_asTold_20 : decode cX8_asTold 20 = .ok (.goto 4, 3) := by decide +kernel
theorem dX8_asTold_23 : decode cX8_asTold 23 = .ok (.iconst 0, 1) := by decide +kernel
theorem dX8_asTold_24 : decode cX8_asTold 24 = .ok (.iastore, 1) := by decide +kernel
theorem dX8_asTold_25 : decode cX8_asTold 25 = .ok (.iinc 1 1, 3) := by decide +kernel
theorem dX8_asTold_28 : decode cX8_asTold 28 = .ok (.goto (-26), 3) := by decide +kernel
theorem dX8_asTold_31 : decode cX8_asTold 31 = .ok (.iconst 0, 1) := by decide +kernel
theorem dX8_asTold_32 : decode cX8_asTold 32 = .ok (.istore_n 1, 1) := by decide +kernel
theorem dX8_asTold_33 : decode cX8_asTold 33 = .ok (.iload_n 1, 1) := by decide +kernel
theorem dX8_asTold_34 : decode cX8_asTold 34 = .ok (.aload_n 0, 1) := by decide +kernel
theorem dX8_asTold_35 : decode cX8_asTold 35 = .ok (.getfield 306, 3) := by decide +kernel
theorem dX8_asTold_38 : decode cX8_asTold 38 = .ok (.getfield 240, 3) := by decide +kernel
theorem dX8_asTold_41 : decode cX8_asTold 41 = .ok (.if_icmp .ge 23, 3) := by decide +kernel
theorem dX8_asTold_44 : decode cX8_asTold 44 = .ok (.aload_n 0, 1) := by decide +kernel
theorem dX8_asTold_45 : decode cX8_asTold 45 = .ok (.iload_n 1, 1) := by decide +kernel
theorem dX8_asTold_46 : decode cX8_asTold 46 = .ok (.aload_n 0, 1) := by decide +kernel
theorem dX8_asTold_47 : decode cX8_asTold 47 = .ok (.getfield 306, 3) := by decide +kernel
theorem dX8_asTold_50 : decode cX8_asTold 50 = .ok (.getfield 253, 3) := by decide +kernel
theorem dX8_asTold_53 : decode cX8_asTold 53 = .ok (.iload_n 1, 1) := by decide +kernel
theorem dX8_asTold_54 : decode cX8_asTold 54 = .ok (.iaload, 1) := by decide +kernel
theorem dX8_asTold_55 : decode cX8_asTold 55 = .ok (.invokevirtual 317, 3) := by decide +kernel
theorem dX8_asTold_58 : decode cX8_asTold 58 = .ok (.iinc 1 1, 3) := by decide +kernel
theorem dX8_asTold_61 : decode cX8_asTold 61 = .ok (.goto (-28), 3) := by decide +kernel
theorem dX8_asTold_64 : decode cX8_asTold 64 = .ok (.return_, 1) := by decide +kernel
theorem dX8_days_0 : decode cX8_days 0 = .ok (.aload_n 0, 1) := by decide +kernel
theorem dX8_days_1 : decode cX8_days 1 = .ok (.getfield 21, 3) := by decide +kernel
theorem dX8_days_4 : decode cX8_days 4 = .ok (.bipush 24, 2) := by decide +kernel
theorem dX8_days_6 : decode cX8_days 6 = .ok (.dup2, 1) := by decide +kernel
theorem dX8_days_7 : decode cX8_days 7 = .ok (.iaload, 1) := by decide +kernel
theorem dX8_days_8 : decode cX8_days 8 = .ok (.iload_n 1, 1) := by decide +kernel
theorem dX8_days_9 : decode cX8_days 9 = .ok (.iadd, 1) := by decide +kernel
theorem dX8_days_10 : decode cX8_days 10 = .ok (.iastore, 1) := by decide +kernel
theorem dX8_days_11 : decode cX8_days 11 = .ok (.iconst 0, 1) := by decide +kernel
theorem dX8_days_12 : decode cX8_days 12 = .ok (.istore_n 2, 1) := by decide +kernel
theorem dX8_days_13 : decode cX8_days 13 = .ok (.iload_n 2, 1) := by decide +kernel
theorem dX8_days_14 : decode cX8_days 14 = .ok (.aload_n 0, 1) := by decide +kernel
theorem dX8_days_15 : decode cX8_days 15 = .ok (.getfield 306, 3) := by decide +kernel
theorem dX8_days_18 : decode cX8_days 18 = .ok (.getfield 240, 3) := by decide +kernel
theorem dX8_days_21 : decode cX8_days 21 = .ok (.if_icmp .ge 46, 3) := by decide +kernel
theorem dX8_days_24 : decode cX8_days 24 = .ok (.aload_n 0, 1) := by decide +kernel
theorem dX8_days_25 : decode cX8_days 25 = .ok (.getfield 21, 3) := by decide +kernel
theorem dX8_days_28 : decode cX8_days 28 = .ok (.bipush 8, 2) := by decide +kernel
theorem dX8_days_30 : decode cX8_days 30 = .ok (.iload_n 2, 1) := by decide +kernel
theorem dX8_days_31 : decode cX8_days 31 = .ok (.iadd, 1) := by decide +kernel
theorem dX8_days_32 : decode cX8_days 32 = .ok (.aload_n 0, 1) := by decide +kernel
theorem dX8_days_33 : decode cX8_days 33 = .ok (.getfield 21, 3) := by decide +kernel
theorem dX8_days_36 : decode cX8_days 36 = .ok (.bipush 8, 2) := by decide +kernel
theorem dX8_days_38 : decode cX8_days 38 = .ok (.iload_n 2, 1) := by decide +kernel
theorem dX8_days_39 : decode cX8_days 39 = .ok (.iadd, 1) := by decide +kernel
theorem dX8_days_40 : decode cX8_days 40 = .ok (.iaload, 1) := by decide +kernel
theorem dX8_days_41 : decode cX8_days 41 = .ok (.iload_n 1, 1) := by decide +kernel
theorem dX8_days_42 : decode cX8_days 42 = .ok (.if_icmp .le 17, 3) := by decide +kernel
theorem dX8_days_45 : decode cX8_days 45 = .ok (.aload_n 0, 1) := by decide +kernel
theorem dX8_days_46 : decode cX8_days 46 = .ok (.getfield 21, 3) := by decide +kernel
theorem dX8_days_49 : decode cX8_days 49 = .ok (.bipush 8, 2) := by decide +kernel
theorem dX8_days_51 : decode cX8_days 51 = .ok (.iload_n 2, 1) := by decide +kernel
theorem dX8_days_52 : decode cX8_days 52 = .ok (.iadd, 1) := by decide +kernel
theorem dX8_days_53 : decode cX8_days 53 = .ok (.iaload, 1) := by decide +kernel
theorem dX8_days_54 : decode cX8_days 54 = .ok (.iload_n 1, 1) := by decide +kernel
theorem dX8_days_55 : decode cX8_days 55 = .ok (.isub, 1) := by decide +kernel
theorem dX8_days_56 : decode cX8_days 56 = .ok (.goto 4, 3) := by decide +kernel
theorem dX8_days_59 : decode cX8_days 59 = .ok (.iconst 0, 1) := by decide +kernel
theorem dX8_days_60 : decode cX8_days 60 = .ok (.iastore, 1) := by decide +kernel
theorem dX8_days_61 : decode cX8_days 61 = .ok (.iinc 2 1, 3) := by decide +kernel
theorem dX8_days_64 : decode cX8_days 64 = .ok (.goto (-51), 3) := by decide +kernel
theorem dX8_days_67 : decode cX8_days 67 = .ok (.return_, 1) := by decide +kernel
theorem dX8_bindingAll_0 : decode cX8_bindingAll 0 = .ok (.iconst 0, 1) := by decide +kernel
theorem dX8_bindingAll_1 : decode cX8_bindingAll 1 = .ok (.istore_n 1, 1) := by decide +kernel
theorem dX8_bindingAll_2 : decode cX8_bindingAll 2 = .ok (.iconst 0, 1) := by decide +kernel
theorem dX8_bindingAll_3 : decode cX8_bindingAll 3 = .ok (.istore_n 2, 1) := by decide +kernel
theorem dX8_bindingAll_4 : decode cX8_bindingAll 4 = .ok (.iload_n 2, 1) := by decide +kernel
theorem dX8_bindingAll_5 : decode cX8_bindingAll 5 = .ok (.aload_n 0, 1) := by decide +kernel
theorem dX8_bindingAll_6 : decode cX8_bindingAll 6 = .ok (.getfield 306, 3) := by decide +kernel
theorem dX8_bindingAll_9 : decode cX8_bindingAll 9 = .ok (.getfield 240, 3) := by decide +kernel
theorem dX8_bindingAll_12 : decode cX8_bindingAll 12 = .ok (.if_icmp .ge 31, 3) := by decide +kernel
theorem dX8_bindingAll_15 : decode cX8_bindingAll 15 = .ok (.iload_n 1, 1) := by decide +kernel
theorem dX8_bindingAll_16 : decode cX8_bindingAll 16 = .ok (.aload_n 0, 1) := by decide +kernel
theorem dX8_bindingAll_17 : decode cX8_bindingAll 17 = .ok (.getfield 21, 3) := by decide +kernel
theorem dX8_bindingAll_20 : decode cX8_bindingAll 20 = .ok (.bipush 8, 2) := by decide +kernel
theorem dX8_bindingAll_22 : decode cX8_bindingAll 22 = .ok (.iload_n 2, 1) := by decide +kernel
theorem dX8_bindingAll_23 : decode cX8_bindingAll 23 = .ok (.iadd, 1) := by decide +kernel
theorem dX8_bindingAll_24 : decode cX8_bindingAll 24 = .ok (.iaload, 1) := by decide +kernel
theorem dX8_bindingAll_25 : decode cX8_bindingAll 25 = .ok (.ifCond .le 9, 3) := by decide +kernel
theorem dX8_bindingAll_28 : decode cX8_bindingAll 28 = .ok (.iconst 1, 1) := by decide +kernel
theorem dX8_bindingAll_29 : decode cX8_bindingAll 29 = .ok (.iload_n 2, 1) := by decide +kernel
theorem dX8_bindingAll_30 : decode cX8_bindingAll 30 = .ok (.ishl, 1) := by decide +kernel
theorem dX8_bindingAll_31 : decode cX8_bindingAll 31 = .ok (.goto 4, 3) := by decide +kernel
theorem dX8_bindingAll_34 : decode cX8_bindingAll 34 = .ok (.iconst 0, 1) := by decide +kernel
theorem dX8_bindingAll_35 : decode cX8_bindingAll 35 = .ok (.ior, 1) := by decide +kernel
theorem dX8_bindingAll_36 : decode cX8_bindingAll 36 = .ok (.istore_n 1, 1) := by decide +kernel
theorem dX8_bindingAll_37 : decode cX8_bindingAll 37 = .ok (.iinc 2 1, 3) := by decide +kernel
theorem dX8_bindingAll_40 : decode cX8_bindingAll 40 = .ok (.goto (-36), 3) := by decide +kernel
theorem dX8_bindingAll_43 : decode cX8_bindingAll 43 = .ok (.iload_n 1, 1) := by decide +kernel
theorem dX8_bindingAll_44 : decode cX8_bindingAll 44 = .ok (.ireturn, 1) := by decide +kernel
theorem dX8_binding_0 : decode cX8_binding 0 = .ok (.iconst 0, 1) := by decide +kernel
theorem dX8_binding_1 : decode cX8_binding 1 = .ok (.istore_n 2, 1) := by decide +kernel
theorem dX8_binding_2 : decode cX8_binding 2 = .ok (.iconst 0, 1) := by decide +kernel
theorem dX8_binding_3 : decode cX8_binding 3 = .ok (.istore_n 3, 1) := by decide +kernel
theorem dX8_binding_4 : decode cX8_binding 4 = .ok (.iload_n 3, 1) := by decide +kernel
theorem dX8_binding_5 : decode cX8_binding 5 = .ok (.aload_n 0, 1) := by decide +kernel
theorem dX8_binding_6 : decode cX8_binding 6 = .ok (.getfield 306, 3) := by decide +kernel
theorem dX8_binding_9 : decode cX8_binding 9 = .ok (.getfield 240, 3) := by decide +kernel
theorem dX8_binding_12 : decode cX8_binding 12 = .ok (.if_icmp .ge 41, 3) := by decide +kernel
theorem dX8_binding_15 : decode cX8_binding 15 = .ok (.iload_n 2, 1) := by decide +kernel
theorem dX8_binding_16 : decode cX8_binding 16 = .ok (.aload_n 0, 1) := by decide +kernel
theorem dX8_binding_17 : decode cX8_binding 17 = .ok (.getfield 21, 3) := by decide +kernel
theorem dX8_binding_20 : decode cX8_binding 20 = .ok (.iload_n 3, 1) := by decide +kernel
theorem dX8_binding_21 : decode cX8_binding 21 = .ok (.iaload, 1) := by decide +kernel
theorem dX8_binding_22 : decode cX8_binding 22 = .ok (.iload_n 1, 1) := by decide +kernel
theorem dX8_binding_23 : decode cX8_binding 23 = .ok (.if_icmp .ne 21, 3) := by decide +kernel
theorem dX8_binding_26 : decode cX8_binding 26 = .ok (.aload_n 0, 1) := by decide +kernel
theorem dX8_binding_27 : decode cX8_binding 27 = .ok (.getfield 21, 3) := by decide +kernel
theorem dX8_binding_30 : decode cX8_binding 30 = .ok (.bipush 8, 2) := by decide +kernel
theorem dX8_binding_32 : decode cX8_binding 32 = .ok (.iload_n 3, 1) := by decide +kernel
theorem dX8_binding_33 : decode cX8_binding 33 = .ok (.iadd, 1) := by decide +kernel
theorem dX8_binding_34 : decode cX8_binding 34 = .ok (.iaload, 1) := by decide +kernel
theorem dX8_binding_35 : decode cX8_binding 35 = .ok (.ifCond .le 9, 3) := by decide +kernel
theorem dX8_binding_38 : decode cX8_binding 38 = .ok (.iconst 1, 1) := by decide +kernel
theorem dX8_binding_39 : decode cX8_binding 39 = .ok (.iload_n 3, 1) := by decide +kernel
theorem dX8_binding_40 : decode cX8_binding 40 = .ok (.ishl, 1) := by decide +kernel
theorem dX8_binding_41 : decode cX8_binding 41 = .ok (.goto 4, 3) := by decide +kernel
theorem dX8_binding_44 : decode cX8_binding 44 = .ok (.iconst 0, 1) := by decide +kernel
theorem dX8_binding_45 : decode cX8_binding 45 = .ok (.ior, 1) := by decide +kernel
theorem dX8_binding_46 : decode cX8_binding 46 = .ok (.istore_n 2, 1) := by decide +kernel
theorem dX8_binding_47 : decode cX8_binding 47 = .ok (.iinc 3 1, 3) := by decide +kernel
theorem dX8_binding_50 : decode cX8_binding 50 = .ok (.goto (-46), 3) := by decide +kernel
theorem dX8_binding_53 : decode cX8_binding 53 = .ok (.iload_n 2, 1) := by decide +kernel
theorem dX8_binding_54 : decode cX8_binding 54 = .ok (.ireturn, 1) := by decide +kernel
theorem dX8_isKept_0 : decode cX8_isKept 0 = .ok (.aload_n 0, 1) := by decide +kernel
theorem dX8_isKept_1 : decode cX8_isKept 1 = .ok (.getfield 21, 3) := by decide +kernel
theorem dX8_isKept_4 : decode cX8_isKept 4 = .ok (.bipush 16, 2) := by decide +kernel
theorem dX8_isKept_6 : decode cX8_isKept 6 = .ok (.iload_n 1, 1) := by decide +kernel
theorem dX8_isKept_7 : decode cX8_isKept 7 = .ok (.iadd, 1) := by decide +kernel
theorem dX8_isKept_8 : decode cX8_isKept 8 = .ok (.iaload, 1) := by decide +kernel
theorem dX8_isKept_9 : decode cX8_isKept 9 = .ok (.iconst 1, 1) := by decide +kernel
theorem dX8_isKept_10 : decode cX8_isKept 10 = .ok (.if_icmp .ne 7, 3) := by decide +kernel
theorem dX8_isKept_13 : decode cX8_isKept 13 = .ok (.iconst 1, 1) := by decide +kernel
theorem dX8_isKept_14 : decode cX8_isKept 14 = .ok (.goto 4, 3) := by decide +kernel
theorem dX8_isKept_17 : decode cX8_isKept 17 = .ok (.iconst 0, 1) := by decide +kernel
theorem dX8_isKept_18 : decode cX8_isKept 18 = .ok (.istore_n 3, 1) := by decide +kernel
theorem dX8_isKept_19 : decode cX8_isKept 19 = .ok (.iload_n 2, 1) := by decide +kernel
theorem dX8_isKept_20 : decode cX8_isKept 20 = .ok (.aload_n 0, 1) := by decide +kernel
theorem dX8_isKept_21 : decode cX8_isKept 21 = .ok (.getfield 306, 3) := by decide +kernel
theorem dX8_isKept_24 : decode cX8_isKept 24 = .ok (.getfield 260, 3) := by decide +kernel
theorem dX8_isKept_27 : decode cX8_isKept 27 = .ok (.iload_n 1, 1) := by decide +kernel
theorem dX8_isKept_28 : decode cX8_isKept 28 = .ok (.iaload, 1) := by decide +kernel
theorem dX8_isKept_29 : decode cX8_isKept 29 = .ok (.invokestatic 274, 3) := by decide +kernel
theorem dX8_isKept_32 : decode cX8_isKept 32 = .ok (.istore 4, 2) := by decide +kernel
theorem dX8_isKept_34 : decode cX8_isKept 34 = .ok (.aload_n 0, 1) := by decide +kernel
theorem dX8_isKept_35 : decode cX8_isKept 35 = .ok (.getfield 306, 3) := by decide +kernel
theorem dX8_isKept_38 : decode cX8_isKept 38 = .ok (.getfield 263, 3) := by decide +kernel
theorem dX8_isKept_41 : decode cX8_isKept 41 = .ok (.iload_n 1, 1) := by decide +kernel
theorem dX8_isKept_42 : decode cX8_isKept 42 = .ok (.iaload, 1) := by decide +kernel
theorem dX8_isKept_43 : decode cX8_isKept 43 = .ok (.bipush (-2), 2) := by decide +kernel
theorem dX8_isKept_45 : decode cX8_isKept 45 = .ok (.if_icmp .eq 23, 3) := by decide +kernel
theorem dX8_isKept_48 : decode cX8_isKept 48 = .ok (.iload_n 2, 1) := by decide +kernel
theorem dX8_isKept_49 : decode cX8_isKept 49 = .ok (.aload_n 0, 1) := by decide +kernel
theorem dX8_isKept_50 : decode cX8_isKept 50 = .ok (.getfield 306, 3) := by decide +kernel
theorem dX8_isKept_53 : decode cX8_isKept 53 = .ok (.getfield 263, 3) := by decide +kernel
theorem dX8_isKept_56 : decode cX8_isKept 56 = .ok (.iload_n 1, 1) := by decide +kernel
theorem dX8_isKept_57 : decode cX8_isKept 57 = .ok (.iaload, 1) := by decide +kernel
theorem dX8_isKept_58 : decode cX8_isKept 58 = .ok (.invokestatic 274, 3) := by decide +kernel
theorem dX8_isKept_61 : decode cX8_isKept 61 = .ok (.ifCond .eq 7, 3) := by decide +kernel
theorem dX8_isKept_64 : decode cX8_isKept 64 = .ok (.iconst 1, 1) := by decide +kernel
theorem dX8_isKept_65 : decode cX8_isKept 65 = .ok (.goto 4, 3) := by decide +kernel
theorem dX8_isKept_68 : decode cX8_isKept 68 = .ok (.iconst 0, 1) := by decide +kernel
theorem dX8_isKept_69 : decode cX8_isKept 69 = .ok (.istore 5, 2) := by decide +kernel
theorem dX8_isKept_71 : decode cX8_isKept 71 = .ok (.aload_n 0, 1) := by decide +kernel
theorem dX8_isKept_72 : decode cX8_isKept 72 = .ok (.getfield 306, 3) := by decide +kernel
theorem dX8_isKept_75 : decode cX8_isKept 75 = .ok (.getfield 257, 3) := by decide +kernel
theorem dX8_isKept_78 : decode cX8_isKept 78 = .ok (.iload_n 1, 1) := by decide +kernel
theorem dX8_isKept_79 : decode cX8_isKept 79 = .ok (.iaload, 1) := by decide +kernel
theorem dX8_isKept_80 : decode cX8_isKept 80 = .ok (.tableswitch 174 0 4 #[36, 48, 60, 98, 136], 36) := by decide +kernel
theorem dX8_isKept_116 : decode cX8_isKept 116 = .ok (.iload 4, 2) := by decide +kernel
theorem dX8_isKept_118 : decode cX8_isKept 118 = .ok (.iload_n 3, 1) := by decide +kernel
theorem dX8_isKept_119 : decode cX8_isKept 119 = .ok (.if_icmp .eq 7, 3) := by decide +kernel
theorem dX8_isKept_122 : decode cX8_isKept 122 = .ok (.iconst 1, 1) := by decide +kernel
theorem dX8_isKept_123 : decode cX8_isKept 123 = .ok (.goto 4, 3) := by decide +kernel
theorem dX8_isKept_126 : decode cX8_isKept 126 = .ok (.iconst 0, 1) := by decide +kernel
theorem dX8_isKept_127 : decode cX8_isKept 127 = .ok (.ireturn, 1) := by decide +kernel
theorem dX8_isKept_128 : decode cX8_isKept 128 = .ok (.iload 4, 2) := by decide +kernel
theorem dX8_isKept_130 : decode cX8_isKept 130 = .ok (.iload_n 3, 1) := by decide +kernel
theorem dX8_isKept_131 : decode cX8_isKept 131 = .ok (.if_icmp .ne 7, 3) := by decide +kernel
theorem dX8_isKept_134 : decode cX8_isKept 134 = .ok (.iconst 1, 1) := by decide +kernel
theorem dX8_isKept_135 : decode cX8_isKept 135 = .ok (.goto 4, 3) := by decide +kernel
theorem dX8_isKept_138 : decode cX8_isKept 138 = .ok (.iconst 0, 1) := by decide +kernel
theorem dX8_isKept_139 : decode cX8_isKept 139 = .ok (.ireturn, 1) := by decide +kernel
theorem dX8_isKept_140 : decode cX8_isKept 140 = .ok (.iload_n 3, 1) := by decide +kernel
theorem dX8_isKept_141 : decode cX8_isKept 141 = .ok (.ifCond .eq 21, 3) := by decide +kernel
theorem dX8_isKept_144 : decode cX8_isKept 144 = .ok (.iload 4, 2) := by decide +kernel
theorem dX8_isKept_146 : decode cX8_isKept 146 = .ok (.ifCond .ne 8, 3) := by decide +kernel
theorem dX8_isKept_149 : decode cX8_isKept 149 = .ok (.iload 5, 2) := by decide +kernel
theorem dX8_isKept_151 : decode cX8_isKept 151 = .ok (.ifCond .ne 7, 3) := by decide +kernel
theorem dX8_isKept_154 : decode cX8_isKept 154 = .ok (.iconst 1, 1) := by decide +kernel
theorem dX8_isKept_155 : decode cX8_isKept 155 = .ok (.goto 22, 3) := by decide +kernel
theorem dX8_isKept_158 : decode cX8_isKept 158 = .ok (.iconst 0, 1) := by decide +kernel
theorem dX8_isKept_159 : decode cX8_isKept 159 = .ok (.goto 18, 3) := by decide +kernel
theorem dX8_isKept_162 : decode cX8_isKept 162 = .ok (.iload 5, 2) := by decide +kernel
theorem dX8_isKept_164 : decode cX8_isKept 164 = .ok (.ifCond .ne 8, 3) := by decide +kernel
theorem dX8_isKept_167 : decode cX8_isKept 167 = .ok (.iload 4, 2) := by decide +kernel
theorem dX8_isKept_169 : decode cX8_isKept 169 = .ok (.ifCond .ne 7, 3) := by decide +kernel
theorem dX8_isKept_172 : decode cX8_isKept 172 = .ok (.iconst 1, 1) := by decide +kernel
theorem dX8_isKept_173 : decode cX8_isKept 173 = .ok (.goto 4, 3) := by decide +kernel
theorem dX8_isKept_176 : decode cX8_isKept 176 = .ok (.iconst 0, 1) := by decide +kernel
theorem dX8_isKept_177 : decode cX8_isKept 177 = .ok (.ireturn, 1) := by decide +kernel
theorem dX8_isKept_178 : decode cX8_isKept 178 = .ok (.iload_n 3, 1) := by decide +kernel
theorem dX8_isKept_179 : decode cX8_isKept 179 = .ok (.ifCond .eq 21, 3) := by decide +kernel
theorem dX8_isKept_182 : decode cX8_isKept 182 = .ok (.iload 4, 2) := by decide +kernel
theorem dX8_isKept_184 : decode cX8_isKept 184 = .ok (.ifCond .eq 8, 3) := by decide +kernel
theorem dX8_isKept_187 : decode cX8_isKept 187 = .ok (.iload 5, 2) := by decide +kernel
theorem dX8_isKept_189 : decode cX8_isKept 189 = .ok (.ifCond .ne 7, 3) := by decide +kernel
theorem dX8_isKept_192 : decode cX8_isKept 192 = .ok (.iconst 1, 1) := by decide +kernel
theorem dX8_isKept_193 : decode cX8_isKept 193 = .ok (.goto 22, 3) := by decide +kernel
theorem dX8_isKept_196 : decode cX8_isKept 196 = .ok (.iconst 0, 1) := by decide +kernel
theorem dX8_isKept_197 : decode cX8_isKept 197 = .ok (.goto 18, 3) := by decide +kernel
theorem dX8_isKept_200 : decode cX8_isKept 200 = .ok (.iload 4, 2) := by decide +kernel
theorem dX8_isKept_202 : decode cX8_isKept 202 = .ok (.ifCond .ne 8, 3) := by decide +kernel
theorem dX8_isKept_205 : decode cX8_isKept 205 = .ok (.iload 5, 2) := by decide +kernel
theorem dX8_isKept_207 : decode cX8_isKept 207 = .ok (.ifCond .eq 7, 3) := by decide +kernel
theorem dX8_isKept_210 : decode cX8_isKept 210 = .ok (.iconst 1, 1) := by decide +kernel
theorem dX8_isKept_211 : decode cX8_isKept 211 = .ok (.goto 4, 3) := by decide +kernel
theorem dX8_isKept_214 : decode cX8_isKept 214 = .ok (.iconst 0, 1) := by decide +kernel
theorem dX8_isKept_215 : decode cX8_isKept 215 = .ok (.ireturn, 1) := by decide +kernel
theorem dX8_isKept_216 : decode cX8_isKept 216 = .ok (.iload_n 3, 1) := by decide +kernel
theorem dX8_isKept_217 : decode cX8_isKept 217 = .ok (.ifCond .eq 21, 3) := by decide +kernel
theorem dX8_isKept_220 : decode cX8_isKept 220 = .ok (.iload 4, 2) := by decide +kernel
theorem dX8_isKept_222 : decode cX8_isKept 222 = .ok (.ifCond .ne 8, 3) := by decide +kernel
theorem dX8_isKept_225 : decode cX8_isKept 225 = .ok (.iload 5, 2) := by decide +kernel
theorem dX8_isKept_227 : decode cX8_isKept 227 = .ok (.ifCond .eq 7, 3) := by decide +kernel
theorem dX8_isKept_230 : decode cX8_isKept 230 = .ok (.iconst 1, 1) := by decide +kernel
theorem dX8_isKept_231 : decode cX8_isKept 231 = .ok (.goto 22, 3) := by decide +kernel
theorem dX8_isKept_234 : decode cX8_isKept 234 = .ok (.iconst 0, 1) := by decide +kernel
theorem dX8_isKept_235 : decode cX8_isKept 235 = .ok (.goto 18, 3) := by decide +kernel
theorem dX8_isKept_238 : decode cX8_isKept 238 = .ok (.iload 4, 2) := by decide +kernel
theorem dX8_isKept_240 : decode cX8_isKept 240 = .ok (.ifCond .eq 8, 3) := by decide +kernel
theorem dX8_isKept_243 : decode cX8_isKept 243 = .ok (.iload 5, 2) := by decide +kernel
theorem dX8_isKept_245 : decode cX8_isKept 245 = .ok (.ifCond .ne 7, 3) := by decide +kernel
theorem dX8_isKept_248 : decode cX8_isKept 248 = .ok (.iconst 1, 1) := by decide +kernel
theorem dX8_isKept_249 : decode cX8_isKept 249 = .ok (.goto 4, 3) := by decide +kernel
theorem dX8_isKept_252 : decode cX8_isKept 252 = .ok (.iconst 0, 1) := by decide +kernel
theorem dX8_isKept_253 : decode cX8_isKept 253 = .ok (.ireturn, 1) := by decide +kernel
theorem dX8_isKept_254 : decode cX8_isKept 254 = .ok (.iload 4, 2) := by decide +kernel
theorem dX8_isKept_256 : decode cX8_isKept 256 = .ok (.iload 5, 2) := by decide +kernel
theorem dX8_isKept_258 : decode cX8_isKept 258 = .ok (.if_icmp .eq 7, 3) := by decide +kernel
theorem dX8_isKept_261 : decode cX8_isKept 261 = .ok (.iconst 1, 1) := by decide +kernel
theorem dX8_isKept_262 : decode cX8_isKept 262 = .ok (.goto 4, 3) := by decide +kernel
theorem dX8_isKept_265 : decode cX8_isKept 265 = .ok (.iconst 0, 1) := by decide +kernel
theorem dX8_isKept_266 : decode cX8_isKept 266 = .ok (.iload_n 3, 1) := by decide +kernel
theorem dX8_isKept_267 : decode cX8_isKept 267 = .ok (.if_icmp .eq 7, 3) := by decide +kernel
theorem dX8_isKept_270 : decode cX8_isKept 270 = .ok (.iconst 1, 1) := by decide +kernel
theorem dX8_isKept_271 : decode cX8_isKept 271 = .ok (.goto 4, 3) := by decide +kernel
theorem dX8_isKept_274 : decode cX8_isKept 274 = .ok (.iconst 0, 1) := by decide +kernel
theorem dX8_isKept_275 : decode cX8_isKept 275 = .ok (.ireturn, 1) := by decide +kernel
theorem dX8_lays_0 : decode cX8_lays 0 = .ok (.aload_n 0, 1) := by decide +kernel
theorem dX8_lays_1 : decode cX8_lays 1 = .ok (.lconst 0, 1) := by decide +kernel
theorem dX8_lays_2 : decode cX8_lays 2 = .ok (.putfield 320, 3) := by decide +kernel
theorem dX8_lays_5 : decode cX8_lays 5 = .ok (.iconst 0, 1) := by decide +kernel
theorem dX8_lays_6 : decode cX8_lays 6 = .ok (.istore_n 1, 1) := by decide +kernel
theorem dX8_lays_7 : decode cX8_lays 7 = .ok (.iload_n 1, 1) := by decide +kernel
theorem dX8_lays_8 : decode cX8_lays 8 = .ok (.iconst 1, 1) := by decide +kernel
theorem dX8_lays_9 : decode cX8_lays 9 = .ok (.aload_n 0, 1) := by decide +kernel
theorem dX8_lays_10 : decode cX8_lays 10 = .ok (.getfield 306, 3) := by decide +kernel
theorem dX8_lays_13 : decode cX8_lays 13 = .ok (.getfield 183, 3) := by decide +kernel
theorem dX8_lays_16 : decode cX8_lays 16 = .ok (.ishl, 1) := by decide +kernel
theorem dX8_lays_17 : decode cX8_lays 17 = .ok (.if_icmp .ge 21, 3) := by decide +kernel
theorem dX8_lays_20 : decode cX8_lays 20 = .ok (.aload_n 0, 1) := by decide +kernel
theorem dX8_lays_21 : decode cX8_lays 21 = .ok (.dup, 1) := by decide +kernel
theorem dX8_lays_22 : decode cX8_lays 22 = .ok (.getfield 320, 3) := by decide +kernel
theorem dX8_lays_25 : decode cX8_lays 25 = .ok (.lconst 1, 1) := by decide +kernel
theorem dX8_lays_26 : decode cX8_lays 26 = .ok (.iload_n 1, 1) := by decide +kernel
theorem dX8_lays_27 : decode cX8_lays 27 = .ok (.lshl, 1) := by decide +kernel
theorem dX8_lays_28 : decode cX8_lays 28 = .ok (.lor, 1) := by decide +kernel
theorem dX8_lays_29 : decode cX8_lays 29 = .ok (.putfield 320, 3) := by decide +kernel
theorem dX8_lays_32 : decode cX8_lays 32 = .ok (.iinc 1 1, 3) := by decide +kernel
theorem dX8_lays_35 : decode cX8_lays 35 = .ok (.goto (-28), 3) := by decide +kernel
theorem dX8_lays_38 : decode cX8_lays 38 = .ok (.iconst 0, 1) := by decide +kernel
theorem dX8_lays_39 : decode cX8_lays 39 = .ok (.istore_n 1, 1) := by decide +kernel
theorem dX8_lays_40 : decode cX8_lays 40 = .ok (.iload_n 1, 1) := by decide +kernel
theorem dX8_lays_41 : decode cX8_lays 41 = .ok (.aload_n 0, 1) := by decide +kernel
theorem dX8_lays_42 : decode cX8_lays 42 = .ok (.getfield 306, 3) := by decide +kernel
theorem dX8_lays_45 : decode cX8_lays 45 = .ok (.getfield 240, 3) := by decide +kernel
theorem dX8_lays_48 : decode cX8_lays 48 = .ok (.if_icmp .ge 58, 3) := by decide +kernel
theorem dX8_lays_51 : decode cX8_lays 51 = .ok (.aload_n 0, 1) := by decide +kernel
theorem dX8_lays_52 : decode cX8_lays 52 = .ok (.getfield 30, 3) := by decide +kernel
theorem dX8_lays_55 : decode cX8_lays 55 = .ok (.iload_n 1, 1) := by decide +kernel
theorem dX8_lays_56 : decode cX8_lays 56 = .ok (.lconst 0, 1) := by decide +kernel
theorem dX8_lays_57 : decode cX8_lays 57 = .ok (.lastore, 1) := by decide +kernel
theorem dX8_lays_58 : decode cX8_lays 58 = .ok (.iconst 0, 1) := by decide +kernel
theorem dX8_lays_59 : decode cX8_lays 59 = .ok (.istore_n 2, 1) := by decide +kernel
theorem dX8_lays_60 : decode cX8_lays 60 = .ok (.iload_n 2, 1) := by decide +kernel
theorem dX8_lays_61 : decode cX8_lays 61 = .ok (.iconst 1, 1) := by decide +kernel
theorem dX8_lays_62 : decode cX8_lays 62 = .ok (.aload_n 0, 1) := by decide +kernel
theorem dX8_lays_63 : decode cX8_lays 63 = .ok (.getfield 306, 3) := by decide +kernel
theorem dX8_lays_66 : decode cX8_lays 66 = .ok (.getfield 183, 3) := by decide +kernel
theorem dX8_lays_69 : decode cX8_lays 69 = .ok (.ishl, 1) := by decide +kernel
theorem dX8_lays_70 : decode cX8_lays 70 = .ok (.if_icmp .ge 30, 3) := by decide +kernel
theorem dX8_lays_73 : decode cX8_lays 73 = .ok (.aload_n 0, 1) := by decide +kernel
theorem dX8_lays_74 : decode cX8_lays 74 = .ok (.iload_n 1, 1) := by decide +kernel
theorem dX8_lays_75 : decode cX8_lays 75 = .ok (.iload_n 2, 1) := by decide +kernel
theorem dX8_lays_76 : decode cX8_lays 76 = .ok (.invokevirtual 323, 3) := by decide +kernel
theorem dX8_lays_79 : decode cX8_lays 79 = .ok (.ifCond .eq 15, 3) := by decide +kernel
theorem dX8_lays_82 : decode cX8_lays 82 = .ok (.aload_n 0, 1) := by decide +kernel
theorem dX8_lays_83 : decode cX8_lays 83 = .ok (.getfield 30, 3) := by decide +kernel
theorem dX8_lays_86 : decode cX8_lays 86 = .ok (.iload_n 1, 1) := by decide +kernel
theorem dX8_lays_87 : decode cX8_lays 87 = .ok (.dup2, 1) := by decide +kernel
theorem dX8_lays_88 : decode cX8_lays 88 = .ok (.laload, 1) := by decide +kernel
theorem dX8_lays_89 : decode cX8_lays 89 = .ok (.lconst 1, 1) := by decide +kernel
theorem dX8_lays_90 : decode cX8_lays 90 = .ok (.iload_n 2, 1) := by decide +kernel
theorem dX8_lays_91 : decode cX8_lays 91 = .ok (.lshl, 1) := by decide +kernel
theorem dX8_lays_92 : decode cX8_lays 92 = .ok (.lor, 1) := by decide +kernel
theorem dX8_lays_93 : decode cX8_lays 93 = .ok (.lastore, 1) := by decide +kernel
theorem dX8_lays_94 : decode cX8_lays 94 = .ok (.iinc 2 1, 3) := by decide +kernel
theorem dX8_lays_97 : decode cX8_lays 97 = .ok (.goto (-37), 3) := by decide +kernel
theorem dX8_lays_100 : decode cX8_lays 100 = .ok (.iinc 1 1, 3) := by decide +kernel
theorem dX8_lays_103 : decode cX8_lays 103 = .ok (.goto (-63), 3) := by decide +kernel
theorem dX8_lays_106 : decode cX8_lays 106 = .ok (.return_, 1) := by decide +kernel
theorem dX8_worksLaid_0 : decode cX8_worksLaid 0 = .ok (.aload_n 0, 1) := by decide +kernel
theorem dX8_worksLaid_1 : decode cX8_worksLaid 1 = .ok (.invokevirtual 326, 3) := by decide +kernel
theorem dX8_worksLaid_4 : decode cX8_worksLaid 4 = .ok (.aload_n 0, 1) := by decide +kernel
theorem dX8_worksLaid_5 : decode cX8_worksLaid 5 = .ok (.invokevirtual 329, 3) := by decide +kernel
theorem dX8_worksLaid_8 : decode cX8_worksLaid 8 = .ok (.return_, 1) := by decide +kernel
theorem dX8_keepAll_0 : decode cX8_keepAll 0 = .ok (.aload_n 0, 1) := by decide +kernel
theorem dX8_keepAll_1 : decode cX8_keepAll 1 = .ok (.getfield 320, 3) := by decide +kernel
theorem dX8_keepAll_4 : decode cX8_keepAll 4 = .ok (.lstore_n 2, 1) := by decide +kernel
theorem dX8_keepAll_5 : decode cX8_keepAll 5 = .ok (.iconst 0, 1) := by decide +kernel
theorem dX8_keepAll_6 : decode cX8_keepAll 6 = .ok (.istore 4, 2) := by decide +kernel
theorem dX8_keepAll_8 : decode cX8_keepAll 8 = .ok (.iload 4, 2) := by decide +kernel
theorem dX8_keepAll_10 : decode cX8_keepAll 10 = .ok (.aload_n 0, 1) := by decide +kernel
theorem dX8_keepAll_11 : decode cX8_keepAll 11 = .ok (.getfield 306, 3) := by decide +kernel
theorem dX8_keepAll_14 : decode cX8_keepAll 14 = .ok (.getfield 240, 3) := by decide +kernel
theorem dX8_keepAll_17 : decode cX8_keepAll 17 = .ok (.if_icmp .ge 28, 3) := by decide +kernel
theorem dX8_keepAll_20 : decode cX8_keepAll 20 = .ok (.iload_n 1, 1) := by decide +kernel
theorem dX8_keepAll_21 : decode cX8_keepAll 21 = .ok (.iload 4, 2) := by decide +kernel
theorem dX8_keepAll_23 : decode cX8_keepAll 23 = .ok (.invokestatic 274, 3) := by decide +kernel
theorem dX8_keepAll_26 : decode cX8_keepAll 26 = .ok (.ifCond .eq 13, 3) := by decide +kernel
theorem dX8_keepAll_29 : decode cX8_keepAll 29 = .ok (.lload_n 2, 1) := by decide +kernel
theorem dX8_keepAll_30 : decode cX8_keepAll 30 = .ok (.aload_n 0, 1) := by decide +kernel
theorem dX8_keepAll_31 : decode cX8_keepAll 31 = .ok (.getfield 30, 3) := by decide +kernel
theorem dX8_keepAll_34 : decode cX8_keepAll 34 = .ok (.iload 4, 2) := by decide +kernel
theorem dX8_keepAll_36 : decode cX8_keepAll 36 = .ok (.laload, 1) := by decide +kernel
theorem dX8_keepAll_37 : decode cX8_keepAll 37 = .ok (.land, 1) := by decide +kernel
theorem dX8_keepAll_38 : decode cX8_keepAll 38 = .ok (.lstore_n 2, 1) := by decide +kernel
theorem dX8_keepAll_39 : decode cX8_keepAll 39 = .ok (.iinc 4 1, 3) := by decide +kernel
theorem dX8_keepAll_42 : decode cX8_keepAll 42 = .ok (.goto (-34), 3) := by decide +kernel
theorem dX8_keepAll_45 : decode cX8_keepAll 45 = .ok (.lload_n 2, 1) := by decide +kernel
theorem dX8_keepAll_46 : decode cX8_keepAll 46 = .ok (.lreturn, 1) := by decide +kernel
theorem dX8_waysOf_0 : decode cX8_waysOf 0 = .ok (.aload_n 0, 1) := by decide +kernel
theorem dX8_waysOf_1 : decode cX8_waysOf 1 = .ok (.aload_n 0, 1) := by decide +kernel
theorem dX8_waysOf_2 : decode cX8_waysOf 2 = .ok (.iload_n 1, 1) := by decide +kernel
theorem dX8_waysOf_3 : decode cX8_waysOf 3 = .ok (.invokevirtual 332, 3) := by decide +kernel
theorem dX8_waysOf_6 : decode cX8_waysOf 6 = .ok (.invokevirtual 335, 3) := by decide +kernel
theorem dX8_waysOf_9 : decode cX8_waysOf 9 = .ok (.lreturn, 1) := by decide +kernel
theorem dX8_isStuck_0 : decode cX8_isStuck 0 = .ok (.aload_n 0, 1) := by decide +kernel
theorem dX8_isStuck_1 : decode cX8_isStuck 1 = .ok (.iload_n 1, 1) := by decide +kernel
theorem dX8_isStuck_2 : decode cX8_isStuck 2 = .ok (.invokevirtual 339, 3) := by decide +kernel
theorem dX8_isStuck_5 : decode cX8_isStuck 5 = .ok (.lconst 0, 1) := by decide +kernel
theorem dX8_isStuck_6 : decode cX8_isStuck 6 = .ok (.lcmp, 1) := by decide +kernel
theorem dX8_isStuck_7 : decode cX8_isStuck 7 = .ok (.ifCond .ne 7, 3) := by decide +kernel
theorem dX8_isStuck_10 : decode cX8_isStuck 10 = .ok (.iconst 1, 1) := by decide +kernel
theorem dX8_isStuck_11 : decode cX8_isStuck 11 = .ok (.goto 4, 3) := by decide +kernel
theorem dX8_isStuck_14 : decode cX8_isStuck 14 = .ok (.iconst 0, 1) := by decide +kernel
theorem dX8_isStuck_15 : decode cX8_isStuck 15 = .ok (.ireturn, 1) := by decide +kernel
theorem dX8_holds_0 : decode cX8_holds 0 = .ok (.lload_n 0, 1) := by decide +kernel
theorem dX8_holds_1 : decode cX8_holds 1 = .ok (.iload_n 2, 1) := by decide +kernel
theorem dX8_holds_2 : decode cX8_holds 2 = .ok (.lshr, 1) := by decide +kernel
theorem dX8_holds_3 : decode cX8_holds 3 = .ok (.lconst 1, 1) := by decide +kernel
theorem dX8_holds_4 : decode cX8_holds 4 = .ok (.land, 1) := by decide +kernel
theorem dX8_holds_5 : decode cX8_holds 5 = .ok (.lconst 1, 1) := by decide +kernel
theorem dX8_holds_6 : decode cX8_holds 6 = .ok (.lcmp, 1) := by decide +kernel
theorem dX8_holds_7 : decode cX8_holds 7 = .ok (.ifCond .ne 7, 3) := by decide +kernel
theorem dX8_holds_10 : decode cX8_holds 10 = .ok (.iconst 1, 1) := by decide +kernel
theorem dX8_holds_11 : decode cX8_holds 11 = .ok (.goto 4, 3) := by decide +kernel
theorem dX8_holds_14 : decode cX8_holds 14 = .ok (.iconst 0, 1) := by decide +kernel
theorem dX8_holds_15 : decode cX8_holds 15 = .ok (.ireturn, 1) := by decide +kernel
theorem dX8_clause_0 : decode cX8_clause 0 = .ok (.aload_n 0, 1) := by decide +kernel
theorem dX8_clause_1 : decode cX8_clause 1 = .ok (.iconst 0, 1) := by decide +kernel
theorem dX8_clause_2 : decode cX8_clause 2 = .ok (.putfield 43, 3) := by decide +kernel
theorem dX8_clause_5 : decode cX8_clause 5 = .ok (.aload_n 0, 1) := by decide +kernel
theorem dX8_clause_6 : decode cX8_clause 6 = .ok (.iload_n 1, 1) := by decide +kernel
theorem dX8_clause_7 : decode cX8_clause 7 = .ok (.invokevirtual 342, 3) := by decide +kernel
theorem dX8_clause_10 : decode cX8_clause 10 = .ok (.ifCond .eq 13, 3) := by decide +kernel
theorem dX8_clause_13 : decode cX8_clause 13 = .ok (.iload_n 2, 1) := by decide +kernel
theorem dX8_clause_14 : decode cX8_clause 14 = .ok (.iconst 0, 1) := by decide +kernel
theorem dX8_clause_15 : decode cX8_clause 15 = .ok (.bipush 6, 2) := by decide +kernel
theorem dX8_clause_17 : decode cX8_clause 17 = .ok (.invokestatic 126, 3) := by decide +kernel
theorem dX8_clause_20 : decode cX8_clause 20 = .ok (.ifCond .ne 9, 3) := by decide +kernel
theorem dX8_clause_23 : decode cX8_clause 23 = .ok (.aload_n 0, 1) := by decide +kernel
theorem dX8_clause_24 : decode cX8_clause 24 = .ok (.iconst 1, 1) := by decide +kernel
theorem dX8_clause_25 : decode cX8_clause 25 = .ok (.invokevirtual 49, 3) := by decide +kernel
theorem dX8_clause_28 : decode cX8_clause 28 = .ok (.ireturn, 1) := by decide +kernel
theorem dX8_clause_29 : decode cX8_clause 29 = .ok (.iload_n 2, 1) := by decide +kernel
theorem dX8_clause_30 : decode cX8_clause 30 = .ok (.tableswitch 119 0 5 #[38, 52, 66, 80, 91, 105], 38) := by decide +kernel
theorem dX8_clause_68 : decode cX8_clause 68 = .ok (.aload_n 0, 1) := by decide +kernel
theorem dX8_clause_69 : decode cX8_clause 69 = .ok (.aload_n 0, 1) := by decide +kernel
theorem dX8_clause_70 : decode cX8_clause 70 = .ok (.getfield 306, 3) := by decide +kernel
theorem dX8_clause_73 : decode cX8_clause 73 = .ok (.getfield 257, 3) := by decide +kernel
theorem dX8_clause_76 : decode cX8_clause 76 = .ok (.iload_n 1, 1) := by decide +kernel
theorem dX8_clause_77 : decode cX8_clause 77 = .ok (.iaload, 1) := by decide +kernel
theorem dX8_clause_78 : decode cX8_clause 78 = .ok (.invokevirtual 53, 3) := by decide +kernel
theorem dX8_clause_81 : decode cX8_clause 81 = .ok (.ireturn, 1) := by decide +kernel
theorem dX8_clause_82 : decode cX8_clause 82 = .ok (.aload_n 0, 1) := by decide +kernel
theorem dX8_clause_83 : decode cX8_clause 83 = .ok (.aload_n 0, 1) := by decide +kernel
theorem dX8_clause_84 : decode cX8_clause 84 = .ok (.getfield 306, 3) := by decide +kernel
theorem dX8_clause_87 : decode cX8_clause 87 = .ok (.getfield 260, 3) := by decide +kernel
theorem dX8_clause_90 : decode cX8_clause 90 = .ok (.iload_n 1, 1) := by decide +kernel
theorem dX8_clause_91 : decode cX8_clause 91 = .ok (.iaload, 1) := by decide +kernel
theorem dX8_clause_92 : decode cX8_clause 92 = .ok (.invokevirtual 53, 3) := by decide +kernel
theorem dX8_clause_95 : decode cX8_clause 95 = .ok (.ireturn, 1) := by decide +kernel
theorem dX8_clause_96 : decode cX8_clause 96 = .ok (.aload_n 0, 1) := by decide +kernel
theorem dX8_clause_97 : decode cX8_clause 97 = .ok (.aload_n 0, 1) := by decide +kernel
theorem dX8_clause_98 : decode cX8_clause 98 = .ok (.getfield 306, 3) := by decide +kernel
theorem dX8_clause_101 : decode cX8_clause 101 = .ok (.getfield 263, 3) := by decide +kernel
theorem dX8_clause_104 : decode cX8_clause 104 = .ok (.iload_n 1, 1) := by decide +kernel
theorem dX8_clause_105 : decode cX8_clause 105 = .ok (.iaload, 1) := by decide +kernel
theorem dX8_clause_106 : decode cX8_clause 106 = .ok (.invokevirtual 53, 3) := by decide +kernel
theorem dX8_clause_109 : decode cX8_clause 109 = .ok (.ireturn, 1) := by decide +kernel
theorem dX8_clause_110 : decode cX8_clause 110 = .ok (.aload_n 0, 1) := by decide +kernel
theorem dX8_clause_111 : decode cX8_clause 111 = .ok (.aload_n 0, 1) := by decide +kernel
theorem dX8_clause_112 : decode cX8_clause 112 = .ok (.getfield 17, 3) := by decide +kernel
theorem dX8_clause_115 : decode cX8_clause 115 = .ok (.iload_n 1, 1) := by decide +kernel
theorem dX8_clause_116 : decode cX8_clause 116 = .ok (.iaload, 1) := by decide +kernel
theorem dX8_clause_117 : decode cX8_clause 117 = .ok (.invokevirtual 53, 3) := by decide +kernel
theorem dX8_clause_120 : decode cX8_clause 120 = .ok (.ireturn, 1) := by decide +kernel
theorem dX8_clause_121 : decode cX8_clause 121 = .ok (.aload_n 0, 1) := by decide +kernel
theorem dX8_clause_122 : decode cX8_clause 122 = .ok (.aload_n 0, 1) := by decide +kernel
theorem dX8_clause_123 : decode cX8_clause 123 = .ok (.getfield 17, 3) := by decide +kernel
theorem dX8_clause_126 : decode cX8_clause 126 = .ok (.bipush 8, 2) := by decide +kernel
theorem dX8_clause_128 : decode cX8_clause 128 = .ok (.iload_n 1, 1) := by decide +kernel
theorem dX8_clause_129 : decode cX8_clause 129 = .ok (.iadd, 1) := by decide +kernel
theorem dX8_clause_130 : decode cX8_clause 130 = .ok (.iaload, 1) := by decide +kernel
theorem dX8_clause_131 : decode cX8_clause 131 = .ok (.invokevirtual 53, 3) := by decide +kernel
theorem dX8_clause_134 : decode cX8_clause 134 = .ok (.ireturn, 1) := by decide +kernel
theorem dX8_clause_135 : decode cX8_clause 135 = .ok (.aload_n 0, 1) := by decide +kernel
theorem dX8_clause_136 : decode cX8_clause 136 = .ok (.aload_n 0, 1) := by decide +kernel
theorem dX8_clause_137 : decode cX8_clause 137 = .ok (.getfield 17, 3) := by decide +kernel
theorem dX8_clause_140 : decode cX8_clause 140 = .ok (.bipush 16, 2) := by decide +kernel
theorem dX8_clause_142 : decode cX8_clause 142 = .ok (.iload_n 1, 1) := by decide +kernel
theorem dX8_clause_143 : decode cX8_clause 143 = .ok (.iadd, 1) := by decide +kernel
theorem dX8_clause_144 : decode cX8_clause 144 = .ok (.iaload, 1) := by decide +kernel
theorem dX8_clause_145 : decode cX8_clause 145 = .ok (.invokevirtual 53, 3) := by decide +kernel
theorem dX8_clause_148 : decode cX8_clause 148 = .ok (.ireturn, 1) := by decide +kernel
theorem dX8_clause_149 : decode cX8_clause 149 = .ok (.aload_n 0, 1) := by decide +kernel
theorem dX8_clause_150 : decode cX8_clause 150 = .ok (.aload_n 0, 1) := by decide +kernel
theorem dX8_clause_151 : decode cX8_clause 151 = .ok (.getfield 306, 3) := by decide +kernel
theorem dX8_clause_154 : decode cX8_clause 154 = .ok (.getfield 255, 3) := by decide +kernel
theorem dX8_clause_157 : decode cX8_clause 157 = .ok (.iload_n 1, 1) := by decide +kernel
theorem dX8_clause_158 : decode cX8_clause 158 = .ok (.iaload, 1) := by decide +kernel
theorem dX8_clause_159 : decode cX8_clause 159 = .ok (.invokevirtual 53, 3) := by decide +kernel
theorem dX8_clause_162 : decode cX8_clause 162 = .ok (.ireturn, 1) := by decide +kernel
theorem dX8_inkOf_0 : decode cX8_inkOf 0 = .ok (.iconst 0, 1) := by decide +kernel
theorem dX8_inkOf_1 : decode cX8_inkOf 1 = .ok (.istore_n 2, 1) := by decide +kernel
theorem dX8_inkOf_2 : decode cX8_inkOf 2 = .ok (.iconst 0, 1) := by decide +kernel
theorem dX8_inkOf_3 : decode cX8_inkOf 3 = .ok (.istore_n 3, 1) := by decide +kernel
theorem dX8_inkOf_4 : decode cX8_inkOf 4 = .ok (.iload_n 3, 1) := by decide +kernel
theorem dX8_inkOf_5 : decode cX8_inkOf 5 = .ok (.aload_n 0, 1) := by decide +kernel
theorem dX8_inkOf_6 : decode cX8_inkOf 6 = .ok (.getfield 306, 3) := by decide +kernel
theorem dX8_inkOf_9 : decode cX8_inkOf 9 = .ok (.getfield 240, 3) := by decide +kernel
theorem dX8_inkOf_12 : decode cX8_inkOf 12 = .ok (.if_icmp .ge 33, 3) := by decide +kernel
theorem dX8_inkOf_15 : decode cX8_inkOf 15 = .ok (.iload_n 2, 1) := by decide +kernel
theorem dX8_inkOf_16 : decode cX8_inkOf 16 = .ok (.iload_n 1, 1) := by decide +kernel
theorem dX8_inkOf_17 : decode cX8_inkOf 17 = .ok (.iload_n 3, 1) := by decide +kernel
theorem dX8_inkOf_18 : decode cX8_inkOf 18 = .ok (.invokestatic 274, 3) := by decide +kernel
theorem dX8_inkOf_21 : decode cX8_inkOf 21 = .ok (.ifCond .eq 15, 3) := by decide +kernel
theorem dX8_inkOf_24 : decode cX8_inkOf 24 = .ok (.aload_n 0, 1) := by decide +kernel
theorem dX8_inkOf_25 : decode cX8_inkOf 25 = .ok (.getfield 21, 3) := by decide +kernel
theorem dX8_inkOf_28 : decode cX8_inkOf 28 = .ok (.bipush 8, 2) := by decide +kernel
theorem dX8_inkOf_30 : decode cX8_inkOf 30 = .ok (.iload_n 3, 1) := by decide +kernel
theorem dX8_inkOf_31 : decode cX8_inkOf 31 = .ok (.iadd, 1) := by decide +kernel
theorem dX8_inkOf_32 : decode cX8_inkOf 32 = .ok (.iaload, 1) := by decide +kernel
theorem dX8_inkOf_33 : decode cX8_inkOf 33 = .ok (.goto 4, 3) := by decide +kernel
theorem dX8_inkOf_36 : decode cX8_inkOf 36 = .ok (.iconst 0, 1) := by decide +kernel
theorem dX8_inkOf_37 : decode cX8_inkOf 37 = .ok (.iadd, 1) := by decide +kernel
theorem dX8_inkOf_38 : decode cX8_inkOf 38 = .ok (.istore_n 2, 1) := by decide +kernel
theorem dX8_inkOf_39 : decode cX8_inkOf 39 = .ok (.iinc 3 1, 3) := by decide +kernel
theorem dX8_inkOf_42 : decode cX8_inkOf 42 = .ok (.goto (-38), 3) := by decide +kernel
theorem dX8_inkOf_45 : decode cX8_inkOf 45 = .ok (.iload_n 2, 1) := by decide +kernel
theorem dX8_inkOf_46 : decode cX8_inkOf 46 = .ok (.ireturn, 1) := by decide +kernel
theorem dX8_man_0 : decode cX8_man 0 = .ok (.aload_n 0, 1) := by decide +kernel
theorem dX8_man_1 : decode cX8_man 1 = .ok (.iconst 0, 1) := by decide +kernel
theorem dX8_man_2 : decode cX8_man 2 = .ok (.putfield 43, 3) := by decide +kernel
theorem dX8_man_5 : decode cX8_man 5 = .ok (.aload_n 0, 1) := by decide +kernel
theorem dX8_man_6 : decode cX8_man 6 = .ok (.iload_n 1, 1) := by decide +kernel
theorem dX8_man_7 : decode cX8_man 7 = .ok (.invokevirtual 345, 3) := by decide +kernel
theorem dX8_man_10 : decode cX8_man 10 = .ok (.ifCond .eq 12, 3) := by decide +kernel
theorem dX8_man_13 : decode cX8_man 13 = .ok (.iload_n 2, 1) := by decide +kernel
theorem dX8_man_14 : decode cX8_man 14 = .ok (.iconst 0, 1) := by decide +kernel
theorem dX8_man_15 : decode cX8_man 15 = .ok (.iconst 2, 1) := by decide +kernel
theorem dX8_man_16 : decode cX8_man 16 = .ok (.invokestatic 126, 3) := by decide +kernel
theorem dX8_man_19 : decode cX8_man 19 = .ok (.ifCond .ne 9, 3) := by decide +kernel
theorem dX8_man_22 : decode cX8_man 22 = .ok (.aload_n 0, 1) := by decide +kernel
theorem dX8_man_23 : decode cX8_man 23 = .ok (.iconst 1, 1) := by decide +kernel
theorem dX8_man_24 : decode cX8_man 24 = .ok (.invokevirtual 49, 3) := by decide +kernel
theorem dX8_man_27 : decode cX8_man 27 = .ok (.ireturn, 1) := by decide +kernel
theorem dX8_man_28 : decode cX8_man 28 = .ok (.aload_n 0, 1) := by decide +kernel
theorem dX8_man_29 : decode cX8_man 29 = .ok (.invokevirtual 326, 3) := by decide +kernel
theorem dX8_man_32 : decode cX8_man 32 = .ok (.iconst 0, 1) := by decide +kernel
theorem dX8_man_33 : decode cX8_man 33 = .ok (.istore_n 3, 1) := by decide +kernel
theorem dX8_man_34 : decode cX8_man 34 = .ok (.iconst 0, 1) := by decide +kernel
theorem dX8_man_35 : decode cX8_man 35 = .ok (.istore 4, 2) := by decide +kernel
theorem dX8_man_37 : decode cX8_man 37 = .ok (.iload 4, 2) := by decide +kernel
theorem dX8_man_39 : decode cX8_man 39 = .ok (.aload_n 0, 1) := by decide +kernel
theorem dX8_man_40 : decode cX8_man 40 = .ok (.getfield 306, 3) := by decide +kernel
theorem dX8_man_43 : decode cX8_man 43 = .ok (.getfield 240, 3) := by decide +kernel
theorem dX8_man_46 : decode cX8_man 46 = .ok (.if_icmp .ge 31, 3) := by decide +kernel
theorem dX8_man_49 : decode cX8_man 49 = .ok (.iload_n 3, 1) := by decide +kernel
theorem dX8_man_50 : decode cX8_man 50 = .ok (.aload_n 0, 1) := by decide +kernel
theorem dX8_man_51 : decode cX8_man 51 = .ok (.getfield 21, 3) := by decide +kernel
theorem dX8_man_54 : decode cX8_man 54 = .ok (.iload 4, 2) := by decide +kernel
theorem dX8_man_56 : decode cX8_man 56 = .ok (.iaload, 1) := by decide +kernel
theorem dX8_man_57 : decode cX8_man 57 = .ok (.iload_n 1, 1) := by decide +kernel
theorem dX8_man_58 : decode cX8_man 58 = .ok (.if_icmp .ne 10, 3) := by decide +kernel
theorem dX8_man_61 : decode cX8_man 61 = .ok (.iconst 1, 1) := by decide +kernel
theorem dX8_man_62 : decode cX8_man 62 = .ok (.iload 4, 2) := by decide +kernel
theorem dX8_man_64 : decode cX8_man 64 = .ok (.ishl, 1) := by decide +kernel
theorem dX8_man_65 : decode cX8_man 65 = .ok (.goto 4, 3) := by decide +kernel
theorem dX8_man_68 : decode cX8_man 68 = .ok (.iconst 0, 1) := by decide +kernel
theorem dX8_man_69 : decode cX8_man 69 = .ok (.ior, 1) := by decide +kernel
theorem dX8_man_70 : decode cX8_man 70 = .ok (.istore_n 3, 1) := by decide +kernel
theorem dX8_man_71 : decode cX8_man 71 = .ok (.iinc 4 1, 3) := by decide +kernel
theorem dX8_man_74 : decode cX8_man 74 = .ok (.goto (-37), 3) := by decide +kernel
theorem dX8_man_77 : decode cX8_man 77 = .ok (.aload_n 0, 1) := by decide +kernel
theorem dX8_man_78 : decode cX8_man 78 = .ok (.iload_n 2, 1) := by decide +kernel
theorem dX8_man_79 : decode cX8_man 79 = .ok (.ifCond .ne 7, 3) := by decide +kernel
theorem dX8_man_82 : decode cX8_man 82 = .ok (.iload_n 3, 1) := by decide +kernel
theorem dX8_man_83 : decode cX8_man 83 = .ok (.goto 25, 3) := by decide +kernel
theorem dX8_man_86 : decode cX8_man 86 = .ok (.iload_n 2, 1) := by decide +kernel
theorem dX8_man_87 : decode cX8_man 87 = .ok (.iconst 1, 1) := by decide +kernel
theorem dX8_man_88 : decode cX8_man 88 = .ok (.if_icmp .ne 11, 3) := by decide +kernel
theorem dX8_man_91 : decode cX8_man 91 = .ok (.aload_n 0, 1) := by decide +kernel
theorem dX8_man_92 : decode cX8_man 92 = .ok (.iload_n 1, 1) := by decide +kernel
theorem dX8_man_93 : decode cX8_man 93 = .ok (.invokevirtual 332, 3) := by decide +kernel
theorem dX8_man_96 : decode cX8_man 96 = .ok (.goto 12, 3) := by decide +kernel
theorem dX8_man_99 : decode cX8_man 99 = .ok (.aload_n 0, 1) := by decide +kernel
theorem dX8_man_100 : decode cX8_man 100 = .ok (.aload_n 0, 1) := by decide +kernel
theorem dX8_man_101 : decode cX8_man 101 = .ok (.iload_n 1, 1) := by decide +kernel
theorem dX8_man_102 : decode cX8_man 102 = .ok (.invokevirtual 332, 3) := by decide +kernel
theorem dX8_man_105 : decode cX8_man 105 = .ok (.invokevirtual 348, 3) := by decide +kernel
theorem dX8_man_108 : decode cX8_man 108 = .ok (.invokevirtual 53, 3) := by decide +kernel
theorem dX8_man_111 : decode cX8_man 111 = .ok (.ireturn, 1) := by decide +kernel
theorem dX8_keeps_0 : decode cX8_keeps 0 = .ok (.aload_n 0, 1) := by decide +kernel
theorem dX8_keeps_1 : decode cX8_keeps 1 = .ok (.iconst 0, 1) := by decide +kernel
theorem dX8_keeps_2 : decode cX8_keeps 2 = .ok (.putfield 43, 3) := by decide +kernel
theorem dX8_keeps_5 : decode cX8_keeps 5 = .ok (.aload_n 0, 1) := by decide +kernel
theorem dX8_keeps_6 : decode cX8_keeps 6 = .ok (.iload_n 1, 1) := by decide +kernel
theorem dX8_keeps_7 : decode cX8_keeps 7 = .ok (.invokevirtual 342, 3) := by decide +kernel
theorem dX8_keeps_10 : decode cX8_keeps 10 = .ok (.ifCond .ne 9, 3) := by decide +kernel
theorem dX8_keeps_13 : decode cX8_keeps 13 = .ok (.aload_n 0, 1) := by decide +kernel
theorem dX8_keeps_14 : decode cX8_keeps 14 = .ok (.iconst 1, 1) := by decide +kernel
theorem dX8_keeps_15 : decode cX8_keeps 15 = .ok (.invokevirtual 49, 3) := by decide +kernel
theorem dX8_keeps_18 : decode cX8_keeps 18 = .ok (.ireturn, 1) := by decide +kernel
theorem dX8_keeps_19 : decode cX8_keeps 19 = .ok (.aload_n 0, 1) := by decide +kernel
theorem dX8_keeps_20 : decode cX8_keeps 20 = .ok (.iload_n 2, 1) := by decide +kernel
theorem dX8_keeps_21 : decode cX8_keeps 21 = .ok (.invokevirtual 351, 3) := by decide +kernel
theorem dX8_keeps_24 : decode cX8_keeps 24 = .ok (.ifCond .ne 9, 3) := by decide +kernel
theorem dX8_keeps_27 : decode cX8_keeps 27 = .ok (.aload_n 0, 1) := by decide +kernel
theorem dX8_keeps_28 : decode cX8_keeps 28 = .ok (.iconst 2, 1) := by decide +kernel
theorem dX8_keeps_29 : decode cX8_keeps 29 = .ok (.invokevirtual 49, 3) := by decide +kernel
theorem dX8_keeps_32 : decode cX8_keeps 32 = .ok (.ireturn, 1) := by decide +kernel
theorem dX8_keeps_33 : decode cX8_keeps 33 = .ok (.aload_n 0, 1) := by decide +kernel
theorem dX8_keeps_34 : decode cX8_keeps 34 = .ok (.invokevirtual 326, 3) := by decide +kernel
theorem dX8_keeps_37 : decode cX8_keeps 37 = .ok (.aload_n 0, 1) := by decide +kernel
theorem dX8_keeps_38 : decode cX8_keeps 38 = .ok (.aload_n 0, 1) := by decide +kernel
theorem dX8_keeps_39 : decode cX8_keeps 39 = .ok (.iload_n 1, 1) := by decide +kernel
theorem dX8_keeps_40 : decode cX8_keeps 40 = .ok (.iload_n 2, 1) := by decide +kernel
theorem dX8_keeps_41 : decode cX8_keeps 41 = .ok (.invokevirtual 323, 3) := by decide +kernel
theorem dX8_keeps_44 : decode cX8_keeps 44 = .ok (.ifCond .eq 7, 3) := by decide +kernel
theorem dX8_keeps_47 : decode cX8_keeps 47 = .ok (.iconst 1, 1) := by decide +kernel
theorem dX8_keeps_48 : decode cX8_keeps 48 = .ok (.goto 4, 3) := by decide +kernel
theorem dX8_keeps_51 : decode cX8_keeps 51 = .ok (.iconst 0, 1) := by decide +kernel
theorem dX8_keeps_52 : decode cX8_keeps 52 = .ok (.invokevirtual 53, 3) := by decide +kernel
theorem dX8_keeps_55 : decode cX8_keeps 55 = .ok (.ireturn, 1) := by decide +kernel
theorem dX8_may_0 : decode cX8_may 0 = .ok (.aload_n 0, 1) := by decide +kernel
theorem dX8_may_1 : decode cX8_may 1 = .ok (.iconst 0, 1) := by decide +kernel
theorem dX8_may_2 : decode cX8_may 2 = .ok (.putfield 43, 3) := by decide +kernel
theorem dX8_may_5 : decode cX8_may 5 = .ok (.aload_n 0, 1) := by decide +kernel
theorem dX8_may_6 : decode cX8_may 6 = .ok (.iload_n 1, 1) := by decide +kernel
theorem dX8_may_7 : decode cX8_may 7 = .ok (.invokevirtual 345, 3) := by decide +kernel
theorem dX8_may_10 : decode cX8_may 10 = .ok (.ifCond .ne 9, 3) := by decide +kernel
theorem dX8_may_13 : decode cX8_may 13 = .ok (.aload_n 0, 1) := by decide +kernel
theorem dX8_may_14 : decode cX8_may 14 = .ok (.iconst 1, 1) := by decide +kernel
theorem dX8_may_15 : decode cX8_may 15 = .ok (.invokevirtual 49, 3) := by decide +kernel
theorem dX8_may_18 : decode cX8_may 18 = .ok (.ireturn, 1) := by decide +kernel
theorem dX8_may_19 : decode cX8_may 19 = .ok (.aload_n 0, 1) := by decide +kernel
theorem dX8_may_20 : decode cX8_may 20 = .ok (.iload_n 2, 1) := by decide +kernel
theorem dX8_may_21 : decode cX8_may 21 = .ok (.invokevirtual 351, 3) := by decide +kernel
theorem dX8_may_24 : decode cX8_may 24 = .ok (.ifCond .ne 9, 3) := by decide +kernel
theorem dX8_may_27 : decode cX8_may 27 = .ok (.aload_n 0, 1) := by decide +kernel
theorem dX8_may_28 : decode cX8_may 28 = .ok (.iconst 2, 1) := by decide +kernel
theorem dX8_may_29 : decode cX8_may 29 = .ok (.invokevirtual 49, 3) := by decide +kernel
theorem dX8_may_32 : decode cX8_may 32 = .ok (.ireturn, 1) := by decide +kernel
theorem dX8_may_33 : decode cX8_may 33 = .ok (.aload_n 0, 1) := by decide +kernel
theorem dX8_may_34 : decode cX8_may 34 = .ok (.invokevirtual 354, 3) := by decide +kernel
theorem dX8_may_37 : decode cX8_may 37 = .ok (.aload_n 0, 1) := by decide +kernel
theorem dX8_may_38 : decode cX8_may 38 = .ok (.aload_n 0, 1) := by decide +kernel
theorem dX8_may_39 : decode cX8_may 39 = .ok (.iload_n 1, 1) := by decide +kernel
theorem dX8_may_40 : decode cX8_may 40 = .ok (.invokevirtual 339, 3) := by decide +kernel
theorem dX8_may_43 : decode cX8_may 43 = .ok (.iload_n 2, 1) := by decide +kernel
theorem dX8_may_44 : decode cX8_may 44 = .ok (.invokestatic 357, 3) := by decide +kernel
theorem dX8_may_47 : decode cX8_may 47 = .ok (.ifCond .eq 7, 3) := by decide +kernel
theorem dX8_may_50 : decode cX8_may 50 = .ok (.iconst 1, 1) := by decide +kernel
theorem dX8_may_51 : decode cX8_may 51 = .ok (.goto 4, 3) := by decide +kernel
theorem dX8_may_54 : decode cX8_may 54 = .ok (.iconst 0, 1) := by decide +kernel
theorem dX8_may_55 : decode cX8_may 55 = .ok (.invokevirtual 53, 3) := by decide +kernel
theorem dX8_may_58 : decode cX8_may 58 = .ok (.ireturn, 1) := by decide +kernel
theorem dX8_ways_0 : decode cX8_ways 0 = .ok (.aload_n 0, 1) := by decide +kernel
theorem dX8_ways_1 : decode cX8_ways 1 = .ok (.iconst 0, 1) := by decide +kernel
theorem dX8_ways_2 : decode cX8_ways 2 = .ok (.putfield 43, 3) := by decide +kernel
theorem dX8_ways_5 : decode cX8_ways 5 = .ok (.aload_n 0, 1) := by decide +kernel
theorem dX8_ways_6 : decode cX8_ways 6 = .ok (.iload_n 1, 1) := by decide +kernel
theorem dX8_ways_7 : decode cX8_ways 7 = .ok (.invokevirtual 345, 3) := by decide +kernel
theorem dX8_ways_10 : decode cX8_ways 10 = .ok (.ifCond .ne 9, 3) := by decide +kernel
theorem dX8_ways_13 : decode cX8_ways 13 = .ok (.aload_n 0, 1) := by decide +kernel
theorem dX8_ways_14 : decode cX8_ways 14 = .ok (.iconst 1, 1) := by decide +kernel
theorem dX8_ways_15 : decode cX8_ways 15 = .ok (.invokevirtual 49, 3) := by decide +kernel
theorem dX8_ways_18 : decode cX8_ways 18 = .ok (.ireturn, 1) := by decide +kernel
theorem dX8_ways_19 : decode cX8_ways 19 = .ok (.aload_n 0, 1) := by decide +kernel
theorem dX8_ways_20 : decode cX8_ways 20 = .ok (.invokevirtual 354, 3) := by decide +kernel
theorem dX8_ways_23 : decode cX8_ways 23 = .ok (.aload_n 0, 1) := by decide +kernel
theorem dX8_ways_24 : decode cX8_ways 24 = .ok (.aload_n 0, 1) := by decide +kernel
theorem dX8_ways_25 : decode cX8_ways 25 = .ok (.iload_n 1, 1) := by decide +kernel
theorem dX8_ways_26 : decode cX8_ways 26 = .ok (.invokevirtual 339, 3) := by decide +kernel
theorem dX8_ways_29 : decode cX8_ways 29 = .ok (.invokestatic 361, 3) := by decide +kernel
theorem dX8_ways_32 : decode cX8_ways 32 = .ok (.invokevirtual 53, 3) := by decide +kernel
theorem dX8_ways_35 : decode cX8_ways 35 = .ok (.ireturn, 1) := by decide +kernel
theorem dX8_wayAt_0 : decode cX8_wayAt 0 = .ok (.aload_n 0, 1) := by decide +kernel
theorem dX8_wayAt_1 : decode cX8_wayAt 1 = .ok (.iconst 0, 1) := by decide +kernel
theorem dX8_wayAt_2 : decode cX8_wayAt 2 = .ok (.putfield 43, 3) := by decide +kernel
theorem dX8_wayAt_5 : decode cX8_wayAt 5 = .ok (.aload_n 0, 1) := by decide +kernel
theorem dX8_wayAt_6 : decode cX8_wayAt 6 = .ok (.iload_n 1, 1) := by decide +kernel
theorem dX8_wayAt_7 : decode cX8_wayAt 7 = .ok (.invokevirtual 345, 3) := by decide +kernel
theorem dX8_wayAt_10 : decode cX8_wayAt 10 = .ok (.ifCond .ne 9, 3) := by decide +kernel
theorem dX8_wayAt_13 : decode cX8_wayAt 13 = .ok (.aload_n 0, 1) := by decide +kernel
theorem dX8_wayAt_14 : decode cX8_wayAt 14 = .ok (.iconst 1, 1) := by decide +kernel
theorem dX8_wayAt_15 : decode cX8_wayAt 15 = .ok (.invokevirtual 49, 3) := by decide +kernel
theorem dX8_wayAt_18 : decode cX8_wayAt 18 = .ok (.ireturn, 1) := by decide +kernel
theorem dX8_wayAt_19 : decode cX8_wayAt 19 = .ok (.aload_n 0, 1) := by decide +kernel
theorem dX8_wayAt_20 : decode cX8_wayAt 20 = .ok (.invokevirtual 354, 3) := by decide +kernel
theorem dX8_wayAt_23 : decode cX8_wayAt 23 = .ok (.aload_n 0, 1) := by decide +kernel
theorem dX8_wayAt_24 : decode cX8_wayAt 24 = .ok (.iload_n 1, 1) := by decide +kernel
theorem dX8_wayAt_25 : decode cX8_wayAt 25 = .ok (.invokevirtual 339, 3) := by decide +kernel
theorem dX8_wayAt_28 : decode cX8_wayAt 28 = .ok (.lstore_n 3, 1) := by decide +kernel
theorem dX8_wayAt_29 : decode cX8_wayAt 29 = .ok (.iconst 0, 1) := by decide +kernel
theorem dX8_wayAt_30 : decode cX8_wayAt 30 = .ok (.istore 5, 2) := by decide +kernel
theorem dX8_wayAt_32 : decode cX8_wayAt 32 = .ok (.iconst 0, 1) := by decide +kernel
theorem dX8_wayAt_33 : decode cX8_wayAt 33 = .ok (.istore 6, 2) := by decide +kernel
theorem dX8_wayAt_35 : decode cX8_wayAt 35 = .ok (.iload 6, 2) := by decide +kernel
theorem dX8_wayAt_37 : decode cX8_wayAt 37 = .ok (.iconst 1, 1) := by decide +kernel
theorem dX8_wayAt_38 : decode cX8_wayAt 38 = .ok (.aload_n 0, 1) := by decide +kernel
theorem dX8_wayAt_39 : decode cX8_wayAt 39 = .ok (.getfield 306, 3) := by decide +kernel
theorem dX8_wayAt_42 : decode cX8_wayAt 42 = .ok (.getfield 183, 3) := by decide +kernel
theorem dX8_wayAt_45 : decode cX8_wayAt 45 = .ok (.ishl, 1) := by decide +kernel
theorem dX8_wayAt_46 : decode cX8_wayAt 46 = .ok (.if_icmp .ge 37, 3) := by decide +kernel
theorem dX8_wayAt_49 : decode cX8_wayAt 49 = .ok (.lload_n 3, 1) := by decide +kernel
theorem dX8_wayAt_50 : decode cX8_wayAt 50 = .ok (.iload 6, 2) := by decide +kernel
theorem dX8_wayAt_52 : decode cX8_wayAt 52 = .ok (.invokestatic 357, 3) := by decide +kernel
theorem dX8_wayAt_55 : decode cX8_wayAt 55 = .ok (.ifCond .ne 6, 3) := by decide +kernel
theorem dX8_wayAt_58 : decode cX8_wayAt 58 = .ok (.goto 19, 3) := by decide +kernel
theorem dX8_wayAt_61 : decode cX8_wayAt 61 = .ok (.iload 5, 2) := by decide +kernel
theorem dX8_wayAt_63 : decode cX8_wayAt 63 = .ok (.iload_n 2, 1) := by decide +kernel
theorem dX8_wayAt_64 : decode cX8_wayAt 64 = .ok (.if_icmp .ne 10, 3) := by decide +kernel
theorem dX8_wayAt_67 : decode cX8_wayAt 67 = .ok (.aload_n 0, 1) := by decide +kernel
theorem dX8_wayAt_68 : decode cX8_wayAt 68 = .ok (.iload 6, 2) := by decide +kernel
theorem dX8_wayAt_70 : decode cX8_wayAt 70 = .ok (.invokevirtual 53, 3) := by decide +kernel
theorem dX8_wayAt_73 : decode cX8_wayAt 73 = .ok (.ireturn, 1) := by decide +kernel
theorem dX8_wayAt_74 : decode cX8_wayAt 74 = .ok (.iinc 5 1, 3) := by decide +kernel
theorem dX8_wayAt_77 : decode cX8_wayAt 77 = .ok (.iinc 6 1, 3) := by decide +kernel
theorem dX8_wayAt_80 : decode cX8_wayAt 80 = .ok (.goto (-45), 3) := by decide +kernel
theorem dX8_wayAt_83 : decode cX8_wayAt 83 = .ok (.aload_n 0, 1) := by decide +kernel
theorem dX8_wayAt_84 : decode cX8_wayAt 84 = .ok (.iconst 1, 1) := by decide +kernel
theorem dX8_wayAt_85 : decode cX8_wayAt 85 = .ok (.invokevirtual 49, 3) := by decide +kernel
theorem dX8_wayAt_88 : decode cX8_wayAt 88 = .ok (.ireturn, 1) := by decide +kernel
theorem dX8_deedsIn_0 : decode cX8_deedsIn 0 = .ok (.iconst 0, 1) := by decide +kernel
theorem dX8_deedsIn_1 : decode cX8_deedsIn 1 = .ok (.istore 4, 2) := by decide +kernel
theorem dX8_deedsIn_3 : decode cX8_deedsIn 3 = .ok (.iconst 1, 1) := by decide +kernel
theorem dX8_deedsIn_4 : decode cX8_deedsIn 4 = .ok (.aload_n 0, 1) := by decide +kernel
theorem dX8_deedsIn_5 : decode cX8_deedsIn 5 = .ok (.getfield 306, 3) := by decide +kernel
theorem dX8_deedsIn_8 : decode cX8_deedsIn 8 = .ok (.getfield 183, 3) := by decide +kernel
theorem dX8_deedsIn_11 : decode cX8_deedsIn 11 = .ok (.ishl, 1) := by decide +kernel
theorem dX8_deedsIn_12 : decode cX8_deedsIn 12 = .ok (.iconst 1, 1) := by decide +kernel
theorem dX8_deedsIn_13 : decode cX8_deedsIn 13 = .ok (.isub, 1) := by decide +kernel
theorem dX8_deedsIn_14 : decode cX8_deedsIn 14 = .ok (.istore 5, 2) := by decide +kernel
theorem dX8_deedsIn_16 : decode cX8_deedsIn 16 = .ok (.iconst 0, 1) := by decide +kernel
theorem dX8_deedsIn_17 : decode cX8_deedsIn 17 = .ok (.istore 6, 2) := by decide +kernel
theorem dX8_deedsIn_19 : decode cX8_deedsIn 19 = .ok (.iload 6, 2) := by decide +kernel
theorem dX8_deedsIn_21 : decode cX8_deedsIn 21 = .ok (.iconst 1, 1) := by decide +kernel
theorem dX8_deedsIn_22 : decode cX8_deedsIn 22 = .ok (.aload_n 0, 1) := by decide +kernel
theorem dX8_deedsIn_23 : decode cX8_deedsIn 23 = .ok (.getfield 306, 3) := by decide +kernel
theorem dX8_deedsIn_26 : decode cX8_deedsIn 26 = .ok (.getfield 183, 3) := by decide +kernel
theorem dX8_deedsIn_29 : decode cX8_deedsIn 29 = .ok (.ishl, 1) := by decide +kernel
theorem dX8_deedsIn_30 : decode cX8_deedsIn 30 = .ok (.if_icmp .ge 35, 3) := by decide +kernel
theorem dX8_deedsIn_33 : decode cX8_deedsIn 33 = .ok (.lload_n 1, 1) := by decide +kernel
theorem dX8_deedsIn_34 : decode cX8_deedsIn 34 = .ok (.iload 6, 2) := by decide +kernel
theorem dX8_deedsIn_36 : decode cX8_deedsIn 36 = .ok (.invokestatic 357, 3) := by decide +kernel
theorem dX8_deedsIn_39 : decode cX8_deedsIn 39 = .ok (.ifCond .ne 6, 3) := by decide +kernel
theorem dX8_deedsIn_42 : decode cX8_deedsIn 42 = .ok (.goto 17, 3) := by decide +kernel
theorem dX8_deedsIn_45 : decode cX8_deedsIn 45 = .ok (.iload 4, 2) := by decide +kernel
theorem dX8_deedsIn_47 : decode cX8_deedsIn 47 = .ok (.iload 6, 2) := by decide +kernel
theorem dX8_deedsIn_49 : decode cX8_deedsIn 49 = .ok (.ior, 1) := by decide +kernel
theorem dX8_deedsIn_50 : decode cX8_deedsIn 50 = .ok (.istore 4, 2) := by decide +kernel
theorem dX8_deedsIn_52 : decode cX8_deedsIn 52 = .ok (.iload 5, 2) := by decide +kernel
theorem dX8_deedsIn_54 : decode cX8_deedsIn 54 = .ok (.iload 6, 2) := by decide +kernel
theorem dX8_deedsIn_56 : decode cX8_deedsIn 56 = .ok (.iand, 1) := by decide +kernel
theorem dX8_deedsIn_57 : decode cX8_deedsIn 57 = .ok (.istore 5, 2) := by decide +kernel
theorem dX8_deedsIn_59 : decode cX8_deedsIn 59 = .ok (.iinc 6 1, 3) := by decide +kernel
theorem dX8_deedsIn_62 : decode cX8_deedsIn 62 = .ok (.goto (-43), 3) := by decide +kernel
theorem dX8_deedsIn_65 : decode cX8_deedsIn 65 = .ok (.iload_n 3, 1) := by decide +kernel
theorem dX8_deedsIn_66 : decode cX8_deedsIn 66 = .ok (.ifCond .eq 18, 3) := by decide +kernel
theorem dX8_deedsIn_69 : decode cX8_deedsIn 69 = .ok (.lload_n 1, 1) := by decide +kernel
theorem dX8_deedsIn_70 : decode cX8_deedsIn 70 = .ok (.lconst 0, 1) := by decide +kernel
theorem dX8_deedsIn_71 : decode cX8_deedsIn 71 = .ok (.lcmp, 1) := by decide +kernel
theorem dX8_deedsIn_72 : decode cX8_deedsIn 72 = .ok (.ifCond .ne 7, 3) := by decide +kernel
theorem dX8_deedsIn_75 : decode cX8_deedsIn 75 = .ok (.iconst 0, 1) := by decide +kernel
theorem dX8_deedsIn_76 : decode cX8_deedsIn 76 = .ok (.goto 10, 3) := by decide +kernel
theorem dX8_deedsIn_79 : decode cX8_deedsIn 79 = .ok (.iload 5, 2) := by decide +kernel
theorem dX8_deedsIn_81 : decode cX8_deedsIn 81 = .ok (.goto 5, 3) := by decide +kernel
theorem dX8_deedsIn_84 : decode cX8_deedsIn 84 = .ok (.iload 4, 2) := by decide +kernel
theorem dX8_deedsIn_86 : decode cX8_deedsIn 86 = .ok (.ireturn, 1) := by decide +kernel
theorem dX8_can_0 : decode cX8_can 0 = .ok (.aload_n 0, 1) := by decide +kernel
theorem dX8_can_1 : decode cX8_can 1 = .ok (.iconst 0, 1) := by decide +kernel
theorem dX8_can_2 : decode cX8_can 2 = .ok (.putfield 43, 3) := by decide +kernel
theorem dX8_can_5 : decode cX8_can 5 = .ok (.aload_n 0, 1) := by decide +kernel
theorem dX8_can_6 : decode cX8_can 6 = .ok (.iload_n 1, 1) := by decide +kernel
theorem dX8_can_7 : decode cX8_can 7 = .ok (.invokevirtual 345, 3) := by decide +kernel
theorem dX8_can_10 : decode cX8_can 10 = .ok (.ifCond .ne 9, 3) := by decide +kernel
theorem dX8_can_13 : decode cX8_can 13 = .ok (.aload_n 0, 1) := by decide +kernel
theorem dX8_can_14 : decode cX8_can 14 = .ok (.iconst 1, 1) := by decide +kernel
theorem dX8_can_15 : decode cX8_can 15 = .ok (.invokevirtual 49, 3) := by decide +kernel
theorem dX8_can_18 : decode cX8_can 18 = .ok (.ireturn, 1) := by decide +kernel
theorem dX8_can_19 : decode cX8_can 19 = .ok (.aload_n 0, 1) := by decide +kernel
theorem dX8_can_20 : decode cX8_can 20 = .ok (.invokevirtual 354, 3) := by decide +kernel
theorem dX8_can_23 : decode cX8_can 23 = .ok (.aload_n 0, 1) := by decide +kernel
theorem dX8_can_24 : decode cX8_can 24 = .ok (.aload_n 0, 1) := by decide +kernel
theorem dX8_can_25 : decode cX8_can 25 = .ok (.aload_n 0, 1) := by decide +kernel
theorem dX8_can_26 : decode cX8_can 26 = .ok (.iload_n 1, 1) := by decide +kernel
theorem dX8_can_27 : decode cX8_can 27 = .ok (.invokevirtual 339, 3) := by decide +kernel
theorem dX8_can_30 : decode cX8_can 30 = .ok (.iconst 0, 1) := by decide +kernel
theorem dX8_can_31 : decode cX8_can 31 = .ok (.invokevirtual 364, 3) := by decide +kernel
theorem dX8_can_34 : decode cX8_can 34 = .ok (.invokevirtual 53, 3) := by decide +kernel
theorem dX8_can_37 : decode cX8_can 37 = .ok (.ireturn, 1) := by decide +kernel
theorem dX8_must_0 : decode cX8_must 0 = .ok (.aload_n 0, 1) := by decide +kernel
theorem dX8_must_1 : decode cX8_must 1 = .ok (.iconst 0, 1) := by decide +kernel
theorem dX8_must_2 : decode cX8_must 2 = .ok (.putfield 43, 3) := by decide +kernel
theorem dX8_must_5 : decode cX8_must 5 = .ok (.aload_n 0, 1) := by decide +kernel
theorem dX8_must_6 : decode cX8_must 6 = .ok (.iload_n 1, 1) := by decide +kernel
theorem dX8_must_7 : decode cX8_must 7 = .ok (.invokevirtual 345, 3) := by decide +kernel
theorem dX8_must_10 : decode cX8_must 10 = .ok (.ifCond .ne 9, 3) := by decide +kernel
theorem dX8_must_13 : decode cX8_must 13 = .ok (.aload_n 0, 1) := by decide +kernel
theorem dX8_must_14 : decode cX8_must 14 = .ok (.iconst 1, 1) := by decide +kernel
theorem dX8_must_15 : decode cX8_must 15 = .ok (.invokevirtual 49, 3) := by decide +kernel
theorem dX8_must_18 : decode cX8_must 18 = .ok (.ireturn, 1) := by decide +kernel
theorem dX8_must_19 : decode cX8_must 19 = .ok (.aload_n 0, 1) := by decide +kernel
theorem dX8_must_20 : decode cX8_must 20 = .ok (.invokevirtual 354, 3) := by decide +kernel
theorem dX8_must_23 : decode cX8_must 23 = .ok (.aload_n 0, 1) := by decide +kernel
theorem dX8_must_24 : decode cX8_must 24 = .ok (.aload_n 0, 1) := by decide +kernel
theorem dX8_must_25 : decode cX8_must 25 = .ok (.aload_n 0, 1) := by decide +kernel
theorem dX8_must_26 : decode cX8_must 26 = .ok (.iload_n 1, 1) := by decide +kernel
theorem dX8_must_27 : decode cX8_must 27 = .ok (.invokevirtual 339, 3) := by decide +kernel
theorem dX8_must_30 : decode cX8_must 30 = .ok (.iconst 1, 1) := by decide +kernel
theorem dX8_must_31 : decode cX8_must 31 = .ok (.invokevirtual 364, 3) := by decide +kernel
theorem dX8_must_34 : decode cX8_must 34 = .ok (.invokevirtual 53, 3) := by decide +kernel
theorem dX8_must_37 : decode cX8_must 37 = .ok (.ireturn, 1) := by decide +kernel
theorem dX8_idlest_0 : decode cX8_idlest 0 = .ok (.aload_n 0, 1) := by decide +kernel
theorem dX8_idlest_1 : decode cX8_idlest 1 = .ok (.iconst 0, 1) := by decide +kernel
theorem dX8_idlest_2 : decode cX8_idlest 2 = .ok (.putfield 43, 3) := by decide +kernel
theorem dX8_idlest_5 : decode cX8_idlest 5 = .ok (.aload_n 0, 1) := by decide +kernel
theorem dX8_idlest_6 : decode cX8_idlest 6 = .ok (.iload_n 1, 1) := by decide +kernel
theorem dX8_idlest_7 : decode cX8_idlest 7 = .ok (.invokevirtual 345, 3) := by decide +kernel
theorem dX8_idlest_10 : decode cX8_idlest 10 = .ok (.ifCond .ne 9, 3) := by decide +kernel
theorem dX8_idlest_13 : decode cX8_idlest 13 = .ok (.aload_n 0, 1) := by decide +kernel
theorem dX8_idlest_14 : decode cX8_idlest 14 = .ok (.iconst 1, 1) := by decide +kernel
theorem dX8_idlest_15 : decode cX8_idlest 15 = .ok (.invokevirtual 49, 3) := by decide +kernel
theorem dX8_idlest_18 : decode cX8_idlest 18 = .ok (.ireturn, 1) := by decide +kernel
theorem dX8_idlest_19 : decode cX8_idlest 19 = .ok (.aload_n 0, 1) := by decide +kernel
theorem dX8_idlest_20 : decode cX8_idlest 20 = .ok (.invokevirtual 354, 3) := by decide +kernel
theorem dX8_idlest_23 : decode cX8_idlest 23 = .ok (.aload_n 0, 1) := by decide +kernel
theorem dX8_idlest_24 : decode cX8_idlest 24 = .ok (.iload_n 1, 1) := by decide +kernel
theorem dX8_idlest_25 : decode cX8_idlest 25 = .ok (.invokevirtual 339, 3) := by decide +kernel
theorem dX8_idlest_28 : decode cX8_idlest 28 = .ok (.lstore_n 2, 1) := by decide +kernel
theorem dX8_idlest_29 : decode cX8_idlest 29 = .ok (.bipush (-2), 2) := by decide +kernel
theorem dX8_idlest_31 : decode cX8_idlest 31 = .ok (.istore 4, 2) := by decide +kernel
theorem dX8_idlest_33 : decode cX8_idlest 33 = .ok (.iconst 0, 1) := by decide +kernel
theorem dX8_idlest_34 : decode cX8_idlest 34 = .ok (.istore 5, 2) := by decide +kernel
theorem dX8_idlest_36 : decode cX8_idlest 36 = .ok (.iload 5, 2) := by decide +kernel
theorem dX8_idlest_38 : decode cX8_idlest 38 = .ok (.iconst 1, 1) := by decide +kernel
theorem dX8_idlest_39 : decode cX8_idlest 39 = .ok (.aload_n 0, 1) := by decide +kernel
theorem dX8_idlest_40 : decode cX8_idlest 40 = .ok (.getfield 306, 3) := by decide +kernel
theorem dX8_idlest_43 : decode cX8_idlest 43 = .ok (.getfield 183, 3) := by decide +kernel
theorem dX8_idlest_46 : decode cX8_idlest 46 = .ok (.ishl, 1) := by decide +kernel
theorem dX8_idlest_47 : decode cX8_idlest 47 = .ok (.if_icmp .ge 42, 3) := by decide +kernel
theorem dX8_idlest_50 : decode cX8_idlest 50 = .ok (.lload_n 2, 1) := by decide +kernel
theorem dX8_idlest_51 : decode cX8_idlest 51 = .ok (.iload 5, 2) := by decide +kernel
theorem dX8_idlest_53 : decode cX8_idlest 53 = .ok (.invokestatic 357, 3) := by decide +kernel
theorem dX8_idlest_56 : decode cX8_idlest 56 = .ok (.ifCond .eq 27, 3) := by decide +kernel
theorem dX8_idlest_59 : decode cX8_idlest 59 = .ok (.iload 4, 2) := by decide +kernel
theorem dX8_idlest_61 : decode cX8_idlest 61 = .ok (.bipush (-2), 2) := by decide +kernel
theorem dX8_idlest_63 : decode cX8_idlest 63 = .ok (.if_icmp .eq 16, 3) := by decide +kernel
theorem dX8_idlest_66 : decode cX8_idlest 66 = .ok (.iload 5, 2) := by decide +kernel
theorem dX8_idlest_68 : decode cX8_idlest 68 = .ok (.invokestatic 368, 3) := by decide +kernel
theorem dX8_idlest_71 : decode cX8_idlest 71 = .ok (.iload 4, 2) := by decide +kernel
theorem dX8_idlest_73 : decode cX8_idlest 73 = .ok (.invokestatic 368, 3) := by decide +kernel
theorem dX8_idlest_76 : decode cX8_idlest 76 = .ok (.if_icmp .ge 7, 3) := by decide +kernel
theorem dX8_idlest_79 : decode cX8_idlest 79 = .ok (.iload 5, 2) := by decide +kernel
theorem dX8_idlest_81 : decode cX8_idlest 81 = .ok (.istore 4, 2) := by decide +kernel
theorem dX8_idlest_83 : decode cX8_idlest 83 = .ok (.iinc 5 1, 3) := by decide +kernel
theorem dX8_idlest_86 : decode cX8_idlest 86 = .ok (.goto (-50), 3) := by decide +kernel
theorem dX8_idlest_89 : decode cX8_idlest 89 = .ok (.aload_n 0, 1) := by decide +kernel
theorem dX8_idlest_90 : decode cX8_idlest 90 = .ok (.iload 4, 2) := by decide +kernel
theorem dX8_idlest_92 : decode cX8_idlest 92 = .ok (.invokevirtual 53, 3) := by decide +kernel
theorem dX8_idlest_95 : decode cX8_idlest 95 = .ok (.ireturn, 1) := by decide +kernel
theorem dX8_stuck_0 : decode cX8_stuck 0 = .ok (.aload_n 0, 1) := by decide +kernel
theorem dX8_stuck_1 : decode cX8_stuck 1 = .ok (.iconst 0, 1) := by decide +kernel
theorem dX8_stuck_2 : decode cX8_stuck 2 = .ok (.putfield 43, 3) := by decide +kernel
theorem dX8_stuck_5 : decode cX8_stuck 5 = .ok (.aload_n 0, 1) := by decide +kernel
theorem dX8_stuck_6 : decode cX8_stuck 6 = .ok (.getfield 306, 3) := by decide +kernel
theorem dX8_stuck_9 : decode cX8_stuck 9 = .ok (.ifnonnull 9, 3) := by decide +kernel
theorem dX8_stuck_12 : decode cX8_stuck 12 = .ok (.aload_n 0, 1) := by decide +kernel
theorem dX8_stuck_13 : decode cX8_stuck 13 = .ok (.iconst 1, 1) := by decide +kernel
theorem dX8_stuck_14 : decode cX8_stuck 14 = .ok (.invokevirtual 49, 3) := by decide +kernel
theorem dX8_stuck_17 : decode cX8_stuck 17 = .ok (.ireturn, 1) := by decide +kernel
theorem dX8_stuck_18 : decode cX8_stuck 18 = .ok (.aload_n 0, 1) := by decide +kernel
theorem dX8_stuck_19 : decode cX8_stuck 19 = .ok (.invokevirtual 354, 3) := by decide +kernel
theorem dX8_stuck_22 : decode cX8_stuck 22 = .ok (.iconst 0, 1) := by decide +kernel
theorem dX8_stuck_23 : decode cX8_stuck 23 = .ok (.istore_n 1, 1) := by decide +kernel
theorem dX8_stuck_24 : decode cX8_stuck 24 = .ok (.iconst 0, 1) := by decide +kernel
theorem dX8_stuck_25 : decode cX8_stuck 25 = .ok (.istore_n 2, 1) := by decide +kernel
theorem dX8_stuck_26 : decode cX8_stuck 26 = .ok (.iload_n 2, 1) := by decide +kernel
theorem dX8_stuck_27 : decode cX8_stuck 27 = .ok (.aload_n 0, 1) := by decide +kernel
theorem dX8_stuck_28 : decode cX8_stuck 28 = .ok (.getfield 306, 3) := by decide +kernel
theorem dX8_stuck_31 : decode cX8_stuck 31 = .ok (.getfield 180, 3) := by decide +kernel
theorem dX8_stuck_34 : decode cX8_stuck 34 = .ok (.if_icmp .ge 27, 3) := by decide +kernel
theorem dX8_stuck_37 : decode cX8_stuck 37 = .ok (.iload_n 1, 1) := by decide +kernel
theorem dX8_stuck_38 : decode cX8_stuck 38 = .ok (.aload_n 0, 1) := by decide +kernel
theorem dX8_stuck_39 : decode cX8_stuck 39 = .ok (.iload_n 2, 1) := by decide +kernel
theorem dX8_stuck_40 : decode cX8_stuck 40 = .ok (.invokevirtual 371, 3) := by decide +kernel
theorem dX8_stuck_43 : decode cX8_stuck 43 = .ok (.ifCond .eq 9, 3) := by decide +kernel
theorem dX8_stuck_46 : decode cX8_stuck 46 = .ok (.iconst 1, 1) := by decide +kernel
theorem dX8_stuck_47 : decode cX8_stuck 47 = .ok (.iload_n 2, 1) := by decide +kernel
theorem dX8_stuck_48 : decode cX8_stuck 48 = .ok (.ishl, 1) := by decide +kernel
theorem dX8_stuck_49 : decode cX8_stuck 49 = .ok (.goto 4, 3) := by decide +kernel
theorem dX8_stuck_52 : decode cX8_stuck 52 = .ok (.iconst 0, 1) := by decide +kernel
theorem dX8_stuck_53 : decode cX8_stuck 53 = .ok (.ior, 1) := by decide +kernel
theorem dX8_stuck_54 : decode cX8_stuck 54 = .ok (.istore_n 1, 1) := by decide +kernel
theorem dX8_stuck_55 : decode cX8_stuck 55 = .ok (.iinc 2 1, 3) := by decide +kernel
theorem dX8_stuck_58 : decode cX8_stuck 58 = .ok (.goto (-32), 3) := by decide +kernel
theorem dX8_stuck_61 : decode cX8_stuck 61 = .ok (.aload_n 0, 1) := by decide +kernel
theorem dX8_stuck_62 : decode cX8_stuck 62 = .ok (.iload_n 1, 1) := by decide +kernel
theorem dX8_stuck_63 : decode cX8_stuck 63 = .ok (.invokevirtual 53, 3) := by decide +kernel
theorem dX8_stuck_66 : decode cX8_stuck 66 = .ok (.ireturn, 1) := by decide +kernel
theorem dX8_mostBound_0 : decode cX8_mostBound 0 = .ok (.aload_n 0, 1) := by decide +kernel
theorem dX8_mostBound_1 : decode cX8_mostBound 1 = .ok (.iconst 0, 1) := by decide +kernel
theorem dX8_mostBound_2 : decode cX8_mostBound 2 = .ok (.putfield 43, 3) := by decide +kernel
theorem dX8_mostBound_5 : decode cX8_mostBound 5 = .ok (.aload_n 0, 1) := by decide +kernel
theorem dX8_mostBound_6 : decode cX8_mostBound 6 = .ok (.getfield 306, 3) := by decide +kernel
theorem dX8_mostBound_9 : decode cX8_mostBound 9 = .ok (.ifnonnull 9, 3) := by decide +kernel
theorem dX8_mostBound_12 : decode cX8_mostBound 12 = .ok (.aload_n 0, 1) := by decide +kernel
theorem dX8_mostBound_13 : decode cX8_mostBound 13 = .ok (.iconst 1, 1) := by decide +kernel
theorem dX8_mostBound_14 : decode cX8_mostBound 14 = .ok (.invokevirtual 49, 3) := by decide +kernel
theorem dX8_mostBound_17 : decode cX8_mostBound 17 = .ok (.ireturn, 1) := by decide +kernel
theorem dX8_mostBound_18 : decode cX8_mostBound 18 = .ok (.aload_n 0, 1) := by decide +kernel
theorem dX8_mostBound_19 : decode cX8_mostBound 19 = .ok (.invokevirtual 354, 3) := by decide +kernel
theorem dX8_mostBound_22 : decode cX8_mostBound 22 = .ok (.iconst 0, 1) := by decide +kernel
theorem dX8_mostBound_23 : decode cX8_mostBound 23 = .ok (.istore_n 1, 1) := by decide +kernel
theorem dX8_mostBound_24 : decode cX8_mostBound 24 = .ok (.iconst 1, 1) := by decide +kernel
theorem dX8_mostBound_25 : decode cX8_mostBound 25 = .ok (.istore_n 2, 1) := by decide +kernel
theorem dX8_mostBound_26 : decode cX8_mostBound 26 = .ok (.iload_n 2, 1) := by decide +kernel
theorem dX8_mostBound_27 : decode cX8_mostBound 27 = .ok (.aload_n 0, 1) := by decide +kernel
theorem dX8_mostBound_28 : decode cX8_mostBound 28 = .ok (.getfield 306, 3) := by decide +kernel
theorem dX8_mostBound_31 : decode cX8_mostBound 31 = .ok (.getfield 180, 3) := by decide +kernel
theorem dX8_mostBound_34 : decode cX8_mostBound 34 = .ok (.if_icmp .ge 30, 3) := by decide +kernel
theorem dX8_mostBound_37 : decode cX8_mostBound 37 = .ok (.aload_n 0, 1) := by decide +kernel
theorem dX8_mostBound_38 : decode cX8_mostBound 38 = .ok (.iload_n 2, 1) := by decide +kernel
theorem dX8_mostBound_39 : decode cX8_mostBound 39 = .ok (.invokevirtual 339, 3) := by decide +kernel
theorem dX8_mostBound_42 : decode cX8_mostBound 42 = .ok (.invokestatic 361, 3) := by decide +kernel
theorem dX8_mostBound_45 : decode cX8_mostBound 45 = .ok (.aload_n 0, 1) := by decide +kernel
theorem dX8_mostBound_46 : decode cX8_mostBound 46 = .ok (.iload_n 1, 1) := by decide +kernel
theorem dX8_mostBound_47 : decode cX8_mostBound 47 = .ok (.invokevirtual 339, 3) := by decide +kernel
theorem dX8_mostBound_50 : decode cX8_mostBound 50 = .ok (.invokestatic 361, 3) := by decide +kernel
theorem dX8_mostBound_53 : decode cX8_mostBound 53 = .ok (.if_icmp .ge 5, 3) := by decide +kernel
theorem dX8_mostBound_56 : decode cX8_mostBound 56 = .ok (.iload_n 2, 1) := by decide +kernel
theorem dX8_mostBound_57 : decode cX8_mostBound 57 = .ok (.istore_n 1, 1) := by decide +kernel
theorem dX8_mostBound_58 : decode cX8_mostBound 58 = .ok (.iinc 2 1, 3) := by decide +kernel
theorem dX8_mostBound_61 : decode cX8_mostBound 61 = .ok (.goto (-35), 3) := by decide +kernel
theorem dX8_mostBound_64 : decode cX8_mostBound 64 = .ok (.aload_n 0, 1) := by decide +kernel
theorem dX8_mostBound_65 : decode cX8_mostBound 65 = .ok (.iload_n 1, 1) := by decide +kernel
theorem dX8_mostBound_66 : decode cX8_mostBound 66 = .ok (.invokevirtual 53, 3) := by decide +kernel
theorem dX8_mostBound_69 : decode cX8_mostBound 69 = .ok (.ireturn, 1) := by decide +kernel
theorem dX8_bar_0 : decode cX8_bar 0 = .ok (.aload_n 0, 1) := by decide +kernel
theorem dX8_bar_1 : decode cX8_bar 1 = .ok (.iconst 0, 1) := by decide +kernel
theorem dX8_bar_2 : decode cX8_bar 2 = .ok (.putfield 43, 3) := by decide +kernel
theorem dX8_bar_5 : decode cX8_bar 5 = .ok (.aload_n 0, 1) := by decide +kernel
theorem dX8_bar_6 : decode cX8_bar 6 = .ok (.iload_n 1, 1) := by decide +kernel
theorem dX8_bar_7 : decode cX8_bar 7 = .ok (.invokevirtual 345, 3) := by decide +kernel
theorem dX8_bar_10 : decode cX8_bar 10 = .ok (.ifCond .ne 9, 3) := by decide +kernel
theorem dX8_bar_13 : decode cX8_bar 13 = .ok (.aload_n 0, 1) := by decide +kernel
theorem dX8_bar_14 : decode cX8_bar 14 = .ok (.iconst 1, 1) := by decide +kernel
theorem dX8_bar_15 : decode cX8_bar 15 = .ok (.invokevirtual 49, 3) := by decide +kernel
theorem dX8_bar_18 : decode cX8_bar 18 = .ok (.ireturn, 1) := by decide +kernel
theorem dX8_bar_19 : decode cX8_bar 19 = .ok (.aload_n 0, 1) := by decide +kernel
theorem dX8_bar_20 : decode cX8_bar 20 = .ok (.invokevirtual 354, 3) := by decide +kernel
theorem dX8_bar_23 : decode cX8_bar 23 = .ok (.aload_n 0, 1) := by decide +kernel
theorem dX8_bar_24 : decode cX8_bar 24 = .ok (.iload_n 1, 1) := by decide +kernel
theorem dX8_bar_25 : decode cX8_bar 25 = .ok (.invokevirtual 332, 3) := by decide +kernel
theorem dX8_bar_28 : decode cX8_bar 28 = .ok (.istore_n 2, 1) := by decide +kernel
theorem dX8_bar_29 : decode cX8_bar 29 = .ok (.bipush (-2), 2) := by decide +kernel
theorem dX8_bar_31 : decode cX8_bar 31 = .ok (.istore_n 3, 1) := by decide +kernel
theorem dX8_bar_32 : decode cX8_bar 32 = .ok (.iconst 0, 1) := by decide +kernel
theorem dX8_bar_33 : decode cX8_bar 33 = .ok (.istore 4, 2) := by decide +kernel
theorem dX8_bar_35 : decode cX8_bar 35 = .ok (.iload 4, 2) := by decide +kernel
theorem dX8_bar_37 : decode cX8_bar 37 = .ok (.iload_n 2, 1) := by decide +kernel
theorem dX8_bar_38 : decode cX8_bar 38 = .ok (.if_icmp .gt 53, 3) := by decide +kernel
theorem dX8_bar_41 : decode cX8_bar 41 = .ok (.iload 4, 2) := by decide +kernel
theorem dX8_bar_43 : decode cX8_bar 43 = .ok (.iload_n 2, 1) := by decide +kernel
theorem dX8_bar_44 : decode cX8_bar 44 = .ok (.iconst (-1), 1) := by decide +kernel
theorem dX8_bar_45 : decode cX8_bar 45 = .ok (.ixor, 1) := by decide +kernel
theorem dX8_bar_46 : decode cX8_bar 46 = .ok (.iand, 1) := by decide +kernel
theorem dX8_bar_47 : decode cX8_bar 47 = .ok (.ifCond .ne 38, 3) := by decide +kernel
theorem dX8_bar_50 : decode cX8_bar 50 = .ok (.aload_n 0, 1) := by decide +kernel
theorem dX8_bar_51 : decode cX8_bar 51 = .ok (.iload 4, 2) := by decide +kernel
theorem dX8_bar_53 : decode cX8_bar 53 = .ok (.invokevirtual 335, 3) := by decide +kernel
theorem dX8_bar_56 : decode cX8_bar 56 = .ok (.lconst 0, 1) := by decide +kernel
theorem dX8_bar_57 : decode cX8_bar 57 = .ok (.lcmp, 1) := by decide +kernel
theorem dX8_bar_58 : decode cX8_bar 58 = .ok (.ifCond .eq 6, 3) := by decide +kernel
theorem dX8_bar_61 : decode cX8_bar 61 = .ok (.goto 24, 3) := by decide +kernel
theorem dX8_bar_64 : decode cX8_bar 64 = .ok (.iload_n 3, 1) := by decide +kernel
theorem dX8_bar_65 : decode cX8_bar 65 = .ok (.bipush (-2), 2) := by decide +kernel
theorem dX8_bar_67 : decode cX8_bar 67 = .ok (.if_icmp .eq 15, 3) := by decide +kernel
theorem dX8_bar_70 : decode cX8_bar 70 = .ok (.iload 4, 2) := by decide +kernel
theorem dX8_bar_72 : decode cX8_bar 72 = .ok (.invokestatic 368, 3) := by decide +kernel
theorem dX8_bar_75 : decode cX8_bar 75 = .ok (.iload_n 3, 1) := by decide +kernel
theorem dX8_bar_76 : decode cX8_bar 76 = .ok (.invokestatic 368, 3) := by decide +kernel
theorem dX8_bar_79 : decode cX8_bar 79 = .ok (.if_icmp .ge 6, 3) := by decide +kernel
theorem dX8_bar_82 : decode cX8_bar 82 = .ok (.iload 4, 2) := by decide +kernel
theorem dX8_bar_84 : decode cX8_bar 84 = .ok (.istore_n 3, 1) := by decide +kernel
theorem dX8_bar_85 : decode cX8_bar 85 = .ok (.iinc 4 1, 3) := by decide +kernel
theorem dX8_bar_88 : decode cX8_bar 88 = .ok (.goto (-53), 3) := by decide +kernel
theorem dX8_bar_91 : decode cX8_bar 91 = .ok (.aload_n 0, 1) := by decide +kernel
theorem dX8_bar_92 : decode cX8_bar 92 = .ok (.iload_n 3, 1) := by decide +kernel
theorem dX8_bar_93 : decode cX8_bar 93 = .ok (.invokevirtual 53, 3) := by decide +kernel
theorem dX8_bar_96 : decode cX8_bar 96 = .ok (.ireturn, 1) := by decide +kernel
theorem dX8_freeing_0 : decode cX8_freeing 0 = .ok (.aload_n 0, 1) := by decide +kernel
theorem dX8_freeing_1 : decode cX8_freeing 1 = .ok (.iload_n 1, 1) := by decide +kernel
theorem dX8_freeing_2 : decode cX8_freeing 2 = .ok (.invokevirtual 332, 3) := by decide +kernel
theorem dX8_freeing_5 : decode cX8_freeing 5 = .ok (.istore_n 3, 1) := by decide +kernel
theorem dX8_freeing_6 : decode cX8_freeing 6 = .ok (.iload_n 3, 1) := by decide +kernel
theorem dX8_freeing_7 : decode cX8_freeing 7 = .ok (.istore 4, 2) := by decide +kernel
theorem dX8_freeing_9 : decode cX8_freeing 9 = .ok (.iconst 0, 1) := by decide +kernel
theorem dX8_freeing_10 : decode cX8_freeing 10 = .ok (.istore 5, 2) := by decide +kernel
theorem dX8_freeing_12 : decode cX8_freeing 12 = .ok (.iload 5, 2) := by decide +kernel
theorem dX8_freeing_14 : decode cX8_freeing 14 = .ok (.iload_n 3, 1) := by decide +kernel
theorem dX8_freeing_15 : decode cX8_freeing 15 = .ok (.if_icmp .gt 75, 3) := by decide +kernel
theorem dX8_freeing_18 : decode cX8_freeing 18 = .ok (.iload 5, 2) := by decide +kernel
theorem dX8_freeing_20 : decode cX8_freeing 20 = .ok (.iload_n 3, 1) := by decide +kernel
theorem dX8_freeing_21 : decode cX8_freeing 21 = .ok (.iconst (-1), 1) := by decide +kernel
theorem dX8_freeing_22 : decode cX8_freeing 22 = .ok (.ixor, 1) := by decide +kernel
theorem dX8_freeing_23 : decode cX8_freeing 23 = .ok (.iand, 1) := by decide +kernel
theorem dX8_freeing_24 : decode cX8_freeing 24 = .ok (.ifCond .ne 60, 3) := by decide +kernel
theorem dX8_freeing_27 : decode cX8_freeing 27 = .ok (.aload_n 0, 1) := by decide +kernel
theorem dX8_freeing_28 : decode cX8_freeing 28 = .ok (.iload_n 3, 1) := by decide +kernel
theorem dX8_freeing_29 : decode cX8_freeing 29 = .ok (.iload 5, 2) := by decide +kernel
theorem dX8_freeing_31 : decode cX8_freeing 31 = .ok (.iconst (-1), 1) := by decide +kernel
theorem dX8_freeing_32 : decode cX8_freeing 32 = .ok (.ixor, 1) := by decide +kernel
theorem dX8_freeing_33 : decode cX8_freeing 33 = .ok (.iand, 1) := by decide +kernel
theorem dX8_freeing_34 : decode cX8_freeing 34 = .ok (.invokevirtual 335, 3) := by decide +kernel
theorem dX8_freeing_37 : decode cX8_freeing 37 = .ok (.lconst 0, 1) := by decide +kernel
theorem dX8_freeing_38 : decode cX8_freeing 38 = .ok (.lcmp, 1) := by decide +kernel
theorem dX8_freeing_39 : decode cX8_freeing 39 = .ok (.ifCond .ne 6, 3) := by decide +kernel
theorem dX8_freeing_42 : decode cX8_freeing 42 = .ok (.goto 42, 3) := by decide +kernel
theorem dX8_freeing_45 : decode cX8_freeing 45 = .ok (.iload_n 2, 1) := by decide +kernel
theorem dX8_freeing_46 : decode cX8_freeing 46 = .ok (.ifCond .eq 19, 3) := by decide +kernel
theorem dX8_freeing_49 : decode cX8_freeing 49 = .ok (.iload 5, 2) := by decide +kernel
theorem dX8_freeing_51 : decode cX8_freeing 51 = .ok (.invokestatic 368, 3) := by decide +kernel
theorem dX8_freeing_54 : decode cX8_freeing 54 = .ok (.iload 4, 2) := by decide +kernel
theorem dX8_freeing_56 : decode cX8_freeing 56 = .ok (.invokestatic 368, 3) := by decide +kernel
theorem dX8_freeing_59 : decode cX8_freeing 59 = .ok (.if_icmp .ge 25, 3) := by decide +kernel
theorem dX8_freeing_62 : decode cX8_freeing 62 = .ok (.goto 18, 3) := by decide +kernel
theorem dX8_freeing_65 : decode cX8_freeing 65 = .ok (.aload_n 0, 1) := by decide +kernel
theorem dX8_freeing_66 : decode cX8_freeing 66 = .ok (.iload 5, 2) := by decide +kernel
theorem dX8_freeing_68 : decode cX8_freeing 68 = .ok (.invokevirtual 348, 3) := by decide +kernel
theorem dX8_freeing_71 : decode cX8_freeing 71 = .ok (.aload_n 0, 1) := by decide +kernel
theorem dX8_freeing_72 : decode cX8_freeing 72 = .ok (.iload 4, 2) := by decide +kernel
theorem dX8_freeing_74 : decode cX8_freeing 74 = .ok (.invokevirtual 348, 3) := by decide +kernel
theorem dX8_freeing_77 : decode cX8_freeing 77 = .ok (.if_icmp .ge 7, 3) := by decide +kernel
theorem dX8_freeing_80 : decode cX8_freeing 80 = .ok (.iload 5, 2) := by decide +kernel
theorem dX8_freeing_82 : decode cX8_freeing 82 = .ok (.istore 4, 2) := by decide +kernel
theorem dX8_freeing_84 : decode cX8_freeing 84 = .ok (.iinc 5 1, 3) := by decide +kernel
theorem dX8_freeing_87 : decode cX8_freeing 87 = .ok (.goto (-75), 3) := by decide +kernel
theorem dX8_freeing_90 : decode cX8_freeing 90 = .ok (.iload 4, 2) := by decide +kernel
theorem dX8_freeing_92 : decode cX8_freeing 92 = .ok (.ireturn, 1) := by decide +kernel
theorem dX8_free_0 : decode cX8_free 0 = .ok (.aload_n 0, 1) := by decide +kernel
theorem dX8_free_1 : decode cX8_free 1 = .ok (.iconst 0, 1) := by decide +kernel
theorem dX8_free_2 : decode cX8_free 2 = .ok (.putfield 43, 3) := by decide +kernel
theorem dX8_free_5 : decode cX8_free 5 = .ok (.aload_n 0, 1) := by decide +kernel
theorem dX8_free_6 : decode cX8_free 6 = .ok (.iload_n 1, 1) := by decide +kernel
theorem dX8_free_7 : decode cX8_free 7 = .ok (.invokevirtual 345, 3) := by decide +kernel
theorem dX8_free_10 : decode cX8_free 10 = .ok (.ifCond .ne 9, 3) := by decide +kernel
theorem dX8_free_13 : decode cX8_free 13 = .ok (.aload_n 0, 1) := by decide +kernel
theorem dX8_free_14 : decode cX8_free 14 = .ok (.iconst 1, 1) := by decide +kernel
theorem dX8_free_15 : decode cX8_free 15 = .ok (.invokevirtual 49, 3) := by decide +kernel
theorem dX8_free_18 : decode cX8_free 18 = .ok (.ireturn, 1) := by decide +kernel
theorem dX8_free_19 : decode cX8_free 19 = .ok (.aload_n 0, 1) := by decide +kernel
theorem dX8_free_20 : decode cX8_free 20 = .ok (.invokevirtual 354, 3) := by decide +kernel
theorem dX8_free_23 : decode cX8_free 23 = .ok (.aload_n 0, 1) := by decide +kernel
theorem dX8_free_24 : decode cX8_free 24 = .ok (.aload_n 0, 1) := by decide +kernel
theorem dX8_free_25 : decode cX8_free 25 = .ok (.iload_n 1, 1) := by decide +kernel
theorem dX8_free_26 : decode cX8_free 26 = .ok (.iconst 1, 1) := by decide +kernel
theorem dX8_free_27 : decode cX8_free 27 = .ok (.invokevirtual 374, 3) := by decide +kernel
theorem dX8_free_30 : decode cX8_free 30 = .ok (.invokevirtual 53, 3) := by decide +kernel
theorem dX8_free_33 : decode cX8_free 33 = .ok (.ireturn, 1) := by decide +kernel
theorem dX8_cheap_0 : decode cX8_cheap 0 = .ok (.aload_n 0, 1) := by decide +kernel
theorem dX8_cheap_1 : decode cX8_cheap 1 = .ok (.iconst 0, 1) := by decide +kernel
theorem dX8_cheap_2 : decode cX8_cheap 2 = .ok (.putfield 43, 3) := by decide +kernel
theorem dX8_cheap_5 : decode cX8_cheap 5 = .ok (.aload_n 0, 1) := by decide +kernel
theorem dX8_cheap_6 : decode cX8_cheap 6 = .ok (.iload_n 1, 1) := by decide +kernel
theorem dX8_cheap_7 : decode cX8_cheap 7 = .ok (.invokevirtual 345, 3) := by decide +kernel
theorem dX8_cheap_10 : decode cX8_cheap 10 = .ok (.ifCond .ne 9, 3) := by decide +kernel
theorem dX8_cheap_13 : decode cX8_cheap 13 = .ok (.aload_n 0, 1) := by decide +kernel
theorem dX8_cheap_14 : decode cX8_cheap 14 = .ok (.iconst 1, 1) := by decide +kernel
theorem dX8_cheap_15 : decode cX8_cheap 15 = .ok (.invokevirtual 49, 3) := by decide +kernel
theorem dX8_cheap_18 : decode cX8_cheap 18 = .ok (.ireturn, 1) := by decide +kernel
theorem dX8_cheap_19 : decode cX8_cheap 19 = .ok (.aload_n 0, 1) := by decide +kernel
theorem dX8_cheap_20 : decode cX8_cheap 20 = .ok (.invokevirtual 354, 3) := by decide +kernel
theorem dX8_cheap_23 : decode cX8_cheap 23 = .ok (.aload_n 0, 1) := by decide +kernel
theorem dX8_cheap_24 : decode cX8_cheap 24 = .ok (.aload_n 0, 1) := by decide +kernel
theorem dX8_cheap_25 : decode cX8_cheap 25 = .ok (.iload_n 1, 1) := by decide +kernel
theorem dX8_cheap_26 : decode cX8_cheap 26 = .ok (.iconst 0, 1) := by decide +kernel
theorem dX8_cheap_27 : decode cX8_cheap 27 = .ok (.invokevirtual 374, 3) := by decide +kernel
theorem dX8_cheap_30 : decode cX8_cheap 30 = .ok (.invokevirtual 53, 3) := by decide +kernel
theorem dX8_cheap_33 : decode cX8_cheap 33 = .ok (.ireturn, 1) := by decide +kernel
theorem dX8_price_0 : decode cX8_price 0 = .ok (.aload_n 0, 1) := by decide +kernel
theorem dX8_price_1 : decode cX8_price 1 = .ok (.iconst 0, 1) := by decide +kernel
theorem dX8_price_2 : decode cX8_price 2 = .ok (.putfield 43, 3) := by decide +kernel
theorem dX8_price_5 : decode cX8_price 5 = .ok (.aload_n 0, 1) := by decide +kernel
theorem dX8_price_6 : decode cX8_price 6 = .ok (.iload_n 1, 1) := by decide +kernel
theorem dX8_price_7 : decode cX8_price 7 = .ok (.invokevirtual 345, 3) := by decide +kernel
theorem dX8_price_10 : decode cX8_price 10 = .ok (.ifCond .ne 9, 3) := by decide +kernel
theorem dX8_price_13 : decode cX8_price 13 = .ok (.aload_n 0, 1) := by decide +kernel
theorem dX8_price_14 : decode cX8_price 14 = .ok (.iconst 1, 1) := by decide +kernel
theorem dX8_price_15 : decode cX8_price 15 = .ok (.invokevirtual 49, 3) := by decide +kernel
theorem dX8_price_18 : decode cX8_price 18 = .ok (.ireturn, 1) := by decide +kernel
theorem dX8_price_19 : decode cX8_price 19 = .ok (.aload_n 0, 1) := by decide +kernel
theorem dX8_price_20 : decode cX8_price 20 = .ok (.invokevirtual 354, 3) := by decide +kernel
theorem dX8_price_23 : decode cX8_price 23 = .ok (.aload_n 0, 1) := by decide +kernel
theorem dX8_price_24 : decode cX8_price 24 = .ok (.aload_n 0, 1) := by decide +kernel
theorem dX8_price_25 : decode cX8_price 25 = .ok (.aload_n 0, 1) := by decide +kernel
theorem dX8_price_26 : decode cX8_price 26 = .ok (.iload_n 1, 1) := by decide +kernel
theorem dX8_price_27 : decode cX8_price 27 = .ok (.iconst 0, 1) := by decide +kernel
theorem dX8_price_28 : decode cX8_price 28 = .ok (.invokevirtual 374, 3) := by decide +kernel
theorem dX8_price_31 : decode cX8_price 31 = .ok (.invokevirtual 348, 3) := by decide +kernel
theorem dX8_price_34 : decode cX8_price 34 = .ok (.invokevirtual 53, 3) := by decide +kernel
theorem dX8_price_37 : decode cX8_price 37 = .ok (.ireturn, 1) := by decide +kernel
theorem dX8_idle_0 : decode cX8_idle 0 = .ok (.aload_n 0, 1) := by decide +kernel
theorem dX8_idle_1 : decode cX8_idle 1 = .ok (.iconst 0, 1) := by decide +kernel
theorem dX8_idle_2 : decode cX8_idle 2 = .ok (.putfield 43, 3) := by decide +kernel
theorem dX8_idle_5 : decode cX8_idle 5 = .ok (.aload_n 0, 1) := by decide +kernel
theorem dX8_idle_6 : decode cX8_idle 6 = .ok (.iload_n 1, 1) := by decide +kernel
theorem dX8_idle_7 : decode cX8_idle 7 = .ok (.invokevirtual 345, 3) := by decide +kernel
theorem dX8_idle_10 : decode cX8_idle 10 = .ok (.ifCond .ne 9, 3) := by decide +kernel
theorem dX8_idle_13 : decode cX8_idle 13 = .ok (.aload_n 0, 1) := by decide +kernel
theorem dX8_idle_14 : decode cX8_idle 14 = .ok (.iconst 1, 1) := by decide +kernel
theorem dX8_idle_15 : decode cX8_idle 15 = .ok (.invokevirtual 49, 3) := by decide +kernel
theorem dX8_idle_18 : decode cX8_idle 18 = .ok (.ireturn, 1) := by decide +kernel
theorem dX8_idle_19 : decode cX8_idle 19 = .ok (.aload_n 0, 1) := by decide +kernel
theorem dX8_idle_20 : decode cX8_idle 20 = .ok (.invokevirtual 354, 3) := by decide +kernel
theorem dX8_idle_23 : decode cX8_idle 23 = .ok (.aload_n 0, 1) := by decide +kernel
theorem dX8_idle_24 : decode cX8_idle 24 = .ok (.iload_n 1, 1) := by decide +kernel
theorem dX8_idle_25 : decode cX8_idle 25 = .ok (.invokevirtual 332, 3) := by decide +kernel
theorem dX8_idle_28 : decode cX8_idle 28 = .ok (.istore_n 2, 1) := by decide +kernel
theorem dX8_idle_29 : decode cX8_idle 29 = .ok (.iconst 0, 1) := by decide +kernel
theorem dX8_idle_30 : decode cX8_idle 30 = .ok (.istore_n 3, 1) := by decide +kernel
theorem dX8_idle_31 : decode cX8_idle 31 = .ok (.iconst 0, 1) := by decide +kernel
theorem dX8_idle_32 : decode cX8_idle 32 = .ok (.istore 4, 2) := by decide +kernel
theorem dX8_idle_34 : decode cX8_idle 34 = .ok (.iload 4, 2) := by decide +kernel
theorem dX8_idle_36 : decode cX8_idle 36 = .ok (.aload_n 0, 1) := by decide +kernel
theorem dX8_idle_37 : decode cX8_idle 37 = .ok (.getfield 306, 3) := by decide +kernel
theorem dX8_idle_40 : decode cX8_idle 40 = .ok (.getfield 240, 3) := by decide +kernel
theorem dX8_idle_43 : decode cX8_idle 43 = .ok (.if_icmp .ge 50, 3) := by decide +kernel
theorem dX8_idle_46 : decode cX8_idle 46 = .ok (.iload_n 3, 1) := by decide +kernel
theorem dX8_idle_47 : decode cX8_idle 47 = .ok (.iload_n 2, 1) := by decide +kernel
theorem dX8_idle_48 : decode cX8_idle 48 = .ok (.iload 4, 2) := by decide +kernel
theorem dX8_idle_50 : decode cX8_idle 50 = .ok (.invokestatic 274, 3) := by decide +kernel
theorem dX8_idle_53 : decode cX8_idle 53 = .ok (.ifCond .eq 31, 3) := by decide +kernel
theorem dX8_idle_56 : decode cX8_idle 56 = .ok (.aload_n 0, 1) := by decide +kernel
theorem dX8_idle_57 : decode cX8_idle 57 = .ok (.iload_n 2, 1) := by decide +kernel
theorem dX8_idle_58 : decode cX8_idle 58 = .ok (.iconst 1, 1) := by decide +kernel
theorem dX8_idle_59 : decode cX8_idle 59 = .ok (.iload 4, 2) := by decide +kernel
theorem dX8_idle_61 : decode cX8_idle 61 = .ok (.ishl, 1) := by decide +kernel
theorem dX8_idle_62 : decode cX8_idle 62 = .ok (.iconst (-1), 1) := by decide +kernel
theorem dX8_idle_63 : decode cX8_idle 63 = .ok (.ixor, 1) := by decide +kernel
theorem dX8_idle_64 : decode cX8_idle 64 = .ok (.iand, 1) := by decide +kernel
theorem dX8_idle_65 : decode cX8_idle 65 = .ok (.invokevirtual 335, 3) := by decide +kernel
theorem dX8_idle_68 : decode cX8_idle 68 = .ok (.aload_n 0, 1) := by decide +kernel
theorem dX8_idle_69 : decode cX8_idle 69 = .ok (.iload_n 2, 1) := by decide +kernel
theorem dX8_idle_70 : decode cX8_idle 70 = .ok (.invokevirtual 335, 3) := by decide +kernel
theorem dX8_idle_73 : decode cX8_idle 73 = .ok (.lcmp, 1) := by decide +kernel
theorem dX8_idle_74 : decode cX8_idle 74 = .ok (.ifCond .ne 10, 3) := by decide +kernel
theorem dX8_idle_77 : decode cX8_idle 77 = .ok (.iconst 1, 1) := by decide +kernel
theorem dX8_idle_78 : decode cX8_idle 78 = .ok (.iload 4, 2) := by decide +kernel
theorem dX8_idle_80 : decode cX8_idle 80 = .ok (.ishl, 1) := by decide +kernel
theorem dX8_idle_81 : decode cX8_idle 81 = .ok (.goto 4, 3) := by decide +kernel
theorem dX8_idle_84 : decode cX8_idle 84 = .ok (.iconst 0, 1) := by decide +kernel
theorem dX8_idle_85 : decode cX8_idle 85 = .ok (.ior, 1) := by decide +kernel
theorem dX8_idle_86 : decode cX8_idle 86 = .ok (.istore_n 3, 1) := by decide +kernel
theorem dX8_idle_87 : decode cX8_idle 87 = .ok (.iinc 4 1, 3) := by decide +kernel
theorem dX8_idle_90 : decode cX8_idle 90 = .ok (.goto (-56), 3) := by decide +kernel
theorem dX8_idle_93 : decode cX8_idle 93 = .ok (.aload_n 0, 1) := by decide +kernel
theorem dX8_idle_94 : decode cX8_idle 94 = .ok (.iload_n 3, 1) := by decide +kernel
theorem dX8_idle_95 : decode cX8_idle 95 = .ok (.invokevirtual 53, 3) := by decide +kernel
theorem dX8_idle_98 : decode cX8_idle 98 = .ok (.ireturn, 1) := by decide +kernel
theorem dX8_heaviest_0 : decode cX8_heaviest 0 = .ok (.aload_n 0, 1) := by decide +kernel
theorem dX8_heaviest_1 : decode cX8_heaviest 1 = .ok (.iconst 0, 1) := by decide +kernel
theorem dX8_heaviest_2 : decode cX8_heaviest 2 = .ok (.putfield 43, 3) := by decide +kernel
theorem dX8_heaviest_5 : decode cX8_heaviest 5 = .ok (.aload_n 0, 1) := by decide +kernel
theorem dX8_heaviest_6 : decode cX8_heaviest 6 = .ok (.iload_n 1, 1) := by decide +kernel
theorem dX8_heaviest_7 : decode cX8_heaviest 7 = .ok (.invokevirtual 345, 3) := by decide +kernel
theorem dX8_heaviest_10 : decode cX8_heaviest 10 = .ok (.ifCond .ne 9, 3) := by decide +kernel
theorem dX8_heaviest_13 : decode cX8_heaviest 13 = .ok (.aload_n 0, 1) := by decide +kernel
theorem dX8_heaviest_14 : decode cX8_heaviest 14 = .ok (.iconst 1, 1) := by decide +kernel
theorem dX8_heaviest_15 : decode cX8_heaviest 15 = .ok (.invokevirtual 49, 3) := by decide +kernel
theorem dX8_heaviest_18 : decode cX8_heaviest 18 = .ok (.ireturn, 1) := by decide +kernel
theorem dX8_heaviest_19 : decode cX8_heaviest 19 = .ok (.aload_n 0, 1) := by decide +kernel
theorem dX8_heaviest_20 : decode cX8_heaviest 20 = .ok (.invokevirtual 354, 3) := by decide +kernel
theorem dX8_heaviest_23 : decode cX8_heaviest 23 = .ok (.aload_n 0, 1) := by decide +kernel
theorem dX8_heaviest_24 : decode cX8_heaviest 24 = .ok (.iload_n 1, 1) := by decide +kernel
theorem dX8_heaviest_25 : decode cX8_heaviest 25 = .ok (.invokevirtual 332, 3) := by decide +kernel
theorem dX8_heaviest_28 : decode cX8_heaviest 28 = .ok (.istore_n 2, 1) := by decide +kernel
theorem dX8_heaviest_29 : decode cX8_heaviest 29 = .ok (.bipush (-2), 2) := by decide +kernel
theorem dX8_heaviest_31 : decode cX8_heaviest 31 = .ok (.istore_n 3, 1) := by decide +kernel
theorem dX8_heaviest_32 : decode cX8_heaviest 32 = .ok (.iconst (-1), 1) := by decide +kernel
theorem dX8_heaviest_33 : decode cX8_heaviest 33 = .ok (.istore 4, 2) := by decide +kernel
theorem dX8_heaviest_35 : decode cX8_heaviest 35 = .ok (.iconst 0, 1) := by decide +kernel
theorem dX8_heaviest_36 : decode cX8_heaviest 36 = .ok (.istore 5, 2) := by decide +kernel
theorem dX8_heaviest_38 : decode cX8_heaviest 38 = .ok (.iload 5, 2) := by decide +kernel
theorem dX8_heaviest_40 : decode cX8_heaviest 40 = .ok (.aload_n 0, 1) := by decide +kernel
theorem dX8_heaviest_41 : decode cX8_heaviest 41 = .ok (.getfield 306, 3) := by decide +kernel
theorem dX8_heaviest_44 : decode cX8_heaviest 44 = .ok (.getfield 240, 3) := by decide +kernel
theorem dX8_heaviest_47 : decode cX8_heaviest 47 = .ok (.if_icmp .ge 56, 3) := by decide +kernel
theorem dX8_heaviest_50 : decode cX8_heaviest 50 = .ok (.iload_n 2, 1) := by decide +kernel
theorem dX8_heaviest_51 : decode cX8_heaviest 51 = .ok (.iload 5, 2) := by decide +kernel
theorem dX8_heaviest_53 : decode cX8_heaviest 53 = .ok (.invokestatic 274, 3) := by decide +kernel
theorem dX8_heaviest_56 : decode cX8_heaviest 56 = .ok (.ifCond .eq 21, 3) := by decide +kernel
theorem dX8_heaviest_59 : decode cX8_heaviest 59 = .ok (.aload_n 0, 1) := by decide +kernel
theorem dX8_heaviest_60 : decode cX8_heaviest 60 = .ok (.iload_n 2, 1) := by decide +kernel
theorem dX8_heaviest_61 : decode cX8_heaviest 61 = .ok (.iconst 1, 1) := by decide +kernel
theorem dX8_heaviest_62 : decode cX8_heaviest 62 = .ok (.iload 5, 2) := by decide +kernel
theorem dX8_heaviest_64 : decode cX8_heaviest 64 = .ok (.ishl, 1) := by decide +kernel
theorem dX8_heaviest_65 : decode cX8_heaviest 65 = .ok (.iconst (-1), 1) := by decide +kernel
theorem dX8_heaviest_66 : decode cX8_heaviest 66 = .ok (.ixor, 1) := by decide +kernel
theorem dX8_heaviest_67 : decode cX8_heaviest 67 = .ok (.iand, 1) := by decide +kernel
theorem dX8_heaviest_68 : decode cX8_heaviest 68 = .ok (.invokevirtual 335, 3) := by decide +kernel
theorem dX8_heaviest_71 : decode cX8_heaviest 71 = .ok (.invokestatic 361, 3) := by decide +kernel
theorem dX8_heaviest_74 : decode cX8_heaviest 74 = .ok (.goto 4, 3) := by decide +kernel
theorem dX8_heaviest_77 : decode cX8_heaviest 77 = .ok (.iconst (-1), 1) := by decide +kernel
theorem dX8_heaviest_78 : decode cX8_heaviest 78 = .ok (.istore 6, 2) := by decide +kernel
theorem dX8_heaviest_80 : decode cX8_heaviest 80 = .ok (.iload 6, 2) := by decide +kernel
theorem dX8_heaviest_82 : decode cX8_heaviest 82 = .ok (.iload 4, 2) := by decide +kernel
theorem dX8_heaviest_84 : decode cX8_heaviest 84 = .ok (.if_icmp .gt 6, 3) := by decide +kernel
theorem dX8_heaviest_87 : decode cX8_heaviest 87 = .ok (.goto 10, 3) := by decide +kernel
theorem dX8_heaviest_90 : decode cX8_heaviest 90 = .ok (.iload 6, 2) := by decide +kernel
theorem dX8_heaviest_92 : decode cX8_heaviest 92 = .ok (.istore 4, 2) := by decide +kernel
theorem dX8_heaviest_94 : decode cX8_heaviest 94 = .ok (.iload 5, 2) := by decide +kernel
theorem dX8_heaviest_96 : decode cX8_heaviest 96 = .ok (.istore_n 3, 1) := by decide +kernel
theorem dX8_heaviest_97 : decode cX8_heaviest 97 = .ok (.iinc 5 1, 3) := by decide +kernel
theorem dX8_heaviest_100 : decode cX8_heaviest 100 = .ok (.goto (-62), 3) := by decide +kernel
theorem dX8_heaviest_103 : decode cX8_heaviest 103 = .ok (.aload_n 0, 1) := by decide +kernel
theorem dX8_heaviest_104 : decode cX8_heaviest 104 = .ok (.iload_n 3, 1) := by decide +kernel
theorem dX8_heaviest_105 : decode cX8_heaviest 105 = .ok (.invokevirtual 53, 3) := by decide +kernel
theorem dX8_heaviest_108 : decode cX8_heaviest 108 = .ok (.ireturn, 1) := by decide +kernel
theorem dX8_feared_0 : decode cX8_feared 0 = .ok (.aload_n 0, 1) := by decide +kernel
theorem dX8_feared_1 : decode cX8_feared 1 = .ok (.iconst 0, 1) := by decide +kernel
theorem dX8_feared_2 : decode cX8_feared 2 = .ok (.putfield 43, 3) := by decide +kernel
theorem dX8_feared_5 : decode cX8_feared 5 = .ok (.aload_n 0, 1) := by decide +kernel
theorem dX8_feared_6 : decode cX8_feared 6 = .ok (.iload_n 1, 1) := by decide +kernel
theorem dX8_feared_7 : decode cX8_feared 7 = .ok (.invokevirtual 345, 3) := by decide +kernel
theorem dX8_feared_10 : decode cX8_feared 10 = .ok (.ifCond .ne 9, 3) := by decide +kernel
theorem dX8_feared_13 : decode cX8_feared 13 = .ok (.aload_n 0, 1) := by decide +kernel
theorem dX8_feared_14 : decode cX8_feared 14 = .ok (.iconst 1, 1) := by decide +kernel
theorem dX8_feared_15 : decode cX8_feared 15 = .ok (.invokevirtual 49, 3) := by decide +kernel
theorem dX8_feared_18 : decode cX8_feared 18 = .ok (.ireturn, 1) := by decide +kernel
theorem dX8_feared_19 : decode cX8_feared 19 = .ok (.aload_n 0, 1) := by decide +kernel
theorem dX8_feared_20 : decode cX8_feared 20 = .ok (.invokevirtual 354, 3) := by decide +kernel
theorem dX8_feared_23 : decode cX8_feared 23 = .ok (.aload_n 0, 1) := by decide +kernel
theorem dX8_feared_24 : decode cX8_feared 24 = .ok (.iload_n 1, 1) := by decide +kernel
theorem dX8_feared_25 : decode cX8_feared 25 = .ok (.invokevirtual 332, 3) := by decide +kernel
theorem dX8_feared_28 : decode cX8_feared 28 = .ok (.istore_n 2, 1) := by decide +kernel
theorem dX8_feared_29 : decode cX8_feared 29 = .ok (.aload_n 0, 1) := by decide +kernel
theorem dX8_feared_30 : decode cX8_feared 30 = .ok (.invokevirtual 378, 3) := by decide +kernel
theorem dX8_feared_33 : decode cX8_feared 33 = .ok (.iload_n 2, 1) := by decide +kernel
theorem dX8_feared_34 : decode cX8_feared 34 = .ok (.iconst (-1), 1) := by decide +kernel
theorem dX8_feared_35 : decode cX8_feared 35 = .ok (.ixor, 1) := by decide +kernel
theorem dX8_feared_36 : decode cX8_feared 36 = .ok (.iand, 1) := by decide +kernel
theorem dX8_feared_37 : decode cX8_feared 37 = .ok (.istore_n 3, 1) := by decide +kernel
theorem dX8_feared_38 : decode cX8_feared 38 = .ok (.iconst 0, 1) := by decide +kernel
theorem dX8_feared_39 : decode cX8_feared 39 = .ok (.istore 4, 2) := by decide +kernel
theorem dX8_feared_41 : decode cX8_feared 41 = .ok (.iconst 0, 1) := by decide +kernel
theorem dX8_feared_42 : decode cX8_feared 42 = .ok (.istore 5, 2) := by decide +kernel
theorem dX8_feared_44 : decode cX8_feared 44 = .ok (.iload 5, 2) := by decide +kernel
theorem dX8_feared_46 : decode cX8_feared 46 = .ok (.aload_n 0, 1) := by decide +kernel
theorem dX8_feared_47 : decode cX8_feared 47 = .ok (.getfield 306, 3) := by decide +kernel
theorem dX8_feared_50 : decode cX8_feared 50 = .ok (.getfield 240, 3) := by decide +kernel
theorem dX8_feared_53 : decode cX8_feared 53 = .ok (.if_icmp .ge 54, 3) := by decide +kernel
theorem dX8_feared_56 : decode cX8_feared 56 = .ok (.aload_n 0, 1) := by decide +kernel
theorem dX8_feared_57 : decode cX8_feared 57 = .ok (.iload_n 1, 1) := by decide +kernel
theorem dX8_feared_58 : decode cX8_feared 58 = .ok (.invokevirtual 371, 3) := by decide +kernel
theorem dX8_feared_61 : decode cX8_feared 61 = .ok (.ifCond .ne 46, 3) := by decide +kernel
theorem dX8_feared_64 : decode cX8_feared 64 = .ok (.iload 4, 2) := by decide +kernel
theorem dX8_feared_66 : decode cX8_feared 66 = .ok (.iload_n 3, 1) := by decide +kernel
theorem dX8_feared_67 : decode cX8_feared 67 = .ok (.iload 5, 2) := by decide +kernel
theorem dX8_feared_69 : decode cX8_feared 69 = .ok (.invokestatic 274, 3) := by decide +kernel
theorem dX8_feared_72 : decode cX8_feared 72 = .ok (.ifCond .eq 25, 3) := by decide +kernel
theorem dX8_feared_75 : decode cX8_feared 75 = .ok (.aload_n 0, 1) := by decide +kernel
theorem dX8_feared_76 : decode cX8_feared 76 = .ok (.iload_n 2, 1) := by decide +kernel
theorem dX8_feared_77 : decode cX8_feared 77 = .ok (.iconst 1, 1) := by decide +kernel
theorem dX8_feared_78 : decode cX8_feared 78 = .ok (.iload 5, 2) := by decide +kernel
theorem dX8_feared_80 : decode cX8_feared 80 = .ok (.ishl, 1) := by decide +kernel
theorem dX8_feared_81 : decode cX8_feared 81 = .ok (.ior, 1) := by decide +kernel
theorem dX8_feared_82 : decode cX8_feared 82 = .ok (.invokevirtual 335, 3) := by decide +kernel
theorem dX8_feared_85 : decode cX8_feared 85 = .ok (.lconst 0, 1) := by decide +kernel
theorem dX8_feared_86 : decode cX8_feared 86 = .ok (.lcmp, 1) := by decide +kernel
theorem dX8_feared_87 : decode cX8_feared 87 = .ok (.ifCond .ne 10, 3) := by decide +kernel
theorem dX8_feared_90 : decode cX8_feared 90 = .ok (.iconst 1, 1) := by decide +kernel
theorem dX8_feared_91 : decode cX8_feared 91 = .ok (.iload 5, 2) := by decide +kernel
theorem dX8_feared_93 : decode cX8_feared 93 = .ok (.ishl, 1) := by decide +kernel
theorem dX8_feared_94 : decode cX8_feared 94 = .ok (.goto 4, 3) := by decide +kernel
theorem dX8_feared_97 : decode cX8_feared 97 = .ok (.iconst 0, 1) := by decide +kernel
theorem dX8_feared_98 : decode cX8_feared 98 = .ok (.ior, 1) := by decide +kernel
theorem dX8_feared_99 : decode cX8_feared 99 = .ok (.istore 4, 2) := by decide +kernel
theorem dX8_feared_101 : decode cX8_feared 101 = .ok (.iinc 5 1, 3) := by decide +kernel
theorem dX8_feared_104 : decode cX8_feared 104 = .ok (.goto (-60), 3) := by decide +kernel
theorem dX8_feared_107 : decode cX8_feared 107 = .ok (.aload_n 0, 1) := by decide +kernel
theorem dX8_feared_108 : decode cX8_feared 108 = .ok (.iload 4, 2) := by decide +kernel
theorem dX8_feared_110 : decode cX8_feared 110 = .ok (.invokevirtual 53, 3) := by decide +kernel
theorem dX8_feared_113 : decode cX8_feared 113 = .ok (.ireturn, 1) := by decide +kernel
theorem dX8_isSpread_0 : decode cX8_isSpread 0 = .ok (.iconst 0, 1) := by decide +kernel
theorem dX8_isSpread_1 : decode cX8_isSpread 1 = .ok (.istore_n 3, 1) := by decide +kernel
theorem dX8_isSpread_2 : decode cX8_isSpread 2 = .ok (.iconst 0, 1) := by decide +kernel
theorem dX8_isSpread_3 : decode cX8_isSpread 3 = .ok (.istore 4, 2) := by decide +kernel
theorem dX8_isSpread_5 : decode cX8_isSpread 5 = .ok (.iload 4, 2) := by decide +kernel
theorem dX8_isSpread_7 : decode cX8_isSpread 7 = .ok (.bipush 8, 2) := by decide +kernel
theorem dX8_isSpread_9 : decode cX8_isSpread 9 = .ok (.if_icmp .ge 25, 3) := by decide +kernel
theorem dX8_isSpread_12 : decode cX8_isSpread 12 = .ok (.aload_n 0, 1) := by decide +kernel
theorem dX8_isSpread_13 : decode cX8_isSpread 13 = .ok (.getfield 34, 3) := by decide +kernel
theorem dX8_isSpread_16 : decode cX8_isSpread 16 = .ok (.iload 4, 2) := by decide +kernel
theorem dX8_isSpread_18 : decode cX8_isSpread 18 = .ok (.iconst (-1), 1) := by decide +kernel
theorem dX8_isSpread_19 : decode cX8_isSpread 19 = .ok (.iastore, 1) := by decide +kernel
theorem dX8_isSpread_20 : decode cX8_isSpread 20 = .ok (.aload_n 0, 1) := by decide +kernel
theorem dX8_isSpread_21 : decode cX8_isSpread 21 = .ok (.getfield 37, 3) := by decide +kernel
theorem dX8_isSpread_24 : decode cX8_isSpread 24 = .ok (.iload 4, 2) := by decide +kernel
theorem dX8_isSpread_26 : decode cX8_isSpread 26 = .ok (.iconst 0, 1) := by decide +kernel
theorem dX8_isSpread_27 : decode cX8_isSpread 27 = .ok (.iastore, 1) := by decide +kernel
theorem dX8_isSpread_28 : decode cX8_isSpread 28 = .ok (.iinc 4 1, 3) := by decide +kernel
theorem dX8_isSpread_31 : decode cX8_isSpread 31 = .ok (.goto (-26), 3) := by decide +kernel
theorem dX8_isSpread_34 : decode cX8_isSpread 34 = .ok (.iload_n 3, 1) := by decide +kernel
theorem dX8_isSpread_35 : decode cX8_isSpread 35 = .ok (.ifCond .lt 175, 3) := by decide +kernel
theorem dX8_isSpread_38 : decode cX8_isSpread 38 = .ok (.iload_n 3, 1) := by decide +kernel
theorem dX8_isSpread_39 : decode cX8_isSpread 39 = .ok (.aload_n 0, 1) := by decide +kernel
theorem dX8_isSpread_40 : decode cX8_isSpread 40 = .ok (.getfield 306, 3) := by decide +kernel
theorem dX8_isSpread_43 : decode cX8_isSpread 43 = .ok (.getfield 240, 3) := by decide +kernel
theorem dX8_isSpread_46 : decode cX8_isSpread 46 = .ok (.if_icmp .ge 164, 3) := by decide +kernel
theorem dX8_isSpread_49 : decode cX8_isSpread 49 = .ok (.iload_n 1, 1) := by decide +kernel
theorem dX8_isSpread_50 : decode cX8_isSpread 50 = .ok (.iload_n 3, 1) := by decide +kernel
theorem dX8_isSpread_51 : decode cX8_isSpread 51 = .ok (.invokestatic 274, 3) := by decide +kernel
theorem dX8_isSpread_54 : decode cX8_isSpread 54 = .ok (.ifCond .ne 9, 3) := by decide +kernel
theorem dX8_isSpread_57 : decode cX8_isSpread 57 = .ok (.iinc 3 1, 3) := by decide +kernel
theorem dX8_isSpread_60 : decode cX8_isSpread 60 = .ok (.goto (-26), 3) := by decide +kernel
theorem dX8_isSpread_63 : decode cX8_isSpread 63 = .ok (.aload_n 0, 1) := by decide +kernel
theorem dX8_isSpread_64 : decode cX8_isSpread 64 = .ok (.getfield 34, 3) := by decide +kernel
theorem dX8_isSpread_67 : decode cX8_isSpread 67 = .ok (.iload_n 3, 1) := by decide +kernel
theorem dX8_isSpread_68 : decode cX8_isSpread 68 = .ok (.iaload, 1) := by decide +kernel
theorem dX8_isSpread_69 : decode cX8_isSpread 69 = .ok (.iconst (-1), 1) := by decide +kernel
theorem dX8_isSpread_70 : decode cX8_isSpread 70 = .ok (.if_icmp .eq 22, 3) := by decide +kernel
theorem dX8_isSpread_73 : decode cX8_isSpread 73 = .ok (.aload_n 0, 1) := by decide +kernel
theorem dX8_isSpread_74 : decode cX8_isSpread 74 = .ok (.getfield 37, 3) := by decide +kernel
theorem dX8_isSpread_77 : decode cX8_isSpread 77 = .ok (.aload_n 0, 1) := by decide +kernel
theorem dX8_isSpread_78 : decode cX8_isSpread 78 = .ok (.getfield 34, 3) := by decide +kernel
theorem dX8_isSpread_81 : decode cX8_isSpread 81 = .ok (.iload_n 3, 1) := by decide +kernel
theorem dX8_isSpread_82 : decode cX8_isSpread 82 = .ok (.iaload, 1) := by decide +kernel
theorem dX8_isSpread_83 : decode cX8_isSpread 83 = .ok (.dup2, 1) := by decide +kernel
theorem dX8_isSpread_84 : decode cX8_isSpread 84 = .ok (.iaload, 1) := by decide +kernel
theorem dX8_isSpread_85 : decode cX8_isSpread 85 = .ok (.iconst 1, 1) := by decide +kernel
theorem dX8_isSpread_86 : decode cX8_isSpread 86 = .ok (.iload_n 3, 1) := by decide +kernel
theorem dX8_isSpread_87 : decode cX8_isSpread 87 = .ok (.ishl, 1) := by decide +kernel
theorem dX8_isSpread_88 : decode cX8_isSpread 88 = .ok (.iconst (-1), 1) := by decide +kernel
theorem dX8_isSpread_89 : decode cX8_isSpread 89 = .ok (.ixor, 1) := by decide +kernel
theorem dX8_isSpread_90 : decode cX8_isSpread 90 = .ok (.iand, 1) := by decide +kernel
theorem dX8_isSpread_91 : decode cX8_isSpread 91 = .ok (.iastore, 1) := by decide +kernel
theorem dX8_isSpread_92 : decode cX8_isSpread 92 = .ok (.aload_n 0, 1) := by decide +kernel
theorem dX8_isSpread_93 : decode cX8_isSpread 93 = .ok (.getfield 34, 3) := by decide +kernel
theorem dX8_isSpread_96 : decode cX8_isSpread 96 = .ok (.iload_n 3, 1) := by decide +kernel
theorem dX8_isSpread_97 : decode cX8_isSpread 97 = .ok (.dup2, 1) := by decide +kernel
theorem dX8_isSpread_98 : decode cX8_isSpread 98 = .ok (.iaload, 1) := by decide +kernel
theorem dX8_isSpread_99 : decode cX8_isSpread 99 = .ok (.iconst 1, 1) := by decide +kernel
theorem dX8_isSpread_100 : decode cX8_isSpread 100 = .ok (.iadd, 1) := by decide +kernel
theorem dX8_isSpread_101 : decode cX8_isSpread 101 = .ok (.iastore, 1) := by decide +kernel
theorem dX8_isSpread_102 : decode cX8_isSpread 102 = .ok (.aload_n 0, 1) := by decide +kernel
theorem dX8_isSpread_103 : decode cX8_isSpread 103 = .ok (.getfield 34, 3) := by decide +kernel
theorem dX8_isSpread_106 : decode cX8_isSpread 106 = .ok (.iload_n 3, 1) := by decide +kernel
theorem dX8_isSpread_107 : decode cX8_isSpread 107 = .ok (.iaload, 1) := by decide +kernel
theorem dX8_isSpread_108 : decode cX8_isSpread 108 = .ok (.iload_n 2, 1) := by decide +kernel
theorem dX8_isSpread_109 : decode cX8_isSpread 109 = .ok (.if_icmp .ge 40, 3) := by decide +kernel
theorem dX8_isSpread_112 : decode cX8_isSpread 112 = .ok (.aload_n 0, 1) := by decide +kernel
theorem dX8_isSpread_113 : decode cX8_isSpread 113 = .ok (.aload_n 0, 1) := by decide +kernel
theorem dX8_isSpread_114 : decode cX8_isSpread 114 = .ok (.getfield 37, 3) := by decide +kernel
theorem dX8_isSpread_117 : decode cX8_isSpread 117 = .ok (.aload_n 0, 1) := by decide +kernel
theorem dX8_isSpread_118 : decode cX8_isSpread 118 = .ok (.getfield 34, 3) := by decide +kernel
theorem dX8_isSpread_121 : decode cX8_isSpread 121 = .ok (.iload_n 3, 1) := by decide +kernel
theorem dX8_isSpread_122 : decode cX8_isSpread 122 = .ok (.iaload, 1) := by decide +kernel
theorem dX8_isSpread_123 : decode cX8_isSpread 123 = .ok (.iaload, 1) := by decide +kernel
theorem dX8_isSpread_124 : decode cX8_isSpread 124 = .ok (.iconst 1, 1) := by decide +kernel
theorem dX8_isSpread_125 : decode cX8_isSpread 125 = .ok (.iload_n 3, 1) := by decide +kernel
theorem dX8_isSpread_126 : decode cX8_isSpread 126 = .ok (.ishl, 1) := by decide +kernel
theorem dX8_isSpread_127 : decode cX8_isSpread 127 = .ok (.ior, 1) := by decide +kernel
theorem dX8_isSpread_128 : decode cX8_isSpread 128 = .ok (.invokevirtual 335, 3) := by decide +kernel
theorem dX8_isSpread_131 : decode cX8_isSpread 131 = .ok (.lconst 0, 1) := by decide +kernel
theorem dX8_isSpread_132 : decode cX8_isSpread 132 = .ok (.lcmp, 1) := by decide +kernel
theorem dX8_isSpread_133 : decode cX8_isSpread 133 = .ok (.ifCond .ne 16, 3) := by decide +kernel
theorem dX8_isSpread_136 : decode cX8_isSpread 136 = .ok (.aload_n 0, 1) := by decide +kernel
theorem dX8_isSpread_137 : decode cX8_isSpread 137 = .ok (.getfield 34, 3) := by decide +kernel
theorem dX8_isSpread_140 : decode cX8_isSpread 140 = .ok (.iload_n 3, 1) := by decide +kernel
theorem dX8_isSpread_141 : decode cX8_isSpread 141 = .ok (.dup2, 1) := by decide +kernel
theorem dX8_isSpread_142 : decode cX8_isSpread 142 = .ok (.iaload, 1) := by decide +kernel
theorem dX8_isSpread_143 : decode cX8_isSpread 143 = .ok (.iconst 1, 1) := by decide +kernel
theorem dX8_isSpread_144 : decode cX8_isSpread 144 = .ok (.iadd, 1) := by decide +kernel
theorem dX8_isSpread_145 : decode cX8_isSpread 145 = .ok (.iastore, 1) := by decide +kernel
theorem dX8_isSpread_146 : decode cX8_isSpread 146 = .ok (.goto (-44), 3) := by decide +kernel
theorem dX8_isSpread_149 : decode cX8_isSpread 149 = .ok (.aload_n 0, 1) := by decide +kernel
theorem dX8_isSpread_150 : decode cX8_isSpread 150 = .ok (.getfield 34, 3) := by decide +kernel
theorem dX8_isSpread_153 : decode cX8_isSpread 153 = .ok (.iload_n 3, 1) := by decide +kernel
theorem dX8_isSpread_154 : decode cX8_isSpread 154 = .ok (.iaload, 1) := by decide +kernel
theorem dX8_isSpread_155 : decode cX8_isSpread 155 = .ok (.iload_n 2, 1) := by decide +kernel
theorem dX8_isSpread_156 : decode cX8_isSpread 156 = .ok (.if_icmp .ge 26, 3) := by decide +kernel
theorem dX8_isSpread_159 : decode cX8_isSpread 159 = .ok (.aload_n 0, 1) := by decide +kernel
theorem dX8_isSpread_160 : decode cX8_isSpread 160 = .ok (.getfield 37, 3) := by decide +kernel
theorem dX8_isSpread_163 : decode cX8_isSpread 163 = .ok (.aload_n 0, 1) := by decide +kernel
theorem dX8_isSpread_164 : decode cX8_isSpread 164 = .ok (.getfield 34, 3) := by decide +kernel
theorem dX8_isSpread_167 : decode cX8_isSpread 167 = .ok (.iload_n 3, 1) := by decide +kernel
theorem dX8_isSpread_168 : decode cX8_isSpread 168 = .ok (.iaload, 1) := by decide +kernel
theorem dX8_isSpread_169 : decode cX8_isSpread 169 = .ok (.dup2, 1) := by decide +kernel
theorem dX8_isSpread_170 : decode cX8_isSpread 170 = .ok (.iaload, 1) := by decide +kernel
theorem dX8_isSpread_171 : decode cX8_isSpread 171 = .ok (.iconst 1, 1) := by decide +kernel
theorem dX8_isSpread_172 : decode cX8_isSpread 172 = .ok (.iload_n 3, 1) := by decide +kernel
theorem dX8_isSpread_173 : decode cX8_isSpread 173 = .ok (.ishl, 1) := by decide +kernel
theorem dX8_isSpread_174 : decode cX8_isSpread 174 = .ok (.ior, 1) := by decide +kernel
theorem dX8_isSpread_175 : decode cX8_isSpread 175 = .ok (.iastore, 1) := by decide +kernel
theorem dX8_isSpread_176 : decode cX8_isSpread 176 = .ok (.iinc 3 1, 3) := by decide +kernel
theorem dX8_isSpread_179 : decode cX8_isSpread 179 = .ok (.goto (-145), 3) := by decide +kernel
theorem dX8_isSpread_182 : decode cX8_isSpread 182 = .ok (.aload_n 0, 1) := by decide +kernel
theorem dX8_isSpread_183 : decode cX8_isSpread 183 = .ok (.getfield 34, 3) := by decide +kernel
theorem dX8_isSpread_186 : decode cX8_isSpread 186 = .ok (.iload_n 3, 1) := by decide +kernel
theorem dX8_isSpread_187 : decode cX8_isSpread 187 = .ok (.iconst (-1), 1) := by decide +kernel
theorem dX8_isSpread_188 : decode cX8_isSpread 188 = .ok (.iastore, 1) := by decide +kernel
theorem dX8_isSpread_189 : decode cX8_isSpread 189 = .ok (.iinc 3 (-1), 3) := by decide +kernel
theorem dX8_isSpread_192 : decode cX8_isSpread 192 = .ok (.iload_n 3, 1) := by decide +kernel
theorem dX8_isSpread_193 : decode cX8_isSpread 193 = .ok (.ifCond .lt (-159), 3) := by decide +kernel
theorem dX8_isSpread_196 : decode cX8_isSpread 196 = .ok (.iload_n 1, 1) := by decide +kernel
theorem dX8_isSpread_197 : decode cX8_isSpread 197 = .ok (.iload_n 3, 1) := by decide +kernel
theorem dX8_isSpread_198 : decode cX8_isSpread 198 = .ok (.invokestatic 274, 3) := by decide +kernel
theorem dX8_isSpread_201 : decode cX8_isSpread 201 = .ok (.ifCond .ne (-167), 3) := by decide +kernel
theorem dX8_isSpread_204 : decode cX8_isSpread 204 = .ok (.iinc 3 (-1), 3) := by decide +kernel
theorem dX8_isSpread_207 : decode cX8_isSpread 207 = .ok (.goto (-15), 3) := by decide +kernel
theorem dX8_isSpread_210 : decode cX8_isSpread 210 = .ok (.iload_n 3, 1) := by decide +kernel
theorem dX8_isSpread_211 : decode cX8_isSpread 211 = .ok (.ifCond .lt 7, 3) := by decide +kernel
theorem dX8_isSpread_214 : decode cX8_isSpread 214 = .ok (.iconst 1, 1) := by decide +kernel
theorem dX8_isSpread_215 : decode cX8_isSpread 215 = .ok (.goto 4, 3) := by decide +kernel
theorem dX8_isSpread_218 : decode cX8_isSpread 218 = .ok (.iconst 0, 1) := by decide +kernel
theorem dX8_isSpread_219 : decode cX8_isSpread 219 = .ok (.ireturn, 1) := by decide +kernel
theorem dX8_spreads_0 : decode cX8_spreads 0 = .ok (.aload_n 0, 1) := by decide +kernel
theorem dX8_spreads_1 : decode cX8_spreads 1 = .ok (.invokevirtual 378, 3) := by decide +kernel
theorem dX8_spreads_4 : decode cX8_spreads 4 = .ok (.istore_n 1, 1) := by decide +kernel
theorem dX8_spreads_5 : decode cX8_spreads 5 = .ok (.iload_n 1, 1) := by decide +kernel
theorem dX8_spreads_6 : decode cX8_spreads 6 = .ok (.ifCond .ne 7, 3) := by decide +kernel
theorem dX8_spreads_9 : decode cX8_spreads 9 = .ok (.iconst 0, 1) := by decide +kernel
theorem dX8_spreads_10 : decode cX8_spreads 10 = .ok (.goto 4, 3) := by decide +kernel
theorem dX8_spreads_13 : decode cX8_spreads 13 = .ok (.iconst 1, 1) := by decide +kernel
theorem dX8_spreads_14 : decode cX8_spreads 14 = .ok (.istore_n 2, 1) := by decide +kernel
theorem dX8_spreads_15 : decode cX8_spreads 15 = .ok (.iload_n 1, 1) := by decide +kernel
theorem dX8_spreads_16 : decode cX8_spreads 16 = .ok (.ifCond .eq 18, 3) := by decide +kernel
theorem dX8_spreads_19 : decode cX8_spreads 19 = .ok (.aload_n 0, 1) := by decide +kernel
theorem dX8_spreads_20 : decode cX8_spreads 20 = .ok (.iload_n 1, 1) := by decide +kernel
theorem dX8_spreads_21 : decode cX8_spreads 21 = .ok (.iload_n 2, 1) := by decide +kernel
theorem dX8_spreads_22 : decode cX8_spreads 22 = .ok (.invokevirtual 381, 3) := by decide +kernel
theorem dX8_spreads_25 : decode cX8_spreads 25 = .ok (.ifCond .ne 9, 3) := by decide +kernel
theorem dX8_spreads_28 : decode cX8_spreads 28 = .ok (.iinc 2 1, 3) := by decide +kernel
theorem dX8_spreads_31 : decode cX8_spreads 31 = .ok (.goto (-16), 3) := by decide +kernel
theorem dX8_spreads_34 : decode cX8_spreads 34 = .ok (.iload_n 2, 1) := by decide +kernel
theorem dX8_spreads_35 : decode cX8_spreads 35 = .ok (.ireturn, 1) := by decide +kernel
theorem dX8_spread_0 : decode cX8_spread 0 = .ok (.aload_n 0, 1) := by decide +kernel
theorem dX8_spread_1 : decode cX8_spread 1 = .ok (.iconst 0, 1) := by decide +kernel
theorem dX8_spread_2 : decode cX8_spread 2 = .ok (.putfield 43, 3) := by decide +kernel
theorem dX8_spread_5 : decode cX8_spread 5 = .ok (.aload_n 0, 1) := by decide +kernel
theorem dX8_spread_6 : decode cX8_spread 6 = .ok (.getfield 306, 3) := by decide +kernel
theorem dX8_spread_9 : decode cX8_spread 9 = .ok (.ifnonnull 9, 3) := by decide +kernel
theorem dX8_spread_12 : decode cX8_spread 12 = .ok (.aload_n 0, 1) := by decide +kernel
theorem dX8_spread_13 : decode cX8_spread 13 = .ok (.iconst 1, 1) := by decide +kernel
theorem dX8_spread_14 : decode cX8_spread 14 = .ok (.invokevirtual 49, 3) := by decide +kernel
theorem dX8_spread_17 : decode cX8_spread 17 = .ok (.ireturn, 1) := by decide +kernel
theorem dX8_spread_18 : decode cX8_spread 18 = .ok (.aload_n 0, 1) := by decide +kernel
theorem dX8_spread_19 : decode cX8_spread 19 = .ok (.invokevirtual 354, 3) := by decide +kernel
theorem dX8_spread_22 : decode cX8_spread 22 = .ok (.aload_n 0, 1) := by decide +kernel
theorem dX8_spread_23 : decode cX8_spread 23 = .ok (.aload_n 0, 1) := by decide +kernel
theorem dX8_spread_24 : decode cX8_spread 24 = .ok (.invokevirtual 384, 3) := by decide +kernel
theorem dX8_spread_27 : decode cX8_spread 27 = .ok (.invokevirtual 53, 3) := by decide +kernel
theorem dX8_spread_30 : decode cX8_spread 30 = .ok (.ireturn, 1) := by decide +kernel
theorem dX8_spreadAt_0 : decode cX8_spreadAt 0 = .ok (.aload_n 0, 1) := by decide +kernel
theorem dX8_spreadAt_1 : decode cX8_spreadAt 1 = .ok (.iconst 0, 1) := by decide +kernel
theorem dX8_spreadAt_2 : decode cX8_spreadAt 2 = .ok (.putfield 43, 3) := by decide +kernel
theorem dX8_spreadAt_5 : decode cX8_spreadAt 5 = .ok (.aload_n 0, 1) := by decide +kernel
theorem dX8_spreadAt_6 : decode cX8_spreadAt 6 = .ok (.iload_n 1, 1) := by decide +kernel
theorem dX8_spreadAt_7 : decode cX8_spreadAt 7 = .ok (.invokevirtual 342, 3) := by decide +kernel
theorem dX8_spreadAt_10 : decode cX8_spreadAt 10 = .ok (.ifCond .ne 9, 3) := by decide +kernel
theorem dX8_spreadAt_13 : decode cX8_spreadAt 13 = .ok (.aload_n 0, 1) := by decide +kernel
theorem dX8_spreadAt_14 : decode cX8_spreadAt 14 = .ok (.iconst 1, 1) := by decide +kernel
theorem dX8_spreadAt_15 : decode cX8_spreadAt 15 = .ok (.invokevirtual 49, 3) := by decide +kernel
theorem dX8_spreadAt_18 : decode cX8_spreadAt 18 = .ok (.ireturn, 1) := by decide +kernel
theorem dX8_spreadAt_19 : decode cX8_spreadAt 19 = .ok (.aload_n 0, 1) := by decide +kernel
theorem dX8_spreadAt_20 : decode cX8_spreadAt 20 = .ok (.invokevirtual 354, 3) := by decide +kernel
theorem dX8_spreadAt_23 : decode cX8_spreadAt 23 = .ok (.aload_n 0, 1) := by decide +kernel
theorem dX8_spreadAt_24 : decode cX8_spreadAt 24 = .ok (.invokevirtual 384, 3) := by decide +kernel
theorem dX8_spreadAt_27 : decode cX8_spreadAt 27 = .ok (.pop, 1) := by decide +kernel
theorem dX8_spreadAt_28 : decode cX8_spreadAt 28 = .ok (.aload_n 0, 1) := by decide +kernel
theorem dX8_spreadAt_29 : decode cX8_spreadAt 29 = .ok (.aload_n 0, 1) := by decide +kernel
theorem dX8_spreadAt_30 : decode cX8_spreadAt 30 = .ok (.getfield 21, 3) := by decide +kernel
theorem dX8_spreadAt_33 : decode cX8_spreadAt 33 = .ok (.bipush 8, 2) := by decide +kernel
theorem dX8_spreadAt_35 : decode cX8_spreadAt 35 = .ok (.iload_n 1, 1) := by decide +kernel
theorem dX8_spreadAt_36 : decode cX8_spreadAt 36 = .ok (.iadd, 1) := by decide +kernel
theorem dX8_spreadAt_37 : decode cX8_spreadAt 37 = .ok (.iaload, 1) := by decide +kernel
theorem dX8_spreadAt_38 : decode cX8_spreadAt 38 = .ok (.ifCond .ne 8, 3) := by decide +kernel
theorem dX8_spreadAt_41 : decode cX8_spreadAt 41 = .ok (.bipush (-2), 2) := by decide +kernel
theorem dX8_spreadAt_43 : decode cX8_spreadAt 43 = .ok (.goto 9, 3) := by decide +kernel
theorem dX8_spreadAt_46 : decode cX8_spreadAt 46 = .ok (.aload_n 0, 1) := by decide +kernel
theorem dX8_spreadAt_47 : decode cX8_spreadAt 47 = .ok (.getfield 34, 3) := by decide +kernel
theorem dX8_spreadAt_50 : decode cX8_spreadAt 50 = .ok (.iload_n 1, 1) := by decide +kernel
theorem dX8_spreadAt_51 : decode cX8_spreadAt 51 = .ok (.iaload, 1) := by decide +kernel
theorem dX8_spreadAt_52 : decode cX8_spreadAt 52 = .ok (.invokevirtual 53, 3) := by decide +kernel
theorem dX8_spreadAt_55 : decode cX8_spreadAt 55 = .ok (.ireturn, 1) := by decide +kernel
theorem dX8_together_0 : decode cX8_together 0 = .ok (.aload_n 0, 1) := by decide +kernel
theorem dX8_together_1 : decode cX8_together 1 = .ok (.iconst 0, 1) := by decide +kernel
theorem dX8_together_2 : decode cX8_together 2 = .ok (.putfield 43, 3) := by decide +kernel
theorem dX8_together_5 : decode cX8_together 5 = .ok (.aload_n 0, 1) := by decide +kernel
theorem dX8_together_6 : decode cX8_together 6 = .ok (.getfield 306, 3) := by decide +kernel
theorem dX8_together_9 : decode cX8_together 9 = .ok (.ifnonnull 9, 3) := by decide +kernel
theorem dX8_together_12 : decode cX8_together 12 = .ok (.aload_n 0, 1) := by decide +kernel
theorem dX8_together_13 : decode cX8_together 13 = .ok (.iconst 1, 1) := by decide +kernel
theorem dX8_together_14 : decode cX8_together 14 = .ok (.invokevirtual 49, 3) := by decide +kernel
theorem dX8_together_17 : decode cX8_together 17 = .ok (.ireturn, 1) := by decide +kernel
theorem dX8_together_18 : decode cX8_together 18 = .ok (.aload_n 0, 1) := by decide +kernel
theorem dX8_together_19 : decode cX8_together 19 = .ok (.invokevirtual 354, 3) := by decide +kernel
theorem dX8_together_22 : decode cX8_together 22 = .ok (.aload_n 0, 1) := by decide +kernel
theorem dX8_together_23 : decode cX8_together 23 = .ok (.invokevirtual 378, 3) := by decide +kernel
theorem dX8_together_26 : decode cX8_together 26 = .ok (.istore_n 1, 1) := by decide +kernel
theorem dX8_together_27 : decode cX8_together 27 = .ok (.iconst 0, 1) := by decide +kernel
theorem dX8_together_28 : decode cX8_together 28 = .ok (.istore_n 2, 1) := by decide +kernel
theorem dX8_together_29 : decode cX8_together 29 = .ok (.iconst 0, 1) := by decide +kernel
theorem dX8_together_30 : decode cX8_together 30 = .ok (.istore_n 3, 1) := by decide +kernel
theorem dX8_together_31 : decode cX8_together 31 = .ok (.iload_n 3, 1) := by decide +kernel
theorem dX8_together_32 : decode cX8_together 32 = .ok (.iload_n 1, 1) := by decide +kernel
theorem dX8_together_33 : decode cX8_together 33 = .ok (.if_icmp .gt 40, 3) := by decide +kernel
theorem dX8_together_36 : decode cX8_together 36 = .ok (.iload_n 3, 1) := by decide +kernel
theorem dX8_together_37 : decode cX8_together 37 = .ok (.iload_n 1, 1) := by decide +kernel
theorem dX8_together_38 : decode cX8_together 38 = .ok (.iconst (-1), 1) := by decide +kernel
theorem dX8_together_39 : decode cX8_together 39 = .ok (.ixor, 1) := by decide +kernel
theorem dX8_together_40 : decode cX8_together 40 = .ok (.iand, 1) := by decide +kernel
theorem dX8_together_41 : decode cX8_together 41 = .ok (.ifCond .ne 26, 3) := by decide +kernel
theorem dX8_together_44 : decode cX8_together 44 = .ok (.aload_n 0, 1) := by decide +kernel
theorem dX8_together_45 : decode cX8_together 45 = .ok (.iload_n 3, 1) := by decide +kernel
theorem dX8_together_46 : decode cX8_together 46 = .ok (.invokevirtual 335, 3) := by decide +kernel
theorem dX8_together_49 : decode cX8_together 49 = .ok (.lconst 0, 1) := by decide +kernel
theorem dX8_together_50 : decode cX8_together 50 = .ok (.lcmp, 1) := by decide +kernel
theorem dX8_together_51 : decode cX8_together 51 = .ok (.ifCond .eq 16, 3) := by decide +kernel
theorem dX8_together_54 : decode cX8_together 54 = .ok (.iload_n 3, 1) := by decide +kernel
theorem dX8_together_55 : decode cX8_together 55 = .ok (.invokestatic 368, 3) := by decide +kernel
theorem dX8_together_58 : decode cX8_together 58 = .ok (.iload_n 2, 1) := by decide +kernel
theorem dX8_together_59 : decode cX8_together 59 = .ok (.invokestatic 368, 3) := by decide +kernel
theorem dX8_together_62 : decode cX8_together 62 = .ok (.if_icmp .le 5, 3) := by decide +kernel
theorem dX8_together_65 : decode cX8_together 65 = .ok (.iload_n 3, 1) := by decide +kernel
theorem dX8_together_66 : decode cX8_together 66 = .ok (.istore_n 2, 1) := by decide +kernel
theorem dX8_together_67 : decode cX8_together 67 = .ok (.iinc 3 1, 3) := by decide +kernel
theorem dX8_together_70 : decode cX8_together 70 = .ok (.goto (-39), 3) := by decide +kernel
theorem dX8_together_73 : decode cX8_together 73 = .ok (.aload_n 0, 1) := by decide +kernel
theorem dX8_together_74 : decode cX8_together 74 = .ok (.iload_n 2, 1) := by decide +kernel
theorem dX8_together_75 : decode cX8_together 75 = .ok (.invokevirtual 53, 3) := by decide +kernel
theorem dX8_together_78 : decode cX8_together 78 = .ok (.ireturn, 1) := by decide +kernel
theorem dX8_refusesDays_0 : decode cX8_refusesDays 0 = .ok (.iload_n 1, 1) := by decide +kernel
theorem dX8_refusesDays_1 : decode cX8_refusesDays 1 = .ok (.ifCond .ne 7, 3) := by decide +kernel
theorem dX8_refusesDays_4 : decode cX8_refusesDays 4 = .ok (.iconst 1, 1) := by decide +kernel
theorem dX8_refusesDays_5 : decode cX8_refusesDays 5 = .ok (.goto 18, 3) := by decide +kernel
theorem dX8_refusesDays_8 : decode cX8_refusesDays 8 = .ok (.iload_n 2, 1) := by decide +kernel
theorem dX8_refusesDays_9 : decode cX8_refusesDays 9 = .ok (.iconst 0, 1) := by decide +kernel
theorem dX8_refusesDays_10 : decode cX8_refusesDays 10 = .ok (.bipush 60, 2) := by decide +kernel
theorem dX8_refusesDays_12 : decode cX8_refusesDays 12 = .ok (.invokestatic 126, 3) := by decide +kernel
theorem dX8_refusesDays_15 : decode cX8_refusesDays 15 = .ok (.ifCond .eq 7, 3) := by decide +kernel
theorem dX8_refusesDays_18 : decode cX8_refusesDays 18 = .ok (.iconst 0, 1) := by decide +kernel
theorem dX8_refusesDays_19 : decode cX8_refusesDays 19 = .ok (.goto 4, 3) := by decide +kernel
theorem dX8_refusesDays_22 : decode cX8_refusesDays 22 = .ok (.iconst 2, 1) := by decide +kernel
theorem dX8_refusesDays_23 : decode cX8_refusesDays 23 = .ok (.ireturn, 1) := by decide +kernel
theorem dX8_worksIn_0 : decode cX8_worksIn 0 = .ok (.aload_n 0, 1) := by decide +kernel
theorem dX8_worksIn_1 : decode cX8_worksIn 1 = .ok (.invokevirtual 354, 3) := by decide +kernel
theorem dX8_worksIn_4 : decode cX8_worksIn 4 = .ok (.aload_n 0, 1) := by decide +kernel
theorem dX8_worksIn_5 : decode cX8_worksIn 5 = .ok (.iload_n 1, 1) := by decide +kernel
theorem dX8_worksIn_6 : decode cX8_worksIn 6 = .ok (.invokevirtual 387, 3) := by decide +kernel
theorem dX8_worksIn_9 : decode cX8_worksIn 9 = .ok (.return_, 1) := by decide +kernel
theorem dX8_ink_0 : decode cX8_ink 0 = .ok (.aload_n 0, 1) := by decide +kernel
theorem dX8_ink_1 : decode cX8_ink 1 = .ok (.iconst 0, 1) := by decide +kernel
theorem dX8_ink_2 : decode cX8_ink 2 = .ok (.putfield 43, 3) := by decide +kernel
theorem dX8_ink_5 : decode cX8_ink 5 = .ok (.aload_n 0, 1) := by decide +kernel
theorem dX8_ink_6 : decode cX8_ink 6 = .ok (.aload_n 0, 1) := by decide +kernel
theorem dX8_ink_7 : decode cX8_ink 7 = .ok (.iload_n 1, 1) := by decide +kernel
theorem dX8_ink_8 : decode cX8_ink 8 = .ok (.invokevirtual 342, 3) := by decide +kernel
theorem dX8_ink_11 : decode cX8_ink 11 = .ok (.iload_n 2, 1) := by decide +kernel
theorem dX8_ink_12 : decode cX8_ink 12 = .ok (.invokevirtual 390, 3) := by decide +kernel
theorem dX8_ink_15 : decode cX8_ink 15 = .ok (.istore_n 3, 1) := by decide +kernel
theorem dX8_ink_16 : decode cX8_ink 16 = .ok (.iload_n 3, 1) := by decide +kernel
theorem dX8_ink_17 : decode cX8_ink 17 = .ok (.ifCond .le 9, 3) := by decide +kernel
theorem dX8_ink_20 : decode cX8_ink 20 = .ok (.aload_n 0, 1) := by decide +kernel
theorem dX8_ink_21 : decode cX8_ink 21 = .ok (.iload_n 3, 1) := by decide +kernel
theorem dX8_ink_22 : decode cX8_ink 22 = .ok (.invokevirtual 49, 3) := by decide +kernel
theorem dX8_ink_25 : decode cX8_ink 25 = .ok (.ireturn, 1) := by decide +kernel
theorem dX8_ink_26 : decode cX8_ink 26 = .ok (.aload_n 0, 1) := by decide +kernel
theorem dX8_ink_27 : decode cX8_ink 27 = .ok (.iload_n 2, 1) := by decide +kernel
theorem dX8_ink_28 : decode cX8_ink 28 = .ok (.invokevirtual 394, 3) := by decide +kernel
theorem dX8_ink_31 : decode cX8_ink 31 = .ok (.aload_n 0, 1) := by decide +kernel
theorem dX8_ink_32 : decode cX8_ink 32 = .ok (.aload_n 0, 1) := by decide +kernel
theorem dX8_ink_33 : decode cX8_ink 33 = .ok (.getfield 21, 3) := by decide +kernel
theorem dX8_ink_36 : decode cX8_ink 36 = .ok (.bipush 8, 2) := by decide +kernel
theorem dX8_ink_38 : decode cX8_ink 38 = .ok (.iload_n 1, 1) := by decide +kernel
theorem dX8_ink_39 : decode cX8_ink 39 = .ok (.iadd, 1) := by decide +kernel
theorem dX8_ink_40 : decode cX8_ink 40 = .ok (.iaload, 1) := by decide +kernel
theorem dX8_ink_41 : decode cX8_ink 41 = .ok (.invokevirtual 53, 3) := by decide +kernel
theorem dX8_ink_44 : decode cX8_ink 44 = .ok (.ireturn, 1) := by decide +kernel
theorem dX8_waysIn_0 : decode cX8_waysIn 0 = .ok (.aload_n 0, 1) := by decide +kernel
theorem dX8_waysIn_1 : decode cX8_waysIn 1 = .ok (.iconst 0, 1) := by decide +kernel
theorem dX8_waysIn_2 : decode cX8_waysIn 2 = .ok (.putfield 43, 3) := by decide +kernel
theorem dX8_waysIn_5 : decode cX8_waysIn 5 = .ok (.aload_n 0, 1) := by decide +kernel
theorem dX8_waysIn_6 : decode cX8_waysIn 6 = .ok (.aload_n 0, 1) := by decide +kernel
theorem dX8_waysIn_7 : decode cX8_waysIn 7 = .ok (.iload_n 1, 1) := by decide +kernel
theorem dX8_waysIn_8 : decode cX8_waysIn 8 = .ok (.invokevirtual 345, 3) := by decide +kernel
theorem dX8_waysIn_11 : decode cX8_waysIn 11 = .ok (.iload_n 2, 1) := by decide +kernel
theorem dX8_waysIn_12 : decode cX8_waysIn 12 = .ok (.invokevirtual 390, 3) := by decide +kernel
theorem dX8_waysIn_15 : decode cX8_waysIn 15 = .ok (.istore_n 3, 1) := by decide +kernel
theorem dX8_waysIn_16 : decode cX8_waysIn 16 = .ok (.iload_n 3, 1) := by decide +kernel
theorem dX8_waysIn_17 : decode cX8_waysIn 17 = .ok (.ifCond .le 9, 3) := by decide +kernel
theorem dX8_waysIn_20 : decode cX8_waysIn 20 = .ok (.aload_n 0, 1) := by decide +kernel
theorem dX8_waysIn_21 : decode cX8_waysIn 21 = .ok (.iload_n 3, 1) := by decide +kernel
theorem dX8_waysIn_22 : decode cX8_waysIn 22 = .ok (.invokevirtual 49, 3) := by decide +kernel
theorem dX8_waysIn_25 : decode cX8_waysIn 25 = .ok (.ireturn, 1) := by decide +kernel
theorem dX8_waysIn_26 : decode cX8_waysIn 26 = .ok (.aload_n 0, 1) := by decide +kernel
theorem dX8_waysIn_27 : decode cX8_waysIn 27 = .ok (.iload_n 2, 1) := by decide +kernel
theorem dX8_waysIn_28 : decode cX8_waysIn 28 = .ok (.invokevirtual 394, 3) := by decide +kernel
theorem dX8_waysIn_31 : decode cX8_waysIn 31 = .ok (.aload_n 0, 1) := by decide +kernel
theorem dX8_waysIn_32 : decode cX8_waysIn 32 = .ok (.aload_n 0, 1) := by decide +kernel
theorem dX8_waysIn_33 : decode cX8_waysIn 33 = .ok (.iload_n 1, 1) := by decide +kernel
theorem dX8_waysIn_34 : decode cX8_waysIn 34 = .ok (.invokevirtual 339, 3) := by decide +kernel
theorem dX8_waysIn_37 : decode cX8_waysIn 37 = .ok (.invokestatic 361, 3) := by decide +kernel
theorem dX8_waysIn_40 : decode cX8_waysIn 40 = .ok (.invokevirtual 53, 3) := by decide +kernel
theorem dX8_waysIn_43 : decode cX8_waysIn 43 = .ok (.ireturn, 1) := by decide +kernel
theorem dX8_freeIn_0 : decode cX8_freeIn 0 = .ok (.aload_n 0, 1) := by decide +kernel
theorem dX8_freeIn_1 : decode cX8_freeIn 1 = .ok (.iconst 0, 1) := by decide +kernel
theorem dX8_freeIn_2 : decode cX8_freeIn 2 = .ok (.putfield 43, 3) := by decide +kernel
theorem dX8_freeIn_5 : decode cX8_freeIn 5 = .ok (.aload_n 0, 1) := by decide +kernel
theorem dX8_freeIn_6 : decode cX8_freeIn 6 = .ok (.iload_n 1, 1) := by decide +kernel
theorem dX8_freeIn_7 : decode cX8_freeIn 7 = .ok (.invokevirtual 345, 3) := by decide +kernel
theorem dX8_freeIn_10 : decode cX8_freeIn 10 = .ok (.ifCond .ne 9, 3) := by decide +kernel
theorem dX8_freeIn_13 : decode cX8_freeIn 13 = .ok (.aload_n 0, 1) := by decide +kernel
theorem dX8_freeIn_14 : decode cX8_freeIn 14 = .ok (.iconst 1, 1) := by decide +kernel
theorem dX8_freeIn_15 : decode cX8_freeIn 15 = .ok (.invokevirtual 49, 3) := by decide +kernel
theorem dX8_freeIn_18 : decode cX8_freeIn 18 = .ok (.ireturn, 1) := by decide +kernel
theorem dX8_freeIn_19 : decode cX8_freeIn 19 = .ok (.iconst 0, 1) := by decide +kernel
theorem dX8_freeIn_20 : decode cX8_freeIn 20 = .ok (.istore_n 2, 1) := by decide +kernel
theorem dX8_freeIn_21 : decode cX8_freeIn 21 = .ok (.aload_n 0, 1) := by decide +kernel
theorem dX8_freeIn_22 : decode cX8_freeIn 22 = .ok (.invokevirtual 354, 3) := by decide +kernel
theorem dX8_freeIn_25 : decode cX8_freeIn 25 = .ok (.aload_n 0, 1) := by decide +kernel
theorem dX8_freeIn_26 : decode cX8_freeIn 26 = .ok (.iload_n 1, 1) := by decide +kernel
theorem dX8_freeIn_27 : decode cX8_freeIn 27 = .ok (.invokevirtual 371, 3) := by decide +kernel
theorem dX8_freeIn_30 : decode cX8_freeIn 30 = .ok (.ifCond .eq 14, 3) := by decide +kernel
theorem dX8_freeIn_33 : decode cX8_freeIn 33 = .ok (.aload_n 0, 1) := by decide +kernel
theorem dX8_freeIn_34 : decode cX8_freeIn 34 = .ok (.iconst 1, 1) := by decide +kernel
theorem dX8_freeIn_35 : decode cX8_freeIn 35 = .ok (.invokevirtual 387, 3) := by decide +kernel
theorem dX8_freeIn_38 : decode cX8_freeIn 38 = .ok (.iinc 2 1, 3) := by decide +kernel
theorem dX8_freeIn_41 : decode cX8_freeIn 41 = .ok (.goto (-16), 3) := by decide +kernel
theorem dX8_freeIn_44 : decode cX8_freeIn 44 = .ok (.aload_n 0, 1) := by decide +kernel
theorem dX8_freeIn_45 : decode cX8_freeIn 45 = .ok (.iload_n 2, 1) := by decide +kernel
theorem dX8_freeIn_46 : decode cX8_freeIn 46 = .ok (.invokevirtual 53, 3) := by decide +kernel
theorem dX8_freeIn_49 : decode cX8_freeIn 49 = .ok (.ireturn, 1) := by decide +kernel
theorem dX8_clearIn_0 : decode cX8_clearIn 0 = .ok (.aload_n 0, 1) := by decide +kernel
theorem dX8_clearIn_1 : decode cX8_clearIn 1 = .ok (.iconst 0, 1) := by decide +kernel
theorem dX8_clearIn_2 : decode cX8_clearIn 2 = .ok (.putfield 43, 3) := by decide +kernel
theorem dX8_clearIn_5 : decode cX8_clearIn 5 = .ok (.aload_n 0, 1) := by decide +kernel
theorem dX8_clearIn_6 : decode cX8_clearIn 6 = .ok (.iload_n 1, 1) := by decide +kernel
theorem dX8_clearIn_7 : decode cX8_clearIn 7 = .ok (.invokevirtual 345, 3) := by decide +kernel
theorem dX8_clearIn_10 : decode cX8_clearIn 10 = .ok (.ifCond .ne 9, 3) := by decide +kernel
theorem dX8_clearIn_13 : decode cX8_clearIn 13 = .ok (.aload_n 0, 1) := by decide +kernel
theorem dX8_clearIn_14 : decode cX8_clearIn 14 = .ok (.iconst 1, 1) := by decide +kernel
theorem dX8_clearIn_15 : decode cX8_clearIn 15 = .ok (.invokevirtual 49, 3) := by decide +kernel
theorem dX8_clearIn_18 : decode cX8_clearIn 18 = .ok (.ireturn, 1) := by decide +kernel
theorem dX8_clearIn_19 : decode cX8_clearIn 19 = .ok (.iconst 0, 1) := by decide +kernel
theorem dX8_clearIn_20 : decode cX8_clearIn 20 = .ok (.istore_n 2, 1) := by decide +kernel
theorem dX8_clearIn_21 : decode cX8_clearIn 21 = .ok (.aload_n 0, 1) := by decide +kernel
theorem dX8_clearIn_22 : decode cX8_clearIn 22 = .ok (.invokevirtual 354, 3) := by decide +kernel
theorem dX8_clearIn_25 : decode cX8_clearIn 25 = .ok (.aload_n 0, 1) := by decide +kernel
theorem dX8_clearIn_26 : decode cX8_clearIn 26 = .ok (.iload_n 1, 1) := by decide +kernel
theorem dX8_clearIn_27 : decode cX8_clearIn 27 = .ok (.invokevirtual 332, 3) := by decide +kernel
theorem dX8_clearIn_30 : decode cX8_clearIn 30 = .ok (.ifCond .eq 14, 3) := by decide +kernel
theorem dX8_clearIn_33 : decode cX8_clearIn 33 = .ok (.aload_n 0, 1) := by decide +kernel
theorem dX8_clearIn_34 : decode cX8_clearIn 34 = .ok (.iconst 1, 1) := by decide +kernel
theorem dX8_clearIn_35 : decode cX8_clearIn 35 = .ok (.invokevirtual 387, 3) := by decide +kernel
theorem dX8_clearIn_38 : decode cX8_clearIn 38 = .ok (.iinc 2 1, 3) := by decide +kernel
theorem dX8_clearIn_41 : decode cX8_clearIn 41 = .ok (.goto (-16), 3) := by decide +kernel
theorem dX8_clearIn_44 : decode cX8_clearIn 44 = .ok (.aload_n 0, 1) := by decide +kernel
theorem dX8_clearIn_45 : decode cX8_clearIn 45 = .ok (.iload_n 2, 1) := by decide +kernel
theorem dX8_clearIn_46 : decode cX8_clearIn 46 = .ok (.invokevirtual 53, 3) := by decide +kernel
theorem dX8_clearIn_49 : decode cX8_clearIn 49 = .ok (.ireturn, 1) := by decide +kernel
theorem dX8_mayIn_0 : decode cX8_mayIn 0 = .ok (.aload_n 0, 1) := by decide +kernel
theorem dX8_mayIn_1 : decode cX8_mayIn 1 = .ok (.iconst 0, 1) := by decide +kernel
theorem dX8_mayIn_2 : decode cX8_mayIn 2 = .ok (.putfield 43, 3) := by decide +kernel
theorem dX8_mayIn_5 : decode cX8_mayIn 5 = .ok (.aload_n 0, 1) := by decide +kernel
theorem dX8_mayIn_6 : decode cX8_mayIn 6 = .ok (.iload_n 1, 1) := by decide +kernel
theorem dX8_mayIn_7 : decode cX8_mayIn 7 = .ok (.invokevirtual 345, 3) := by decide +kernel
theorem dX8_mayIn_10 : decode cX8_mayIn 10 = .ok (.ifCond .ne 9, 3) := by decide +kernel
theorem dX8_mayIn_13 : decode cX8_mayIn 13 = .ok (.aload_n 0, 1) := by decide +kernel
theorem dX8_mayIn_14 : decode cX8_mayIn 14 = .ok (.iconst 1, 1) := by decide +kernel
theorem dX8_mayIn_15 : decode cX8_mayIn 15 = .ok (.invokevirtual 49, 3) := by decide +kernel
theorem dX8_mayIn_18 : decode cX8_mayIn 18 = .ok (.ireturn, 1) := by decide +kernel
theorem dX8_mayIn_19 : decode cX8_mayIn 19 = .ok (.aload_n 0, 1) := by decide +kernel
theorem dX8_mayIn_20 : decode cX8_mayIn 20 = .ok (.iload_n 2, 1) := by decide +kernel
theorem dX8_mayIn_21 : decode cX8_mayIn 21 = .ok (.invokevirtual 351, 3) := by decide +kernel
theorem dX8_mayIn_24 : decode cX8_mayIn 24 = .ok (.ifCond .ne 9, 3) := by decide +kernel
theorem dX8_mayIn_27 : decode cX8_mayIn 27 = .ok (.aload_n 0, 1) := by decide +kernel
theorem dX8_mayIn_28 : decode cX8_mayIn 28 = .ok (.iconst 2, 1) := by decide +kernel
theorem dX8_mayIn_29 : decode cX8_mayIn 29 = .ok (.invokevirtual 49, 3) := by decide +kernel
theorem dX8_mayIn_32 : decode cX8_mayIn 32 = .ok (.ireturn, 1) := by decide +kernel
theorem dX8_mayIn_33 : decode cX8_mayIn 33 = .ok (.aload_n 0, 1) := by decide +kernel
theorem dX8_mayIn_34 : decode cX8_mayIn 34 = .ok (.invokevirtual 354, 3) := by decide +kernel
theorem dX8_mayIn_37 : decode cX8_mayIn 37 = .ok (.iconst 0, 1) := by decide +kernel
theorem dX8_mayIn_38 : decode cX8_mayIn 38 = .ok (.istore_n 3, 1) := by decide +kernel
theorem dX8_mayIn_39 : decode cX8_mayIn 39 = .ok (.iload_n 3, 1) := by decide +kernel
theorem dX8_mayIn_40 : decode cX8_mayIn 40 = .ok (.bipush 60, 2) := by decide +kernel
theorem dX8_mayIn_42 : decode cX8_mayIn 42 = .ok (.if_icmp .gt 32, 3) := by decide +kernel
theorem dX8_mayIn_45 : decode cX8_mayIn 45 = .ok (.aload_n 0, 1) := by decide +kernel
theorem dX8_mayIn_46 : decode cX8_mayIn 46 = .ok (.iload_n 1, 1) := by decide +kernel
theorem dX8_mayIn_47 : decode cX8_mayIn 47 = .ok (.invokevirtual 339, 3) := by decide +kernel
theorem dX8_mayIn_50 : decode cX8_mayIn 50 = .ok (.iload_n 2, 1) := by decide +kernel
theorem dX8_mayIn_51 : decode cX8_mayIn 51 = .ok (.invokestatic 357, 3) := by decide +kernel
theorem dX8_mayIn_54 : decode cX8_mayIn 54 = .ok (.ifCond .eq 9, 3) := by decide +kernel
theorem dX8_mayIn_57 : decode cX8_mayIn 57 = .ok (.aload_n 0, 1) := by decide +kernel
theorem dX8_mayIn_58 : decode cX8_mayIn 58 = .ok (.iload_n 3, 1) := by decide +kernel
theorem dX8_mayIn_59 : decode cX8_mayIn 59 = .ok (.invokevirtual 53, 3) := by decide +kernel
theorem dX8_mayIn_62 : decode cX8_mayIn 62 = .ok (.ireturn, 1) := by decide +kernel
theorem dX8_mayIn_63 : decode cX8_mayIn 63 = .ok (.aload_n 0, 1) := by decide +kernel
theorem dX8_mayIn_64 : decode cX8_mayIn 64 = .ok (.iconst 1, 1) := by decide +kernel
theorem dX8_mayIn_65 : decode cX8_mayIn 65 = .ok (.invokevirtual 387, 3) := by decide +kernel
theorem dX8_mayIn_68 : decode cX8_mayIn 68 = .ok (.iinc 3 1, 3) := by decide +kernel
theorem dX8_mayIn_71 : decode cX8_mayIn 71 = .ok (.goto (-32), 3) := by decide +kernel
theorem dX8_mayIn_74 : decode cX8_mayIn 74 = .ok (.aload_n 0, 1) := by decide +kernel
theorem dX8_mayIn_75 : decode cX8_mayIn 75 = .ok (.bipush (-2), 2) := by decide +kernel
theorem dX8_mayIn_77 : decode cX8_mayIn 77 = .ok (.invokevirtual 53, 3) := by decide +kernel
theorem dX8_mayIn_80 : decode cX8_mayIn 80 = .ok (.ireturn, 1) := by decide +kernel
theorem dX8_isRight_0 : decode cX8_isRight 0 = .ok (.aload_n 0, 1) := by decide +kernel
theorem dX8_isRight_1 : decode cX8_isRight 1 = .ok (.invokevirtual 308, 3) := by decide +kernel
theorem dX8_isRight_4 : decode cX8_isRight 4 = .ok (.iconst 0, 1) := by decide +kernel
theorem dX8_isRight_5 : decode cX8_isRight 5 = .ok (.istore_n 3, 1) := by decide +kernel
theorem dX8_isRight_6 : decode cX8_isRight 6 = .ok (.iload_n 3, 1) := by decide +kernel
theorem dX8_isRight_7 : decode cX8_isRight 7 = .ok (.aload_n 0, 1) := by decide +kernel
theorem dX8_isRight_8 : decode cX8_isRight 8 = .ok (.getfield 306, 3) := by decide +kernel
theorem dX8_isRight_11 : decode cX8_isRight 11 = .ok (.getfield 266, 3) := by decide +kernel
theorem dX8_isRight_14 : decode cX8_isRight 14 = .ok (.if_icmp .ge 31, 3) := by decide +kernel
theorem dX8_isRight_17 : decode cX8_isRight 17 = .ok (.aload_n 0, 1) := by decide +kernel
theorem dX8_isRight_18 : decode cX8_isRight 18 = .ok (.getfield 21, 3) := by decide +kernel
theorem dX8_isRight_21 : decode cX8_isRight 21 = .ok (.bipush 16, 2) := by decide +kernel
theorem dX8_isRight_23 : decode cX8_isRight 23 = .ok (.aload_n 0, 1) := by decide +kernel
theorem dX8_isRight_24 : decode cX8_isRight 24 = .ok (.getfield 306, 3) := by decide +kernel
theorem dX8_isRight_27 : decode cX8_isRight 27 = .ok (.getfield 272, 3) := by decide +kernel
theorem dX8_isRight_30 : decode cX8_isRight 30 = .ok (.iload_n 3, 1) := by decide +kernel
theorem dX8_isRight_31 : decode cX8_isRight 31 = .ok (.iaload, 1) := by decide +kernel
theorem dX8_isRight_32 : decode cX8_isRight 32 = .ok (.iadd, 1) := by decide +kernel
theorem dX8_isRight_33 : decode cX8_isRight 33 = .ok (.iload_n 2, 1) := by decide +kernel
theorem dX8_isRight_34 : decode cX8_isRight 34 = .ok (.iload_n 3, 1) := by decide +kernel
theorem dX8_isRight_35 : decode cX8_isRight 35 = .ok (.ishr, 1) := by decide +kernel
theorem dX8_isRight_36 : decode cX8_isRight 36 = .ok (.iconst 1, 1) := by decide +kernel
theorem dX8_isRight_37 : decode cX8_isRight 37 = .ok (.iand, 1) := by decide +kernel
theorem dX8_isRight_38 : decode cX8_isRight 38 = .ok (.iastore, 1) := by decide +kernel
theorem dX8_isRight_39 : decode cX8_isRight 39 = .ok (.iinc 3 1, 3) := by decide +kernel
theorem dX8_isRight_42 : decode cX8_isRight 42 = .ok (.goto (-36), 3) := by decide +kernel
theorem dX8_isRight_45 : decode cX8_isRight 45 = .ok (.aload_n 0, 1) := by decide +kernel
theorem dX8_isRight_46 : decode cX8_isRight 46 = .ok (.aload_n 0, 1) := by decide +kernel
theorem dX8_isRight_47 : decode cX8_isRight 47 = .ok (.getfield 306, 3) := by decide +kernel
theorem dX8_isRight_50 : decode cX8_isRight 50 = .ok (.getfield 292, 3) := by decide +kernel
theorem dX8_isRight_53 : decode cX8_isRight 53 = .ok (.iload_n 1, 1) := by decide +kernel
theorem dX8_isRight_54 : decode cX8_isRight 54 = .ok (.iaload, 1) := by decide +kernel
theorem dX8_isRight_55 : decode cX8_isRight 55 = .ok (.invokevirtual 387, 3) := by decide +kernel
theorem dX8_isRight_58 : decode cX8_isRight 58 = .ok (.iconst 1, 1) := by decide +kernel
theorem dX8_isRight_59 : decode cX8_isRight 59 = .ok (.istore_n 3, 1) := by decide +kernel
theorem dX8_isRight_60 : decode cX8_isRight 60 = .ok (.iconst 0, 1) := by decide +kernel
theorem dX8_isRight_61 : decode cX8_isRight 61 = .ok (.istore 4, 2) := by decide +kernel
theorem dX8_isRight_63 : decode cX8_isRight 63 = .ok (.iload 4, 2) := by decide +kernel
theorem dX8_isRight_65 : decode cX8_isRight 65 = .ok (.aload_n 0, 1) := by decide +kernel
theorem dX8_isRight_66 : decode cX8_isRight 66 = .ok (.getfield 306, 3) := by decide +kernel
theorem dX8_isRight_69 : decode cX8_isRight 69 = .ok (.getfield 240, 3) := by decide +kernel
theorem dX8_isRight_72 : decode cX8_isRight 72 = .ok (.if_icmp .ge 50, 3) := by decide +kernel
theorem dX8_isRight_75 : decode cX8_isRight 75 = .ok (.aload_n 0, 1) := by decide +kernel
theorem dX8_isRight_76 : decode cX8_isRight 76 = .ok (.aload_n 0, 1) := by decide +kernel
theorem dX8_isRight_77 : decode cX8_isRight 77 = .ok (.getfield 306, 3) := by decide +kernel
theorem dX8_isRight_80 : decode cX8_isRight 80 = .ok (.getfield 289, 3) := by decide +kernel
theorem dX8_isRight_83 : decode cX8_isRight 83 = .ok (.iload_n 1, 1) := by decide +kernel
theorem dX8_isRight_84 : decode cX8_isRight 84 = .ok (.iaload, 1) := by decide +kernel
theorem dX8_isRight_85 : decode cX8_isRight 85 = .ok (.invokevirtual 332, 3) := by decide +kernel
theorem dX8_isRight_88 : decode cX8_isRight 88 = .ok (.iload 4, 2) := by decide +kernel
theorem dX8_isRight_90 : decode cX8_isRight 90 = .ok (.invokestatic 274, 3) := by decide +kernel
theorem dX8_isRight_93 : decode cX8_isRight 93 = .ok (.ifCond .eq 23, 3) := by decide +kernel
theorem dX8_isRight_96 : decode cX8_isRight 96 = .ok (.aload_n 0, 1) := by decide +kernel
theorem dX8_isRight_97 : decode cX8_isRight 97 = .ok (.iload 4, 2) := by decide +kernel
theorem dX8_isRight_99 : decode cX8_isRight 99 = .ok (.aload_n 0, 1) := by decide +kernel
theorem dX8_isRight_100 : decode cX8_isRight 100 = .ok (.getfield 306, 3) := by decide +kernel
theorem dX8_isRight_103 : decode cX8_isRight 103 = .ok (.getfield 295, 3) := by decide +kernel
theorem dX8_isRight_106 : decode cX8_isRight 106 = .ok (.iload_n 1, 1) := by decide +kernel
theorem dX8_isRight_107 : decode cX8_isRight 107 = .ok (.iaload, 1) := by decide +kernel
theorem dX8_isRight_108 : decode cX8_isRight 108 = .ok (.invokevirtual 323, 3) := by decide +kernel
theorem dX8_isRight_111 : decode cX8_isRight 111 = .ok (.ifCond .ne 5, 3) := by decide +kernel
theorem dX8_isRight_114 : decode cX8_isRight 114 = .ok (.iconst 0, 1) := by decide +kernel
theorem dX8_isRight_115 : decode cX8_isRight 115 = .ok (.istore_n 3, 1) := by decide +kernel
theorem dX8_isRight_116 : decode cX8_isRight 116 = .ok (.iinc 4 1, 3) := by decide +kernel
theorem dX8_isRight_119 : decode cX8_isRight 119 = .ok (.goto (-56), 3) := by decide +kernel
theorem dX8_isRight_122 : decode cX8_isRight 122 = .ok (.iload_n 3, 1) := by decide +kernel
theorem dX8_isRight_123 : decode cX8_isRight 123 = .ok (.aload_n 0, 1) := by decide +kernel
theorem dX8_isRight_124 : decode cX8_isRight 124 = .ok (.getfield 306, 3) := by decide +kernel
theorem dX8_isRight_127 : decode cX8_isRight 127 = .ok (.getfield 297, 3) := by decide +kernel
theorem dX8_isRight_130 : decode cX8_isRight 130 = .ok (.iload_n 1, 1) := by decide +kernel
theorem dX8_isRight_131 : decode cX8_isRight 131 = .ok (.invokestatic 274, 3) := by decide +kernel
theorem dX8_isRight_134 : decode cX8_isRight 134 = .ok (.if_icmp .ne 7, 3) := by decide +kernel
theorem dX8_isRight_137 : decode cX8_isRight 137 = .ok (.iconst 1, 1) := by decide +kernel
theorem dX8_isRight_138 : decode cX8_isRight 138 = .ok (.goto 4, 3) := by decide +kernel
theorem dX8_isRight_141 : decode cX8_isRight 141 = .ok (.iconst 0, 1) := by decide +kernel
theorem dX8_isRight_142 : decode cX8_isRight 142 = .ok (.ireturn, 1) := by decide +kernel
theorem dX8_weightOf_0 : decode cX8_weightOf 0 = .ok (.lconst 1, 1) := by decide +kernel
theorem dX8_weightOf_1 : decode cX8_weightOf 1 = .ok (.lstore_n 2, 1) := by decide +kernel
theorem dX8_weightOf_2 : decode cX8_weightOf 2 = .ok (.iconst 0, 1) := by decide +kernel
theorem dX8_weightOf_3 : decode cX8_weightOf 3 = .ok (.istore 4, 2) := by decide +kernel
theorem dX8_weightOf_5 : decode cX8_weightOf 5 = .ok (.iload 4, 2) := by decide +kernel
theorem dX8_weightOf_7 : decode cX8_weightOf 7 = .ok (.aload_n 0, 1) := by decide +kernel
theorem dX8_weightOf_8 : decode cX8_weightOf 8 = .ok (.getfield 306, 3) := by decide +kernel
theorem dX8_weightOf_11 : decode cX8_weightOf 11 = .ok (.getfield 278, 3) := by decide +kernel
theorem dX8_weightOf_14 : decode cX8_weightOf 14 = .ok (.if_icmp .ge 44, 3) := by decide +kernel
theorem dX8_weightOf_17 : decode cX8_weightOf 17 = .ok (.lload_n 2, 1) := by decide +kernel
theorem dX8_weightOf_18 : decode cX8_weightOf 18 = .ok (.aload_n 0, 1) := by decide +kernel
theorem dX8_weightOf_19 : decode cX8_weightOf 19 = .ok (.iload 4, 2) := by decide +kernel
theorem dX8_weightOf_21 : decode cX8_weightOf 21 = .ok (.iload_n 1, 1) := by decide +kernel
theorem dX8_weightOf_22 : decode cX8_weightOf 22 = .ok (.invokevirtual 397, 3) := by decide +kernel
theorem dX8_weightOf_25 : decode cX8_weightOf 25 = .ok (.ifCond .eq 17, 3) := by decide +kernel
theorem dX8_weightOf_28 : decode cX8_weightOf 28 = .ok (.bipush 100, 2) := by decide +kernel
theorem dX8_weightOf_30 : decode cX8_weightOf 30 = .ok (.aload_n 0, 1) := by decide +kernel
theorem dX8_weightOf_31 : decode cX8_weightOf 31 = .ok (.getfield 306, 3) := by decide +kernel
theorem dX8_weightOf_34 : decode cX8_weightOf 34 = .ok (.getfield 213, 3) := by decide +kernel
theorem dX8_weightOf_37 : decode cX8_weightOf 37 = .ok (.isub, 1) := by decide +kernel
theorem dX8_weightOf_38 : decode cX8_weightOf 38 = .ok (.i2l, 1) := by decide +kernel
theorem dX8_weightOf_39 : decode cX8_weightOf 39 = .ok (.goto 11, 3) := by decide +kernel
theorem dX8_weightOf_42 : decode cX8_weightOf 42 = .ok (.aload_n 0, 1) := by decide +kernel
theorem dX8_weightOf_43 : decode cX8_weightOf 43 = .ok (.getfield 306, 3) := by decide +kernel
theorem dX8_weightOf_46 : decode cX8_weightOf 46 = .ok (.getfield 213, 3) := by decide +kernel
theorem dX8_weightOf_49 : decode cX8_weightOf 49 = .ok (.i2l, 1) := by decide +kernel
theorem dX8_weightOf_50 : decode cX8_weightOf 50 = .ok (.lmul, 1) := by decide +kernel
theorem dX8_weightOf_51 : decode cX8_weightOf 51 = .ok (.lstore_n 2, 1) := by decide +kernel
theorem dX8_weightOf_52 : decode cX8_weightOf 52 = .ok (.iinc 4 1, 3) := by decide +kernel
theorem dX8_weightOf_55 : decode cX8_weightOf 55 = .ok (.goto (-50), 3) := by decide +kernel
theorem dX8_weightOf_58 : decode cX8_weightOf 58 = .ok (.lload_n 2, 1) := by decide +kernel
theorem dX8_weightOf_59 : decode cX8_weightOf 59 = .ok (.lreturn, 1) := by decide +kernel
theorem dX8_sets_0 : decode cX8_sets 0 = .ok (.iconst 1, 1) := by decide +kernel
theorem dX8_sets_1 : decode cX8_sets 1 = .ok (.aload_n 0, 1) := by decide +kernel
theorem dX8_sets_2 : decode cX8_sets 2 = .ok (.getfield 306, 3) := by decide +kernel
theorem dX8_sets_5 : decode cX8_sets 5 = .ok (.getfield 266, 3) := by decide +kernel
theorem dX8_sets_8 : decode cX8_sets 8 = .ok (.ishl, 1) := by decide +kernel
theorem dX8_sets_9 : decode cX8_sets 9 = .ok (.ireturn, 1) := by decide +kernel
theorem dX8_fitting_0 : decode cX8_fitting 0 = .ok (.aload_n 0, 1) := by decide +kernel
theorem dX8_fitting_1 : decode cX8_fitting 1 = .ok (.iconst 0, 1) := by decide +kernel
theorem dX8_fitting_2 : decode cX8_fitting 2 = .ok (.putfield 400, 3) := by decide +kernel
theorem dX8_fitting_5 : decode cX8_fitting 5 = .ok (.iconst (-1), 1) := by decide +kernel
theorem dX8_fitting_6 : decode cX8_fitting 6 = .ok (.istore_n 2, 1) := by decide +kernel
theorem dX8_fitting_7 : decode cX8_fitting 7 = .ok (.iconst 0, 1) := by decide +kernel
theorem dX8_fitting_8 : decode cX8_fitting 8 = .ok (.istore_n 3, 1) := by decide +kernel
theorem dX8_fitting_9 : decode cX8_fitting 9 = .ok (.iload_n 3, 1) := by decide +kernel
theorem dX8_fitting_10 : decode cX8_fitting 10 = .ok (.iconst 5, 1) := by decide +kernel
theorem dX8_fitting_11 : decode cX8_fitting 11 = .ok (.if_icmp .ge 16, 3) := by decide +kernel
theorem dX8_fitting_14 : decode cX8_fitting 14 = .ok (.aload_n 0, 1) := by decide +kernel
theorem dX8_fitting_15 : decode cX8_fitting 15 = .ok (.getfield 40, 3) := by decide +kernel
theorem dX8_fitting_18 : decode cX8_fitting 18 = .ok (.iload_n 3, 1) := by decide +kernel
theorem dX8_fitting_19 : decode cX8_fitting 19 = .ok (.iconst 0, 1) := by decide +kernel
theorem dX8_fitting_20 : decode cX8_fitting 20 = .ok (.iastore, 1) := by decide +kernel
theorem dX8_fitting_21 : decode cX8_fitting 21 = .ok (.iinc 3 1, 3) := by decide +kernel
theorem dX8_fitting_24 : decode cX8_fitting 24 = .ok (.goto (-15), 3) := by decide +kernel
theorem dX8_fitting_27 : decode cX8_fitting 27 = .ok (.iconst 0, 1) := by decide +kernel
theorem dX8_fitting_28 : decode cX8_fitting 28 = .ok (.istore_n 3, 1) := by decide +kernel
theorem dX8_fitting_29 : decode cX8_fitting 29 = .ok (.iload_n 3, 1) := by decide +kernel
theorem dX8_fitting_30 : decode cX8_fitting 30 = .ok (.aload_n 0, 1) := by decide +kernel
theorem dX8_fitting_31 : decode cX8_fitting 31 = .ok (.invokevirtual 403, 3) := by decide +kernel
theorem dX8_fitting_34 : decode cX8_fitting 34 = .ok (.if_icmp .ge 87, 3) := by decide +kernel
theorem dX8_fitting_37 : decode cX8_fitting 37 = .ok (.aload_n 0, 1) := by decide +kernel
theorem dX8_fitting_38 : decode cX8_fitting 38 = .ok (.iload_n 3, 1) := by decide +kernel
theorem dX8_fitting_39 : decode cX8_fitting 39 = .ok (.invokevirtual 406, 3) := by decide +kernel
theorem dX8_fitting_42 : decode cX8_fitting 42 = .ok (.lconst 0, 1) := by decide +kernel
theorem dX8_fitting_43 : decode cX8_fitting 43 = .ok (.lcmp, 1) := by decide +kernel
theorem dX8_fitting_44 : decode cX8_fitting 44 = .ok (.ifCond .ne 6, 3) := by decide +kernel
theorem dX8_fitting_47 : decode cX8_fitting 47 = .ok (.goto 68, 3) := by decide +kernel
theorem dX8_fitting_50 : decode cX8_fitting 50 = .ok (.aload_n 0, 1) := by decide +kernel
theorem dX8_fitting_51 : decode cX8_fitting 51 = .ok (.getfield 400, 3) := by decide +kernel
theorem dX8_fitting_54 : decode cX8_fitting 54 = .ok (.iload_n 1, 1) := by decide +kernel
theorem dX8_fitting_55 : decode cX8_fitting 55 = .ok (.if_icmp .ne 5, 3) := by decide +kernel
theorem dX8_fitting_58 : decode cX8_fitting 58 = .ok (.iload_n 3, 1) := by decide +kernel
theorem dX8_fitting_59 : decode cX8_fitting 59 = .ok (.istore_n 2, 1) := by decide +kernel
theorem dX8_fitting_60 : decode cX8_fitting 60 = .ok (.aload_n 0, 1) := by decide +kernel
theorem dX8_fitting_61 : decode cX8_fitting 61 = .ok (.dup, 1) := by decide +kernel
theorem dX8_fitting_62 : decode cX8_fitting 62 = .ok (.getfield 400, 3) := by decide +kernel
theorem dX8_fitting_65 : decode cX8_fitting 65 = .ok (.iconst 1, 1) := by decide +kernel
theorem dX8_fitting_66 : decode cX8_fitting 66 = .ok (.iadd, 1) := by decide +kernel
theorem dX8_fitting_67 : decode cX8_fitting 67 = .ok (.putfield 400, 3) := by decide +kernel
theorem dX8_fitting_70 : decode cX8_fitting 70 = .ok (.iconst 0, 1) := by decide +kernel
theorem dX8_fitting_71 : decode cX8_fitting 71 = .ok (.istore 4, 2) := by decide +kernel
theorem dX8_fitting_73 : decode cX8_fitting 73 = .ok (.iload 4, 2) := by decide +kernel
theorem dX8_fitting_75 : decode cX8_fitting 75 = .ok (.aload_n 0, 1) := by decide +kernel
theorem dX8_fitting_76 : decode cX8_fitting 76 = .ok (.getfield 306, 3) := by decide +kernel
theorem dX8_fitting_79 : decode cX8_fitting 79 = .ok (.getfield 266, 3) := by decide +kernel
theorem dX8_fitting_82 : decode cX8_fitting 82 = .ok (.if_icmp .ge 33, 3) := by decide +kernel
theorem dX8_fitting_85 : decode cX8_fitting 85 = .ok (.aload_n 0, 1) := by decide +kernel
theorem dX8_fitting_86 : decode cX8_fitting 86 = .ok (.getfield 40, 3) := by decide +kernel
theorem dX8_fitting_89 : decode cX8_fitting 89 = .ok (.iload 4, 2) := by decide +kernel
theorem dX8_fitting_91 : decode cX8_fitting 91 = .ok (.dup2, 1) := by decide +kernel
theorem dX8_fitting_92 : decode cX8_fitting 92 = .ok (.iaload, 1) := by decide +kernel
theorem dX8_fitting_93 : decode cX8_fitting 93 = .ok (.iload_n 3, 1) := by decide +kernel
theorem dX8_fitting_94 : decode cX8_fitting 94 = .ok (.iload 4, 2) := by decide +kernel
theorem dX8_fitting_96 : decode cX8_fitting 96 = .ok (.invokestatic 274, 3) := by decide +kernel
theorem dX8_fitting_99 : decode cX8_fitting 99 = .ok (.ifCond .eq 7, 3) := by decide +kernel
theorem dX8_fitting_102 : decode cX8_fitting 102 = .ok (.iconst 1, 1) := by decide +kernel
theorem dX8_fitting_103 : decode cX8_fitting 103 = .ok (.goto 4, 3) := by decide +kernel
theorem dX8_fitting_106 : decode cX8_fitting 106 = .ok (.iconst 0, 1) := by decide +kernel
theorem dX8_fitting_107 : decode cX8_fitting 107 = .ok (.iadd, 1) := by decide +kernel
theorem dX8_fitting_108 : decode cX8_fitting 108 = .ok (.iastore, 1) := by decide +kernel
theorem dX8_fitting_109 : decode cX8_fitting 109 = .ok (.iinc 4 1, 3) := by decide +kernel
theorem dX8_fitting_112 : decode cX8_fitting 112 = .ok (.goto (-39), 3) := by decide +kernel
theorem dX8_fitting_115 : decode cX8_fitting 115 = .ok (.iinc 3 1, 3) := by decide +kernel
theorem dX8_fitting_118 : decode cX8_fitting 118 = .ok (.goto (-89), 3) := by decide +kernel
theorem dX8_fitting_121 : decode cX8_fitting 121 = .ok (.iload_n 2, 1) := by decide +kernel
theorem dX8_fitting_122 : decode cX8_fitting 122 = .ok (.ireturn, 1) := by decide +kernel
theorem dX8_fits_0 : decode cX8_fits 0 = .ok (.aload_n 0, 1) := by decide +kernel
theorem dX8_fits_1 : decode cX8_fits 1 = .ok (.iconst 0, 1) := by decide +kernel
theorem dX8_fits_2 : decode cX8_fits 2 = .ok (.putfield 43, 3) := by decide +kernel
theorem dX8_fits_5 : decode cX8_fits 5 = .ok (.aload_n 0, 1) := by decide +kernel
theorem dX8_fits_6 : decode cX8_fits 6 = .ok (.getfield 306, 3) := by decide +kernel
theorem dX8_fits_9 : decode cX8_fits 9 = .ok (.ifnonnull 9, 3) := by decide +kernel
theorem dX8_fits_12 : decode cX8_fits 12 = .ok (.aload_n 0, 1) := by decide +kernel
theorem dX8_fits_13 : decode cX8_fits 13 = .ok (.iconst 1, 1) := by decide +kernel
theorem dX8_fits_14 : decode cX8_fits 14 = .ok (.invokevirtual 49, 3) := by decide +kernel
theorem dX8_fits_17 : decode cX8_fits 17 = .ok (.ireturn, 1) := by decide +kernel
theorem dX8_fits_18 : decode cX8_fits 18 = .ok (.aload_n 0, 1) := by decide +kernel
theorem dX8_fits_19 : decode cX8_fits 19 = .ok (.iconst (-1), 1) := by decide +kernel
theorem dX8_fits_20 : decode cX8_fits 20 = .ok (.invokevirtual 409, 3) := by decide +kernel
theorem dX8_fits_23 : decode cX8_fits 23 = .ok (.pop, 1) := by decide +kernel
theorem dX8_fits_24 : decode cX8_fits 24 = .ok (.aload_n 0, 1) := by decide +kernel
theorem dX8_fits_25 : decode cX8_fits 25 = .ok (.aload_n 0, 1) := by decide +kernel
theorem dX8_fits_26 : decode cX8_fits 26 = .ok (.getfield 400, 3) := by decide +kernel
theorem dX8_fits_29 : decode cX8_fits 29 = .ok (.invokevirtual 53, 3) := by decide +kernel
theorem dX8_fits_32 : decode cX8_fits 32 = .ok (.ireturn, 1) := by decide +kernel
theorem dX8_fitAt_0 : decode cX8_fitAt 0 = .ok (.aload_n 0, 1) := by decide +kernel
theorem dX8_fitAt_1 : decode cX8_fitAt 1 = .ok (.iconst 0, 1) := by decide +kernel
theorem dX8_fitAt_2 : decode cX8_fitAt 2 = .ok (.putfield 43, 3) := by decide +kernel
theorem dX8_fitAt_5 : decode cX8_fitAt 5 = .ok (.aload_n 0, 1) := by decide +kernel
theorem dX8_fitAt_6 : decode cX8_fitAt 6 = .ok (.getfield 306, 3) := by decide +kernel
theorem dX8_fitAt_9 : decode cX8_fitAt 9 = .ok (.ifnull 7, 3) := by decide +kernel
theorem dX8_fitAt_12 : decode cX8_fitAt 12 = .ok (.iload_n 1, 1) := by decide +kernel
theorem dX8_fitAt_13 : decode cX8_fitAt 13 = .ok (.ifCond .ge 9, 3) := by decide +kernel
theorem dX8_fitAt_16 : decode cX8_fitAt 16 = .ok (.aload_n 0, 1) := by decide +kernel
theorem dX8_fitAt_17 : decode cX8_fitAt 17 = .ok (.iconst 1, 1) := by decide +kernel
theorem dX8_fitAt_18 : decode cX8_fitAt 18 = .ok (.invokevirtual 49, 3) := by decide +kernel
theorem dX8_fitAt_21 : decode cX8_fitAt 21 = .ok (.ireturn, 1) := by decide +kernel
theorem dX8_fitAt_22 : decode cX8_fitAt 22 = .ok (.aload_n 0, 1) := by decide +kernel
theorem dX8_fitAt_23 : decode cX8_fitAt 23 = .ok (.iload_n 1, 1) := by decide +kernel
theorem dX8_fitAt_24 : decode cX8_fitAt 24 = .ok (.invokevirtual 409, 3) := by decide +kernel
theorem dX8_fitAt_27 : decode cX8_fitAt 27 = .ok (.istore_n 2, 1) := by decide +kernel
theorem dX8_fitAt_28 : decode cX8_fitAt 28 = .ok (.iload_n 2, 1) := by decide +kernel
theorem dX8_fitAt_29 : decode cX8_fitAt 29 = .ok (.iconst (-1), 1) := by decide +kernel
theorem dX8_fitAt_30 : decode cX8_fitAt 30 = .ok (.if_icmp .ne 11, 3) := by decide +kernel
theorem dX8_fitAt_33 : decode cX8_fitAt 33 = .ok (.aload_n 0, 1) := by decide +kernel
theorem dX8_fitAt_34 : decode cX8_fitAt 34 = .ok (.iconst 1, 1) := by decide +kernel
theorem dX8_fitAt_35 : decode cX8_fitAt 35 = .ok (.invokevirtual 49, 3) := by decide +kernel
theorem dX8_fitAt_38 : decode cX8_fitAt 38 = .ok (.goto 8, 3) := by decide +kernel
theorem dX8_fitAt_41 : decode cX8_fitAt 41 = .ok (.aload_n 0, 1) := by decide +kernel
theorem dX8_fitAt_42 : decode cX8_fitAt 42 = .ok (.iload_n 2, 1) := by decide +kernel
theorem dX8_fitAt_43 : decode cX8_fitAt 43 = .ok (.invokevirtual 53, 3) := by decide +kernel
theorem dX8_fitAt_46 : decode cX8_fitAt 46 = .ok (.ireturn, 1) := by decide +kernel
theorem dX8_odds_0 : decode cX8_odds 0 = .ok (.aload_n 0, 1) := by decide +kernel
theorem dX8_odds_1 : decode cX8_odds 1 = .ok (.iconst 0, 1) := by decide +kernel
theorem dX8_odds_2 : decode cX8_odds 2 = .ok (.putfield 43, 3) := by decide +kernel
theorem dX8_odds_5 : decode cX8_odds 5 = .ok (.aload_n 0, 1) := by decide +kernel
theorem dX8_odds_6 : decode cX8_odds 6 = .ok (.getfield 306, 3) := by decide +kernel
theorem dX8_odds_9 : decode cX8_odds 9 = .ok (.ifnull 18, 3) := by decide +kernel
theorem dX8_odds_12 : decode cX8_odds 12 = .ok (.iload_n 1, 1) := by decide +kernel
theorem dX8_odds_13 : decode cX8_odds 13 = .ok (.ifCond .lt 14, 3) := by decide +kernel
theorem dX8_odds_16 : decode cX8_odds 16 = .ok (.iload_n 1, 1) := by decide +kernel
theorem dX8_odds_17 : decode cX8_odds 17 = .ok (.aload_n 0, 1) := by decide +kernel
theorem dX8_odds_18 : decode cX8_odds 18 = .ok (.getfield 306, 3) := by decide +kernel
theorem dX8_odds_21 : decode cX8_odds 21 = .ok (.getfield 266, 3) := by decide +kernel
theorem dX8_odds_24 : decode cX8_odds 24 = .ok (.if_icmp .lt 10, 3) := by decide +kernel
theorem dX8_odds_27 : decode cX8_odds 27 = .ok (.aload_n 0, 1) := by decide +kernel
theorem dX8_odds_28 : decode cX8_odds 28 = .ok (.iconst 1, 1) := by decide +kernel
theorem dX8_odds_29 : decode cX8_odds 29 = .ok (.invokevirtual 49, 3) := by decide +kernel
theorem dX8_odds_32 : decode cX8_odds 32 = .ok (.i2l, 1) := by decide +kernel
theorem dX8_odds_33 : decode cX8_odds 33 = .ok (.lreturn, 1) := by decide +kernel
theorem dX8_odds_34 : decode cX8_odds 34 = .ok (.lconst 0, 1) := by decide +kernel
theorem dX8_odds_35 : decode cX8_odds 35 = .ok (.lstore_n 3, 1) := by decide +kernel
theorem dX8_odds_36 : decode cX8_odds 36 = .ok (.lconst 0, 1) := by decide +kernel
theorem dX8_odds_37 : decode cX8_odds 37 = .ok (.lstore 5, 2) := by decide +kernel
theorem dX8_odds_39 : decode cX8_odds 39 = .ok (.iconst 0, 1) := by decide +kernel
theorem dX8_odds_40 : decode cX8_odds 40 = .ok (.istore 7, 2) := by decide +kernel
theorem dX8_odds_42 : decode cX8_odds 42 = .ok (.iload 7, 2) := by decide +kernel
theorem dX8_odds_44 : decode cX8_odds 44 = .ok (.aload_n 0, 1) := by decide +kernel
theorem dX8_odds_45 : decode cX8_odds 45 = .ok (.invokevirtual 403, 3) := by decide +kernel
theorem dX8_odds_48 : decode cX8_odds 48 = .ok (.if_icmp .ge 42, 3) := by decide +kernel
theorem dX8_odds_51 : decode cX8_odds 51 = .ok (.aload_n 0, 1) := by decide +kernel
theorem dX8_odds_52 : decode cX8_odds 52 = .ok (.iload 7, 2) := by decide +kernel
theorem dX8_odds_54 : decode cX8_odds 54 = .ok (.invokevirtual 406, 3) := by decide +kernel
theorem dX8_odds_57 : decode cX8_odds 57 = .ok (.lstore 8, 2) := by decide +kernel
theorem dX8_odds_59 : decode cX8_odds 59 = .ok (.lload 5, 2) := by decide +kernel
theorem dX8_odds_61 : decode cX8_odds 61 = .ok (.lload 8, 2) := by decide +kernel
theorem dX8_odds_63 : decode cX8_odds 63 = .ok (.ladd, 1) := by decide +kernel
theorem dX8_odds_64 : decode cX8_odds 64 = .ok (.lstore 5, 2) := by decide +kernel
theorem dX8_odds_66 : decode cX8_odds 66 = .ok (.lload_n 3, 1) := by decide +kernel
theorem dX8_odds_67 : decode cX8_odds 67 = .ok (.iload 7, 2) := by decide +kernel
theorem dX8_odds_69 : decode cX8_odds 69 = .ok (.iload_n 1, 1) := by decide +kernel
theorem dX8_odds_70 : decode cX8_odds 70 = .ok (.invokestatic 274, 3) := by decide +kernel
theorem dX8_odds_73 : decode cX8_odds 73 = .ok (.ifCond .eq 8, 3) := by decide +kernel
theorem dX8_odds_76 : decode cX8_odds 76 = .ok (.lload 8, 2) := by decide +kernel
theorem dX8_odds_78 : decode cX8_odds 78 = .ok (.goto 4, 3) := by decide +kernel
theorem dX8_odds_81 : decode cX8_odds 81 = .ok (.lconst 0, 1) := by decide +kernel
theorem dX8_odds_82 : decode cX8_odds 82 = .ok (.ladd, 1) := by decide +kernel
theorem dX8_odds_83 : decode cX8_odds 83 = .ok (.lstore_n 3, 1) := by decide +kernel
theorem dX8_odds_84 : decode cX8_odds 84 = .ok (.iinc 7 1, 3) := by decide +kernel
theorem dX8_odds_87 : decode cX8_odds 87 = .ok (.goto (-45), 3) := by decide +kernel
theorem dX8_odds_90 : decode cX8_odds 90 = .ok (.aload_n 0, 1) := by decide +kernel
theorem dX8_odds_91 : decode cX8_odds 91 = .ok (.lload_n 3, 1) := by decide +kernel
theorem dX8_odds_92 : decode cX8_odds 92 = .ok (.lload 5, 2) := by decide +kernel
theorem dX8_odds_94 : decode cX8_odds 94 = .ok (.iload_n 2, 1) := by decide +kernel
theorem dX8_odds_95 : decode cX8_odds 95 = .ok (.invokevirtual 412, 3) := by decide +kernel
theorem dX8_odds_98 : decode cX8_odds 98 = .ok (.lreturn, 1) := by decide +kernel
theorem dX8_likeliest_0 : decode cX8_likeliest 0 = .ok (.aload_n 0, 1) := by decide +kernel
theorem dX8_likeliest_1 : decode cX8_likeliest 1 = .ok (.iconst 0, 1) := by decide +kernel
theorem dX8_likeliest_2 : decode cX8_likeliest 2 = .ok (.putfield 43, 3) := by decide +kernel
theorem dX8_likeliest_5 : decode cX8_likeliest 5 = .ok (.aload_n 0, 1) := by decide +kernel
theorem dX8_likeliest_6 : decode cX8_likeliest 6 = .ok (.getfield 306, 3) := by decide +kernel
theorem dX8_likeliest_9 : decode cX8_likeliest 9 = .ok (.ifnonnull 9, 3) := by decide +kernel
theorem dX8_likeliest_12 : decode cX8_likeliest 12 = .ok (.aload_n 0, 1) := by decide +kernel
theorem dX8_likeliest_13 : decode cX8_likeliest 13 = .ok (.iconst 1, 1) := by decide +kernel
theorem dX8_likeliest_14 : decode cX8_likeliest 14 = .ok (.invokevirtual 49, 3) := by decide +kernel
theorem dX8_likeliest_17 : decode cX8_likeliest 17 = .ok (.ireturn, 1) := by decide +kernel
theorem dX8_likeliest_18 : decode cX8_likeliest 18 = .ok (.bipush (-2), 2) := by decide +kernel
theorem dX8_likeliest_20 : decode cX8_likeliest 20 = .ok (.istore_n 1, 1) := by decide +kernel
theorem dX8_likeliest_21 : decode cX8_likeliest 21 = .ok (.lconst 0, 1) := by decide +kernel
theorem dX8_likeliest_22 : decode cX8_likeliest 22 = .ok (.lstore_n 2, 1) := by decide +kernel
theorem dX8_likeliest_23 : decode cX8_likeliest 23 = .ok (.iconst 0, 1) := by decide +kernel
theorem dX8_likeliest_24 : decode cX8_likeliest 24 = .ok (.istore 4, 2) := by decide +kernel
theorem dX8_likeliest_26 : decode cX8_likeliest 26 = .ok (.iload 4, 2) := by decide +kernel
theorem dX8_likeliest_28 : decode cX8_likeliest 28 = .ok (.aload_n 0, 1) := by decide +kernel
theorem dX8_likeliest_29 : decode cX8_likeliest 29 = .ok (.invokevirtual 403, 3) := by decide +kernel
theorem dX8_likeliest_32 : decode cX8_likeliest 32 = .ok (.if_icmp .ge 33, 3) := by decide +kernel
theorem dX8_likeliest_35 : decode cX8_likeliest 35 = .ok (.aload_n 0, 1) := by decide +kernel
theorem dX8_likeliest_36 : decode cX8_likeliest 36 = .ok (.iload 4, 2) := by decide +kernel
theorem dX8_likeliest_38 : decode cX8_likeliest 38 = .ok (.invokevirtual 406, 3) := by decide +kernel
theorem dX8_likeliest_41 : decode cX8_likeliest 41 = .ok (.lstore 5, 2) := by decide +kernel
theorem dX8_likeliest_43 : decode cX8_likeliest 43 = .ok (.lload 5, 2) := by decide +kernel
theorem dX8_likeliest_45 : decode cX8_likeliest 45 = .ok (.lload_n 2, 1) := by decide +kernel
theorem dX8_likeliest_46 : decode cX8_likeliest 46 = .ok (.lcmp, 1) := by decide +kernel
theorem dX8_likeliest_47 : decode cX8_likeliest 47 = .ok (.ifCond .gt 6, 3) := by decide +kernel
theorem dX8_likeliest_50 : decode cX8_likeliest 50 = .ok (.goto 9, 3) := by decide +kernel
theorem dX8_likeliest_53 : decode cX8_likeliest 53 = .ok (.lload 5, 2) := by decide +kernel
theorem dX8_likeliest_55 : decode cX8_likeliest 55 = .ok (.lstore_n 2, 1) := by decide +kernel
theorem dX8_likeliest_56 : decode cX8_likeliest 56 = .ok (.iload 4, 2) := by decide +kernel
theorem dX8_likeliest_58 : decode cX8_likeliest 58 = .ok (.istore_n 1, 1) := by decide +kernel
theorem dX8_likeliest_59 : decode cX8_likeliest 59 = .ok (.iinc 4 1, 3) := by decide +kernel
theorem dX8_likeliest_62 : decode cX8_likeliest 62 = .ok (.goto (-36), 3) := by decide +kernel
theorem dX8_likeliest_65 : decode cX8_likeliest 65 = .ok (.aload_n 0, 1) := by decide +kernel
theorem dX8_likeliest_66 : decode cX8_likeliest 66 = .ok (.iload_n 1, 1) := by decide +kernel
theorem dX8_likeliest_67 : decode cX8_likeliest 67 = .ok (.invokevirtual 53, 3) := by decide +kernel
theorem dX8_likeliest_70 : decode cX8_likeliest 70 = .ok (.ireturn, 1) := by decide +kernel
theorem dX8_asks_0 : decode cX8_asks 0 = .ok (.aload_n 0, 1) := by decide +kernel
theorem dX8_asks_1 : decode cX8_asks 1 = .ok (.iconst (-1), 1) := by decide +kernel
theorem dX8_asks_2 : decode cX8_asks 2 = .ok (.invokevirtual 409, 3) := by decide +kernel
theorem dX8_asks_5 : decode cX8_asks 5 = .ok (.pop, 1) := by decide +kernel
theorem dX8_asks_6 : decode cX8_asks 6 = .ok (.bipush (-2), 2) := by decide +kernel
theorem dX8_asks_8 : decode cX8_asks 8 = .ok (.istore_n 1, 1) := by decide +kernel
theorem dX8_asks_9 : decode cX8_asks 9 = .ok (.aload_n 0, 1) := by decide +kernel
theorem dX8_asks_10 : decode cX8_asks 10 = .ok (.bipush (-2), 2) := by decide +kernel
theorem dX8_asks_12 : decode cX8_asks 12 = .ok (.putfield 416, 3) := by decide +kernel
theorem dX8_asks_15 : decode cX8_asks 15 = .ok (.iconst 0, 1) := by decide +kernel
theorem dX8_asks_16 : decode cX8_asks 16 = .ok (.istore_n 2, 1) := by decide +kernel
theorem dX8_asks_17 : decode cX8_asks 17 = .ok (.iload_n 2, 1) := by decide +kernel
theorem dX8_asks_18 : decode cX8_asks 18 = .ok (.aload_n 0, 1) := by decide +kernel
theorem dX8_asks_19 : decode cX8_asks 19 = .ok (.getfield 306, 3) := by decide +kernel
theorem dX8_asks_22 : decode cX8_asks 22 = .ok (.getfield 266, 3) := by decide +kernel
theorem dX8_asks_25 : decode cX8_asks 25 = .ok (.if_icmp .ge 81, 3) := by decide +kernel
theorem dX8_asks_28 : decode cX8_asks 28 = .ok (.aload_n 0, 1) := by decide +kernel
theorem dX8_asks_29 : decode cX8_asks 29 = .ok (.getfield 400, 3) := by decide +kernel
theorem dX8_asks_32 : decode cX8_asks 32 = .ok (.ifCond .le 74, 3) := by decide +kernel
theorem dX8_asks_35 : decode cX8_asks 35 = .ok (.aload_n 0, 1) := by decide +kernel
theorem dX8_asks_36 : decode cX8_asks 36 = .ok (.getfield 40, 3) := by decide +kernel
theorem dX8_asks_39 : decode cX8_asks 39 = .ok (.iload_n 2, 1) := by decide +kernel
theorem dX8_asks_40 : decode cX8_asks 40 = .ok (.iaload, 1) := by decide +kernel
theorem dX8_asks_41 : decode cX8_asks 41 = .ok (.aload_n 0, 1) := by decide +kernel
theorem dX8_asks_42 : decode cX8_asks 42 = .ok (.getfield 400, 3) := by decide +kernel
theorem dX8_asks_45 : decode cX8_asks 45 = .ok (.aload_n 0, 1) := by decide +kernel
theorem dX8_asks_46 : decode cX8_asks 46 = .ok (.getfield 40, 3) := by decide +kernel
theorem dX8_asks_49 : decode cX8_asks 49 = .ok (.iload_n 2, 1) := by decide +kernel
theorem dX8_asks_50 : decode cX8_asks 50 = .ok (.iaload, 1) := by decide +kernel
theorem dX8_asks_51 : decode cX8_asks 51 = .ok (.isub, 1) := by decide +kernel
theorem dX8_asks_52 : decode cX8_asks 52 = .ok (.if_icmp .le 12, 3) := by decide +kernel
theorem dX8_asks_55 : decode cX8_asks 55 = .ok (.aload_n 0, 1) := by decide +kernel
theorem dX8_asks_56 : decode cX8_asks 56 = .ok (.getfield 40, 3) := by decide +kernel
theorem dX8_asks_59 : decode cX8_asks 59 = .ok (.iload_n 2, 1) := by decide +kernel
theorem dX8_asks_60 : decode cX8_asks 60 = .ok (.iaload, 1) := by decide +kernel
theorem dX8_asks_61 : decode cX8_asks 61 = .ok (.goto 14, 3) := by decide +kernel
theorem dX8_asks_64 : decode cX8_asks 64 = .ok (.aload_n 0, 1) := by decide +kernel
theorem dX8_asks_65 : decode cX8_asks 65 = .ok (.getfield 400, 3) := by decide +kernel
theorem dX8_asks_68 : decode cX8_asks 68 = .ok (.aload_n 0, 1) := by decide +kernel
theorem dX8_asks_69 : decode cX8_asks 69 = .ok (.getfield 40, 3) := by decide +kernel
theorem dX8_asks_72 : decode cX8_asks 72 = .ok (.iload_n 2, 1) := by decide +kernel
theorem dX8_asks_73 : decode cX8_asks 73 = .ok (.iaload, 1) := by decide +kernel
theorem dX8_asks_74 : decode cX8_asks 74 = .ok (.isub, 1) := by decide +kernel
theorem dX8_asks_75 : decode cX8_asks 75 = .ok (.istore_n 3, 1) := by decide +kernel
theorem dX8_asks_76 : decode cX8_asks 76 = .ok (.iload_n 1, 1) := by decide +kernel
theorem dX8_asks_77 : decode cX8_asks 77 = .ok (.bipush (-2), 2) := by decide +kernel
theorem dX8_asks_79 : decode cX8_asks 79 = .ok (.if_icmp .eq 14, 3) := by decide +kernel
theorem dX8_asks_82 : decode cX8_asks 82 = .ok (.iload_n 3, 1) := by decide +kernel
theorem dX8_asks_83 : decode cX8_asks 83 = .ok (.aload_n 0, 1) := by decide +kernel
theorem dX8_asks_84 : decode cX8_asks 84 = .ok (.getfield 416, 3) := by decide +kernel
theorem dX8_asks_87 : decode cX8_asks 87 = .ok (.if_icmp .lt 6, 3) := by decide +kernel
theorem dX8_asks_90 : decode cX8_asks 90 = .ok (.goto 10, 3) := by decide +kernel
theorem dX8_asks_93 : decode cX8_asks 93 = .ok (.iload_n 2, 1) := by decide +kernel
theorem dX8_asks_94 : decode cX8_asks 94 = .ok (.istore_n 1, 1) := by decide +kernel
theorem dX8_asks_95 : decode cX8_asks 95 = .ok (.aload_n 0, 1) := by decide +kernel
theorem dX8_asks_96 : decode cX8_asks 96 = .ok (.iload_n 3, 1) := by decide +kernel
theorem dX8_asks_97 : decode cX8_asks 97 = .ok (.putfield 416, 3) := by decide +kernel
theorem dX8_asks_100 : decode cX8_asks 100 = .ok (.iinc 2 1, 3) := by decide +kernel
theorem dX8_asks_103 : decode cX8_asks 103 = .ok (.goto (-86), 3) := by decide +kernel
theorem dX8_asks_106 : decode cX8_asks 106 = .ok (.iload_n 1, 1) := by decide +kernel
theorem dX8_asks_107 : decode cX8_asks 107 = .ok (.ireturn, 1) := by decide +kernel
theorem dX8_ask_0 : decode cX8_ask 0 = .ok (.aload_n 0, 1) := by decide +kernel
theorem dX8_ask_1 : decode cX8_ask 1 = .ok (.iconst 0, 1) := by decide +kernel
theorem dX8_ask_2 : decode cX8_ask 2 = .ok (.putfield 43, 3) := by decide +kernel
theorem dX8_ask_5 : decode cX8_ask 5 = .ok (.aload_n 0, 1) := by decide +kernel
theorem dX8_ask_6 : decode cX8_ask 6 = .ok (.getfield 306, 3) := by decide +kernel
theorem dX8_ask_9 : decode cX8_ask 9 = .ok (.ifnonnull 11, 3) := by decide +kernel
theorem dX8_ask_12 : decode cX8_ask 12 = .ok (.aload_n 0, 1) := by decide +kernel
theorem dX8_ask_13 : decode cX8_ask 13 = .ok (.iconst 1, 1) := by decide +kernel
theorem dX8_ask_14 : decode cX8_ask 14 = .ok (.invokevirtual 49, 3) := by decide +kernel
theorem dX8_ask_17 : decode cX8_ask 17 = .ok (.goto 11, 3) := by decide +kernel
theorem dX8_ask_20 : decode cX8_ask 20 = .ok (.aload_n 0, 1) := by decide +kernel
theorem dX8_ask_21 : decode cX8_ask 21 = .ok (.aload_n 0, 1) := by decide +kernel
theorem dX8_ask_22 : decode cX8_ask 22 = .ok (.invokevirtual 419, 3) := by decide +kernel
theorem dX8_ask_25 : decode cX8_ask 25 = .ok (.invokevirtual 53, 3) := by decide +kernel
theorem dX8_ask_28 : decode cX8_ask 28 = .ok (.ireturn, 1) := by decide +kernel
theorem dX8_askLeaves_0 : decode cX8_askLeaves 0 = .ok (.aload_n 0, 1) := by decide +kernel
theorem dX8_askLeaves_1 : decode cX8_askLeaves 1 = .ok (.iconst 0, 1) := by decide +kernel
theorem dX8_askLeaves_2 : decode cX8_askLeaves 2 = .ok (.putfield 43, 3) := by decide +kernel
theorem dX8_askLeaves_5 : decode cX8_askLeaves 5 = .ok (.aload_n 0, 1) := by decide +kernel
theorem dX8_askLeaves_6 : decode cX8_askLeaves 6 = .ok (.getfield 306, 3) := by decide +kernel
theorem dX8_askLeaves_9 : decode cX8_askLeaves 9 = .ok (.ifnonnull 9, 3) := by decide +kernel
theorem dX8_askLeaves_12 : decode cX8_askLeaves 12 = .ok (.aload_n 0, 1) := by decide +kernel
theorem dX8_askLeaves_13 : decode cX8_askLeaves 13 = .ok (.iconst 1, 1) := by decide +kernel
theorem dX8_askLeaves_14 : decode cX8_askLeaves 14 = .ok (.invokevirtual 49, 3) := by decide +kernel
theorem dX8_askLeaves_17 : decode cX8_askLeaves 17 = .ok (.ireturn, 1) := by decide +kernel
theorem dX8_askLeaves_18 : decode cX8_askLeaves 18 = .ok (.aload_n 0, 1) := by decide +kernel
theorem dX8_askLeaves_19 : decode cX8_askLeaves 19 = .ok (.invokevirtual 419, 3) := by decide +kernel
theorem dX8_askLeaves_22 : decode cX8_askLeaves 22 = .ok (.pop, 1) := by decide +kernel
theorem dX8_askLeaves_23 : decode cX8_askLeaves 23 = .ok (.aload_n 0, 1) := by decide +kernel
theorem dX8_askLeaves_24 : decode cX8_askLeaves 24 = .ok (.aload_n 0, 1) := by decide +kernel
theorem dX8_askLeaves_25 : decode cX8_askLeaves 25 = .ok (.getfield 416, 3) := by decide +kernel
theorem dX8_askLeaves_28 : decode cX8_askLeaves 28 = .ok (.invokevirtual 53, 3) := by decide +kernel
theorem dX8_askLeaves_31 : decode cX8_askLeaves 31 = .ok (.ireturn, 1) := by decide +kernel
theorem dX8_judge_0 : decode cX8_judge 0 = .ok (.aload_n 0, 1) := by decide +kernel
theorem dX8_judge_1 : decode cX8_judge 1 = .ok (.iconst 0, 1) := by decide +kernel
theorem dX8_judge_2 : decode cX8_judge 2 = .ok (.putfield 43, 3) := by decide +kernel
theorem dX8_judge_5 : decode cX8_judge 5 = .ok (.aload_n 0, 1) := by decide +kernel
theorem dX8_judge_6 : decode cX8_judge 6 = .ok (.getfield 306, 3) := by decide +kernel
theorem dX8_judge_9 : decode cX8_judge 9 = .ok (.ifnonnull 9, 3) := by decide +kernel
theorem dX8_judge_12 : decode cX8_judge 12 = .ok (.aload_n 0, 1) := by decide +kernel
theorem dX8_judge_13 : decode cX8_judge 13 = .ok (.iconst 1, 1) := by decide +kernel
theorem dX8_judge_14 : decode cX8_judge 14 = .ok (.invokevirtual 49, 3) := by decide +kernel
theorem dX8_judge_17 : decode cX8_judge 17 = .ok (.ireturn, 1) := by decide +kernel
theorem dX8_judge_18 : decode cX8_judge 18 = .ok (.iconst 0, 1) := by decide +kernel
theorem dX8_judge_19 : decode cX8_judge 19 = .ok (.istore_n 1, 1) := by decide +kernel
theorem dX8_judge_20 : decode cX8_judge 20 = .ok (.iload_n 1, 1) := by decide +kernel
theorem dX8_judge_21 : decode cX8_judge 21 = .ok (.aload_n 0, 1) := by decide +kernel
theorem dX8_judge_22 : decode cX8_judge 22 = .ok (.getfield 306, 3) := by decide +kernel
theorem dX8_judge_25 : decode cX8_judge 25 = .ok (.getfield 278, 3) := by decide +kernel
theorem dX8_judge_28 : decode cX8_judge 28 = .ok (.if_icmp .ge 24, 3) := by decide +kernel
theorem dX8_judge_31 : decode cX8_judge 31 = .ok (.aload_n 0, 1) := by decide +kernel
theorem dX8_judge_32 : decode cX8_judge 32 = .ok (.iload_n 1, 1) := by decide +kernel
theorem dX8_judge_33 : decode cX8_judge 33 = .ok (.iconst 0, 1) := by decide +kernel
theorem dX8_judge_34 : decode cX8_judge 34 = .ok (.invokevirtual 397, 3) := by decide +kernel
theorem dX8_judge_37 : decode cX8_judge 37 = .ok (.ifCond .ne 9, 3) := by decide +kernel
theorem dX8_judge_40 : decode cX8_judge 40 = .ok (.aload_n 0, 1) := by decide +kernel
theorem dX8_judge_41 : decode cX8_judge 41 = .ok (.iload_n 1, 1) := by decide +kernel
theorem dX8_judge_42 : decode cX8_judge 42 = .ok (.invokevirtual 53, 3) := by decide +kernel
theorem dX8_judge_45 : decode cX8_judge 45 = .ok (.ireturn, 1) := by decide +kernel
theorem dX8_judge_46 : decode cX8_judge 46 = .ok (.iinc 1 1, 3) := by decide +kernel
theorem dX8_judge_49 : decode cX8_judge 49 = .ok (.goto (-29), 3) := by decide +kernel
theorem dX8_judge_52 : decode cX8_judge 52 = .ok (.aload_n 0, 1) := by decide +kernel
theorem dX8_judge_53 : decode cX8_judge 53 = .ok (.bipush (-2), 2) := by decide +kernel
theorem dX8_judge_55 : decode cX8_judge 55 = .ok (.invokevirtual 53, 3) := by decide +kernel
theorem dX8_judge_58 : decode cX8_judge 58 = .ok (.ireturn, 1) := by decide +kernel
theorem dX8_merchant_0 : decode cX8_merchant 0 = .ok (.iload_n 1, 1) := by decide +kernel
theorem dX8_merchant_1 : decode cX8_merchant 1 = .ok (.ifCond .eq 16, 3) := by decide +kernel
theorem dX8_merchant_4 : decode cX8_merchant 4 = .ok (.iload_n 2, 1) := by decide +kernel
theorem dX8_merchant_5 : decode cX8_merchant 5 = .ok (.ifCond .eq 8, 3) := by decide +kernel
theorem dX8_merchant_8 : decode cX8_merchant 8 = .ok (.iload_n 0, 1) := by decide +kernel
theorem dX8_merchant_9 : decode cX8_merchant 9 = .ok (.ineg, 1) := by decide +kernel
theorem dX8_merchant_10 : decode cX8_merchant 10 = .ok (.goto 16, 3) := by decide +kernel
theorem dX8_merchant_13 : decode cX8_merchant 13 = .ok (.iconst 4, 1) := by decide +kernel
theorem dX8_merchant_14 : decode cX8_merchant 14 = .ok (.goto 12, 3) := by decide +kernel
theorem dX8_merchant_17 : decode cX8_merchant 17 = .ok (.iload_n 2, 1) := by decide +kernel
theorem dX8_merchant_18 : decode cX8_merchant 18 = .ok (.ifCond .eq 7, 3) := by decide +kernel
theorem dX8_merchant_21 : decode cX8_merchant 21 = .ok (.iconst 1, 1) := by decide +kernel
theorem dX8_merchant_22 : decode cX8_merchant 22 = .ok (.goto 4, 3) := by decide +kernel
theorem dX8_merchant_25 : decode cX8_merchant 25 = .ok (.iconst 2, 1) := by decide +kernel
theorem dX8_merchant_26 : decode cX8_merchant 26 = .ok (.ireturn, 1) := by decide +kernel
theorem dX8_written_0 : decode cX8_written 0 = .ok (.iload_n 0, 1) := by decide +kernel
theorem dX8_written_1 : decode cX8_written 1 = .ok (.ifCond .eq 15, 3) := by decide +kernel
theorem dX8_written_4 : decode cX8_written 4 = .ok (.iload_n 1, 1) := by decide +kernel
theorem dX8_written_5 : decode cX8_written 5 = .ok (.ifCond .eq 7, 3) := by decide +kernel
theorem dX8_written_8 : decode cX8_written 8 = .ok (.iconst 3, 1) := by decide +kernel
theorem dX8_written_9 : decode cX8_written 9 = .ok (.goto 16, 3) := by decide +kernel
theorem dX8_written_12 : decode cX8_written 12 = .ok (.iconst 0, 1) := by decide +kernel
theorem dX8_written_13 : decode cX8_written 13 = .ok (.goto 12, 3) := by decide +kernel
theorem dX8_written_16 : decode cX8_written 16 = .ok (.iload_n 1, 1) := by decide +kernel
theorem dX8_written_17 : decode cX8_written 17 = .ok (.ifCond .eq 7, 3) := by decide +kernel
theorem dX8_written_20 : decode cX8_written 20 = .ok (.iconst 1, 1) := by decide +kernel
theorem dX8_written_21 : decode cX8_written 21 = .ok (.goto 4, 3) := by decide +kernel
theorem dX8_written_24 : decode cX8_written 24 = .ok (.iconst 2, 1) := by decide +kernel
theorem dX8_written_25 : decode cX8_written 25 = .ok (.ireturn, 1) := by decide +kernel
theorem dX8_refusesChain_0 : decode cX8_refusesChain 0 = .ok (.aload_n 0, 1) := by decide +kernel
theorem dX8_refusesChain_1 : decode cX8_refusesChain 1 = .ok (.getfield 306, 3) := by decide +kernel
theorem dX8_refusesChain_4 : decode cX8_refusesChain 4 = .ok (.ifnonnull 7, 3) := by decide +kernel
theorem dX8_refusesChain_7 : decode cX8_refusesChain 7 = .ok (.iconst 1, 1) := by decide +kernel
theorem dX8_refusesChain_8 : decode cX8_refusesChain 8 = .ok (.goto 18, 3) := by decide +kernel
theorem dX8_refusesChain_11 : decode cX8_refusesChain 11 = .ok (.iload_n 1, 1) := by decide +kernel
theorem dX8_refusesChain_12 : decode cX8_refusesChain 12 = .ok (.iconst 0, 1) := by decide +kernel
theorem dX8_refusesChain_13 : decode cX8_refusesChain 13 = .ok (.bipush 9, 2) := by decide +kernel
theorem dX8_refusesChain_15 : decode cX8_refusesChain 15 = .ok (.invokestatic 126, 3) := by decide +kernel
theorem dX8_refusesChain_18 : decode cX8_refusesChain 18 = .ok (.ifCond .eq 7, 3) := by decide +kernel
theorem dX8_refusesChain_21 : decode cX8_refusesChain 21 = .ok (.iconst 0, 1) := by decide +kernel
theorem dX8_refusesChain_22 : decode cX8_refusesChain 22 = .ok (.goto 4, 3) := by decide +kernel
theorem dX8_refusesChain_25 : decode cX8_refusesChain 25 = .ok (.iconst 2, 1) := by decide +kernel
theorem dX8_refusesChain_26 : decode cX8_refusesChain 26 = .ok (.ireturn, 1) := by decide +kernel
theorem dX8_shaves_0 : decode cX8_shaves 0 = .ok (.aload_n 0, 1) := by decide +kernel
theorem dX8_shaves_1 : decode cX8_shaves 1 = .ok (.iconst 0, 1) := by decide +kernel
theorem dX8_shaves_2 : decode cX8_shaves 2 = .ok (.putfield 43, 3) := by decide +kernel
theorem dX8_shaves_5 : decode cX8_shaves 5 = .ok (.aload_n 0, 1) := by decide +kernel
theorem dX8_shaves_6 : decode cX8_shaves 6 = .ok (.iload_n 1, 1) := by decide +kernel
theorem dX8_shaves_7 : decode cX8_shaves 7 = .ok (.invokevirtual 422, 3) := by decide +kernel
theorem dX8_shaves_10 : decode cX8_shaves 10 = .ok (.istore 5, 2) := by decide +kernel
theorem dX8_shaves_12 : decode cX8_shaves 12 = .ok (.iload 5, 2) := by decide +kernel
theorem dX8_shaves_14 : decode cX8_shaves 14 = .ok (.ifCond .le 12, 3) := by decide +kernel
theorem dX8_shaves_17 : decode cX8_shaves 17 = .ok (.aload_n 0, 1) := by decide +kernel
theorem dX8_shaves_18 : decode cX8_shaves 18 = .ok (.iload 5, 2) := by decide +kernel
theorem dX8_shaves_20 : decode cX8_shaves 20 = .ok (.invokevirtual 425, 3) := by decide +kernel
theorem dX8_shaves_23 : decode cX8_shaves 23 = .ok (.goto 26, 3) := by decide +kernel
theorem dX8_shaves_26 : decode cX8_shaves 26 = .ok (.aload_n 0, 1) := by decide +kernel
theorem dX8_shaves_27 : decode cX8_shaves 27 = .ok (.iload 4, 2) := by decide +kernel
theorem dX8_shaves_29 : decode cX8_shaves 29 = .ok (.ifCond .eq 11, 3) := by decide +kernel
theorem dX8_shaves_32 : decode cX8_shaves 32 = .ok (.iload_n 2, 1) := by decide +kernel
theorem dX8_shaves_33 : decode cX8_shaves 33 = .ok (.iload_n 3, 1) := by decide +kernel
theorem dX8_shaves_34 : decode cX8_shaves 34 = .ok (.invokestatic 428, 3) := by decide +kernel
theorem dX8_shaves_37 : decode cX8_shaves 37 = .ok (.goto 9, 3) := by decide +kernel
theorem dX8_shaves_40 : decode cX8_shaves 40 = .ok (.iload_n 1, 1) := by decide +kernel
theorem dX8_shaves_41 : decode cX8_shaves 41 = .ok (.iload_n 2, 1) := by decide +kernel
theorem dX8_shaves_42 : decode cX8_shaves 42 = .ok (.iload_n 3, 1) := by decide +kernel
theorem dX8_shaves_43 : decode cX8_shaves 43 = .ok (.invokestatic 432, 3) := by decide +kernel
theorem dX8_shaves_46 : decode cX8_shaves 46 = .ok (.invokevirtual 53, 3) := by decide +kernel
theorem dX8_shaves_49 : decode cX8_shaves 49 = .ok (.ireturn, 1) := by decide +kernel
theorem dX8_isRest_0 : decode cX8_isRest 0 = .ok (.iload_n 1, 1) := by decide +kernel
theorem dX8_isRest_1 : decode cX8_isRest 1 = .ok (.iconst 1, 1) := by decide +kernel
theorem dX8_isRest_2 : decode cX8_isRest 2 = .ok (.if_icmp .le 7, 3) := by decide +kernel
theorem dX8_isRest_5 : decode cX8_isRest 5 = .ok (.iconst 1, 1) := by decide +kernel
theorem dX8_isRest_6 : decode cX8_isRest 6 = .ok (.goto 4, 3) := by decide +kernel
theorem dX8_isRest_9 : decode cX8_isRest 9 = .ok (.iconst 0, 1) := by decide +kernel
theorem dX8_isRest_10 : decode cX8_isRest 10 = .ok (.istore_n 2, 1) := by decide +kernel
theorem dX8_isRest_11 : decode cX8_isRest 11 = .ok (.iload_n 1, 1) := by decide +kernel
theorem dX8_isRest_12 : decode cX8_isRest 12 = .ok (.iconst 2, 1) := by decide +kernel
theorem dX8_isRest_13 : decode cX8_isRest 13 = .ok (.irem, 1) := by decide +kernel
theorem dX8_isRest_14 : decode cX8_isRest 14 = .ok (.iconst 1, 1) := by decide +kernel
theorem dX8_isRest_15 : decode cX8_isRest 15 = .ok (.if_icmp .ne 7, 3) := by decide +kernel
theorem dX8_isRest_18 : decode cX8_isRest 18 = .ok (.iconst 1, 1) := by decide +kernel
theorem dX8_isRest_19 : decode cX8_isRest 19 = .ok (.goto 4, 3) := by decide +kernel
theorem dX8_isRest_22 : decode cX8_isRest 22 = .ok (.iconst 0, 1) := by decide +kernel
theorem dX8_isRest_23 : decode cX8_isRest 23 = .ok (.istore_n 3, 1) := by decide +kernel
theorem dX8_isRest_24 : decode cX8_isRest 24 = .ok (.iload_n 0, 1) := by decide +kernel
theorem dX8_isRest_25 : decode cX8_isRest 25 = .ok (.iload_n 2, 1) := by decide +kernel
theorem dX8_isRest_26 : decode cX8_isRest 26 = .ok (.ifCond .ne 7, 3) := by decide +kernel
theorem dX8_isRest_29 : decode cX8_isRest 29 = .ok (.iconst 1, 1) := by decide +kernel
theorem dX8_isRest_30 : decode cX8_isRest 30 = .ok (.goto 4, 3) := by decide +kernel
theorem dX8_isRest_33 : decode cX8_isRest 33 = .ok (.iconst 0, 1) := by decide +kernel
theorem dX8_isRest_34 : decode cX8_isRest 34 = .ok (.iload_n 3, 1) := by decide +kernel
theorem dX8_isRest_35 : decode cX8_isRest 35 = .ok (.invokestatic 432, 3) := by decide +kernel
theorem dX8_isRest_38 : decode cX8_isRest 38 = .ok (.iload_n 0, 1) := by decide +kernel
theorem dX8_isRest_39 : decode cX8_isRest 39 = .ok (.iload_n 2, 1) := by decide +kernel
theorem dX8_isRest_40 : decode cX8_isRest 40 = .ok (.iload_n 3, 1) := by decide +kernel
theorem dX8_isRest_41 : decode cX8_isRest 41 = .ok (.invokestatic 432, 3) := by decide +kernel
theorem dX8_isRest_44 : decode cX8_isRest 44 = .ok (.if_icmp .gt 28, 3) := by decide +kernel
theorem dX8_isRest_47 : decode cX8_isRest 47 = .ok (.iload_n 2, 1) := by decide +kernel
theorem dX8_isRest_48 : decode cX8_isRest 48 = .ok (.iload_n 3, 1) := by decide +kernel
theorem dX8_isRest_49 : decode cX8_isRest 49 = .ok (.ifCond .ne 7, 3) := by decide +kernel
theorem dX8_isRest_52 : decode cX8_isRest 52 = .ok (.iconst 1, 1) := by decide +kernel
theorem dX8_isRest_53 : decode cX8_isRest 53 = .ok (.goto 4, 3) := by decide +kernel
theorem dX8_isRest_56 : decode cX8_isRest 56 = .ok (.iconst 0, 1) := by decide +kernel
theorem dX8_isRest_57 : decode cX8_isRest 57 = .ok (.invokestatic 428, 3) := by decide +kernel
theorem dX8_isRest_60 : decode cX8_isRest 60 = .ok (.iload_n 2, 1) := by decide +kernel
theorem dX8_isRest_61 : decode cX8_isRest 61 = .ok (.iload_n 3, 1) := by decide +kernel
theorem dX8_isRest_62 : decode cX8_isRest 62 = .ok (.invokestatic 428, 3) := by decide +kernel
theorem dX8_isRest_65 : decode cX8_isRest 65 = .ok (.if_icmp .gt 7, 3) := by decide +kernel
theorem dX8_isRest_68 : decode cX8_isRest 68 = .ok (.iconst 1, 1) := by decide +kernel
theorem dX8_isRest_69 : decode cX8_isRest 69 = .ok (.goto 4, 3) := by decide +kernel
theorem dX8_isRest_72 : decode cX8_isRest 72 = .ok (.iconst 0, 1) := by decide +kernel
theorem dX8_isRest_73 : decode cX8_isRest 73 = .ok (.ireturn, 1) := by decide +kernel
theorem dX8_rests_0 : decode cX8_rests 0 = .ok (.aload_n 0, 1) := by decide +kernel
theorem dX8_rests_1 : decode cX8_rests 1 = .ok (.iconst 0, 1) := by decide +kernel
theorem dX8_rests_2 : decode cX8_rests 2 = .ok (.putfield 43, 3) := by decide +kernel
theorem dX8_rests_5 : decode cX8_rests 5 = .ok (.aload_n 0, 1) := by decide +kernel
theorem dX8_rests_6 : decode cX8_rests 6 = .ok (.iload_n 1, 1) := by decide +kernel
theorem dX8_rests_7 : decode cX8_rests 7 = .ok (.invokevirtual 422, 3) := by decide +kernel
theorem dX8_rests_10 : decode cX8_rests 10 = .ok (.istore_n 2, 1) := by decide +kernel
theorem dX8_rests_11 : decode cX8_rests 11 = .ok (.iload_n 2, 1) := by decide +kernel
theorem dX8_rests_12 : decode cX8_rests 12 = .ok (.ifCond .le 9, 3) := by decide +kernel
theorem dX8_rests_15 : decode cX8_rests 15 = .ok (.aload_n 0, 1) := by decide +kernel
theorem dX8_rests_16 : decode cX8_rests 16 = .ok (.iload_n 2, 1) := by decide +kernel
theorem dX8_rests_17 : decode cX8_rests 17 = .ok (.invokevirtual 49, 3) := by decide +kernel
theorem dX8_rests_20 : decode cX8_rests 20 = .ok (.ireturn, 1) := by decide +kernel
theorem dX8_rests_21 : decode cX8_rests 21 = .ok (.iconst 0, 1) := by decide +kernel
theorem dX8_rests_22 : decode cX8_rests 22 = .ok (.istore_n 3, 1) := by decide +kernel
theorem dX8_rests_23 : decode cX8_rests 23 = .ok (.iconst 0, 1) := by decide +kernel
theorem dX8_rests_24 : decode cX8_rests 24 = .ok (.istore 4, 2) := by decide +kernel
theorem dX8_rests_26 : decode cX8_rests 26 = .ok (.iload 4, 2) := by decide +kernel
theorem dX8_rests_28 : decode cX8_rests 28 = .ok (.iconst 4, 1) := by decide +kernel
theorem dX8_rests_29 : decode cX8_rests 29 = .ok (.if_icmp .ge 26, 3) := by decide +kernel
theorem dX8_rests_32 : decode cX8_rests 32 = .ok (.iload_n 3, 1) := by decide +kernel
theorem dX8_rests_33 : decode cX8_rests 33 = .ok (.iload_n 1, 1) := by decide +kernel
theorem dX8_rests_34 : decode cX8_rests 34 = .ok (.iload 4, 2) := by decide +kernel
theorem dX8_rests_36 : decode cX8_rests 36 = .ok (.invokestatic 436, 3) := by decide +kernel
theorem dX8_rests_39 : decode cX8_rests 39 = .ok (.ifCond .eq 7, 3) := by decide +kernel
theorem dX8_rests_42 : decode cX8_rests 42 = .ok (.iconst 1, 1) := by decide +kernel
theorem dX8_rests_43 : decode cX8_rests 43 = .ok (.goto 4, 3) := by decide +kernel
theorem dX8_rests_46 : decode cX8_rests 46 = .ok (.iconst 0, 1) := by decide +kernel
theorem dX8_rests_47 : decode cX8_rests 47 = .ok (.iadd, 1) := by decide +kernel
theorem dX8_rests_48 : decode cX8_rests 48 = .ok (.istore_n 3, 1) := by decide +kernel
theorem dX8_rests_49 : decode cX8_rests 49 = .ok (.iinc 4 1, 3) := by decide +kernel
theorem dX8_rests_52 : decode cX8_rests 52 = .ok (.goto (-26), 3) := by decide +kernel
theorem dX8_rests_55 : decode cX8_rests 55 = .ok (.aload_n 0, 1) := by decide +kernel
theorem dX8_rests_56 : decode cX8_rests 56 = .ok (.iload_n 3, 1) := by decide +kernel
theorem dX8_rests_57 : decode cX8_rests 57 = .ok (.invokevirtual 53, 3) := by decide +kernel
theorem dX8_rests_60 : decode cX8_rests 60 = .ok (.ireturn, 1) := by decide +kernel
theorem dX8_rest_0 : decode cX8_rest 0 = .ok (.aload_n 0, 1) := by decide +kernel
theorem dX8_rest_1 : decode cX8_rest 1 = .ok (.iconst 0, 1) := by decide +kernel
theorem dX8_rest_2 : decode cX8_rest 2 = .ok (.putfield 43, 3) := by decide +kernel
theorem dX8_rest_5 : decode cX8_rest 5 = .ok (.aload_n 0, 1) := by decide +kernel
theorem dX8_rest_6 : decode cX8_rest 6 = .ok (.iload_n 1, 1) := by decide +kernel
theorem dX8_rest_7 : decode cX8_rest 7 = .ok (.invokevirtual 422, 3) := by decide +kernel
theorem dX8_rest_10 : decode cX8_rest 10 = .ok (.istore_n 2, 1) := by decide +kernel
theorem dX8_rest_11 : decode cX8_rest 11 = .ok (.iload_n 2, 1) := by decide +kernel
theorem dX8_rest_12 : decode cX8_rest 12 = .ok (.ifCond .le 9, 3) := by decide +kernel
theorem dX8_rest_15 : decode cX8_rest 15 = .ok (.aload_n 0, 1) := by decide +kernel
theorem dX8_rest_16 : decode cX8_rest 16 = .ok (.iload_n 2, 1) := by decide +kernel
theorem dX8_rest_17 : decode cX8_rest 17 = .ok (.invokevirtual 49, 3) := by decide +kernel
theorem dX8_rest_20 : decode cX8_rest 20 = .ok (.ireturn, 1) := by decide +kernel
theorem dX8_rest_21 : decode cX8_rest 21 = .ok (.iconst 0, 1) := by decide +kernel
theorem dX8_rest_22 : decode cX8_rest 22 = .ok (.istore_n 3, 1) := by decide +kernel
theorem dX8_rest_23 : decode cX8_rest 23 = .ok (.iload_n 3, 1) := by decide +kernel
theorem dX8_rest_24 : decode cX8_rest 24 = .ok (.iconst 4, 1) := by decide +kernel
theorem dX8_rest_25 : decode cX8_rest 25 = .ok (.if_icmp .ge 32, 3) := by decide +kernel
theorem dX8_rest_28 : decode cX8_rest 28 = .ok (.iload_n 1, 1) := by decide +kernel
theorem dX8_rest_29 : decode cX8_rest 29 = .ok (.iload_n 3, 1) := by decide +kernel
theorem dX8_rest_30 : decode cX8_rest 30 = .ok (.invokestatic 436, 3) := by decide +kernel
theorem dX8_rest_33 : decode cX8_rest 33 = .ok (.ifCond .eq 18, 3) := by decide +kernel
theorem dX8_rest_36 : decode cX8_rest 36 = .ok (.aload_n 0, 1) := by decide +kernel
theorem dX8_rest_37 : decode cX8_rest 37 = .ok (.bipush 10, 2) := by decide +kernel
theorem dX8_rest_39 : decode cX8_rest 39 = .ok (.iload_n 3, 1) := by decide +kernel
theorem dX8_rest_40 : decode cX8_rest 40 = .ok (.iconst 2, 1) := by decide +kernel
theorem dX8_rest_41 : decode cX8_rest 41 = .ok (.idiv, 1) := by decide +kernel
theorem dX8_rest_42 : decode cX8_rest 42 = .ok (.imul, 1) := by decide +kernel
theorem dX8_rest_43 : decode cX8_rest 43 = .ok (.iload_n 3, 1) := by decide +kernel
theorem dX8_rest_44 : decode cX8_rest 44 = .ok (.iconst 2, 1) := by decide +kernel
theorem dX8_rest_45 : decode cX8_rest 45 = .ok (.irem, 1) := by decide +kernel
theorem dX8_rest_46 : decode cX8_rest 46 = .ok (.iadd, 1) := by decide +kernel
theorem dX8_rest_47 : decode cX8_rest 47 = .ok (.invokevirtual 53, 3) := by decide +kernel
theorem dX8_rest_50 : decode cX8_rest 50 = .ok (.ireturn, 1) := by decide +kernel
theorem dX8_rest_51 : decode cX8_rest 51 = .ok (.iinc 3 1, 3) := by decide +kernel
theorem dX8_rest_54 : decode cX8_rest 54 = .ok (.goto (-31), 3) := by decide +kernel
theorem dX8_rest_57 : decode cX8_rest 57 = .ok (.aload_n 0, 1) := by decide +kernel
theorem dX8_rest_58 : decode cX8_rest 58 = .ok (.bipush (-2), 2) := by decide +kernel
theorem dX8_rest_60 : decode cX8_rest 60 = .ok (.invokevirtual 53, 3) := by decide +kernel
theorem dX8_rest_63 : decode cX8_rest 63 = .ok (.ireturn, 1) := by decide +kernel
theorem dX8_partOf_0 : decode cX8_partOf 0 = .ok (.lconst 1, 1) := by decide +kernel
theorem dX8_partOf_1 : decode cX8_partOf 1 = .ok (.lstore_n 3, 1) := by decide +kernel
theorem dX8_partOf_2 : decode cX8_partOf 2 = .ok (.aload_n 0, 1) := by decide +kernel
theorem dX8_partOf_3 : decode cX8_partOf 3 = .ok (.lconst 1, 1) := by decide +kernel
theorem dX8_partOf_4 : decode cX8_partOf 4 = .ok (.putfield 439, 3) := by decide +kernel
theorem dX8_partOf_7 : decode cX8_partOf 7 = .ok (.iconst 0, 1) := by decide +kernel
theorem dX8_partOf_8 : decode cX8_partOf 8 = .ok (.istore 5, 2) := by decide +kernel
theorem dX8_partOf_10 : decode cX8_partOf 10 = .ok (.iload 5, 2) := by decide +kernel
theorem dX8_partOf_12 : decode cX8_partOf 12 = .ok (.aload_n 0, 1) := by decide +kernel
theorem dX8_partOf_13 : decode cX8_partOf 13 = .ok (.getfield 306, 3) := by decide +kernel
theorem dX8_partOf_16 : decode cX8_partOf 16 = .ok (.getfield 240, 3) := by decide +kernel
theorem dX8_partOf_19 : decode cX8_partOf 19 = .ok (.if_icmp .ge 67, 3) := by decide +kernel
theorem dX8_partOf_22 : decode cX8_partOf 22 = .ok (.iload_n 1, 1) := by decide +kernel
theorem dX8_partOf_23 : decode cX8_partOf 23 = .ok (.iload 5, 2) := by decide +kernel
theorem dX8_partOf_25 : decode cX8_partOf 25 = .ok (.invokestatic 274, 3) := by decide +kernel
theorem dX8_partOf_28 : decode cX8_partOf 28 = .ok (.ifCond .ne 6, 3) := by decide +kernel
theorem dX8_partOf_31 : decode cX8_partOf 31 = .ok (.goto 49, 3) := by decide +kernel
theorem dX8_partOf_34 : decode cX8_partOf 34 = .ok (.lload_n 3, 1) := by decide +kernel
theorem dX8_partOf_35 : decode cX8_partOf 35 = .ok (.iload_n 2, 1) := by decide +kernel
theorem dX8_partOf_36 : decode cX8_partOf 36 = .ok (.iload 5, 2) := by decide +kernel
theorem dX8_partOf_38 : decode cX8_partOf 38 = .ok (.invokestatic 274, 3) := by decide +kernel
theorem dX8_partOf_41 : decode cX8_partOf 41 = .ok (.ifCond .eq 14, 3) := by decide +kernel
theorem dX8_partOf_44 : decode cX8_partOf 44 = .ok (.aload_n 0, 1) := by decide +kernel
theorem dX8_partOf_45 : decode cX8_partOf 45 = .ok (.getfield 306, 3) := by decide +kernel
theorem dX8_partOf_48 : decode cX8_partOf 48 = .ok (.getfield 215, 3) := by decide +kernel
theorem dX8_partOf_51 : decode cX8_partOf 51 = .ok (.i2l, 1) := by decide +kernel
theorem dX8_partOf_52 : decode cX8_partOf 52 = .ok (.goto 14, 3) := by decide +kernel
theorem dX8_partOf_55 : decode cX8_partOf 55 = .ok (.bipush 100, 2) := by decide +kernel
theorem dX8_partOf_57 : decode cX8_partOf 57 = .ok (.aload_n 0, 1) := by decide +kernel
theorem dX8_partOf_58 : decode cX8_partOf 58 = .ok (.getfield 306, 3) := by decide +kernel
theorem dX8_partOf_61 : decode cX8_partOf 61 = .ok (.getfield 215, 3) := by decide +kernel
theorem dX8_partOf_64 : decode cX8_partOf 64 = .ok (.isub, 1) := by decide +kernel
theorem dX8_partOf_65 : decode cX8_partOf 65 = .ok (.i2l, 1) := by decide +kernel
theorem dX8_partOf_66 : decode cX8_partOf 66 = .ok (.lmul, 1) := by decide +kernel
theorem dX8_partOf_67 : decode cX8_partOf 67 = .ok (.lstore_n 3, 1) := by decide +kernel
theorem dX8_partOf_68 : decode cX8_partOf 68 = .ok (.aload_n 0, 1) := by decide +kernel
theorem dX8_partOf_69 : decode cX8_partOf 69 = .ok (.dup, 1) := by decide +kernel
theorem dX8_partOf_70 : decode cX8_partOf 70 = .ok (.getfield 439, 3) := by decide +kernel
theorem dX8_partOf_73 : decode cX8_partOf 73 = .ok (.ldc2_w 442, 3) := by decide +kernel
theorem dX8_partOf_76 : decode cX8_partOf 76 = .ok (.lmul, 1) := by decide +kernel
theorem dX8_partOf_77 : decode cX8_partOf 77 = .ok (.putfield 439, 3) := by decide +kernel
theorem dX8_partOf_80 : decode cX8_partOf 80 = .ok (.iinc 5 1, 3) := by decide +kernel
theorem dX8_partOf_83 : decode cX8_partOf 83 = .ok (.goto (-73), 3) := by decide +kernel
theorem dX8_partOf_86 : decode cX8_partOf 86 = .ok (.lload_n 3, 1) := by decide +kernel
theorem dX8_partOf_87 : decode cX8_partOf 87 = .ok (.lreturn, 1) := by decide +kernel
theorem dX8_rainSum_0 : decode cX8_rainSum 0 = .ok (.aload_n 0, 1) := by decide +kernel
theorem dX8_rainSum_1 : decode cX8_rainSum 1 = .ok (.invokevirtual 354, 3) := by decide +kernel
theorem dX8_rainSum_4 : decode cX8_rainSum 4 = .ok (.aload_n 0, 1) := by decide +kernel
theorem dX8_rainSum_5 : decode cX8_rainSum 5 = .ok (.iload_n 1, 1) := by decide +kernel
theorem dX8_rainSum_6 : decode cX8_rainSum 6 = .ok (.invokevirtual 332, 3) := by decide +kernel
theorem dX8_rainSum_9 : decode cX8_rainSum 9 = .ok (.istore 4, 2) := by decide +kernel
theorem dX8_rainSum_11 : decode cX8_rainSum 11 = .ok (.lconst 0, 1) := by decide +kernel
theorem dX8_rainSum_12 : decode cX8_rainSum 12 = .ok (.lstore 5, 2) := by decide +kernel
theorem dX8_rainSum_14 : decode cX8_rainSum 14 = .ok (.iconst 0, 1) := by decide +kernel
theorem dX8_rainSum_15 : decode cX8_rainSum 15 = .ok (.istore 7, 2) := by decide +kernel
theorem dX8_rainSum_17 : decode cX8_rainSum 17 = .ok (.iload 7, 2) := by decide +kernel
theorem dX8_rainSum_19 : decode cX8_rainSum 19 = .ok (.iload 4, 2) := by decide +kernel
theorem dX8_rainSum_21 : decode cX8_rainSum 21 = .ok (.if_icmp .gt 97, 3) := by decide +kernel
theorem dX8_rainSum_24 : decode cX8_rainSum 24 = .ok (.iload 7, 2) := by decide +kernel
theorem dX8_rainSum_26 : decode cX8_rainSum 26 = .ok (.iload 4, 2) := by decide +kernel
theorem dX8_rainSum_28 : decode cX8_rainSum 28 = .ok (.iconst (-1), 1) := by decide +kernel
theorem dX8_rainSum_29 : decode cX8_rainSum 29 = .ok (.ixor, 1) := by decide +kernel
theorem dX8_rainSum_30 : decode cX8_rainSum 30 = .ok (.iand, 1) := by decide +kernel
theorem dX8_rainSum_31 : decode cX8_rainSum 31 = .ok (.ifCond .eq 6, 3) := by decide +kernel
theorem dX8_rainSum_34 : decode cX8_rainSum 34 = .ok (.goto 78, 3) := by decide +kernel
theorem dX8_rainSum_37 : decode cX8_rainSum 37 = .ok (.aload_n 0, 1) := by decide +kernel
theorem dX8_rainSum_38 : decode cX8_rainSum 38 = .ok (.iload 4, 2) := by decide +kernel
theorem dX8_rainSum_40 : decode cX8_rainSum 40 = .ok (.iload 7, 2) := by decide +kernel
theorem dX8_rainSum_42 : decode cX8_rainSum 42 = .ok (.invokevirtual 444, 3) := by decide +kernel
theorem dX8_rainSum_45 : decode cX8_rainSum 45 = .ok (.lstore 8, 2) := by decide +kernel
theorem dX8_rainSum_47 : decode cX8_rainSum 47 = .ok (.aload_n 0, 1) := by decide +kernel
theorem dX8_rainSum_48 : decode cX8_rainSum 48 = .ok (.iload 4, 2) := by decide +kernel
theorem dX8_rainSum_50 : decode cX8_rainSum 50 = .ok (.iload 7, 2) := by decide +kernel
theorem dX8_rainSum_52 : decode cX8_rainSum 52 = .ok (.iconst (-1), 1) := by decide +kernel
theorem dX8_rainSum_53 : decode cX8_rainSum 53 = .ok (.ixor, 1) := by decide +kernel
theorem dX8_rainSum_54 : decode cX8_rainSum 54 = .ok (.iand, 1) := by decide +kernel
theorem dX8_rainSum_55 : decode cX8_rainSum 55 = .ok (.invokevirtual 335, 3) := by decide +kernel
theorem dX8_rainSum_58 : decode cX8_rainSum 58 = .ok (.lstore 10, 2) := by decide +kernel
theorem dX8_rainSum_60 : decode cX8_rainSum 60 = .ok (.iload_n 3, 1) := by decide +kernel
theorem dX8_rainSum_61 : decode cX8_rainSum 61 = .ok (.ifCond .eq 20, 3) := by decide +kernel
theorem dX8_rainSum_64 : decode cX8_rainSum 64 = .ok (.lload 5, 2) := by decide +kernel
theorem dX8_rainSum_66 : decode cX8_rainSum 66 = .ok (.lload 8, 2) := by decide +kernel
theorem dX8_rainSum_68 : decode cX8_rainSum 68 = .ok (.lload 10, 2) := by decide +kernel
theorem dX8_rainSum_70 : decode cX8_rainSum 70 = .ok (.invokestatic 361, 3) := by decide +kernel
theorem dX8_rainSum_73 : decode cX8_rainSum 73 = .ok (.i2l, 1) := by decide +kernel
theorem dX8_rainSum_74 : decode cX8_rainSum 74 = .ok (.lmul, 1) := by decide +kernel
theorem dX8_rainSum_75 : decode cX8_rainSum 75 = .ok (.ladd, 1) := by decide +kernel
theorem dX8_rainSum_76 : decode cX8_rainSum 76 = .ok (.lstore 5, 2) := by decide +kernel
theorem dX8_rainSum_78 : decode cX8_rainSum 78 = .ok (.goto 34, 3) := by decide +kernel
theorem dX8_rainSum_81 : decode cX8_rainSum 81 = .ok (.iload_n 2, 1) := by decide +kernel
theorem dX8_rainSum_82 : decode cX8_rainSum 82 = .ok (.iconst (-1), 1) := by decide +kernel
theorem dX8_rainSum_83 : decode cX8_rainSum 83 = .ok (.if_icmp .ne 13, 3) := by decide +kernel
theorem dX8_rainSum_86 : decode cX8_rainSum 86 = .ok (.lload 10, 2) := by decide +kernel
theorem dX8_rainSum_88 : decode cX8_rainSum 88 = .ok (.lconst 0, 1) := by decide +kernel
theorem dX8_rainSum_89 : decode cX8_rainSum 89 = .ok (.lcmp, 1) := by decide +kernel
theorem dX8_rainSum_90 : decode cX8_rainSum 90 = .ok (.ifCond .eq 22, 3) := by decide +kernel
theorem dX8_rainSum_93 : decode cX8_rainSum 93 = .ok (.goto 12, 3) := by decide +kernel
theorem dX8_rainSum_96 : decode cX8_rainSum 96 = .ok (.lload 10, 2) := by decide +kernel
theorem dX8_rainSum_98 : decode cX8_rainSum 98 = .ok (.iload_n 2, 1) := by decide +kernel
theorem dX8_rainSum_99 : decode cX8_rainSum 99 = .ok (.invokestatic 357, 3) := by decide +kernel
theorem dX8_rainSum_102 : decode cX8_rainSum 102 = .ok (.ifCond .eq 10, 3) := by decide +kernel
theorem dX8_rainSum_105 : decode cX8_rainSum 105 = .ok (.lload 5, 2) := by decide +kernel
theorem dX8_rainSum_107 : decode cX8_rainSum 107 = .ok (.lload 8, 2) := by decide +kernel
theorem dX8_rainSum_109 : decode cX8_rainSum 109 = .ok (.ladd, 1) := by decide +kernel
theorem dX8_rainSum_110 : decode cX8_rainSum 110 = .ok (.lstore 5, 2) := by decide +kernel
theorem dX8_rainSum_112 : decode cX8_rainSum 112 = .ok (.iinc 7 1, 3) := by decide +kernel
theorem dX8_rainSum_115 : decode cX8_rainSum 115 = .ok (.goto (-98), 3) := by decide +kernel
theorem dX8_rainSum_118 : decode cX8_rainSum 118 = .ok (.lload 5, 2) := by decide +kernel
theorem dX8_rainSum_120 : decode cX8_rainSum 120 = .ok (.lreturn, 1) := by decide +kernel
theorem dX8_mayOdds_0 : decode cX8_mayOdds 0 = .ok (.aload_n 0, 1) := by decide +kernel
theorem dX8_mayOdds_1 : decode cX8_mayOdds 1 = .ok (.iconst 0, 1) := by decide +kernel
theorem dX8_mayOdds_2 : decode cX8_mayOdds 2 = .ok (.putfield 43, 3) := by decide +kernel
theorem dX8_mayOdds_5 : decode cX8_mayOdds 5 = .ok (.aload_n 0, 1) := by decide +kernel
theorem dX8_mayOdds_6 : decode cX8_mayOdds 6 = .ok (.iload_n 1, 1) := by decide +kernel
theorem dX8_mayOdds_7 : decode cX8_mayOdds 7 = .ok (.invokevirtual 345, 3) := by decide +kernel
theorem dX8_mayOdds_10 : decode cX8_mayOdds 10 = .ok (.ifCond .ne 10, 3) := by decide +kernel
theorem dX8_mayOdds_13 : decode cX8_mayOdds 13 = .ok (.aload_n 0, 1) := by decide +kernel
theorem dX8_mayOdds_14 : decode cX8_mayOdds 14 = .ok (.iconst 1, 1) := by decide +kernel
theorem dX8_mayOdds_15 : decode cX8_mayOdds 15 = .ok (.invokevirtual 49, 3) := by decide +kernel
theorem dX8_mayOdds_18 : decode cX8_mayOdds 18 = .ok (.i2l, 1) := by decide +kernel
theorem dX8_mayOdds_19 : decode cX8_mayOdds 19 = .ok (.lreturn, 1) := by decide +kernel
theorem dX8_mayOdds_20 : decode cX8_mayOdds 20 = .ok (.aload_n 0, 1) := by decide +kernel
theorem dX8_mayOdds_21 : decode cX8_mayOdds 21 = .ok (.iload_n 2, 1) := by decide +kernel
theorem dX8_mayOdds_22 : decode cX8_mayOdds 22 = .ok (.invokevirtual 351, 3) := by decide +kernel
theorem dX8_mayOdds_25 : decode cX8_mayOdds 25 = .ok (.ifCond .ne 10, 3) := by decide +kernel
theorem dX8_mayOdds_28 : decode cX8_mayOdds 28 = .ok (.aload_n 0, 1) := by decide +kernel
theorem dX8_mayOdds_29 : decode cX8_mayOdds 29 = .ok (.iconst 2, 1) := by decide +kernel
theorem dX8_mayOdds_30 : decode cX8_mayOdds 30 = .ok (.invokevirtual 49, 3) := by decide +kernel
theorem dX8_mayOdds_33 : decode cX8_mayOdds 33 = .ok (.i2l, 1) := by decide +kernel
theorem dX8_mayOdds_34 : decode cX8_mayOdds 34 = .ok (.lreturn, 1) := by decide +kernel
theorem dX8_mayOdds_35 : decode cX8_mayOdds 35 = .ok (.aload_n 0, 1) := by decide +kernel
theorem dX8_mayOdds_36 : decode cX8_mayOdds 36 = .ok (.iload_n 1, 1) := by decide +kernel
theorem dX8_mayOdds_37 : decode cX8_mayOdds 37 = .ok (.iload_n 2, 1) := by decide +kernel
theorem dX8_mayOdds_38 : decode cX8_mayOdds 38 = .ok (.iconst 0, 1) := by decide +kernel
theorem dX8_mayOdds_39 : decode cX8_mayOdds 39 = .ok (.invokevirtual 448, 3) := by decide +kernel
theorem dX8_mayOdds_42 : decode cX8_mayOdds 42 = .ok (.lstore 4, 2) := by decide +kernel
theorem dX8_mayOdds_44 : decode cX8_mayOdds 44 = .ok (.aload_n 0, 1) := by decide +kernel
theorem dX8_mayOdds_45 : decode cX8_mayOdds 45 = .ok (.lload 4, 2) := by decide +kernel
theorem dX8_mayOdds_47 : decode cX8_mayOdds 47 = .ok (.aload_n 0, 1) := by decide +kernel
theorem dX8_mayOdds_48 : decode cX8_mayOdds 48 = .ok (.getfield 439, 3) := by decide +kernel
theorem dX8_mayOdds_51 : decode cX8_mayOdds 51 = .ok (.iload_n 3, 1) := by decide +kernel
theorem dX8_mayOdds_52 : decode cX8_mayOdds 52 = .ok (.invokevirtual 412, 3) := by decide +kernel
theorem dX8_mayOdds_55 : decode cX8_mayOdds 55 = .ok (.lreturn, 1) := by decide +kernel
theorem dX8_freeOdds_0 : decode cX8_freeOdds 0 = .ok (.aload_n 0, 1) := by decide +kernel
theorem dX8_freeOdds_1 : decode cX8_freeOdds 1 = .ok (.iconst 0, 1) := by decide +kernel
theorem dX8_freeOdds_2 : decode cX8_freeOdds 2 = .ok (.putfield 43, 3) := by decide +kernel
theorem dX8_freeOdds_5 : decode cX8_freeOdds 5 = .ok (.aload_n 0, 1) := by decide +kernel
theorem dX8_freeOdds_6 : decode cX8_freeOdds 6 = .ok (.iload_n 1, 1) := by decide +kernel
theorem dX8_freeOdds_7 : decode cX8_freeOdds 7 = .ok (.invokevirtual 345, 3) := by decide +kernel
theorem dX8_freeOdds_10 : decode cX8_freeOdds 10 = .ok (.ifCond .ne 10, 3) := by decide +kernel
theorem dX8_freeOdds_13 : decode cX8_freeOdds 13 = .ok (.aload_n 0, 1) := by decide +kernel
theorem dX8_freeOdds_14 : decode cX8_freeOdds 14 = .ok (.iconst 1, 1) := by decide +kernel
theorem dX8_freeOdds_15 : decode cX8_freeOdds 15 = .ok (.invokevirtual 49, 3) := by decide +kernel
theorem dX8_freeOdds_18 : decode cX8_freeOdds 18 = .ok (.i2l, 1) := by decide +kernel
theorem dX8_freeOdds_19 : decode cX8_freeOdds 19 = .ok (.lreturn, 1) := by decide +kernel
theorem dX8_freeOdds_20 : decode cX8_freeOdds 20 = .ok (.aload_n 0, 1) := by decide +kernel
theorem dX8_freeOdds_21 : decode cX8_freeOdds 21 = .ok (.iload_n 1, 1) := by decide +kernel
theorem dX8_freeOdds_22 : decode cX8_freeOdds 22 = .ok (.iconst (-1), 1) := by decide +kernel
theorem dX8_freeOdds_23 : decode cX8_freeOdds 23 = .ok (.iconst 0, 1) := by decide +kernel
theorem dX8_freeOdds_24 : decode cX8_freeOdds 24 = .ok (.invokevirtual 448, 3) := by decide +kernel
theorem dX8_freeOdds_27 : decode cX8_freeOdds 27 = .ok (.lstore_n 3, 1) := by decide +kernel
theorem dX8_freeOdds_28 : decode cX8_freeOdds 28 = .ok (.aload_n 0, 1) := by decide +kernel
theorem dX8_freeOdds_29 : decode cX8_freeOdds 29 = .ok (.lload_n 3, 1) := by decide +kernel
theorem dX8_freeOdds_30 : decode cX8_freeOdds 30 = .ok (.aload_n 0, 1) := by decide +kernel
theorem dX8_freeOdds_31 : decode cX8_freeOdds 31 = .ok (.getfield 439, 3) := by decide +kernel
theorem dX8_freeOdds_34 : decode cX8_freeOdds 34 = .ok (.iload_n 2, 1) := by decide +kernel
theorem dX8_freeOdds_35 : decode cX8_freeOdds 35 = .ok (.invokevirtual 412, 3) := by decide +kernel
theorem dX8_freeOdds_38 : decode cX8_freeOdds 38 = .ok (.lreturn, 1) := by decide +kernel
theorem dX8_mean_0 : decode cX8_mean 0 = .ok (.aload_n 0, 1) := by decide +kernel
theorem dX8_mean_1 : decode cX8_mean 1 = .ok (.iconst 0, 1) := by decide +kernel
theorem dX8_mean_2 : decode cX8_mean 2 = .ok (.putfield 43, 3) := by decide +kernel
theorem dX8_mean_5 : decode cX8_mean 5 = .ok (.aload_n 0, 1) := by decide +kernel
theorem dX8_mean_6 : decode cX8_mean 6 = .ok (.iload_n 1, 1) := by decide +kernel
theorem dX8_mean_7 : decode cX8_mean 7 = .ok (.invokevirtual 345, 3) := by decide +kernel
theorem dX8_mean_10 : decode cX8_mean 10 = .ok (.ifCond .ne 10, 3) := by decide +kernel
theorem dX8_mean_13 : decode cX8_mean 13 = .ok (.aload_n 0, 1) := by decide +kernel
theorem dX8_mean_14 : decode cX8_mean 14 = .ok (.iconst 1, 1) := by decide +kernel
theorem dX8_mean_15 : decode cX8_mean 15 = .ok (.invokevirtual 49, 3) := by decide +kernel
theorem dX8_mean_18 : decode cX8_mean 18 = .ok (.i2l, 1) := by decide +kernel
theorem dX8_mean_19 : decode cX8_mean 19 = .ok (.lreturn, 1) := by decide +kernel
theorem dX8_mean_20 : decode cX8_mean 20 = .ok (.aload_n 0, 1) := by decide +kernel
theorem dX8_mean_21 : decode cX8_mean 21 = .ok (.iload_n 1, 1) := by decide +kernel
theorem dX8_mean_22 : decode cX8_mean 22 = .ok (.iconst (-1), 1) := by decide +kernel
theorem dX8_mean_23 : decode cX8_mean 23 = .ok (.iconst 1, 1) := by decide +kernel
theorem dX8_mean_24 : decode cX8_mean 24 = .ok (.invokevirtual 448, 3) := by decide +kernel
theorem dX8_mean_27 : decode cX8_mean 27 = .ok (.lstore_n 3, 1) := by decide +kernel
theorem dX8_mean_28 : decode cX8_mean 28 = .ok (.aload_n 0, 1) := by decide +kernel
theorem dX8_mean_29 : decode cX8_mean 29 = .ok (.lload_n 3, 1) := by decide +kernel
theorem dX8_mean_30 : decode cX8_mean 30 = .ok (.aload_n 0, 1) := by decide +kernel
theorem dX8_mean_31 : decode cX8_mean 31 = .ok (.getfield 439, 3) := by decide +kernel
theorem dX8_mean_34 : decode cX8_mean 34 = .ok (.iload_n 2, 1) := by decide +kernel
theorem dX8_mean_35 : decode cX8_mean 35 = .ok (.invokevirtual 412, 3) := by decide +kernel
theorem dX8_mean_38 : decode cX8_mean 38 = .ok (.lreturn, 1) := by decide +kernel
theorem dX8_rainyDay_0 : decode cX8_rainyDay 0 = .ok (.aload_n 0, 1) := by decide +kernel
theorem dX8_rainyDay_1 : decode cX8_rainyDay 1 = .ok (.iconst 1, 1) := by decide +kernel
theorem dX8_rainyDay_2 : decode cX8_rainyDay 2 = .ok (.invokevirtual 387, 3) := by decide +kernel
theorem dX8_rainyDay_5 : decode cX8_rainyDay 5 = .ok (.iconst 0, 1) := by decide +kernel
theorem dX8_rainyDay_6 : decode cX8_rainyDay 6 = .ok (.istore_n 1, 1) := by decide +kernel
theorem dX8_rainyDay_7 : decode cX8_rainyDay 7 = .ok (.iload_n 1, 1) := by decide +kernel
theorem dX8_rainyDay_8 : decode cX8_rainyDay 8 = .ok (.aload_n 0, 1) := by decide +kernel
theorem dX8_rainyDay_9 : decode cX8_rainyDay 9 = .ok (.getfield 306, 3) := by decide +kernel
theorem dX8_rainyDay_12 : decode cX8_rainyDay 12 = .ok (.getfield 240, 3) := by decide +kernel
theorem dX8_rainyDay_15 : decode cX8_rainyDay 15 = .ok (.if_icmp .ge 73, 3) := by decide +kernel
theorem dX8_rainyDay_18 : decode cX8_rainyDay 18 = .ok (.aload_n 0, 1) := by decide +kernel
theorem dX8_rainyDay_19 : decode cX8_rainyDay 19 = .ok (.getfield 21, 3) := by decide +kernel
theorem dX8_rainyDay_22 : decode cX8_rainyDay 22 = .ok (.bipush 8, 2) := by decide +kernel
theorem dX8_rainyDay_24 : decode cX8_rainyDay 24 = .ok (.iload_n 1, 1) := by decide +kernel
theorem dX8_rainyDay_25 : decode cX8_rainyDay 25 = .ok (.iadd, 1) := by decide +kernel
theorem dX8_rainyDay_26 : decode cX8_rainyDay 26 = .ok (.iaload, 1) := by decide +kernel
theorem dX8_rainyDay_27 : decode cX8_rainyDay 27 = .ok (.ifCond .ne 6, 3) := by decide +kernel
theorem dX8_rainyDay_30 : decode cX8_rainyDay 30 = .ok (.goto 52, 3) := by decide +kernel
theorem dX8_rainyDay_33 : decode cX8_rainyDay 33 = .ok (.aload_n 0, 1) := by decide +kernel
theorem dX8_rainyDay_34 : decode cX8_rainyDay 34 = .ok (.ldc2_w 452, 3) := by decide +kernel
theorem dX8_rainyDay_37 : decode cX8_rainyDay 37 = .ok (.aload_n 0, 1) := by decide +kernel
theorem dX8_rainyDay_38 : decode cX8_rainyDay 38 = .ok (.getfield 454, 3) := by decide +kernel
theorem dX8_rainyDay_41 : decode cX8_rainyDay 41 = .ok (.i2l, 1) := by decide +kernel
theorem dX8_rainyDay_42 : decode cX8_rainyDay 42 = .ok (.lmul, 1) := by decide +kernel
theorem dX8_rainyDay_43 : decode cX8_rainyDay 43 = .ok (.ldc2_w 457, 3) := by decide +kernel
theorem dX8_rainyDay_46 : decode cX8_rainyDay 46 = .ok (.ladd, 1) := by decide +kernel
theorem dX8_rainyDay_47 : decode cX8_rainyDay 47 = .ok (.ldc2_w 459, 3) := by decide +kernel
theorem dX8_rainyDay_50 : decode cX8_rainyDay 50 = .ok (.lrem, 1) := by decide +kernel
theorem dX8_rainyDay_51 : decode cX8_rainyDay 51 = .ok (.l2i, 1) := by decide +kernel
theorem dX8_rainyDay_52 : decode cX8_rainyDay 52 = .ok (.putfield 454, 3) := by decide +kernel
theorem dX8_rainyDay_55 : decode cX8_rainyDay 55 = .ok (.aload_n 0, 1) := by decide +kernel
theorem dX8_rainyDay_56 : decode cX8_rainyDay 56 = .ok (.getfield 454, 3) := by decide +kernel
theorem dX8_rainyDay_59 : decode cX8_rainyDay 59 = .ok (.bipush 100, 2) := by decide +kernel
theorem dX8_rainyDay_61 : decode cX8_rainyDay 61 = .ok (.irem, 1) := by decide +kernel
theorem dX8_rainyDay_62 : decode cX8_rainyDay 62 = .ok (.aload_n 0, 1) := by decide +kernel
theorem dX8_rainyDay_63 : decode cX8_rainyDay 63 = .ok (.getfield 306, 3) := by decide +kernel
theorem dX8_rainyDay_66 : decode cX8_rainyDay 66 = .ok (.getfield 215, 3) := by decide +kernel
theorem dX8_rainyDay_69 : decode cX8_rainyDay 69 = .ok (.if_icmp .ge 13, 3) := by decide +kernel
theorem dX8_rainyDay_72 : decode cX8_rainyDay 72 = .ok (.aload_n 0, 1) := by decide +kernel
theorem dX8_rainyDay_73 : decode cX8_rainyDay 73 = .ok (.getfield 21, 3) := by decide +kernel
theorem dX8_rainyDay_76 : decode cX8_rainyDay 76 = .ok (.bipush 8, 2) := by decide +kernel
theorem dX8_rainyDay_78 : decode cX8_rainyDay 78 = .ok (.iload_n 1, 1) := by decide +kernel
theorem dX8_rainyDay_79 : decode cX8_rainyDay 79 = .ok (.iadd, 1) := by decide +kernel
theorem dX8_rainyDay_80 : decode cX8_rainyDay 80 = .ok (.iconst 0, 1) := by decide +kernel
theorem dX8_rainyDay_81 : decode cX8_rainyDay 81 = .ok (.iastore, 1) := by decide +kernel
theorem dX8_rainyDay_82 : decode cX8_rainyDay 82 = .ok (.iinc 1 1, 3) := by decide +kernel
theorem dX8_rainyDay_85 : decode cX8_rainyDay 85 = .ok (.goto (-78), 3) := by decide +kernel
theorem dX8_rainyDay_88 : decode cX8_rainyDay 88 = .ok (.return_, 1) := by decide +kernel
theorem dX8_refusesSeed_0 : decode cX8_refusesSeed 0 = .ok (.iload_n 1, 1) := by decide +kernel
theorem dX8_refusesSeed_1 : decode cX8_refusesSeed 1 = .ok (.ifCond .ne 7, 3) := by decide +kernel
theorem dX8_refusesSeed_4 : decode cX8_refusesSeed 4 = .ok (.iconst 1, 1) := by decide +kernel
theorem dX8_refusesSeed_5 : decode cX8_refusesSeed 5 = .ok (.goto 29, 3) := by decide +kernel
theorem dX8_refusesSeed_8 : decode cX8_refusesSeed 8 = .ok (.iload_n 2, 1) := by decide +kernel
theorem dX8_refusesSeed_9 : decode cX8_refusesSeed 9 = .ok (.iconst 0, 1) := by decide +kernel
theorem dX8_refusesSeed_10 : decode cX8_refusesSeed 10 = .ok (.ldc_w 461, 3) := by decide +kernel
theorem dX8_refusesSeed_13 : decode cX8_refusesSeed 13 = .ok (.invokestatic 126, 3) := by decide +kernel
theorem dX8_refusesSeed_16 : decode cX8_refusesSeed 16 = .ok (.ifCond .eq 17, 3) := by decide +kernel
theorem dX8_refusesSeed_19 : decode cX8_refusesSeed 19 = .ok (.iload_n 3, 1) := by decide +kernel
theorem dX8_refusesSeed_20 : decode cX8_refusesSeed 20 = .ok (.iconst 0, 1) := by decide +kernel
theorem dX8_refusesSeed_21 : decode cX8_refusesSeed 21 = .ok (.bipush 60, 2) := by decide +kernel
theorem dX8_refusesSeed_23 : decode cX8_refusesSeed 23 = .ok (.invokestatic 126, 3) := by decide +kernel
theorem dX8_refusesSeed_26 : decode cX8_refusesSeed 26 = .ok (.ifCond .eq 7, 3) := by decide +kernel
theorem dX8_refusesSeed_29 : decode cX8_refusesSeed 29 = .ok (.iconst 0, 1) := by decide +kernel
theorem dX8_refusesSeed_30 : decode cX8_refusesSeed 30 = .ok (.goto 4, 3) := by decide +kernel
theorem dX8_refusesSeed_33 : decode cX8_refusesSeed 33 = .ok (.iconst 2, 1) := by decide +kernel
theorem dX8_refusesSeed_34 : decode cX8_refusesSeed 34 = .ok (.ireturn, 1) := by decide +kernel
theorem dX8_rained_0 : decode cX8_rained 0 = .ok (.aload_n 0, 1) := by decide +kernel
theorem dX8_rained_1 : decode cX8_rained 1 = .ok (.iconst 0, 1) := by decide +kernel
theorem dX8_rained_2 : decode cX8_rained 2 = .ok (.putfield 43, 3) := by decide +kernel
theorem dX8_rained_5 : decode cX8_rained 5 = .ok (.aload_n 0, 1) := by decide +kernel
theorem dX8_rained_6 : decode cX8_rained 6 = .ok (.aload_n 0, 1) := by decide +kernel
theorem dX8_rained_7 : decode cX8_rained 7 = .ok (.getfield 306, 3) := by decide +kernel
theorem dX8_rained_10 : decode cX8_rained 10 = .ok (.ifnull 7, 3) := by decide +kernel
theorem dX8_rained_13 : decode cX8_rained 13 = .ok (.iconst 1, 1) := by decide +kernel
theorem dX8_rained_14 : decode cX8_rained 14 = .ok (.goto 4, 3) := by decide +kernel
theorem dX8_rained_17 : decode cX8_rained 17 = .ok (.iconst 0, 1) := by decide +kernel
theorem dX8_rained_18 : decode cX8_rained 18 = .ok (.iload_n 1, 1) := by decide +kernel
theorem dX8_rained_19 : decode cX8_rained 19 = .ok (.iload_n 2, 1) := by decide +kernel
theorem dX8_rained_20 : decode cX8_rained 20 = .ok (.invokevirtual 462, 3) := by decide +kernel
theorem dX8_rained_23 : decode cX8_rained 23 = .ok (.istore_n 3, 1) := by decide +kernel
theorem dX8_rained_24 : decode cX8_rained 24 = .ok (.iload_n 3, 1) := by decide +kernel
theorem dX8_rained_25 : decode cX8_rained 25 = .ok (.ifCond .le 9, 3) := by decide +kernel
theorem dX8_rained_28 : decode cX8_rained 28 = .ok (.aload_n 0, 1) := by decide +kernel
theorem dX8_rained_29 : decode cX8_rained 29 = .ok (.iload_n 3, 1) := by decide +kernel
theorem dX8_rained_30 : decode cX8_rained 30 = .ok (.invokevirtual 49, 3) := by decide +kernel
theorem dX8_rained_33 : decode cX8_rained 33 = .ok (.ireturn, 1) := by decide +kernel
theorem dX8_rained_34 : decode cX8_rained 34 = .ok (.aload_n 0, 1) := by decide +kernel
theorem dX8_rained_35 : decode cX8_rained 35 = .ok (.invokevirtual 326, 3) := by decide +kernel
theorem dX8_rained_38 : decode cX8_rained 38 = .ok (.aload_n 0, 1) := by decide +kernel
theorem dX8_rained_39 : decode cX8_rained 39 = .ok (.iload_n 1, 1) := by decide +kernel
theorem dX8_rained_40 : decode cX8_rained 40 = .ok (.putfield 454, 3) := by decide +kernel
theorem dX8_rained_43 : decode cX8_rained 43 = .ok (.iconst 0, 1) := by decide +kernel
theorem dX8_rained_44 : decode cX8_rained 44 = .ok (.istore 4, 2) := by decide +kernel
theorem dX8_rained_46 : decode cX8_rained 46 = .ok (.iload 4, 2) := by decide +kernel
theorem dX8_rained_48 : decode cX8_rained 48 = .ok (.iload_n 2, 1) := by decide +kernel
theorem dX8_rained_49 : decode cX8_rained 49 = .ok (.if_icmp .ge 13, 3) := by decide +kernel
theorem dX8_rained_52 : decode cX8_rained 52 = .ok (.aload_n 0, 1) := by decide +kernel
theorem dX8_rained_53 : decode cX8_rained 53 = .ok (.invokevirtual 466, 3) := by decide +kernel
theorem dX8_rained_56 : decode cX8_rained 56 = .ok (.iinc 4 1, 3) := by decide +kernel
theorem dX8_rained_59 : decode cX8_rained 59 = .ok (.goto (-13), 3) := by decide +kernel
theorem dX8_rained_62 : decode cX8_rained 62 = .ok (.aload_n 0, 1) := by decide +kernel
theorem dX8_rained_63 : decode cX8_rained 63 = .ok (.aload_n 0, 1) := by decide +kernel
theorem dX8_rained_64 : decode cX8_rained 64 = .ok (.invokevirtual 378, 3) := by decide +kernel
theorem dX8_rained_67 : decode cX8_rained 67 = .ok (.invokevirtual 53, 3) := by decide +kernel
theorem dX8_rained_70 : decode cX8_rained 70 = .ok (.ireturn, 1) := by decide +kernel
theorem dX8_freeBy_0 : decode cX8_freeBy 0 = .ok (.aload_n 0, 1) := by decide +kernel
theorem dX8_freeBy_1 : decode cX8_freeBy 1 = .ok (.iconst 0, 1) := by decide +kernel
theorem dX8_freeBy_2 : decode cX8_freeBy 2 = .ok (.putfield 43, 3) := by decide +kernel
theorem dX8_freeBy_5 : decode cX8_freeBy 5 = .ok (.aload_n 0, 1) := by decide +kernel
theorem dX8_freeBy_6 : decode cX8_freeBy 6 = .ok (.aload_n 0, 1) := by decide +kernel
theorem dX8_freeBy_7 : decode cX8_freeBy 7 = .ok (.iload_n 1, 1) := by decide +kernel
theorem dX8_freeBy_8 : decode cX8_freeBy 8 = .ok (.invokevirtual 345, 3) := by decide +kernel
theorem dX8_freeBy_11 : decode cX8_freeBy 11 = .ok (.iload_n 2, 1) := by decide +kernel
theorem dX8_freeBy_12 : decode cX8_freeBy 12 = .ok (.iload_n 3, 1) := by decide +kernel
theorem dX8_freeBy_13 : decode cX8_freeBy 13 = .ok (.invokevirtual 462, 3) := by decide +kernel
theorem dX8_freeBy_16 : decode cX8_freeBy 16 = .ok (.istore 4, 2) := by decide +kernel
theorem dX8_freeBy_18 : decode cX8_freeBy 18 = .ok (.iload 4, 2) := by decide +kernel
theorem dX8_freeBy_20 : decode cX8_freeBy 20 = .ok (.ifCond .le 10, 3) := by decide +kernel
theorem dX8_freeBy_23 : decode cX8_freeBy 23 = .ok (.aload_n 0, 1) := by decide +kernel
theorem dX8_freeBy_24 : decode cX8_freeBy 24 = .ok (.iload 4, 2) := by decide +kernel
theorem dX8_freeBy_26 : decode cX8_freeBy 26 = .ok (.invokevirtual 49, 3) := by decide +kernel
theorem dX8_freeBy_29 : decode cX8_freeBy 29 = .ok (.ireturn, 1) := by decide +kernel
theorem dX8_freeBy_30 : decode cX8_freeBy 30 = .ok (.aload_n 0, 1) := by decide +kernel
theorem dX8_freeBy_31 : decode cX8_freeBy 31 = .ok (.invokevirtual 354, 3) := by decide +kernel
theorem dX8_freeBy_34 : decode cX8_freeBy 34 = .ok (.aload_n 0, 1) := by decide +kernel
theorem dX8_freeBy_35 : decode cX8_freeBy 35 = .ok (.iload_n 2, 1) := by decide +kernel
theorem dX8_freeBy_36 : decode cX8_freeBy 36 = .ok (.putfield 454, 3) := by decide +kernel
theorem dX8_freeBy_39 : decode cX8_freeBy 39 = .ok (.iconst 0, 1) := by decide +kernel
theorem dX8_freeBy_40 : decode cX8_freeBy 40 = .ok (.istore 5, 2) := by decide +kernel
theorem dX8_freeBy_42 : decode cX8_freeBy 42 = .ok (.iload 5, 2) := by decide +kernel
theorem dX8_freeBy_44 : decode cX8_freeBy 44 = .ok (.iload_n 3, 1) := by decide +kernel
theorem dX8_freeBy_45 : decode cX8_freeBy 45 = .ok (.if_icmp .gt 28, 3) := by decide +kernel
theorem dX8_freeBy_48 : decode cX8_freeBy 48 = .ok (.aload_n 0, 1) := by decide +kernel
theorem dX8_freeBy_49 : decode cX8_freeBy 49 = .ok (.iload_n 1, 1) := by decide +kernel
theorem dX8_freeBy_50 : decode cX8_freeBy 50 = .ok (.invokevirtual 371, 3) := by decide +kernel
theorem dX8_freeBy_53 : decode cX8_freeBy 53 = .ok (.ifCond .ne 10, 3) := by decide +kernel
theorem dX8_freeBy_56 : decode cX8_freeBy 56 = .ok (.aload_n 0, 1) := by decide +kernel
theorem dX8_freeBy_57 : decode cX8_freeBy 57 = .ok (.iload 5, 2) := by decide +kernel
theorem dX8_freeBy_59 : decode cX8_freeBy 59 = .ok (.invokevirtual 53, 3) := by decide +kernel
theorem dX8_freeBy_62 : decode cX8_freeBy 62 = .ok (.ireturn, 1) := by decide +kernel
theorem dX8_freeBy_63 : decode cX8_freeBy 63 = .ok (.aload_n 0, 1) := by decide +kernel
theorem dX8_freeBy_64 : decode cX8_freeBy 64 = .ok (.invokevirtual 466, 3) := by decide +kernel
theorem dX8_freeBy_67 : decode cX8_freeBy 67 = .ok (.iinc 5 1, 3) := by decide +kernel
theorem dX8_freeBy_70 : decode cX8_freeBy 70 = .ok (.goto (-28), 3) := by decide +kernel
theorem dX8_freeBy_73 : decode cX8_freeBy 73 = .ok (.aload_n 0, 1) := by decide +kernel
theorem dX8_freeBy_74 : decode cX8_freeBy 74 = .ok (.bipush (-2), 2) := by decide +kernel
theorem dX8_freeBy_76 : decode cX8_freeBy 76 = .ok (.invokevirtual 53, 3) := by decide +kernel
theorem dX8_freeBy_79 : decode cX8_freeBy 79 = .ok (.ireturn, 1) := by decide +kernel
theorem dX8_remembers_0 : decode cX8_remembers 0 = .ok (.aload_n 0, 1) := by decide +kernel
theorem dX8_remembers_1 : decode cX8_remembers 1 = .ok (.getfield 311, 3) := by decide +kernel
theorem dX8_remembers_4 : decode cX8_remembers 4 = .ok (.bipush 16, 2) := by decide +kernel
theorem dX8_remembers_6 : decode cX8_remembers 6 = .ok (.if_icmp .ne 43, 3) := by decide +kernel
theorem dX8_remembers_9 : decode cX8_remembers 9 = .ok (.iconst 0, 1) := by decide +kernel
theorem dX8_remembers_10 : decode cX8_remembers 10 = .ok (.istore_n 1, 1) := by decide +kernel
theorem dX8_remembers_11 : decode cX8_remembers 11 = .ok (.iload_n 1, 1) := by decide +kernel
theorem dX8_remembers_12 : decode cX8_remembers 12 = .ok (.sipush 375, 3) := by decide +kernel
theorem dX8_remembers_15 : decode cX8_remembers 15 = .ok (.if_icmp .ge 24, 3) := by decide +kernel
theorem dX8_remembers_18 : decode cX8_remembers 18 = .ok (.aload_n 0, 1) := by decide +kernel
theorem dX8_remembers_19 : decode cX8_remembers 19 = .ok (.getfield 24, 3) := by decide +kernel
theorem dX8_remembers_22 : decode cX8_remembers 22 = .ok (.iload_n 1, 1) := by decide +kernel
theorem dX8_remembers_23 : decode cX8_remembers 23 = .ok (.aload_n 0, 1) := by decide +kernel
theorem dX8_remembers_24 : decode cX8_remembers 24 = .ok (.getfield 24, 3) := by decide +kernel
theorem dX8_remembers_27 : decode cX8_remembers 27 = .ok (.iload_n 1, 1) := by decide +kernel
theorem dX8_remembers_28 : decode cX8_remembers 28 = .ok (.bipush 25, 2) := by decide +kernel
theorem dX8_remembers_30 : decode cX8_remembers 30 = .ok (.iadd, 1) := by decide +kernel
theorem dX8_remembers_31 : decode cX8_remembers 31 = .ok (.iaload, 1) := by decide +kernel
theorem dX8_remembers_32 : decode cX8_remembers 32 = .ok (.iastore, 1) := by decide +kernel
theorem dX8_remembers_33 : decode cX8_remembers 33 = .ok (.iinc 1 1, 3) := by decide +kernel
theorem dX8_remembers_36 : decode cX8_remembers 36 = .ok (.goto (-25), 3) := by decide +kernel
theorem dX8_remembers_39 : decode cX8_remembers 39 = .ok (.aload_n 0, 1) := by decide +kernel
theorem dX8_remembers_40 : decode cX8_remembers 40 = .ok (.dup, 1) := by decide +kernel
theorem dX8_remembers_41 : decode cX8_remembers 41 = .ok (.getfield 311, 3) := by decide +kernel
theorem dX8_remembers_44 : decode cX8_remembers 44 = .ok (.iconst 1, 1) := by decide +kernel
theorem dX8_remembers_45 : decode cX8_remembers 45 = .ok (.isub, 1) := by decide +kernel
theorem dX8_remembers_46 : decode cX8_remembers 46 = .ok (.putfield 311, 3) := by decide +kernel
theorem dX8_remembers_49 : decode cX8_remembers 49 = .ok (.iconst 0, 1) := by decide +kernel
theorem dX8_remembers_50 : decode cX8_remembers 50 = .ok (.istore_n 1, 1) := by decide +kernel
theorem dX8_remembers_51 : decode cX8_remembers 51 = .ok (.iload_n 1, 1) := by decide +kernel
theorem dX8_remembers_52 : decode cX8_remembers 52 = .ok (.bipush 25, 2) := by decide +kernel
theorem dX8_remembers_54 : decode cX8_remembers 54 = .ok (.if_icmp .ge 29, 3) := by decide +kernel
theorem dX8_remembers_57 : decode cX8_remembers 57 = .ok (.aload_n 0, 1) := by decide +kernel
theorem dX8_remembers_58 : decode cX8_remembers 58 = .ok (.getfield 24, 3) := by decide +kernel
theorem dX8_remembers_61 : decode cX8_remembers 61 = .ok (.bipush 25, 2) := by decide +kernel
theorem dX8_remembers_63 : decode cX8_remembers 63 = .ok (.aload_n 0, 1) := by decide +kernel
theorem dX8_remembers_64 : decode cX8_remembers 64 = .ok (.getfield 311, 3) := by decide +kernel
theorem dX8_remembers_67 : decode cX8_remembers 67 = .ok (.imul, 1) := by decide +kernel
theorem dX8_remembers_68 : decode cX8_remembers 68 = .ok (.iload_n 1, 1) := by decide +kernel
theorem dX8_remembers_69 : decode cX8_remembers 69 = .ok (.iadd, 1) := by decide +kernel
theorem dX8_remembers_70 : decode cX8_remembers 70 = .ok (.aload_n 0, 1) := by decide +kernel
theorem dX8_remembers_71 : decode cX8_remembers 71 = .ok (.getfield 17, 3) := by decide +kernel
theorem dX8_remembers_74 : decode cX8_remembers 74 = .ok (.iload_n 1, 1) := by decide +kernel
theorem dX8_remembers_75 : decode cX8_remembers 75 = .ok (.iaload, 1) := by decide +kernel
theorem dX8_remembers_76 : decode cX8_remembers 76 = .ok (.iastore, 1) := by decide +kernel
theorem dX8_remembers_77 : decode cX8_remembers 77 = .ok (.iinc 1 1, 3) := by decide +kernel
theorem dX8_remembers_80 : decode cX8_remembers 80 = .ok (.goto (-29), 3) := by decide +kernel
theorem dX8_remembers_83 : decode cX8_remembers 83 = .ok (.aload_n 0, 1) := by decide +kernel
theorem dX8_remembers_84 : decode cX8_remembers 84 = .ok (.dup, 1) := by decide +kernel
theorem dX8_remembers_85 : decode cX8_remembers 85 = .ok (.getfield 311, 3) := by decide +kernel
theorem dX8_remembers_88 : decode cX8_remembers 88 = .ok (.iconst 1, 1) := by decide +kernel
theorem dX8_remembers_89 : decode cX8_remembers 89 = .ok (.iadd, 1) := by decide +kernel
theorem dX8_remembers_90 : decode cX8_remembers 90 = .ok (.putfield 311, 3) := by decide +kernel
theorem dX8_remembers_93 : decode cX8_remembers 93 = .ok (.return_, 1) := by decide +kernel
theorem dX8_remains_0 : decode cX8_remains 0 = .ok (.iconst 0, 1) := by decide +kernel
theorem dX8_remains_1 : decode cX8_remains 1 = .ok (.istore_n 1, 1) := by decide +kernel
theorem dX8_remains_2 : decode cX8_remains 2 = .ok (.iload_n 1, 1) := by decide +kernel
theorem dX8_remains_3 : decode cX8_remains 3 = .ok (.bipush 25, 2) := by decide +kernel
theorem dX8_remains_5 : decode cX8_remains 5 = .ok (.if_icmp .ge 21, 3) := by decide +kernel
theorem dX8_remains_8 : decode cX8_remains 8 = .ok (.aload_n 0, 1) := by decide +kernel
theorem dX8_remains_9 : decode cX8_remains 9 = .ok (.getfield 17, 3) := by decide +kernel
theorem dX8_remains_12 : decode cX8_remains 12 = .ok (.iload_n 1, 1) := by decide +kernel
theorem dX8_remains_13 : decode cX8_remains 13 = .ok (.aload_n 0, 1) := by decide +kernel
theorem dX8_remains_14 : decode cX8_remains 14 = .ok (.getfield 21, 3) := by decide +kernel
theorem dX8_remains_17 : decode cX8_remains 17 = .ok (.iload_n 1, 1) := by decide +kernel
theorem dX8_remains_18 : decode cX8_remains 18 = .ok (.iaload, 1) := by decide +kernel
theorem dX8_remains_19 : decode cX8_remains 19 = .ok (.iastore, 1) := by decide +kernel
theorem dX8_remains_20 : decode cX8_remains 20 = .ok (.iinc 1 1, 3) := by decide +kernel
theorem dX8_remains_23 : decode cX8_remains 23 = .ok (.goto (-21), 3) := by decide +kernel
theorem dX8_remains_26 : decode cX8_remains 26 = .ok (.return_, 1) := by decide +kernel
theorem dX8_day_0 : decode cX8_day 0 = .ok (.aload_n 0, 1) := by decide +kernel
theorem dX8_day_1 : decode cX8_day 1 = .ok (.iconst 0, 1) := by decide +kernel
theorem dX8_day_2 : decode cX8_day 2 = .ok (.putfield 43, 3) := by decide +kernel
theorem dX8_day_5 : decode cX8_day 5 = .ok (.aload_n 0, 1) := by decide +kernel
theorem dX8_day_6 : decode cX8_day 6 = .ok (.getfield 306, 3) := by decide +kernel
theorem dX8_day_9 : decode cX8_day 9 = .ok (.ifnonnull 9, 3) := by decide +kernel
theorem dX8_day_12 : decode cX8_day 12 = .ok (.aload_n 0, 1) := by decide +kernel
theorem dX8_day_13 : decode cX8_day 13 = .ok (.iconst 1, 1) := by decide +kernel
theorem dX8_day_14 : decode cX8_day 14 = .ok (.invokevirtual 49, 3) := by decide +kernel
theorem dX8_day_17 : decode cX8_day 17 = .ok (.ireturn, 1) := by decide +kernel
theorem dX8_day_18 : decode cX8_day 18 = .ok (.aload_n 0, 1) := by decide +kernel
theorem dX8_day_19 : decode cX8_day 19 = .ok (.getfield 17, 3) := by decide +kernel
theorem dX8_day_22 : decode cX8_day 22 = .ok (.bipush 24, 2) := by decide +kernel
theorem dX8_day_24 : decode cX8_day 24 = .ok (.iaload, 1) := by decide +kernel
theorem dX8_day_25 : decode cX8_day 25 = .ok (.sipush 999, 3) := by decide +kernel
theorem dX8_day_28 : decode cX8_day 28 = .ok (.if_icmp .ne 9, 3) := by decide +kernel
theorem dX8_day_31 : decode cX8_day 31 = .ok (.aload_n 0, 1) := by decide +kernel
theorem dX8_day_32 : decode cX8_day 32 = .ok (.iconst 3, 1) := by decide +kernel
theorem dX8_day_33 : decode cX8_day 33 = .ok (.invokevirtual 49, 3) := by decide +kernel
theorem dX8_day_36 : decode cX8_day 36 = .ok (.ireturn, 1) := by decide +kernel
theorem dX8_day_37 : decode cX8_day 37 = .ok (.aload_n 0, 1) := by decide +kernel
theorem dX8_day_38 : decode cX8_day 38 = .ok (.invokevirtual 469, 3) := by decide +kernel
theorem dX8_day_41 : decode cX8_day 41 = .ok (.aload_n 0, 1) := by decide +kernel
theorem dX8_day_42 : decode cX8_day 42 = .ok (.invokevirtual 326, 3) := by decide +kernel
theorem dX8_day_45 : decode cX8_day 45 = .ok (.aload_n 0, 1) := by decide +kernel
theorem dX8_day_46 : decode cX8_day 46 = .ok (.invokevirtual 378, 3) := by decide +kernel
theorem dX8_day_49 : decode cX8_day 49 = .ok (.istore_n 1, 1) := by decide +kernel
theorem dX8_day_50 : decode cX8_day 50 = .ok (.aload_n 0, 1) := by decide +kernel
theorem dX8_day_51 : decode cX8_day 51 = .ok (.iconst 1, 1) := by decide +kernel
theorem dX8_day_52 : decode cX8_day 52 = .ok (.invokevirtual 387, 3) := by decide +kernel
theorem dX8_day_55 : decode cX8_day 55 = .ok (.aload_n 0, 1) := by decide +kernel
theorem dX8_day_56 : decode cX8_day 56 = .ok (.invokevirtual 472, 3) := by decide +kernel
theorem dX8_day_59 : decode cX8_day 59 = .ok (.aload_n 0, 1) := by decide +kernel
theorem dX8_day_60 : decode cX8_day 60 = .ok (.iload_n 1, 1) := by decide +kernel
theorem dX8_day_61 : decode cX8_day 61 = .ok (.aload_n 0, 1) := by decide +kernel
theorem dX8_day_62 : decode cX8_day 62 = .ok (.invokevirtual 378, 3) := by decide +kernel
theorem dX8_day_65 : decode cX8_day 65 = .ok (.iconst (-1), 1) := by decide +kernel
theorem dX8_day_66 : decode cX8_day 66 = .ok (.ixor, 1) := by decide +kernel
theorem dX8_day_67 : decode cX8_day 67 = .ok (.iand, 1) := by decide +kernel
theorem dX8_day_68 : decode cX8_day 68 = .ok (.invokevirtual 53, 3) := by decide +kernel
theorem dX8_day_71 : decode cX8_day 71 = .ok (.ireturn, 1) := by decide +kernel
theorem dX8_press_0 : decode cX8_press 0 = .ok (.aload_n 0, 1) := by decide +kernel
theorem dX8_press_1 : decode cX8_press 1 = .ok (.iconst 0, 1) := by decide +kernel
theorem dX8_press_2 : decode cX8_press 2 = .ok (.putfield 43, 3) := by decide +kernel
theorem dX8_press_5 : decode cX8_press 5 = .ok (.aload_n 0, 1) := by decide +kernel
theorem dX8_press_6 : decode cX8_press 6 = .ok (.iload_n 1, 1) := by decide +kernel
theorem dX8_press_7 : decode cX8_press 7 = .ok (.invokevirtual 342, 3) := by decide +kernel
theorem dX8_press_10 : decode cX8_press 10 = .ok (.ifCond .eq 11, 3) := by decide +kernel
theorem dX8_press_13 : decode cX8_press 13 = .ok (.aload_n 0, 1) := by decide +kernel
theorem dX8_press_14 : decode cX8_press 14 = .ok (.iload_n 2, 1) := by decide +kernel
theorem dX8_press_15 : decode cX8_press 15 = .ok (.invokevirtual 345, 3) := by decide +kernel
theorem dX8_press_18 : decode cX8_press 18 = .ok (.ifCond .ne 9, 3) := by decide +kernel
theorem dX8_press_21 : decode cX8_press 21 = .ok (.aload_n 0, 1) := by decide +kernel
theorem dX8_press_22 : decode cX8_press 22 = .ok (.iconst 1, 1) := by decide +kernel
theorem dX8_press_23 : decode cX8_press 23 = .ok (.invokevirtual 49, 3) := by decide +kernel
theorem dX8_press_26 : decode cX8_press 26 = .ok (.ireturn, 1) := by decide +kernel
theorem dX8_press_27 : decode cX8_press 27 = .ok (.aload_n 0, 1) := by decide +kernel
theorem dX8_press_28 : decode cX8_press 28 = .ok (.invokevirtual 469, 3) := by decide +kernel
theorem dX8_press_31 : decode cX8_press 31 = .ok (.aload_n 0, 1) := by decide +kernel
theorem dX8_press_32 : decode cX8_press 32 = .ok (.invokevirtual 326, 3) := by decide +kernel
theorem dX8_press_35 : decode cX8_press 35 = .ok (.aload_n 0, 1) := by decide +kernel
theorem dX8_press_36 : decode cX8_press 36 = .ok (.invokevirtual 378, 3) := by decide +kernel
theorem dX8_press_39 : decode cX8_press 39 = .ok (.istore_n 3, 1) := by decide +kernel
theorem dX8_press_40 : decode cX8_press 40 = .ok (.aload_n 0, 1) := by decide +kernel
theorem dX8_press_41 : decode cX8_press 41 = .ok (.iload_n 1, 1) := by decide +kernel
theorem dX8_press_42 : decode cX8_press 42 = .ok (.iload_n 2, 1) := by decide +kernel
theorem dX8_press_43 : decode cX8_press 43 = .ok (.invokevirtual 317, 3) := by decide +kernel
theorem dX8_press_46 : decode cX8_press 46 = .ok (.aload_n 0, 1) := by decide +kernel
theorem dX8_press_47 : decode cX8_press 47 = .ok (.invokevirtual 472, 3) := by decide +kernel
theorem dX8_press_50 : decode cX8_press 50 = .ok (.aload_n 0, 1) := by decide +kernel
theorem dX8_press_51 : decode cX8_press 51 = .ok (.iload_n 3, 1) := by decide +kernel
theorem dX8_press_52 : decode cX8_press 52 = .ok (.aload_n 0, 1) := by decide +kernel
theorem dX8_press_53 : decode cX8_press 53 = .ok (.invokevirtual 378, 3) := by decide +kernel
theorem dX8_press_56 : decode cX8_press 56 = .ok (.iconst (-1), 1) := by decide +kernel
theorem dX8_press_57 : decode cX8_press 57 = .ok (.ixor, 1) := by decide +kernel
theorem dX8_press_58 : decode cX8_press 58 = .ok (.iand, 1) := by decide +kernel
theorem dX8_press_59 : decode cX8_press 59 = .ok (.invokevirtual 53, 3) := by decide +kernel
theorem dX8_press_62 : decode cX8_press 62 = .ok (.ireturn, 1) := by decide +kernel
theorem dX8_wash_0 : decode cX8_wash 0 = .ok (.aload_n 0, 1) := by decide +kernel
theorem dX8_wash_1 : decode cX8_wash 1 = .ok (.iconst 0, 1) := by decide +kernel
theorem dX8_wash_2 : decode cX8_wash 2 = .ok (.putfield 43, 3) := by decide +kernel
theorem dX8_wash_5 : decode cX8_wash 5 = .ok (.aload_n 0, 1) := by decide +kernel
theorem dX8_wash_6 : decode cX8_wash 6 = .ok (.iload_n 1, 1) := by decide +kernel
theorem dX8_wash_7 : decode cX8_wash 7 = .ok (.invokevirtual 342, 3) := by decide +kernel
theorem dX8_wash_10 : decode cX8_wash 10 = .ok (.ifCond .ne 9, 3) := by decide +kernel
theorem dX8_wash_13 : decode cX8_wash 13 = .ok (.aload_n 0, 1) := by decide +kernel
theorem dX8_wash_14 : decode cX8_wash 14 = .ok (.iconst 1, 1) := by decide +kernel
theorem dX8_wash_15 : decode cX8_wash 15 = .ok (.invokevirtual 475, 3) := by decide +kernel
theorem dX8_wash_18 : decode cX8_wash 18 = .ok (.ireturn, 1) := by decide +kernel
theorem dX8_wash_19 : decode cX8_wash 19 = .ok (.aload_n 0, 1) := by decide +kernel
theorem dX8_wash_20 : decode cX8_wash 20 = .ok (.getfield 17, 3) := by decide +kernel
theorem dX8_wash_23 : decode cX8_wash 23 = .ok (.bipush 8, 2) := by decide +kernel
theorem dX8_wash_25 : decode cX8_wash 25 = .ok (.iload_n 1, 1) := by decide +kernel
theorem dX8_wash_26 : decode cX8_wash 26 = .ok (.iadd, 1) := by decide +kernel
theorem dX8_wash_27 : decode cX8_wash 27 = .ok (.iaload, 1) := by decide +kernel
theorem dX8_wash_28 : decode cX8_wash 28 = .ok (.ifCond .ne 9, 3) := by decide +kernel
theorem dX8_wash_31 : decode cX8_wash 31 = .ok (.aload_n 0, 1) := by decide +kernel
theorem dX8_wash_32 : decode cX8_wash 32 = .ok (.iconst 5, 1) := by decide +kernel
theorem dX8_wash_33 : decode cX8_wash 33 = .ok (.invokevirtual 475, 3) := by decide +kernel
theorem dX8_wash_36 : decode cX8_wash 36 = .ok (.ireturn, 1) := by decide +kernel
theorem dX8_wash_37 : decode cX8_wash 37 = .ok (.aload_n 0, 1) := by decide +kernel
theorem dX8_wash_38 : decode cX8_wash 38 = .ok (.invokevirtual 469, 3) := by decide +kernel
theorem dX8_wash_41 : decode cX8_wash 41 = .ok (.aload_n 0, 1) := by decide +kernel
theorem dX8_wash_42 : decode cX8_wash 42 = .ok (.getfield 17, 3) := by decide +kernel
theorem dX8_wash_45 : decode cX8_wash 45 = .ok (.bipush 8, 2) := by decide +kernel
theorem dX8_wash_47 : decode cX8_wash 47 = .ok (.iload_n 1, 1) := by decide +kernel
theorem dX8_wash_48 : decode cX8_wash 48 = .ok (.iadd, 1) := by decide +kernel
theorem dX8_wash_49 : decode cX8_wash 49 = .ok (.iconst 0, 1) := by decide +kernel
theorem dX8_wash_50 : decode cX8_wash 50 = .ok (.iastore, 1) := by decide +kernel
theorem dX8_wash_51 : decode cX8_wash 51 = .ok (.aload_n 0, 1) := by decide +kernel
theorem dX8_wash_52 : decode cX8_wash 52 = .ok (.invokevirtual 478, 3) := by decide +kernel
theorem dX8_wash_55 : decode cX8_wash 55 = .ok (.ireturn, 1) := by decide +kernel
theorem dX8_turn_0 : decode cX8_turn 0 = .ok (.aload_n 0, 1) := by decide +kernel
theorem dX8_turn_1 : decode cX8_turn 1 = .ok (.iconst 0, 1) := by decide +kernel
theorem dX8_turn_2 : decode cX8_turn 2 = .ok (.putfield 43, 3) := by decide +kernel
theorem dX8_turn_5 : decode cX8_turn 5 = .ok (.aload_n 0, 1) := by decide +kernel
theorem dX8_turn_6 : decode cX8_turn 6 = .ok (.iload_n 1, 1) := by decide +kernel
theorem dX8_turn_7 : decode cX8_turn 7 = .ok (.invokevirtual 342, 3) := by decide +kernel
theorem dX8_turn_10 : decode cX8_turn 10 = .ok (.ifCond .ne 9, 3) := by decide +kernel
theorem dX8_turn_13 : decode cX8_turn 13 = .ok (.aload_n 0, 1) := by decide +kernel
theorem dX8_turn_14 : decode cX8_turn 14 = .ok (.iconst 1, 1) := by decide +kernel
theorem dX8_turn_15 : decode cX8_turn 15 = .ok (.invokevirtual 49, 3) := by decide +kernel
theorem dX8_turn_18 : decode cX8_turn 18 = .ok (.ireturn, 1) := by decide +kernel
theorem dX8_turn_19 : decode cX8_turn 19 = .ok (.aload_n 0, 1) := by decide +kernel
theorem dX8_turn_20 : decode cX8_turn 20 = .ok (.invokevirtual 469, 3) := by decide +kernel
theorem dX8_turn_23 : decode cX8_turn 23 = .ok (.aload_n 0, 1) := by decide +kernel
theorem dX8_turn_24 : decode cX8_turn 24 = .ok (.getfield 17, 3) := by decide +kernel
theorem dX8_turn_27 : decode cX8_turn 27 = .ok (.bipush 16, 2) := by decide +kernel
theorem dX8_turn_29 : decode cX8_turn 29 = .ok (.iload_n 1, 1) := by decide +kernel
theorem dX8_turn_30 : decode cX8_turn 30 = .ok (.iadd, 1) := by decide +kernel
theorem dX8_turn_31 : decode cX8_turn 31 = .ok (.iconst 1, 1) := by decide +kernel
theorem dX8_turn_32 : decode cX8_turn 32 = .ok (.aload_n 0, 1) := by decide +kernel
theorem dX8_turn_33 : decode cX8_turn 33 = .ok (.getfield 17, 3) := by decide +kernel
theorem dX8_turn_36 : decode cX8_turn 36 = .ok (.bipush 16, 2) := by decide +kernel
theorem dX8_turn_38 : decode cX8_turn 38 = .ok (.iload_n 1, 1) := by decide +kernel
theorem dX8_turn_39 : decode cX8_turn 39 = .ok (.iadd, 1) := by decide +kernel
theorem dX8_turn_40 : decode cX8_turn 40 = .ok (.iaload, 1) := by decide +kernel
theorem dX8_turn_41 : decode cX8_turn 41 = .ok (.isub, 1) := by decide +kernel
theorem dX8_turn_42 : decode cX8_turn 42 = .ok (.iastore, 1) := by decide +kernel
theorem dX8_turn_43 : decode cX8_turn 43 = .ok (.aload_n 0, 1) := by decide +kernel
theorem dX8_turn_44 : decode cX8_turn 44 = .ok (.aload_n 0, 1) := by decide +kernel
theorem dX8_turn_45 : decode cX8_turn 45 = .ok (.getfield 17, 3) := by decide +kernel
theorem dX8_turn_48 : decode cX8_turn 48 = .ok (.bipush 16, 2) := by decide +kernel
theorem dX8_turn_50 : decode cX8_turn 50 = .ok (.iload_n 1, 1) := by decide +kernel
theorem dX8_turn_51 : decode cX8_turn 51 = .ok (.iadd, 1) := by decide +kernel
theorem dX8_turn_52 : decode cX8_turn 52 = .ok (.iaload, 1) := by decide +kernel
theorem dX8_turn_53 : decode cX8_turn 53 = .ok (.invokevirtual 53, 3) := by decide +kernel
theorem dX8_turn_56 : decode cX8_turn 56 = .ok (.ireturn, 1) := by decide +kernel
theorem dX8_undo_0 : decode cX8_undo 0 = .ok (.aload_n 0, 1) := by decide +kernel
theorem dX8_undo_1 : decode cX8_undo 1 = .ok (.iconst 0, 1) := by decide +kernel
theorem dX8_undo_2 : decode cX8_undo 2 = .ok (.putfield 43, 3) := by decide +kernel
theorem dX8_undo_5 : decode cX8_undo 5 = .ok (.aload_n 0, 1) := by decide +kernel
theorem dX8_undo_6 : decode cX8_undo 6 = .ok (.getfield 306, 3) := by decide +kernel
theorem dX8_undo_9 : decode cX8_undo 9 = .ok (.ifnull 10, 3) := by decide +kernel
theorem dX8_undo_12 : decode cX8_undo 12 = .ok (.aload_n 0, 1) := by decide +kernel
theorem dX8_undo_13 : decode cX8_undo 13 = .ok (.getfield 311, 3) := by decide +kernel
theorem dX8_undo_16 : decode cX8_undo 16 = .ok (.ifCond .ne 10, 3) := by decide +kernel
theorem dX8_undo_19 : decode cX8_undo 19 = .ok (.aload_n 0, 1) := by decide +kernel
theorem dX8_undo_20 : decode cX8_undo 20 = .ok (.bipush 6, 2) := by decide +kernel
theorem dX8_undo_22 : decode cX8_undo 22 = .ok (.invokevirtual 475, 3) := by decide +kernel
theorem dX8_undo_25 : decode cX8_undo 25 = .ok (.ireturn, 1) := by decide +kernel
theorem dX8_undo_26 : decode cX8_undo 26 = .ok (.aload_n 0, 1) := by decide +kernel
theorem dX8_undo_27 : decode cX8_undo 27 = .ok (.dup, 1) := by decide +kernel
theorem dX8_undo_28 : decode cX8_undo 28 = .ok (.getfield 311, 3) := by decide +kernel
theorem dX8_undo_31 : decode cX8_undo 31 = .ok (.iconst 1, 1) := by decide +kernel
theorem dX8_undo_32 : decode cX8_undo 32 = .ok (.isub, 1) := by decide +kernel
theorem dX8_undo_33 : decode cX8_undo 33 = .ok (.putfield 311, 3) := by decide +kernel
theorem dX8_undo_36 : decode cX8_undo 36 = .ok (.iconst 0, 1) := by decide +kernel
theorem dX8_undo_37 : decode cX8_undo 37 = .ok (.istore_n 1, 1) := by decide +kernel
theorem dX8_undo_38 : decode cX8_undo 38 = .ok (.iload_n 1, 1) := by decide +kernel
theorem dX8_undo_39 : decode cX8_undo 39 = .ok (.bipush 25, 2) := by decide +kernel
theorem dX8_undo_41 : decode cX8_undo 41 = .ok (.if_icmp .ge 29, 3) := by decide +kernel
theorem dX8_undo_44 : decode cX8_undo 44 = .ok (.aload_n 0, 1) := by decide +kernel
theorem dX8_undo_45 : decode cX8_undo 45 = .ok (.getfield 17, 3) := by decide +kernel
theorem dX8_undo_48 : decode cX8_undo 48 = .ok (.iload_n 1, 1) := by decide +kernel
theorem dX8_undo_49 : decode cX8_undo 49 = .ok (.aload_n 0, 1) := by decide +kernel
theorem dX8_undo_50 : decode cX8_undo 50 = .ok (.getfield 24, 3) := by decide +kernel
theorem dX8_undo_53 : decode cX8_undo 53 = .ok (.bipush 25, 2) := by decide +kernel
theorem dX8_undo_55 : decode cX8_undo 55 = .ok (.aload_n 0, 1) := by decide +kernel
theorem dX8_undo_56 : decode cX8_undo 56 = .ok (.getfield 311, 3) := by decide +kernel
theorem dX8_undo_59 : decode cX8_undo 59 = .ok (.imul, 1) := by decide +kernel
theorem dX8_undo_60 : decode cX8_undo 60 = .ok (.iload_n 1, 1) := by decide +kernel
theorem dX8_undo_61 : decode cX8_undo 61 = .ok (.iadd, 1) := by decide +kernel
theorem dX8_undo_62 : decode cX8_undo 62 = .ok (.iaload, 1) := by decide +kernel
theorem dX8_undo_63 : decode cX8_undo 63 = .ok (.iastore, 1) := by decide +kernel
theorem dX8_undo_64 : decode cX8_undo 64 = .ok (.iinc 1 1, 3) := by decide +kernel
theorem dX8_undo_67 : decode cX8_undo 67 = .ok (.goto (-29), 3) := by decide +kernel
theorem dX8_undo_70 : decode cX8_undo 70 = .ok (.aload_n 0, 1) := by decide +kernel
theorem dX8_undo_71 : decode cX8_undo 71 = .ok (.invokevirtual 478, 3) := by decide +kernel
theorem dX8_undo_74 : decode cX8_undo 74 = .ok (.ireturn, 1) := by decide +kernel
theorem dX8_image_0 : decode cX8_image 0 = .ok (.aload_n 0, 1) := by decide +kernel
theorem dX8_image_1 : decode cX8_image 1 = .ok (.iconst 0, 1) := by decide +kernel
theorem dX8_image_2 : decode cX8_image 2 = .ok (.putfield 43, 3) := by decide +kernel
theorem dX8_image_5 : decode cX8_image 5 = .ok (.aload_n 0, 1) := by decide +kernel
theorem dX8_image_6 : decode cX8_image 6 = .ok (.getfield 306, 3) := by decide +kernel
theorem dX8_image_9 : decode cX8_image 9 = .ok (.ifnonnull 9, 3) := by decide +kernel
theorem dX8_image_12 : decode cX8_image 12 = .ok (.aload_n 0, 1) := by decide +kernel
theorem dX8_image_13 : decode cX8_image 13 = .ok (.iconst 1, 1) := by decide +kernel
theorem dX8_image_14 : decode cX8_image 14 = .ok (.invokevirtual 49, 3) := by decide +kernel
theorem dX8_image_17 : decode cX8_image 17 = .ok (.ireturn, 1) := by decide +kernel
theorem dX8_image_18 : decode cX8_image 18 = .ok (.aload_n 0, 1) := by decide +kernel
theorem dX8_image_19 : decode cX8_image 19 = .ok (.getfield 314, 3) := by decide +kernel
theorem dX8_image_22 : decode cX8_image 22 = .ok (.iconst 3, 1) := by decide +kernel
theorem dX8_image_23 : decode cX8_image 23 = .ok (.if_icmp .ne 9, 3) := by decide +kernel
theorem dX8_image_26 : decode cX8_image 26 = .ok (.aload_n 0, 1) := by decide +kernel
theorem dX8_image_27 : decode cX8_image 27 = .ok (.iconst 3, 1) := by decide +kernel
theorem dX8_image_28 : decode cX8_image 28 = .ok (.invokevirtual 49, 3) := by decide +kernel
theorem dX8_image_31 : decode cX8_image 31 = .ok (.ireturn, 1) := by decide +kernel
theorem dX8_image_32 : decode cX8_image 32 = .ok (.iconst 0, 1) := by decide +kernel
theorem dX8_image_33 : decode cX8_image 33 = .ok (.istore_n 1, 1) := by decide +kernel
theorem dX8_image_34 : decode cX8_image 34 = .ok (.iload_n 1, 1) := by decide +kernel
theorem dX8_image_35 : decode cX8_image 35 = .ok (.bipush 25, 2) := by decide +kernel
theorem dX8_image_37 : decode cX8_image 37 = .ok (.if_icmp .ge 29, 3) := by decide +kernel
theorem dX8_image_40 : decode cX8_image 40 = .ok (.aload_n 0, 1) := by decide +kernel
theorem dX8_image_41 : decode cX8_image 41 = .ok (.getfield 27, 3) := by decide +kernel
theorem dX8_image_44 : decode cX8_image 44 = .ok (.bipush 25, 2) := by decide +kernel
theorem dX8_image_46 : decode cX8_image 46 = .ok (.aload_n 0, 1) := by decide +kernel
theorem dX8_image_47 : decode cX8_image 47 = .ok (.getfield 314, 3) := by decide +kernel
theorem dX8_image_50 : decode cX8_image 50 = .ok (.imul, 1) := by decide +kernel
theorem dX8_image_51 : decode cX8_image 51 = .ok (.iload_n 1, 1) := by decide +kernel
theorem dX8_image_52 : decode cX8_image 52 = .ok (.iadd, 1) := by decide +kernel
theorem dX8_image_53 : decode cX8_image 53 = .ok (.aload_n 0, 1) := by decide +kernel
theorem dX8_image_54 : decode cX8_image 54 = .ok (.getfield 17, 3) := by decide +kernel
theorem dX8_image_57 : decode cX8_image 57 = .ok (.iload_n 1, 1) := by decide +kernel
theorem dX8_image_58 : decode cX8_image 58 = .ok (.iaload, 1) := by decide +kernel
theorem dX8_image_59 : decode cX8_image 59 = .ok (.iastore, 1) := by decide +kernel
theorem dX8_image_60 : decode cX8_image 60 = .ok (.iinc 1 1, 3) := by decide +kernel
theorem dX8_image_63 : decode cX8_image 63 = .ok (.goto (-29), 3) := by decide +kernel
theorem dX8_image_66 : decode cX8_image 66 = .ok (.aload_n 0, 1) := by decide +kernel
theorem dX8_image_67 : decode cX8_image 67 = .ok (.dup, 1) := by decide +kernel
theorem dX8_image_68 : decode cX8_image 68 = .ok (.getfield 314, 3) := by decide +kernel
theorem dX8_image_71 : decode cX8_image 71 = .ok (.iconst 1, 1) := by decide +kernel
theorem dX8_image_72 : decode cX8_image 72 = .ok (.iadd, 1) := by decide +kernel
theorem dX8_image_73 : decode cX8_image 73 = .ok (.putfield 314, 3) := by decide +kernel
theorem dX8_image_76 : decode cX8_image 76 = .ok (.aload_n 0, 1) := by decide +kernel
theorem dX8_image_77 : decode cX8_image 77 = .ok (.aload_n 0, 1) := by decide +kernel
theorem dX8_image_78 : decode cX8_image 78 = .ok (.getfield 314, 3) := by decide +kernel
theorem dX8_image_81 : decode cX8_image 81 = .ok (.iconst 1, 1) := by decide +kernel
theorem dX8_image_82 : decode cX8_image 82 = .ok (.isub, 1) := by decide +kernel
theorem dX8_image_83 : decode cX8_image 83 = .ok (.invokevirtual 53, 3) := by decide +kernel
theorem dX8_image_86 : decode cX8_image 86 = .ok (.ireturn, 1) := by decide +kernel
theorem dX8_back_0 : decode cX8_back 0 = .ok (.aload_n 0, 1) := by decide +kernel
theorem dX8_back_1 : decode cX8_back 1 = .ok (.iconst 0, 1) := by decide +kernel
theorem dX8_back_2 : decode cX8_back 2 = .ok (.putfield 43, 3) := by decide +kernel
theorem dX8_back_5 : decode cX8_back 5 = .ok (.aload_n 0, 1) := by decide +kernel
theorem dX8_back_6 : decode cX8_back 6 = .ok (.getfield 306, 3) := by decide +kernel
theorem dX8_back_9 : decode cX8_back 9 = .ok (.ifnull 15, 3) := by decide +kernel
theorem dX8_back_12 : decode cX8_back 12 = .ok (.iload_n 1, 1) := by decide +kernel
theorem dX8_back_13 : decode cX8_back 13 = .ok (.ifCond .lt 11, 3) := by decide +kernel
theorem dX8_back_16 : decode cX8_back 16 = .ok (.iload_n 1, 1) := by decide +kernel
theorem dX8_back_17 : decode cX8_back 17 = .ok (.aload_n 0, 1) := by decide +kernel
theorem dX8_back_18 : decode cX8_back 18 = .ok (.getfield 314, 3) := by decide +kernel
theorem dX8_back_21 : decode cX8_back 21 = .ok (.if_icmp .lt 9, 3) := by decide +kernel
theorem dX8_back_24 : decode cX8_back 24 = .ok (.aload_n 0, 1) := by decide +kernel
theorem dX8_back_25 : decode cX8_back 25 = .ok (.iconst 1, 1) := by decide +kernel
theorem dX8_back_26 : decode cX8_back 26 = .ok (.invokevirtual 475, 3) := by decide +kernel
theorem dX8_back_29 : decode cX8_back 29 = .ok (.ireturn, 1) := by decide +kernel
theorem dX8_back_30 : decode cX8_back 30 = .ok (.iconst 0, 1) := by decide +kernel
theorem dX8_back_31 : decode cX8_back 31 = .ok (.istore_n 2, 1) := by decide +kernel
theorem dX8_back_32 : decode cX8_back 32 = .ok (.iload_n 2, 1) := by decide +kernel
theorem dX8_back_33 : decode cX8_back 33 = .ok (.bipush 25, 2) := by decide +kernel
theorem dX8_back_35 : decode cX8_back 35 = .ok (.if_icmp .ge 26, 3) := by decide +kernel
theorem dX8_back_38 : decode cX8_back 38 = .ok (.aload_n 0, 1) := by decide +kernel
theorem dX8_back_39 : decode cX8_back 39 = .ok (.getfield 17, 3) := by decide +kernel
theorem dX8_back_42 : decode cX8_back 42 = .ok (.iload_n 2, 1) := by decide +kernel
theorem dX8_back_43 : decode cX8_back 43 = .ok (.aload_n 0, 1) := by decide +kernel
theorem dX8_back_44 : decode cX8_back 44 = .ok (.getfield 27, 3) := by decide +kernel
theorem dX8_back_47 : decode cX8_back 47 = .ok (.bipush 25, 2) := by decide +kernel
theorem dX8_back_49 : decode cX8_back 49 = .ok (.iload_n 1, 1) := by decide +kernel
theorem dX8_back_50 : decode cX8_back 50 = .ok (.imul, 1) := by decide +kernel
theorem dX8_back_51 : decode cX8_back 51 = .ok (.iload_n 2, 1) := by decide +kernel
theorem dX8_back_52 : decode cX8_back 52 = .ok (.iadd, 1) := by decide +kernel
theorem dX8_back_53 : decode cX8_back 53 = .ok (.iaload, 1) := by decide +kernel
theorem dX8_back_54 : decode cX8_back 54 = .ok (.iastore, 1) := by decide +kernel
theorem dX8_back_55 : decode cX8_back 55 = .ok (.iinc 2 1, 3) := by decide +kernel
theorem dX8_back_58 : decode cX8_back 58 = .ok (.goto (-26), 3) := by decide +kernel
theorem dX8_back_61 : decode cX8_back 61 = .ok (.aload_n 0, 1) := by decide +kernel
theorem dX8_back_62 : decode cX8_back 62 = .ok (.iconst 0, 1) := by decide +kernel
theorem dX8_back_63 : decode cX8_back 63 = .ok (.putfield 311, 3) := by decide +kernel
theorem dX8_back_66 : decode cX8_back 66 = .ok (.aload_n 0, 1) := by decide +kernel
theorem dX8_back_67 : decode cX8_back 67 = .ok (.invokevirtual 478, 3) := by decide +kernel
theorem dX8_back_70 : decode cX8_back 70 = .ok (.ireturn, 1) := by decide +kernel
theorem dX8_led_0 : decode cX8_led 0 = .ok (.aload_n 0, 1) := by decide +kernel
theorem dX8_led_1 : decode cX8_led 1 = .ok (.iconst 0, 1) := by decide +kernel
theorem dX8_led_2 : decode cX8_led 2 = .ok (.putfield 43, 3) := by decide +kernel
theorem dX8_led_5 : decode cX8_led 5 = .ok (.iconst 0, 1) := by decide +kernel
theorem dX8_led_6 : decode cX8_led 6 = .ok (.istore_n 2, 1) := by decide +kernel
theorem dX8_led_7 : decode cX8_led 7 = .ok (.iconst 0, 1) := by decide +kernel
theorem dX8_led_8 : decode cX8_led 8 = .ok (.istore_n 3, 1) := by decide +kernel
theorem dX8_led_9 : decode cX8_led 9 = .ok (.aload_n 0, 1) := by decide +kernel
theorem dX8_led_10 : decode cX8_led 10 = .ok (.getfield 306, 3) := by decide +kernel
theorem dX8_led_13 : decode cX8_led 13 = .ok (.ifnull 45, 3) := by decide +kernel
theorem dX8_led_16 : decode cX8_led 16 = .ok (.iload_n 3, 1) := by decide +kernel
theorem dX8_led_17 : decode cX8_led 17 = .ok (.aload_n 0, 1) := by decide +kernel
theorem dX8_led_18 : decode cX8_led 18 = .ok (.getfield 306, 3) := by decide +kernel
theorem dX8_led_21 : decode cX8_led 21 = .ok (.getfield 240, 3) := by decide +kernel
theorem dX8_led_24 : decode cX8_led 24 = .ok (.if_icmp .ge 34, 3) := by decide +kernel
theorem dX8_led_27 : decode cX8_led 27 = .ok (.aload_n 0, 1) := by decide +kernel
theorem dX8_led_28 : decode cX8_led 28 = .ok (.getfield 17, 3) := by decide +kernel
theorem dX8_led_31 : decode cX8_led 31 = .ok (.bipush 8, 2) := by decide +kernel
theorem dX8_led_33 : decode cX8_led 33 = .ok (.iload_n 3, 1) := by decide +kernel
theorem dX8_led_34 : decode cX8_led 34 = .ok (.iadd, 1) := by decide +kernel
theorem dX8_led_35 : decode cX8_led 35 = .ok (.iaload, 1) := by decide +kernel
theorem dX8_led_36 : decode cX8_led 36 = .ok (.ifCond .le 6, 3) := by decide +kernel
theorem dX8_led_39 : decode cX8_led 39 = .ok (.goto 13, 3) := by decide +kernel
theorem dX8_led_42 : decode cX8_led 42 = .ok (.iload_n 2, 1) := by decide +kernel
theorem dX8_led_43 : decode cX8_led 43 = .ok (.iload_n 1, 1) := by decide +kernel
theorem dX8_led_44 : decode cX8_led 44 = .ok (.if_icmp .ne 5, 3) := by decide +kernel
theorem dX8_led_47 : decode cX8_led 47 = .ok (.iload_n 3, 1) := by decide +kernel
theorem dX8_led_48 : decode cX8_led 48 = .ok (.ireturn, 1) := by decide +kernel
theorem dX8_led_49 : decode cX8_led 49 = .ok (.iinc 2 1, 3) := by decide +kernel
theorem dX8_led_52 : decode cX8_led 52 = .ok (.iinc 3 1, 3) := by decide +kernel
theorem dX8_led_55 : decode cX8_led 55 = .ok (.goto (-46), 3) := by decide +kernel
theorem dX8_led_58 : decode cX8_led 58 = .ok (.aload_n 0, 1) := by decide +kernel
theorem dX8_led_59 : decode cX8_led 59 = .ok (.iconst 1, 1) := by decide +kernel
theorem dX8_led_60 : decode cX8_led 60 = .ok (.putfield 43, 3) := by decide +kernel
theorem dX8_led_63 : decode cX8_led 63 = .ok (.iconst 0, 1) := by decide +kernel
theorem dX8_led_64 : decode cX8_led 64 = .ok (.ireturn, 1) := by decide +kernel
theorem dX8_size_0 : decode cX8_size 0 = .ok (.aload_n 0, 1) := by decide +kernel
theorem dX8_size_1 : decode cX8_size 1 = .ok (.iconst 0, 1) := by decide +kernel
theorem dX8_size_2 : decode cX8_size 2 = .ok (.putfield 43, 3) := by decide +kernel
theorem dX8_size_5 : decode cX8_size 5 = .ok (.iload_n 1, 1) := by decide +kernel
theorem dX8_size_6 : decode cX8_size 6 = .ok (.bipush 11, 2) := by decide +kernel
theorem dX8_size_8 : decode cX8_size 8 = .ok (.if_icmp .ne 8, 3) := by decide +kernel
theorem dX8_size_11 : decode cX8_size 11 = .ok (.aload_n 0, 1) := by decide +kernel
theorem dX8_size_12 : decode cX8_size 12 = .ok (.getfield 299, 3) := by decide +kernel
theorem dX8_size_15 : decode cX8_size 15 = .ok (.ireturn, 1) := by decide +kernel
theorem dX8_size_16 : decode cX8_size 16 = .ok (.iload_n 1, 1) := by decide +kernel
theorem dX8_size_17 : decode cX8_size 17 = .ok (.iconst 0, 1) := by decide +kernel
theorem dX8_size_18 : decode cX8_size 18 = .ok (.bipush 10, 2) := by decide +kernel
theorem dX8_size_20 : decode cX8_size 20 = .ok (.invokestatic 126, 3) := by decide +kernel
theorem dX8_size_23 : decode cX8_size 23 = .ok (.ifCond .ne 5, 3) := by decide +kernel
theorem dX8_size_26 : decode cX8_size 26 = .ok (.iconst (-1), 1) := by decide +kernel
theorem dX8_size_27 : decode cX8_size 27 = .ok (.ireturn, 1) := by decide +kernel
theorem dX8_size_28 : decode cX8_size 28 = .ok (.aload_n 0, 1) := by decide +kernel
theorem dX8_size_29 : decode cX8_size 29 = .ok (.getfield 306, 3) := by decide +kernel
theorem dX8_size_32 : decode cX8_size 32 = .ok (.ifnonnull 5, 3) := by decide +kernel
theorem dX8_size_35 : decode cX8_size 35 = .ok (.iconst 0, 1) := by decide +kernel
theorem dX8_size_36 : decode cX8_size 36 = .ok (.ireturn, 1) := by decide +kernel
theorem dX8_size_37 : decode cX8_size 37 = .ok (.iload_n 1, 1) := by decide +kernel
theorem dX8_size_38 : decode cX8_size 38 = .ok (.tableswitch 131 0 9 #[54, 62, 70, 78, 86, 94, 102, 110, 118, 126], 54) := by decide +kernel
theorem dX8_size_92 : decode cX8_size 92 = .ok (.aload_n 0, 1) := by decide +kernel
theorem dX8_size_93 : decode cX8_size 93 = .ok (.getfield 306, 3) := by decide +kernel
theorem dX8_size_96 : decode cX8_size 96 = .ok (.getfield 146, 3) := by decide +kernel
theorem dX8_size_99 : decode cX8_size 99 = .ok (.ireturn, 1) := by decide +kernel
theorem dX8_size_100 : decode cX8_size 100 = .ok (.aload_n 0, 1) := by decide +kernel
theorem dX8_size_101 : decode cX8_size 101 = .ok (.getfield 306, 3) := by decide +kernel
theorem dX8_size_104 : decode cX8_size 104 = .ok (.getfield 213, 3) := by decide +kernel
theorem dX8_size_107 : decode cX8_size 107 = .ok (.ireturn, 1) := by decide +kernel
theorem dX8_size_108 : decode cX8_size 108 = .ok (.aload_n 0, 1) := by decide +kernel
theorem dX8_size_109 : decode cX8_size 109 = .ok (.getfield 306, 3) := by decide +kernel
theorem dX8_size_112 : decode cX8_size 112 = .ok (.getfield 215, 3) := by decide +kernel
theorem dX8_size_115 : decode cX8_size 115 = .ok (.ireturn, 1) := by decide +kernel
theorem dX8_size_116 : decode cX8_size 116 = .ok (.aload_n 0, 1) := by decide +kernel
theorem dX8_size_117 : decode cX8_size 117 = .ok (.getfield 306, 3) := by decide +kernel
theorem dX8_size_120 : decode cX8_size 120 = .ok (.getfield 180, 3) := by decide +kernel
theorem dX8_size_123 : decode cX8_size 123 = .ok (.ireturn, 1) := by decide +kernel
theorem dX8_size_124 : decode cX8_size 124 = .ok (.aload_n 0, 1) := by decide +kernel
theorem dX8_size_125 : decode cX8_size 125 = .ok (.getfield 306, 3) := by decide +kernel
theorem dX8_size_128 : decode cX8_size 128 = .ok (.getfield 183, 3) := by decide +kernel
theorem dX8_size_131 : decode cX8_size 131 = .ok (.ireturn, 1) := by decide +kernel
theorem dX8_size_132 : decode cX8_size 132 = .ok (.aload_n 0, 1) := by decide +kernel
theorem dX8_size_133 : decode cX8_size 133 = .ok (.getfield 306, 3) := by decide +kernel
theorem dX8_size_136 : decode cX8_size 136 = .ok (.getfield 240, 3) := by decide +kernel
theorem dX8_size_139 : decode cX8_size 139 = .ok (.ireturn, 1) := by decide +kernel
theorem dX8_size_140 : decode cX8_size 140 = .ok (.aload_n 0, 1) := by decide +kernel
theorem dX8_size_141 : decode cX8_size 141 = .ok (.getfield 306, 3) := by decide +kernel
theorem dX8_size_144 : decode cX8_size 144 = .ok (.getfield 266, 3) := by decide +kernel
theorem dX8_size_147 : decode cX8_size 147 = .ok (.ireturn, 1) := by decide +kernel
theorem dX8_size_148 : decode cX8_size 148 = .ok (.aload_n 0, 1) := by decide +kernel
theorem dX8_size_149 : decode cX8_size 149 = .ok (.getfield 306, 3) := by decide +kernel
theorem dX8_size_152 : decode cX8_size 152 = .ok (.getfield 278, 3) := by decide +kernel
theorem dX8_size_155 : decode cX8_size 155 = .ok (.ireturn, 1) := by decide +kernel
theorem dX8_size_156 : decode cX8_size 156 = .ok (.aload_n 0, 1) := by decide +kernel
theorem dX8_size_157 : decode cX8_size 157 = .ok (.getfield 17, 3) := by decide +kernel
theorem dX8_size_160 : decode cX8_size 160 = .ok (.bipush 24, 2) := by decide +kernel
theorem dX8_size_162 : decode cX8_size 162 = .ok (.iaload, 1) := by decide +kernel
theorem dX8_size_163 : decode cX8_size 163 = .ok (.ireturn, 1) := by decide +kernel
theorem dX8_size_164 : decode cX8_size 164 = .ok (.aload_n 0, 1) := by decide +kernel
theorem dX8_size_165 : decode cX8_size 165 = .ok (.getfield 311, 3) := by decide +kernel
theorem dX8_size_168 : decode cX8_size 168 = .ok (.ireturn, 1) := by decide +kernel
theorem dX8_size_169 : decode cX8_size 169 = .ok (.aload_n 0, 1) := by decide +kernel
theorem dX8_size_170 : decode cX8_size 170 = .ok (.getfield 314, 3) := by decide +kernel
theorem dX8_size_173 : decode cX8_size 173 = .ok (.ireturn, 1) := by decide +kernel
theorem dX8_trouble_0 : decode cX8_trouble 0 = .ok (.aload_n 0, 1) := by decide +kernel
theorem dX8_trouble_1 : decode cX8_trouble 1 = .ok (.iconst 0, 1) := by decide +kernel
theorem dX8_trouble_2 : decode cX8_trouble 2 = .ok (.putfield 43, 3) := by decide +kernel
theorem dX8_trouble_5 : decode cX8_trouble 5 = .ok (.aload_n 0, 1) := by decide +kernel
theorem dX8_trouble_6 : decode cX8_trouble 6 = .ok (.getfield 46, 3) := by decide +kernel
theorem dX8_trouble_9 : decode cX8_trouble 9 = .ok (.ireturn, 1) := by decide +kernel
