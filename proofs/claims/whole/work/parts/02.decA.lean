theorem dX0_init_0 : decode cX0_init 0 = .ok (.aload_n 0, 1) := by decide +kernel
theorem dX0_init_1 : decode cX0_init 1 = .ok (.invokespecial 3, 3) := by decide +kernel
theorem dX0_init_4 : decode cX0_init 4 = .ok (.aload_n 0, 1) := by decide +kernel
theorem dX0_init_5 : decode cX0_init 5 = .ok (.bipush 8, 2) := by decide +kernel
theorem dX0_init_7 : decode cX0_init 7 = .ok (.newarray .int, 2) := by decide +kernel
theorem dX0_init_9 : decode cX0_init 9 = .ok (.putfield 9, 3) := by decide +kernel
theorem dX0_init_12 : decode cX0_init 12 = .ok (.aload_n 0, 1) := by decide +kernel
theorem dX0_init_13 : decode cX0_init 13 = .ok (.bipush 8, 2) := by decide +kernel
theorem dX0_init_15 : decode cX0_init 15 = .ok (.newarray .int, 2) := by decide +kernel
theorem dX0_init_17 : decode cX0_init 17 = .ok (.putfield 15, 3) := by decide +kernel
theorem dX0_init_20 : decode cX0_init 20 = .ok (.aload_n 0, 1) := by decide +kernel
theorem dX0_init_21 : decode cX0_init 21 = .ok (.bipush 8, 2) := by decide +kernel
theorem dX0_init_23 : decode cX0_init 23 = .ok (.newarray .int, 2) := by decide +kernel
theorem dX0_init_25 : decode cX0_init 25 = .ok (.putfield 18, 3) := by decide +kernel
theorem dX0_init_28 : decode cX0_init 28 = .ok (.aload_n 0, 1) := by decide +kernel
theorem dX0_init_29 : decode cX0_init 29 = .ok (.bipush 8, 2) := by decide +kernel
theorem dX0_init_31 : decode cX0_init 31 = .ok (.newarray .int, 2) := by decide +kernel
theorem dX0_init_33 : decode cX0_init 33 = .ok (.putfield 21, 3) := by decide +kernel
theorem dX0_init_36 : decode cX0_init 36 = .ok (.aload_n 0, 1) := by decide +kernel
theorem dX0_init_37 : decode cX0_init 37 = .ok (.bipush 8, 2) := by decide +kernel
theorem dX0_init_39 : decode cX0_init 39 = .ok (.newarray .int, 2) := by decide +kernel
theorem dX0_init_41 : decode cX0_init 41 = .ok (.putfield 24, 3) := by decide +kernel
theorem dX0_init_44 : decode cX0_init 44 = .ok (.aload_n 0, 1) := by decide +kernel
theorem dX0_init_45 : decode cX0_init 45 = .ok (.bipush 8, 2) := by decide +kernel
theorem dX0_init_47 : decode cX0_init 47 = .ok (.newarray .long, 2) := by decide +kernel
theorem dX0_init_49 : decode cX0_init 49 = .ok (.putfield 27, 3) := by decide +kernel
theorem dX0_init_52 : decode cX0_init 52 = .ok (.aload_n 0, 1) := by decide +kernel
theorem dX0_init_53 : decode cX0_init 53 = .ok (.bipush 8, 2) := by decide +kernel
theorem dX0_init_55 : decode cX0_init 55 = .ok (.newarray .long, 2) := by decide +kernel
theorem dX0_init_57 : decode cX0_init 57 = .ok (.putfield 31, 3) := by decide +kernel
theorem dX0_init_60 : decode cX0_init 60 = .ok (.aload_n 0, 1) := by decide +kernel
theorem dX0_init_61 : decode cX0_init 61 = .ok (.iconst 5, 1) := by decide +kernel
theorem dX0_init_62 : decode cX0_init 62 = .ok (.newarray .int, 2) := by decide +kernel
theorem dX0_init_64 : decode cX0_init 64 = .ok (.putfield 34, 3) := by decide +kernel
theorem dX0_init_67 : decode cX0_init 67 = .ok (.aload_n 0, 1) := by decide +kernel
theorem dX0_init_68 : decode cX0_init 68 = .ok (.bipush 6, 2) := by decide +kernel
theorem dX0_init_70 : decode cX0_init 70 = .ok (.newarray .int, 2) := by decide +kernel
theorem dX0_init_72 : decode cX0_init 72 = .ok (.putfield 37, 3) := by decide +kernel
theorem dX0_init_75 : decode cX0_init 75 = .ok (.aload_n 0, 1) := by decide +kernel
theorem dX0_init_76 : decode cX0_init 76 = .ok (.bipush 6, 2) := by decide +kernel
theorem dX0_init_78 : decode cX0_init 78 = .ok (.newarray .int, 2) := by decide +kernel
theorem dX0_init_80 : decode cX0_init 80 = .ok (.putfield 40, 3) := by decide +kernel
theorem dX0_init_83 : decode cX0_init 83 = .ok (.aload_n 0, 1) := by decide +kernel
theorem dX0_init_84 : decode cX0_init 84 = .ok (.bipush 6, 2) := by decide +kernel
theorem dX0_init_86 : decode cX0_init 86 = .ok (.newarray .int, 2) := by decide +kernel
theorem dX0_init_88 : decode cX0_init 88 = .ok (.putfield 43, 3) := by decide +kernel
theorem dX0_init_91 : decode cX0_init 91 = .ok (.aload_n 0, 1) := by decide +kernel
theorem dX0_init_92 : decode cX0_init 92 = .ok (.bipush 6, 2) := by decide +kernel
theorem dX0_init_94 : decode cX0_init 94 = .ok (.newarray .boolean, 2) := by decide +kernel
theorem dX0_init_96 : decode cX0_init 96 = .ok (.putfield 46, 3) := by decide +kernel
theorem dX0_init_99 : decode cX0_init 99 = .ok (.return_, 1) := by decide +kernel
theorem dX0_clear_0 : decode cX0_clear 0 = .ok (.aload_n 0, 1) := by decide +kernel
theorem dX0_clear_1 : decode cX0_clear 1 = .ok (.iconst 0, 1) := by decide +kernel
theorem dX0_clear_2 : decode cX0_clear 2 = .ok (.putfield 50, 3) := by decide +kernel
theorem dX0_clear_5 : decode cX0_clear 5 = .ok (.aload_n 0, 1) := by decide +kernel
theorem dX0_clear_6 : decode cX0_clear 6 = .ok (.iconst 0, 1) := by decide +kernel
theorem dX0_clear_7 : decode cX0_clear 7 = .ok (.putfield 54, 3) := by decide +kernel
theorem dX0_clear_10 : decode cX0_clear 10 = .ok (.aload_n 0, 1) := by decide +kernel
theorem dX0_clear_11 : decode cX0_clear 11 = .ok (.iconst 0, 1) := by decide +kernel
theorem dX0_clear_12 : decode cX0_clear 12 = .ok (.putfield 57, 3) := by decide +kernel
theorem dX0_clear_15 : decode cX0_clear 15 = .ok (.aload_n 0, 1) := by decide +kernel
theorem dX0_clear_16 : decode cX0_clear 16 = .ok (.iconst 0, 1) := by decide +kernel
theorem dX0_clear_17 : decode cX0_clear 17 = .ok (.putfield 60, 3) := by decide +kernel
theorem dX0_clear_20 : decode cX0_clear 20 = .ok (.aload_n 0, 1) := by decide +kernel
theorem dX0_clear_21 : decode cX0_clear 21 = .ok (.iconst 0, 1) := by decide +kernel
theorem dX0_clear_22 : decode cX0_clear 22 = .ok (.putfield 63, 3) := by decide +kernel
theorem dX0_clear_25 : decode cX0_clear 25 = .ok (.aload_n 0, 1) := by decide +kernel
theorem dX0_clear_26 : decode cX0_clear 26 = .ok (.iconst 0, 1) := by decide +kernel
theorem dX0_clear_27 : decode cX0_clear 27 = .ok (.putfield 66, 3) := by decide +kernel
theorem dX0_clear_30 : decode cX0_clear 30 = .ok (.aload_n 0, 1) := by decide +kernel
theorem dX0_clear_31 : decode cX0_clear 31 = .ok (.iconst 0, 1) := by decide +kernel
theorem dX0_clear_32 : decode cX0_clear 32 = .ok (.putfield 69, 3) := by decide +kernel
theorem dX0_clear_35 : decode cX0_clear 35 = .ok (.aload_n 0, 1) := by decide +kernel
theorem dX0_clear_36 : decode cX0_clear 36 = .ok (.iconst 0, 1) := by decide +kernel
theorem dX0_clear_37 : decode cX0_clear 37 = .ok (.putfield 72, 3) := by decide +kernel
theorem dX0_clear_40 : decode cX0_clear 40 = .ok (.return_, 1) := by decide +kernel
theorem dX0_addClause_0 : decode cX0_addClause 0 = .ok (.aload_n 0, 1) := by decide +kernel
theorem dX0_addClause_1 : decode cX0_addClause 1 = .ok (.getfield 66, 3) := by decide +kernel
theorem dX0_addClause_4 : decode cX0_addClause 4 = .ok (.bipush 8, 2) := by decide +kernel
theorem dX0_addClause_6 : decode cX0_addClause 6 = .ok (.if_icmp .ge 107, 3) := by decide +kernel
theorem dX0_addClause_9 : decode cX0_addClause 9 = .ok (.aload_n 0, 1) := by decide +kernel
theorem dX0_addClause_10 : decode cX0_addClause 10 = .ok (.getfield 9, 3) := by decide +kernel
theorem dX0_addClause_13 : decode cX0_addClause 13 = .ok (.aload_n 0, 1) := by decide +kernel
theorem dX0_addClause_14 : decode cX0_addClause 14 = .ok (.getfield 66, 3) := by decide +kernel
theorem dX0_addClause_17 : decode cX0_addClause 17 = .ok (.iload_n 1, 1) := by decide +kernel
theorem dX0_addClause_18 : decode cX0_addClause 18 = .ok (.iastore, 1) := by decide +kernel
theorem dX0_addClause_19 : decode cX0_addClause 19 = .ok (.aload_n 0, 1) := by decide +kernel
theorem dX0_addClause_20 : decode cX0_addClause 20 = .ok (.getfield 15, 3) := by decide +kernel
theorem dX0_addClause_23 : decode cX0_addClause 23 = .ok (.aload_n 0, 1) := by decide +kernel
theorem dX0_addClause_24 : decode cX0_addClause 24 = .ok (.getfield 66, 3) := by decide +kernel
theorem dX0_addClause_27 : decode cX0_addClause 27 = .ok (.iload_n 2, 1) := by decide +kernel
theorem dX0_addClause_28 : decode cX0_addClause 28 = .ok (.iastore, 1) := by decide +kernel
theorem dX0_addClause_29 : decode cX0_addClause 29 = .ok (.aload_n 0, 1) := by decide +kernel
theorem dX0_addClause_30 : decode cX0_addClause 30 = .ok (.getfield 18, 3) := by decide +kernel
theorem dX0_addClause_33 : decode cX0_addClause 33 = .ok (.aload_n 0, 1) := by decide +kernel
theorem dX0_addClause_34 : decode cX0_addClause 34 = .ok (.getfield 66, 3) := by decide +kernel
theorem dX0_addClause_37 : decode cX0_addClause 37 = .ok (.iload_n 3, 1) := by decide +kernel
theorem dX0_addClause_38 : decode cX0_addClause 38 = .ok (.iastore, 1) := by decide +kernel
theorem dX0_addClause_39 : decode cX0_addClause 39 = .ok (.aload_n 0, 1) := by decide +kernel
theorem dX0_addClause_40 : decode cX0_addClause 40 = .ok (.getfield 21, 3) := by decide +kernel
theorem dX0_addClause_43 : decode cX0_addClause 43 = .ok (.aload_n 0, 1) := by decide +kernel
theorem dX0_addClause_44 : decode cX0_addClause 44 = .ok (.getfield 66, 3) := by decide +kernel
theorem dX0_addClause_47 : decode cX0_addClause 47 = .ok (.iload 4, 2) := by decide +kernel
theorem dX0_addClause_49 : decode cX0_addClause 49 = .ok (.iastore, 1) := by decide +kernel
theorem dX0_addClause_50 : decode cX0_addClause 50 = .ok (.aload_n 0, 1) := by decide +kernel
theorem dX0_addClause_51 : decode cX0_addClause 51 = .ok (.getfield 24, 3) := by decide +kernel
theorem dX0_addClause_54 : decode cX0_addClause 54 = .ok (.aload_n 0, 1) := by decide +kernel
theorem dX0_addClause_55 : decode cX0_addClause 55 = .ok (.getfield 66, 3) := by decide +kernel
theorem dX0_addClause_58 : decode cX0_addClause 58 = .ok (.iload 5, 2) := by decide +kernel
theorem dX0_addClause_60 : decode cX0_addClause 60 = .ok (.iastore, 1) := by decide +kernel
theorem dX0_addClause_61 : decode cX0_addClause 61 = .ok (.aload_n 0, 1) := by decide +kernel
theorem dX0_addClause_62 : decode cX0_addClause 62 = .ok (.getfield 27, 3) := by decide +kernel
theorem dX0_addClause_65 : decode cX0_addClause 65 = .ok (.aload_n 0, 1) := by decide +kernel
theorem dX0_addClause_66 : decode cX0_addClause 66 = .ok (.getfield 66, 3) := by decide +kernel
theorem dX0_addClause_69 : decode cX0_addClause 69 = .ok (.iload_n 1, 1) := by decide +kernel
theorem dX0_addClause_70 : decode cX0_addClause 70 = .ok (.iload_n 2, 1) := by decide +kernel
theorem dX0_addClause_71 : decode cX0_addClause 71 = .ok (.invokestatic 75, 3) := by decide +kernel
theorem dX0_addClause_74 : decode cX0_addClause 74 = .ok (.iload_n 3, 1) := by decide +kernel
theorem dX0_addClause_75 : decode cX0_addClause 75 = .ok (.invokestatic 75, 3) := by decide +kernel
theorem dX0_addClause_78 : decode cX0_addClause 78 = .ok (.invokestatic 79, 3) := by decide +kernel
theorem dX0_addClause_81 : decode cX0_addClause 81 = .ok (.lastore, 1) := by decide +kernel
theorem dX0_addClause_82 : decode cX0_addClause 82 = .ok (.aload_n 0, 1) := by decide +kernel
theorem dX0_addClause_83 : decode cX0_addClause 83 = .ok (.getfield 31, 3) := by decide +kernel
theorem dX0_addClause_86 : decode cX0_addClause 86 = .ok (.aload_n 0, 1) := by decide +kernel
theorem dX0_addClause_87 : decode cX0_addClause 87 = .ok (.getfield 66, 3) := by decide +kernel
theorem dX0_addClause_90 : decode cX0_addClause 90 = .ok (.iload_n 1, 1) := by decide +kernel
theorem dX0_addClause_91 : decode cX0_addClause 91 = .ok (.iload_n 2, 1) := by decide +kernel
theorem dX0_addClause_92 : decode cX0_addClause 92 = .ok (.invokestatic 75, 3) := by decide +kernel
theorem dX0_addClause_95 : decode cX0_addClause 95 = .ok (.iload_n 3, 1) := by decide +kernel
theorem dX0_addClause_96 : decode cX0_addClause 96 = .ok (.invokestatic 75, 3) := by decide +kernel
theorem dX0_addClause_99 : decode cX0_addClause 99 = .ok (.invokestatic 83, 3) := by decide +kernel
theorem dX0_addClause_102 : decode cX0_addClause 102 = .ok (.lastore, 1) := by decide +kernel
theorem dX0_addClause_103 : decode cX0_addClause 103 = .ok (.aload_n 0, 1) := by decide +kernel
theorem dX0_addClause_104 : decode cX0_addClause 104 = .ok (.dup, 1) := by decide +kernel
theorem dX0_addClause_105 : decode cX0_addClause 105 = .ok (.getfield 66, 3) := by decide +kernel
theorem dX0_addClause_108 : decode cX0_addClause 108 = .ok (.iconst 1, 1) := by decide +kernel
theorem dX0_addClause_109 : decode cX0_addClause 109 = .ok (.iadd, 1) := by decide +kernel
theorem dX0_addClause_110 : decode cX0_addClause 110 = .ok (.putfield 66, 3) := by decide +kernel
theorem dX0_addClause_113 : decode cX0_addClause 113 = .ok (.return_, 1) := by decide +kernel
theorem dX0_addUnsure_0 : decode cX0_addUnsure 0 = .ok (.aload_n 0, 1) := by decide +kernel
theorem dX0_addUnsure_1 : decode cX0_addUnsure 1 = .ok (.getfield 69, 3) := by decide +kernel
theorem dX0_addUnsure_4 : decode cX0_addUnsure 4 = .ok (.iconst 5, 1) := by decide +kernel
theorem dX0_addUnsure_5 : decode cX0_addUnsure 5 = .ok (.if_icmp .ge 23, 3) := by decide +kernel
theorem dX0_addUnsure_8 : decode cX0_addUnsure 8 = .ok (.aload_n 0, 1) := by decide +kernel
theorem dX0_addUnsure_9 : decode cX0_addUnsure 9 = .ok (.getfield 34, 3) := by decide +kernel
theorem dX0_addUnsure_12 : decode cX0_addUnsure 12 = .ok (.aload_n 0, 1) := by decide +kernel
theorem dX0_addUnsure_13 : decode cX0_addUnsure 13 = .ok (.getfield 69, 3) := by decide +kernel
theorem dX0_addUnsure_16 : decode cX0_addUnsure 16 = .ok (.iload_n 1, 1) := by decide +kernel
theorem dX0_addUnsure_17 : decode cX0_addUnsure 17 = .ok (.iastore, 1) := by decide +kernel
theorem dX0_addUnsure_18 : decode cX0_addUnsure 18 = .ok (.aload_n 0, 1) := by decide +kernel
theorem dX0_addUnsure_19 : decode cX0_addUnsure 19 = .ok (.dup, 1) := by decide +kernel
theorem dX0_addUnsure_20 : decode cX0_addUnsure 20 = .ok (.getfield 69, 3) := by decide +kernel
theorem dX0_addUnsure_23 : decode cX0_addUnsure 23 = .ok (.iconst 1, 1) := by decide +kernel
theorem dX0_addUnsure_24 : decode cX0_addUnsure 24 = .ok (.iadd, 1) := by decide +kernel
theorem dX0_addUnsure_25 : decode cX0_addUnsure 25 = .ok (.putfield 69, 3) := by decide +kernel
theorem dX0_addUnsure_28 : decode cX0_addUnsure 28 = .ok (.return_, 1) := by decide +kernel
theorem dX0_addDid_0 : decode cX0_addDid 0 = .ok (.aload_n 0, 1) := by decide +kernel
theorem dX0_addDid_1 : decode cX0_addDid 1 = .ok (.getfield 72, 3) := by decide +kernel
theorem dX0_addDid_4 : decode cX0_addDid 4 = .ok (.bipush 6, 2) := by decide +kernel
theorem dX0_addDid_6 : decode cX0_addDid 6 = .ok (.if_icmp .ge 54, 3) := by decide +kernel
theorem dX0_addDid_9 : decode cX0_addDid 9 = .ok (.aload_n 0, 1) := by decide +kernel
theorem dX0_addDid_10 : decode cX0_addDid 10 = .ok (.getfield 37, 3) := by decide +kernel
theorem dX0_addDid_13 : decode cX0_addDid 13 = .ok (.aload_n 0, 1) := by decide +kernel
theorem dX0_addDid_14 : decode cX0_addDid 14 = .ok (.getfield 72, 3) := by decide +kernel
theorem dX0_addDid_17 : decode cX0_addDid 17 = .ok (.iload_n 1, 1) := by decide +kernel
theorem dX0_addDid_18 : decode cX0_addDid 18 = .ok (.iastore, 1) := by decide +kernel
theorem dX0_addDid_19 : decode cX0_addDid 19 = .ok (.aload_n 0, 1) := by decide +kernel
theorem dX0_addDid_20 : decode cX0_addDid 20 = .ok (.getfield 40, 3) := by decide +kernel
theorem dX0_addDid_23 : decode cX0_addDid 23 = .ok (.aload_n 0, 1) := by decide +kernel
theorem dX0_addDid_24 : decode cX0_addDid 24 = .ok (.getfield 72, 3) := by decide +kernel
theorem dX0_addDid_27 : decode cX0_addDid 27 = .ok (.iload_n 2, 1) := by decide +kernel
theorem dX0_addDid_28 : decode cX0_addDid 28 = .ok (.iastore, 1) := by decide +kernel
theorem dX0_addDid_29 : decode cX0_addDid 29 = .ok (.aload_n 0, 1) := by decide +kernel
theorem dX0_addDid_30 : decode cX0_addDid 30 = .ok (.getfield 46, 3) := by decide +kernel
theorem dX0_addDid_33 : decode cX0_addDid 33 = .ok (.aload_n 0, 1) := by decide +kernel
theorem dX0_addDid_34 : decode cX0_addDid 34 = .ok (.getfield 72, 3) := by decide +kernel
theorem dX0_addDid_37 : decode cX0_addDid 37 = .ok (.iload_n 3, 1) := by decide +kernel
theorem dX0_addDid_38 : decode cX0_addDid 38 = .ok (.bastore, 1) := by decide +kernel
theorem dX0_addDid_39 : decode cX0_addDid 39 = .ok (.aload_n 0, 1) := by decide +kernel
theorem dX0_addDid_40 : decode cX0_addDid 40 = .ok (.getfield 43, 3) := by decide +kernel
theorem dX0_addDid_43 : decode cX0_addDid 43 = .ok (.aload_n 0, 1) := by decide +kernel
theorem dX0_addDid_44 : decode cX0_addDid 44 = .ok (.getfield 72, 3) := by decide +kernel
theorem dX0_addDid_47 : decode cX0_addDid 47 = .ok (.iload 4, 2) := by decide +kernel
theorem dX0_addDid_49 : decode cX0_addDid 49 = .ok (.iastore, 1) := by decide +kernel
theorem dX0_addDid_50 : decode cX0_addDid 50 = .ok (.aload_n 0, 1) := by decide +kernel
theorem dX0_addDid_51 : decode cX0_addDid 51 = .ok (.dup, 1) := by decide +kernel
theorem dX0_addDid_52 : decode cX0_addDid 52 = .ok (.getfield 72, 3) := by decide +kernel
theorem dX0_addDid_55 : decode cX0_addDid 55 = .ok (.iconst 1, 1) := by decide +kernel
theorem dX0_addDid_56 : decode cX0_addDid 56 = .ok (.iadd, 1) := by decide +kernel
theorem dX0_addDid_57 : decode cX0_addDid 57 = .ok (.putfield 72, 3) := by decide +kernel
theorem dX0_addDid_60 : decode cX0_addDid 60 = .ok (.return_, 1) := by decide +kernel
theorem dX0_unsureBits_0 : decode cX0_unsureBits 0 = .ok (.aload_n 0, 1) := by decide +kernel
theorem dX0_unsureBits_1 : decode cX0_unsureBits 1 = .ok (.iconst 1, 1) := by decide +kernel
theorem dX0_unsureBits_2 : decode cX0_unsureBits 2 = .ok (.aload_n 0, 1) := by decide +kernel
theorem dX0_unsureBits_3 : decode cX0_unsureBits 3 = .ok (.getfield 69, 3) := by decide +kernel
theorem dX0_unsureBits_6 : decode cX0_unsureBits 6 = .ok (.ishl, 1) := by decide +kernel
theorem dX0_unsureBits_7 : decode cX0_unsureBits 7 = .ok (.iconst 1, 1) := by decide +kernel
theorem dX0_unsureBits_8 : decode cX0_unsureBits 8 = .ok (.isub, 1) := by decide +kernel
theorem dX0_unsureBits_9 : decode cX0_unsureBits 9 = .ok (.invokevirtual 86, 3) := by decide +kernel
theorem dX0_unsureBits_12 : decode cX0_unsureBits 12 = .ok (.ireturn, 1) := by decide +kernel
theorem dX0_turnedBy_0 : decode cX0_turnedBy 0 = .ok (.iconst 0, 1) := by decide +kernel
theorem dX0_turnedBy_1 : decode cX0_turnedBy 1 = .ok (.istore_n 2, 1) := by decide +kernel
theorem dX0_turnedBy_2 : decode cX0_turnedBy 2 = .ok (.iconst 0, 1) := by decide +kernel
theorem dX0_turnedBy_3 : decode cX0_turnedBy 3 = .ok (.istore_n 3, 1) := by decide +kernel
theorem dX0_turnedBy_4 : decode cX0_turnedBy 4 = .ok (.iload_n 3, 1) := by decide +kernel
theorem dX0_turnedBy_5 : decode cX0_turnedBy 5 = .ok (.aload_n 0, 1) := by decide +kernel
theorem dX0_turnedBy_6 : decode cX0_turnedBy 6 = .ok (.getfield 69, 3) := by decide +kernel
theorem dX0_turnedBy_9 : decode cX0_turnedBy 9 = .ok (.if_icmp .ge 29, 3) := by decide +kernel
theorem dX0_turnedBy_12 : decode cX0_turnedBy 12 = .ok (.iload_n 1, 1) := by decide +kernel
theorem dX0_turnedBy_13 : decode cX0_turnedBy 13 = .ok (.i2l, 1) := by decide +kernel
theorem dX0_turnedBy_14 : decode cX0_turnedBy 14 = .ok (.iload_n 3, 1) := by decide +kernel
theorem dX0_turnedBy_15 : decode cX0_turnedBy 15 = .ok (.invokestatic 90, 3) := by decide +kernel
theorem dX0_turnedBy_18 : decode cX0_turnedBy 18 = .ok (.ifCond .eq 14, 3) := by decide +kernel
theorem dX0_turnedBy_21 : decode cX0_turnedBy 21 = .ok (.iload_n 2, 1) := by decide +kernel
theorem dX0_turnedBy_22 : decode cX0_turnedBy 22 = .ok (.iconst 1, 1) := by decide +kernel
theorem dX0_turnedBy_23 : decode cX0_turnedBy 23 = .ok (.aload_n 0, 1) := by decide +kernel
theorem dX0_turnedBy_24 : decode cX0_turnedBy 24 = .ok (.getfield 34, 3) := by decide +kernel
theorem dX0_turnedBy_27 : decode cX0_turnedBy 27 = .ok (.iload_n 3, 1) := by decide +kernel
theorem dX0_turnedBy_28 : decode cX0_turnedBy 28 = .ok (.iaload, 1) := by decide +kernel
theorem dX0_turnedBy_29 : decode cX0_turnedBy 29 = .ok (.ishl, 1) := by decide +kernel
theorem dX0_turnedBy_30 : decode cX0_turnedBy 30 = .ok (.ior, 1) := by decide +kernel
theorem dX0_turnedBy_31 : decode cX0_turnedBy 31 = .ok (.istore_n 2, 1) := by decide +kernel
theorem dX0_turnedBy_32 : decode cX0_turnedBy 32 = .ok (.iinc 3 1, 3) := by decide +kernel
theorem dX0_turnedBy_35 : decode cX0_turnedBy 35 = .ok (.goto (-31), 3) := by decide +kernel
theorem dX0_turnedBy_38 : decode cX0_turnedBy 38 = .ok (.iload_n 2, 1) := by decide +kernel
theorem dX0_turnedBy_39 : decode cX0_turnedBy 39 = .ok (.ireturn, 1) := by decide +kernel
theorem dX0_isToldTruly_0 : decode cX0_isToldTruly 0 = .ok (.iload_n 1, 1) := by decide +kernel
theorem dX0_isToldTruly_1 : decode cX0_isToldTruly 1 = .ok (.ifCond .lt 11, 3) := by decide +kernel
theorem dX0_isToldTruly_4 : decode cX0_isToldTruly 4 = .ok (.iload_n 1, 1) := by decide +kernel
theorem dX0_isToldTruly_5 : decode cX0_isToldTruly 5 = .ok (.aload_n 0, 1) := by decide +kernel
theorem dX0_isToldTruly_6 : decode cX0_isToldTruly 6 = .ok (.getfield 72, 3) := by decide +kernel
theorem dX0_isToldTruly_9 : decode cX0_isToldTruly 9 = .ok (.if_icmp .lt 5, 3) := by decide +kernel
theorem dX0_isToldTruly_12 : decode cX0_isToldTruly 12 = .ok (.iconst 0, 1) := by decide +kernel
theorem dX0_isToldTruly_13 : decode cX0_isToldTruly 13 = .ok (.ireturn, 1) := by decide +kernel
theorem dX0_isToldTruly_14 : decode cX0_isToldTruly 14 = .ok (.aload_n 2, 1) := by decide +kernel
theorem dX0_isToldTruly_15 : decode cX0_isToldTruly 15 = .ok (.aload_n 0, 1) := by decide +kernel
theorem dX0_isToldTruly_16 : decode cX0_isToldTruly 16 = .ok (.getfield 40, 3) := by decide +kernel
theorem dX0_isToldTruly_19 : decode cX0_isToldTruly 19 = .ok (.iload_n 1, 1) := by decide +kernel
theorem dX0_isToldTruly_20 : decode cX0_isToldTruly 20 = .ok (.iaload, 1) := by decide +kernel
theorem dX0_isToldTruly_21 : decode cX0_isToldTruly 21 = .ok (.invokevirtual 94, 3) := by decide +kernel
theorem dX0_isToldTruly_24 : decode cX0_isToldTruly 24 = .ok (.aload_n 2, 1) := by decide +kernel
theorem dX0_isToldTruly_25 : decode cX0_isToldTruly 25 = .ok (.aload_n 0, 1) := by decide +kernel
theorem dX0_isToldTruly_26 : decode cX0_isToldTruly 26 = .ok (.getfield 37, 3) := by decide +kernel
theorem dX0_isToldTruly_29 : decode cX0_isToldTruly 29 = .ok (.iload_n 1, 1) := by decide +kernel
theorem dX0_isToldTruly_30 : decode cX0_isToldTruly 30 = .ok (.iaload, 1) := by decide +kernel
theorem dX0_isToldTruly_31 : decode cX0_isToldTruly 31 = .ok (.invokevirtual 99, 3) := by decide +kernel
theorem dX0_isToldTruly_34 : decode cX0_isToldTruly 34 = .ok (.iand, 1) := by decide +kernel
theorem dX0_isToldTruly_35 : decode cX0_isToldTruly 35 = .ok (.istore 4, 2) := by decide +kernel
theorem dX0_isToldTruly_37 : decode cX0_isToldTruly 37 = .ok (.aload_n 0, 1) := by decide +kernel
theorem dX0_isToldTruly_38 : decode cX0_isToldTruly 38 = .ok (.getfield 46, 3) := by decide +kernel
theorem dX0_isToldTruly_41 : decode cX0_isToldTruly 41 = .ok (.iload_n 1, 1) := by decide +kernel
theorem dX0_isToldTruly_42 : decode cX0_isToldTruly 42 = .ok (.baload, 1) := by decide +kernel
theorem dX0_isToldTruly_43 : decode cX0_isToldTruly 43 = .ok (.aload_n 0, 1) := by decide +kernel
theorem dX0_isToldTruly_44 : decode cX0_isToldTruly 44 = .ok (.iload 4, 2) := by decide +kernel
theorem dX0_isToldTruly_46 : decode cX0_isToldTruly 46 = .ok (.iload_n 3, 1) := by decide +kernel
theorem dX0_isToldTruly_47 : decode cX0_isToldTruly 47 = .ok (.invokevirtual 102, 3) := by decide +kernel
theorem dX0_isToldTruly_50 : decode cX0_isToldTruly 50 = .ok (.aload_n 0, 1) := by decide +kernel
theorem dX0_isToldTruly_51 : decode cX0_isToldTruly 51 = .ok (.getfield 43, 3) := by decide +kernel
theorem dX0_isToldTruly_54 : decode cX0_isToldTruly 54 = .ok (.iload_n 1, 1) := by decide +kernel
theorem dX0_isToldTruly_55 : decode cX0_isToldTruly 55 = .ok (.iaload, 1) := by decide +kernel
theorem dX0_isToldTruly_56 : decode cX0_isToldTruly 56 = .ok (.invokestatic 90, 3) := by decide +kernel
theorem dX0_isToldTruly_59 : decode cX0_isToldTruly 59 = .ok (.if_icmp .ne 7, 3) := by decide +kernel
theorem dX0_isToldTruly_62 : decode cX0_isToldTruly 62 = .ok (.iconst 1, 1) := by decide +kernel
theorem dX0_isToldTruly_63 : decode cX0_isToldTruly 63 = .ok (.goto 4, 3) := by decide +kernel
theorem dX0_isToldTruly_66 : decode cX0_isToldTruly 66 = .ok (.iconst 0, 1) := by decide +kernel
theorem dX0_isToldTruly_67 : decode cX0_isToldTruly 67 = .ok (.ireturn, 1) := by decide +kernel
theorem dX0_setsWith_0 : decode cX0_setsWith 0 = .ok (.iload_n 0, 1) := by decide +kernel
theorem dX0_setsWith_1 : decode cX0_setsWith 1 = .ok (.ifCond .lt 19, 3) := by decide +kernel
theorem dX0_setsWith_4 : decode cX0_setsWith 4 = .ok (.iload_n 0, 1) := by decide +kernel
theorem dX0_setsWith_5 : decode cX0_setsWith 5 = .ok (.getstatic 106, 3) := by decide +kernel
theorem dX0_setsWith_8 : decode cX0_setsWith 8 = .ok (.arraylength, 1) := by decide +kernel
theorem dX0_setsWith_9 : decode cX0_setsWith 9 = .ok (.if_icmp .ge 11, 3) := by decide +kernel
theorem dX0_setsWith_12 : decode cX0_setsWith 12 = .ok (.getstatic 106, 3) := by decide +kernel
theorem dX0_setsWith_15 : decode cX0_setsWith 15 = .ok (.iload_n 0, 1) := by decide +kernel
theorem dX0_setsWith_16 : decode cX0_setsWith 16 = .ok (.laload, 1) := by decide +kernel
theorem dX0_setsWith_17 : decode cX0_setsWith 17 = .ok (.goto 4, 3) := by decide +kernel
theorem dX0_setsWith_20 : decode cX0_setsWith 20 = .ok (.lconst 0, 1) := by decide +kernel
theorem dX0_setsWith_21 : decode cX0_setsWith 21 = .ok (.lreturn, 1) := by decide +kernel
theorem dX0_allSets_0 : decode cX0_allSets 0 = .ok (.aload_n 0, 1) := by decide +kernel
theorem dX0_allSets_1 : decode cX0_allSets 1 = .ok (.getfield 63, 3) := by decide +kernel
theorem dX0_allSets_4 : decode cX0_allSets 4 = .ok (.bipush 6, 2) := by decide +kernel
theorem dX0_allSets_6 : decode cX0_allSets 6 = .ok (.if_icmp .lt 9, 3) := by decide +kernel
theorem dX0_allSets_9 : decode cX0_allSets 9 = .ok (.ldc2_w 109, 3) := by decide +kernel
theorem dX0_allSets_12 : decode cX0_allSets 12 = .ok (.goto 13, 3) := by decide +kernel
theorem dX0_allSets_15 : decode cX0_allSets 15 = .ok (.lconst 1, 1) := by decide +kernel
theorem dX0_allSets_16 : decode cX0_allSets 16 = .ok (.iconst 1, 1) := by decide +kernel
theorem dX0_allSets_17 : decode cX0_allSets 17 = .ok (.aload_n 0, 1) := by decide +kernel
theorem dX0_allSets_18 : decode cX0_allSets 18 = .ok (.getfield 63, 3) := by decide +kernel
theorem dX0_allSets_21 : decode cX0_allSets 21 = .ok (.ishl, 1) := by decide +kernel
theorem dX0_allSets_22 : decode cX0_allSets 22 = .ok (.lshl, 1) := by decide +kernel
theorem dX0_allSets_23 : decode cX0_allSets 23 = .ok (.lconst 1, 1) := by decide +kernel
theorem dX0_allSets_24 : decode cX0_allSets 24 = .ok (.lsub, 1) := by decide +kernel
theorem dX0_allSets_25 : decode cX0_allSets 25 = .ok (.lreturn, 1) := by decide +kernel
theorem dX0_setsKeeping_0 : decode cX0_setsKeeping 0 = .ok (.aload_n 0, 1) := by decide +kernel
theorem dX0_setsKeeping_1 : decode cX0_setsKeeping 1 = .ok (.invokevirtual 111, 3) := by decide +kernel
theorem dX0_setsKeeping_4 : decode cX0_setsKeeping 4 = .ok (.lstore_n 3, 1) := by decide +kernel
theorem dX0_setsKeeping_5 : decode cX0_setsKeeping 5 = .ok (.iconst 0, 1) := by decide +kernel
theorem dX0_setsKeeping_6 : decode cX0_setsKeeping 6 = .ok (.istore 5, 2) := by decide +kernel
theorem dX0_setsKeeping_8 : decode cX0_setsKeeping 8 = .ok (.iload 5, 2) := by decide +kernel
theorem dX0_setsKeeping_10 : decode cX0_setsKeeping 10 = .ok (.aload_n 0, 1) := by decide +kernel
theorem dX0_setsKeeping_11 : decode cX0_setsKeeping 11 = .ok (.getfield 66, 3) := by decide +kernel
theorem dX0_setsKeeping_14 : decode cX0_setsKeeping 14 = .ok (.if_icmp .ge 56, 3) := by decide +kernel
theorem dX0_setsKeeping_17 : decode cX0_setsKeeping 17 = .ok (.iload 5, 2) := by decide +kernel
theorem dX0_setsKeeping_19 : decode cX0_setsKeeping 19 = .ok (.bipush 8, 2) := by decide +kernel
theorem dX0_setsKeeping_21 : decode cX0_setsKeeping 21 = .ok (.if_icmp .ge 49, 3) := by decide +kernel
theorem dX0_setsKeeping_24 : decode cX0_setsKeeping 24 = .ok (.iload_n 1, 1) := by decide +kernel
theorem dX0_setsKeeping_25 : decode cX0_setsKeeping 25 = .ok (.i2l, 1) := by decide +kernel
theorem dX0_setsKeeping_26 : decode cX0_setsKeeping 26 = .ok (.iload 5, 2) := by decide +kernel
theorem dX0_setsKeeping_28 : decode cX0_setsKeeping 28 = .ok (.invokestatic 90, 3) := by decide +kernel
theorem dX0_setsKeeping_31 : decode cX0_setsKeeping 31 = .ok (.ifCond .eq 33, 3) := by decide +kernel
theorem dX0_setsKeeping_34 : decode cX0_setsKeeping 34 = .ok (.lload_n 3, 1) := by decide +kernel
theorem dX0_setsKeeping_35 : decode cX0_setsKeeping 35 = .ok (.iload_n 2, 1) := by decide +kernel
theorem dX0_setsKeeping_36 : decode cX0_setsKeeping 36 = .ok (.i2l, 1) := by decide +kernel
theorem dX0_setsKeeping_37 : decode cX0_setsKeeping 37 = .ok (.iload 5, 2) := by decide +kernel
theorem dX0_setsKeeping_39 : decode cX0_setsKeeping 39 = .ok (.invokestatic 90, 3) := by decide +kernel
theorem dX0_setsKeeping_42 : decode cX0_setsKeeping 42 = .ok (.ifCond .eq 13, 3) := by decide +kernel
theorem dX0_setsKeeping_45 : decode cX0_setsKeeping 45 = .ok (.aload_n 0, 1) := by decide +kernel
theorem dX0_setsKeeping_46 : decode cX0_setsKeeping 46 = .ok (.getfield 31, 3) := by decide +kernel
theorem dX0_setsKeeping_49 : decode cX0_setsKeeping 49 = .ok (.iload 5, 2) := by decide +kernel
theorem dX0_setsKeeping_51 : decode cX0_setsKeeping 51 = .ok (.laload, 1) := by decide +kernel
theorem dX0_setsKeeping_52 : decode cX0_setsKeeping 52 = .ok (.goto 10, 3) := by decide +kernel
theorem dX0_setsKeeping_55 : decode cX0_setsKeeping 55 = .ok (.aload_n 0, 1) := by decide +kernel
theorem dX0_setsKeeping_56 : decode cX0_setsKeeping 56 = .ok (.getfield 27, 3) := by decide +kernel
theorem dX0_setsKeeping_59 : decode cX0_setsKeeping 59 = .ok (.iload 5, 2) := by decide +kernel
theorem dX0_setsKeeping_61 : decode cX0_setsKeeping 61 = .ok (.laload, 1) := by decide +kernel
theorem dX0_setsKeeping_62 : decode cX0_setsKeeping 62 = .ok (.land, 1) := by decide +kernel
theorem dX0_setsKeeping_63 : decode cX0_setsKeeping 63 = .ok (.lstore_n 3, 1) := by decide +kernel
theorem dX0_setsKeeping_64 : decode cX0_setsKeeping 64 = .ok (.iinc 5 1, 3) := by decide +kernel
theorem dX0_setsKeeping_67 : decode cX0_setsKeeping 67 = .ok (.goto (-59), 3) := by decide +kernel
theorem dX0_setsKeeping_70 : decode cX0_setsKeeping 70 = .ok (.lload_n 3, 1) := by decide +kernel
theorem dX0_setsKeeping_71 : decode cX0_setsKeeping 71 = .ok (.lreturn, 1) := by decide +kernel
theorem dX0_straightOf_0 : decode cX0_straightOf 0 = .ok (.iload_n 0, 1) := by decide +kernel
theorem dX0_straightOf_1 : decode cX0_straightOf 1 = .ok (.tableswitch 63 0 4 #[35, 37, 43, 51, 55], 35) := by decide +kernel
theorem dX0_straightOf_36 : decode cX0_straightOf 36 = .ok (.lload_n 1, 1) := by decide +kernel
theorem dX0_straightOf_37 : decode cX0_straightOf 37 = .ok (.lreturn, 1) := by decide +kernel
theorem dX0_straightOf_38 : decode cX0_straightOf 38 = .ok (.lload_n 1, 1) := by decide +kernel
theorem dX0_straightOf_39 : decode cX0_straightOf 39 = .ok (.ldc2_w 109, 3) := by decide +kernel
theorem dX0_straightOf_42 : decode cX0_straightOf 42 = .ok (.lxor, 1) := by decide +kernel
theorem dX0_straightOf_43 : decode cX0_straightOf 43 = .ok (.lreturn, 1) := by decide +kernel
theorem dX0_straightOf_44 : decode cX0_straightOf 44 = .ok (.lload_n 3, 1) := by decide +kernel
theorem dX0_straightOf_45 : decode cX0_straightOf 45 = .ok (.lload_n 1, 1) := by decide +kernel
theorem dX0_straightOf_46 : decode cX0_straightOf 46 = .ok (.ldc2_w 109, 3) := by decide +kernel
theorem dX0_straightOf_49 : decode cX0_straightOf 49 = .ok (.lxor, 1) := by decide +kernel
theorem dX0_straightOf_50 : decode cX0_straightOf 50 = .ok (.lor, 1) := by decide +kernel
theorem dX0_straightOf_51 : decode cX0_straightOf 51 = .ok (.lreturn, 1) := by decide +kernel
theorem dX0_straightOf_52 : decode cX0_straightOf 52 = .ok (.lload_n 1, 1) := by decide +kernel
theorem dX0_straightOf_53 : decode cX0_straightOf 53 = .ok (.lload_n 3, 1) := by decide +kernel
theorem dX0_straightOf_54 : decode cX0_straightOf 54 = .ok (.lor, 1) := by decide +kernel
theorem dX0_straightOf_55 : decode cX0_straightOf 55 = .ok (.lreturn, 1) := by decide +kernel
theorem dX0_straightOf_56 : decode cX0_straightOf 56 = .ok (.lload_n 1, 1) := by decide +kernel
theorem dX0_straightOf_57 : decode cX0_straightOf 57 = .ok (.lload_n 3, 1) := by decide +kernel
theorem dX0_straightOf_58 : decode cX0_straightOf 58 = .ok (.land, 1) := by decide +kernel
theorem dX0_straightOf_59 : decode cX0_straightOf 59 = .ok (.ldc2_w 109, 3) := by decide +kernel
theorem dX0_straightOf_62 : decode cX0_straightOf 62 = .ok (.lxor, 1) := by decide +kernel
theorem dX0_straightOf_63 : decode cX0_straightOf 63 = .ok (.lreturn, 1) := by decide +kernel
theorem dX0_straightOf_64 : decode cX0_straightOf 64 = .ok (.lload_n 1, 1) := by decide +kernel
theorem dX0_straightOf_65 : decode cX0_straightOf 65 = .ok (.lload_n 3, 1) := by decide +kernel
theorem dX0_straightOf_66 : decode cX0_straightOf 66 = .ok (.lxor, 1) := by decide +kernel
theorem dX0_straightOf_67 : decode cX0_straightOf 67 = .ok (.lreturn, 1) := by decide +kernel
theorem dX0_turnedOf_0 : decode cX0_turnedOf 0 = .ok (.iload_n 0, 1) := by decide +kernel
theorem dX0_turnedOf_1 : decode cX0_turnedOf 1 = .ok (.tableswitch 70 0 4 #[35, 42, 49, 56, 63], 35) := by decide +kernel
theorem dX0_turnedOf_36 : decode cX0_turnedOf 36 = .ok (.iconst 1, 1) := by decide +kernel
theorem dX0_turnedOf_37 : decode cX0_turnedOf 37 = .ok (.lload_n 1, 1) := by decide +kernel
theorem dX0_turnedOf_38 : decode cX0_turnedOf 38 = .ok (.lload_n 3, 1) := by decide +kernel
theorem dX0_turnedOf_39 : decode cX0_turnedOf 39 = .ok (.invokestatic 79, 3) := by decide +kernel
theorem dX0_turnedOf_42 : decode cX0_turnedOf 42 = .ok (.lreturn, 1) := by decide +kernel
theorem dX0_turnedOf_43 : decode cX0_turnedOf 43 = .ok (.iconst 0, 1) := by decide +kernel
theorem dX0_turnedOf_44 : decode cX0_turnedOf 44 = .ok (.lload_n 1, 1) := by decide +kernel
theorem dX0_turnedOf_45 : decode cX0_turnedOf 45 = .ok (.lload_n 3, 1) := by decide +kernel
theorem dX0_turnedOf_46 : decode cX0_turnedOf 46 = .ok (.invokestatic 79, 3) := by decide +kernel
theorem dX0_turnedOf_49 : decode cX0_turnedOf 49 = .ok (.lreturn, 1) := by decide +kernel
theorem dX0_turnedOf_50 : decode cX0_turnedOf 50 = .ok (.iconst 2, 1) := by decide +kernel
theorem dX0_turnedOf_51 : decode cX0_turnedOf 51 = .ok (.lload_n 3, 1) := by decide +kernel
theorem dX0_turnedOf_52 : decode cX0_turnedOf 52 = .ok (.lload_n 1, 1) := by decide +kernel
theorem dX0_turnedOf_53 : decode cX0_turnedOf 53 = .ok (.invokestatic 79, 3) := by decide +kernel
theorem dX0_turnedOf_56 : decode cX0_turnedOf 56 = .ok (.lreturn, 1) := by decide +kernel
theorem dX0_turnedOf_57 : decode cX0_turnedOf 57 = .ok (.iconst 4, 1) := by decide +kernel
theorem dX0_turnedOf_58 : decode cX0_turnedOf 58 = .ok (.lload_n 1, 1) := by decide +kernel
theorem dX0_turnedOf_59 : decode cX0_turnedOf 59 = .ok (.lload_n 3, 1) := by decide +kernel
theorem dX0_turnedOf_60 : decode cX0_turnedOf 60 = .ok (.invokestatic 79, 3) := by decide +kernel
theorem dX0_turnedOf_63 : decode cX0_turnedOf 63 = .ok (.lreturn, 1) := by decide +kernel
theorem dX0_turnedOf_64 : decode cX0_turnedOf 64 = .ok (.iconst 3, 1) := by decide +kernel
theorem dX0_turnedOf_65 : decode cX0_turnedOf 65 = .ok (.lload_n 1, 1) := by decide +kernel
theorem dX0_turnedOf_66 : decode cX0_turnedOf 66 = .ok (.lload_n 3, 1) := by decide +kernel
theorem dX0_turnedOf_67 : decode cX0_turnedOf 67 = .ok (.invokestatic 79, 3) := by decide +kernel
theorem dX0_turnedOf_70 : decode cX0_turnedOf 70 = .ok (.lreturn, 1) := by decide +kernel
theorem dX0_turnedOf_71 : decode cX0_turnedOf 71 = .ok (.iconst 5, 1) := by decide +kernel
theorem dX0_turnedOf_72 : decode cX0_turnedOf 72 = .ok (.lload_n 1, 1) := by decide +kernel
theorem dX0_turnedOf_73 : decode cX0_turnedOf 73 = .ok (.lload_n 3, 1) := by decide +kernel
theorem dX0_turnedOf_74 : decode cX0_turnedOf 74 = .ok (.invokestatic 79, 3) := by decide +kernel
theorem dX0_turnedOf_77 : decode cX0_turnedOf 77 = .ok (.ldc2_w 109, 3) := by decide +kernel
theorem dX0_turnedOf_80 : decode cX0_turnedOf 80 = .ok (.lxor, 1) := by decide +kernel
theorem dX0_turnedOf_81 : decode cX0_turnedOf 81 = .ok (.lreturn, 1) := by decide +kernel
theorem dX1_init_0 : decode cX1_init 0 = .ok (.aload_n 0, 1) := by decide +kernel
theorem dX1_init_1 : decode cX1_init 1 = .ok (.invokespecial 3, 3) := by decide +kernel
theorem dX1_init_4 : decode cX1_init 4 = .ok (.aload_n 0, 1) := by decide +kernel
theorem dX1_init_5 : decode cX1_init 5 = .ok (.bipush 32, 2) := by decide +kernel
theorem dX1_init_7 : decode cX1_init 7 = .ok (.newarray .long, 2) := by decide +kernel
theorem dX1_init_9 : decode cX1_init 9 = .ok (.putfield 9, 3) := by decide +kernel
theorem dX1_init_12 : decode cX1_init 12 = .ok (.return_, 1) := by decide +kernel
theorem dX1_weigh_0 : decode cX1_weigh 0 = .ok (.iconst 0, 1) := by decide +kernel
theorem dX1_weigh_1 : decode cX1_weigh 1 = .ok (.istore_n 3, 1) := by decide +kernel
theorem dX1_weigh_2 : decode cX1_weigh 2 = .ok (.iload_n 3, 1) := by decide +kernel
theorem dX1_weigh_3 : decode cX1_weigh 3 = .ok (.aload_n 0, 1) := by decide +kernel
theorem dX1_weigh_4 : decode cX1_weigh 4 = .ok (.getfield 9, 3) := by decide +kernel
theorem dX1_weigh_7 : decode cX1_weigh 7 = .ok (.arraylength, 1) := by decide +kernel
theorem dX1_weigh_8 : decode cX1_weigh 8 = .ok (.if_icmp .ge 39, 3) := by decide +kernel
theorem dX1_weigh_11 : decode cX1_weigh 11 = .ok (.aload_n 0, 1) := by decide +kernel
theorem dX1_weigh_12 : decode cX1_weigh 12 = .ok (.getfield 9, 3) := by decide +kernel
theorem dX1_weigh_15 : decode cX1_weigh 15 = .ok (.iload_n 3, 1) := by decide +kernel
theorem dX1_weigh_16 : decode cX1_weigh 16 = .ok (.iload_n 3, 1) := by decide +kernel
theorem dX1_weigh_17 : decode cX1_weigh 17 = .ok (.iconst 1, 1) := by decide +kernel
theorem dX1_weigh_18 : decode cX1_weigh 18 = .ok (.aload_n 1, 1) := by decide +kernel
theorem dX1_weigh_19 : decode cX1_weigh 19 = .ok (.getfield 15, 3) := by decide +kernel
theorem dX1_weigh_22 : decode cX1_weigh 22 = .ok (.ishl, 1) := by decide +kernel
theorem dX1_weigh_23 : decode cX1_weigh 23 = .ok (.if_icmp .ge 16, 3) := by decide +kernel
theorem dX1_weigh_26 : decode cX1_weigh 26 = .ok (.aload_n 1, 1) := by decide +kernel
theorem dX1_weigh_27 : decode cX1_weigh 27 = .ok (.aload_n 2, 1) := by decide +kernel
theorem dX1_weigh_28 : decode cX1_weigh 28 = .ok (.aload_n 1, 1) := by decide +kernel
theorem dX1_weigh_29 : decode cX1_weigh 29 = .ok (.iload_n 3, 1) := by decide +kernel
theorem dX1_weigh_30 : decode cX1_weigh 30 = .ok (.invokevirtual 21, 3) := by decide +kernel
theorem dX1_weigh_33 : decode cX1_weigh 33 = .ok (.invokestatic 25, 3) := by decide +kernel
theorem dX1_weigh_36 : decode cX1_weigh 36 = .ok (.goto 4, 3) := by decide +kernel
theorem dX1_weigh_39 : decode cX1_weigh 39 = .ok (.lconst 0, 1) := by decide +kernel
theorem dX1_weigh_40 : decode cX1_weigh 40 = .ok (.lastore, 1) := by decide +kernel
theorem dX1_weigh_41 : decode cX1_weigh 41 = .ok (.iinc 3 1, 3) := by decide +kernel
theorem dX1_weigh_44 : decode cX1_weigh 44 = .ok (.goto (-42), 3) := by decide +kernel
theorem dX1_weigh_47 : decode cX1_weigh 47 = .ok (.return_, 1) := by decide +kernel
theorem dX1_weightOf_0 : decode cX1_weightOf 0 = .ok (.lconst 1, 1) := by decide +kernel
theorem dX1_weightOf_1 : decode cX1_weightOf 1 = .ok (.lstore_n 3, 1) := by decide +kernel
theorem dX1_weightOf_2 : decode cX1_weightOf 2 = .ok (.iconst 0, 1) := by decide +kernel
theorem dX1_weightOf_3 : decode cX1_weightOf 3 = .ok (.istore 5, 2) := by decide +kernel
theorem dX1_weightOf_5 : decode cX1_weightOf 5 = .ok (.iload 5, 2) := by decide +kernel
theorem dX1_weightOf_7 : decode cX1_weightOf 7 = .ok (.aload_n 0, 1) := by decide +kernel
theorem dX1_weightOf_8 : decode cX1_weightOf 8 = .ok (.getfield 29, 3) := by decide +kernel
theorem dX1_weightOf_11 : decode cX1_weightOf 11 = .ok (.if_icmp .ge 39, 3) := by decide +kernel
theorem dX1_weightOf_14 : decode cX1_weightOf 14 = .ok (.lload_n 3, 1) := by decide +kernel
theorem dX1_weightOf_15 : decode cX1_weightOf 15 = .ok (.aload_n 0, 1) := by decide +kernel
theorem dX1_weightOf_16 : decode cX1_weightOf 16 = .ok (.iload 5, 2) := by decide +kernel
theorem dX1_weightOf_18 : decode cX1_weightOf 18 = .ok (.aload_n 1, 1) := by decide +kernel
theorem dX1_weightOf_19 : decode cX1_weightOf 19 = .ok (.iload_n 2, 1) := by decide +kernel
theorem dX1_weightOf_20 : decode cX1_weightOf 20 = .ok (.invokevirtual 32, 3) := by decide +kernel
theorem dX1_weightOf_23 : decode cX1_weightOf 23 = .ok (.ifCond .eq 14, 3) := by decide +kernel
theorem dX1_weightOf_26 : decode cX1_weightOf 26 = .ok (.bipush 100, 2) := by decide +kernel
theorem dX1_weightOf_28 : decode cX1_weightOf 28 = .ok (.aload_n 0, 1) := by decide +kernel
theorem dX1_weightOf_29 : decode cX1_weightOf 29 = .ok (.getfield 36, 3) := by decide +kernel
theorem dX1_weightOf_32 : decode cX1_weightOf 32 = .ok (.isub, 1) := by decide +kernel
theorem dX1_weightOf_33 : decode cX1_weightOf 33 = .ok (.i2l, 1) := by decide +kernel
theorem dX1_weightOf_34 : decode cX1_weightOf 34 = .ok (.goto 8, 3) := by decide +kernel
theorem dX1_weightOf_37 : decode cX1_weightOf 37 = .ok (.aload_n 0, 1) := by decide +kernel
theorem dX1_weightOf_38 : decode cX1_weightOf 38 = .ok (.getfield 36, 3) := by decide +kernel
theorem dX1_weightOf_41 : decode cX1_weightOf 41 = .ok (.i2l, 1) := by decide +kernel
theorem dX1_weightOf_42 : decode cX1_weightOf 42 = .ok (.lmul, 1) := by decide +kernel
theorem dX1_weightOf_43 : decode cX1_weightOf 43 = .ok (.lstore_n 3, 1) := by decide +kernel
theorem dX1_weightOf_44 : decode cX1_weightOf 44 = .ok (.iinc 5 1, 3) := by decide +kernel
theorem dX1_weightOf_47 : decode cX1_weightOf 47 = .ok (.goto (-42), 3) := by decide +kernel
theorem dX1_weightOf_50 : decode cX1_weightOf 50 = .ok (.lload_n 3, 1) := by decide +kernel
theorem dX1_weightOf_51 : decode cX1_weightOf 51 = .ok (.lreturn, 1) := by decide +kernel
theorem dX1_fitting_0 : decode cX1_fitting 0 = .ok (.lconst 0, 1) := by decide +kernel
theorem dX1_fitting_1 : decode cX1_fitting 1 = .ok (.lstore_n 1, 1) := by decide +kernel
theorem dX1_fitting_2 : decode cX1_fitting 2 = .ok (.iconst 0, 1) := by decide +kernel
theorem dX1_fitting_3 : decode cX1_fitting 3 = .ok (.istore_n 3, 1) := by decide +kernel
theorem dX1_fitting_4 : decode cX1_fitting 4 = .ok (.iload_n 3, 1) := by decide +kernel
theorem dX1_fitting_5 : decode cX1_fitting 5 = .ok (.aload_n 0, 1) := by decide +kernel
theorem dX1_fitting_6 : decode cX1_fitting 6 = .ok (.getfield 9, 3) := by decide +kernel
theorem dX1_fitting_9 : decode cX1_fitting 9 = .ok (.arraylength, 1) := by decide +kernel
theorem dX1_fitting_10 : decode cX1_fitting 10 = .ok (.if_icmp .ge 26, 3) := by decide +kernel
theorem dX1_fitting_13 : decode cX1_fitting 13 = .ok (.aload_n 0, 1) := by decide +kernel
theorem dX1_fitting_14 : decode cX1_fitting 14 = .ok (.getfield 9, 3) := by decide +kernel
theorem dX1_fitting_17 : decode cX1_fitting 17 = .ok (.iload_n 3, 1) := by decide +kernel
theorem dX1_fitting_18 : decode cX1_fitting 18 = .ok (.laload, 1) := by decide +kernel
theorem dX1_fitting_19 : decode cX1_fitting 19 = .ok (.lconst 0, 1) := by decide +kernel
theorem dX1_fitting_20 : decode cX1_fitting 20 = .ok (.lcmp, 1) := by decide +kernel
theorem dX1_fitting_21 : decode cX1_fitting 21 = .ok (.ifCond .le 9, 3) := by decide +kernel
theorem dX1_fitting_24 : decode cX1_fitting 24 = .ok (.lload_n 1, 1) := by decide +kernel
theorem dX1_fitting_25 : decode cX1_fitting 25 = .ok (.lconst 1, 1) := by decide +kernel
theorem dX1_fitting_26 : decode cX1_fitting 26 = .ok (.iload_n 3, 1) := by decide +kernel
theorem dX1_fitting_27 : decode cX1_fitting 27 = .ok (.lshl, 1) := by decide +kernel
theorem dX1_fitting_28 : decode cX1_fitting 28 = .ok (.lor, 1) := by decide +kernel
theorem dX1_fitting_29 : decode cX1_fitting 29 = .ok (.lstore_n 1, 1) := by decide +kernel
theorem dX1_fitting_30 : decode cX1_fitting 30 = .ok (.iinc 3 1, 3) := by decide +kernel
theorem dX1_fitting_33 : decode cX1_fitting 33 = .ok (.goto (-29), 3) := by decide +kernel
theorem dX1_fitting_36 : decode cX1_fitting 36 = .ok (.lload_n 1, 1) := by decide +kernel
theorem dX1_fitting_37 : decode cX1_fitting 37 = .ok (.lreturn, 1) := by decide +kernel
theorem dX1_weightWith_0 : decode cX1_weightWith 0 = .ok (.lconst 0, 1) := by decide +kernel
theorem dX1_weightWith_1 : decode cX1_weightWith 1 = .ok (.lstore_n 2, 1) := by decide +kernel
theorem dX1_weightWith_2 : decode cX1_weightWith 2 = .ok (.iconst 0, 1) := by decide +kernel
theorem dX1_weightWith_3 : decode cX1_weightWith 3 = .ok (.istore 4, 2) := by decide +kernel
theorem dX1_weightWith_5 : decode cX1_weightWith 5 = .ok (.iload 4, 2) := by decide +kernel
theorem dX1_weightWith_7 : decode cX1_weightWith 7 = .ok (.aload_n 0, 1) := by decide +kernel
theorem dX1_weightWith_8 : decode cX1_weightWith 8 = .ok (.getfield 9, 3) := by decide +kernel
theorem dX1_weightWith_11 : decode cX1_weightWith 11 = .ok (.arraylength, 1) := by decide +kernel
theorem dX1_weightWith_12 : decode cX1_weightWith 12 = .ok (.if_icmp .ge 27, 3) := by decide +kernel
theorem dX1_weightWith_15 : decode cX1_weightWith 15 = .ok (.iload 4, 2) := by decide +kernel
theorem dX1_weightWith_17 : decode cX1_weightWith 17 = .ok (.iload_n 1, 1) := by decide +kernel
theorem dX1_weightWith_18 : decode cX1_weightWith 18 = .ok (.iand, 1) := by decide +kernel
theorem dX1_weightWith_19 : decode cX1_weightWith 19 = .ok (.iload_n 1, 1) := by decide +kernel
theorem dX1_weightWith_20 : decode cX1_weightWith 20 = .ok (.if_icmp .ne 13, 3) := by decide +kernel
theorem dX1_weightWith_23 : decode cX1_weightWith 23 = .ok (.lload_n 2, 1) := by decide +kernel
theorem dX1_weightWith_24 : decode cX1_weightWith 24 = .ok (.aload_n 0, 1) := by decide +kernel
theorem dX1_weightWith_25 : decode cX1_weightWith 25 = .ok (.getfield 9, 3) := by decide +kernel
theorem dX1_weightWith_28 : decode cX1_weightWith 28 = .ok (.iload 4, 2) := by decide +kernel
theorem dX1_weightWith_30 : decode cX1_weightWith 30 = .ok (.laload, 1) := by decide +kernel
theorem dX1_weightWith_31 : decode cX1_weightWith 31 = .ok (.ladd, 1) := by decide +kernel
theorem dX1_weightWith_32 : decode cX1_weightWith 32 = .ok (.lstore_n 2, 1) := by decide +kernel
theorem dX1_weightWith_33 : decode cX1_weightWith 33 = .ok (.iinc 4 1, 3) := by decide +kernel
theorem dX1_weightWith_36 : decode cX1_weightWith 36 = .ok (.goto (-31), 3) := by decide +kernel
theorem dX1_weightWith_39 : decode cX1_weightWith 39 = .ok (.lload_n 2, 1) := by decide +kernel
theorem dX1_weightWith_40 : decode cX1_weightWith 40 = .ok (.lreturn, 1) := by decide +kernel
theorem dX1_likeliestSet_0 : decode cX1_likeliestSet 0 = .ok (.bipush (-2), 2) := by decide +kernel
theorem dX1_likeliestSet_2 : decode cX1_likeliestSet 2 = .ok (.istore_n 1, 1) := by decide +kernel
theorem dX1_likeliestSet_3 : decode cX1_likeliestSet 3 = .ok (.lconst 0, 1) := by decide +kernel
theorem dX1_likeliestSet_4 : decode cX1_likeliestSet 4 = .ok (.lstore_n 2, 1) := by decide +kernel
theorem dX1_likeliestSet_5 : decode cX1_likeliestSet 5 = .ok (.iconst 0, 1) := by decide +kernel
theorem dX1_likeliestSet_6 : decode cX1_likeliestSet 6 = .ok (.istore 4, 2) := by decide +kernel
theorem dX1_likeliestSet_8 : decode cX1_likeliestSet 8 = .ok (.iload 4, 2) := by decide +kernel
theorem dX1_likeliestSet_10 : decode cX1_likeliestSet 10 = .ok (.aload_n 0, 1) := by decide +kernel
theorem dX1_likeliestSet_11 : decode cX1_likeliestSet 11 = .ok (.getfield 9, 3) := by decide +kernel
theorem dX1_likeliestSet_14 : decode cX1_likeliestSet 14 = .ok (.arraylength, 1) := by decide +kernel
theorem dX1_likeliestSet_15 : decode cX1_likeliestSet 15 = .ok (.if_icmp .ge 32, 3) := by decide +kernel
theorem dX1_likeliestSet_18 : decode cX1_likeliestSet 18 = .ok (.aload_n 0, 1) := by decide +kernel
theorem dX1_likeliestSet_19 : decode cX1_likeliestSet 19 = .ok (.getfield 9, 3) := by decide +kernel
theorem dX1_likeliestSet_22 : decode cX1_likeliestSet 22 = .ok (.iload 4, 2) := by decide +kernel
theorem dX1_likeliestSet_24 : decode cX1_likeliestSet 24 = .ok (.laload, 1) := by decide +kernel
theorem dX1_likeliestSet_25 : decode cX1_likeliestSet 25 = .ok (.lload_n 2, 1) := by decide +kernel
theorem dX1_likeliestSet_26 : decode cX1_likeliestSet 26 = .ok (.lcmp, 1) := by decide +kernel
theorem dX1_likeliestSet_27 : decode cX1_likeliestSet 27 = .ok (.ifCond .le 14, 3) := by decide +kernel
theorem dX1_likeliestSet_30 : decode cX1_likeliestSet 30 = .ok (.aload_n 0, 1) := by decide +kernel
theorem dX1_likeliestSet_31 : decode cX1_likeliestSet 31 = .ok (.getfield 9, 3) := by decide +kernel
theorem dX1_likeliestSet_34 : decode cX1_likeliestSet 34 = .ok (.iload 4, 2) := by decide +kernel
theorem dX1_likeliestSet_36 : decode cX1_likeliestSet 36 = .ok (.laload, 1) := by decide +kernel
theorem dX1_likeliestSet_37 : decode cX1_likeliestSet 37 = .ok (.lstore_n 2, 1) := by decide +kernel
theorem dX1_likeliestSet_38 : decode cX1_likeliestSet 38 = .ok (.iload 4, 2) := by decide +kernel
theorem dX1_likeliestSet_40 : decode cX1_likeliestSet 40 = .ok (.istore_n 1, 1) := by decide +kernel
theorem dX1_likeliestSet_41 : decode cX1_likeliestSet 41 = .ok (.iinc 4 1, 3) := by decide +kernel
theorem dX1_likeliestSet_44 : decode cX1_likeliestSet 44 = .ok (.goto (-36), 3) := by decide +kernel
theorem dX1_likeliestSet_47 : decode cX1_likeliestSet 47 = .ok (.iload_n 1, 1) := by decide +kernel
theorem dX1_likeliestSet_48 : decode cX1_likeliestSet 48 = .ok (.ireturn, 1) := by decide +kernel
theorem dX1_leftAtMost_0 : decode cX1_leftAtMost 0 = .ok (.iconst 0, 1) := by decide +kernel
theorem dX1_leftAtMost_1 : decode cX1_leftAtMost 1 = .ok (.istore_n 2, 1) := by decide +kernel
theorem dX1_leftAtMost_2 : decode cX1_leftAtMost 2 = .ok (.iconst 0, 1) := by decide +kernel
theorem dX1_leftAtMost_3 : decode cX1_leftAtMost 3 = .ok (.istore_n 3, 1) := by decide +kernel
theorem dX1_leftAtMost_4 : decode cX1_leftAtMost 4 = .ok (.iconst 0, 1) := by decide +kernel
theorem dX1_leftAtMost_5 : decode cX1_leftAtMost 5 = .ok (.istore 4, 2) := by decide +kernel
theorem dX1_leftAtMost_7 : decode cX1_leftAtMost 7 = .ok (.iload 4, 2) := by decide +kernel
theorem dX1_leftAtMost_9 : decode cX1_leftAtMost 9 = .ok (.aload_n 0, 1) := by decide +kernel
theorem dX1_leftAtMost_10 : decode cX1_leftAtMost 10 = .ok (.getfield 9, 3) := by decide +kernel
theorem dX1_leftAtMost_13 : decode cX1_leftAtMost 13 = .ok (.arraylength, 1) := by decide +kernel
theorem dX1_leftAtMost_14 : decode cX1_leftAtMost 14 = .ok (.if_icmp .ge 52, 3) := by decide +kernel
theorem dX1_leftAtMost_17 : decode cX1_leftAtMost 17 = .ok (.aload_n 0, 1) := by decide +kernel
theorem dX1_leftAtMost_18 : decode cX1_leftAtMost 18 = .ok (.getfield 9, 3) := by decide +kernel
theorem dX1_leftAtMost_21 : decode cX1_leftAtMost 21 = .ok (.iload 4, 2) := by decide +kernel
theorem dX1_leftAtMost_23 : decode cX1_leftAtMost 23 = .ok (.laload, 1) := by decide +kernel
theorem dX1_leftAtMost_24 : decode cX1_leftAtMost 24 = .ok (.lconst 0, 1) := by decide +kernel
theorem dX1_leftAtMost_25 : decode cX1_leftAtMost 25 = .ok (.lcmp, 1) := by decide +kernel
theorem dX1_leftAtMost_26 : decode cX1_leftAtMost 26 = .ok (.ifCond .le 19, 3) := by decide +kernel
theorem dX1_leftAtMost_29 : decode cX1_leftAtMost 29 = .ok (.iload 4, 2) := by decide +kernel
theorem dX1_leftAtMost_31 : decode cX1_leftAtMost 31 = .ok (.i2l, 1) := by decide +kernel
theorem dX1_leftAtMost_32 : decode cX1_leftAtMost 32 = .ok (.iload_n 1, 1) := by decide +kernel
theorem dX1_leftAtMost_33 : decode cX1_leftAtMost 33 = .ok (.invokestatic 39, 3) := by decide +kernel
theorem dX1_leftAtMost_36 : decode cX1_leftAtMost 36 = .ok (.ifCond .eq 9, 3) := by decide +kernel
theorem dX1_leftAtMost_39 : decode cX1_leftAtMost 39 = .ok (.iinc 2 1, 3) := by decide +kernel
theorem dX1_leftAtMost_42 : decode cX1_leftAtMost 42 = .ok (.goto 18, 3) := by decide +kernel
theorem dX1_leftAtMost_45 : decode cX1_leftAtMost 45 = .ok (.aload_n 0, 1) := by decide +kernel
theorem dX1_leftAtMost_46 : decode cX1_leftAtMost 46 = .ok (.getfield 9, 3) := by decide +kernel
theorem dX1_leftAtMost_49 : decode cX1_leftAtMost 49 = .ok (.iload 4, 2) := by decide +kernel
theorem dX1_leftAtMost_51 : decode cX1_leftAtMost 51 = .ok (.laload, 1) := by decide +kernel
theorem dX1_leftAtMost_52 : decode cX1_leftAtMost 52 = .ok (.lconst 0, 1) := by decide +kernel
theorem dX1_leftAtMost_53 : decode cX1_leftAtMost 53 = .ok (.lcmp, 1) := by decide +kernel
theorem dX1_leftAtMost_54 : decode cX1_leftAtMost 54 = .ok (.ifCond .le 6, 3) := by decide +kernel
theorem dX1_leftAtMost_57 : decode cX1_leftAtMost 57 = .ok (.iinc 3 1, 3) := by decide +kernel
theorem dX1_leftAtMost_60 : decode cX1_leftAtMost 60 = .ok (.iinc 4 1, 3) := by decide +kernel
theorem dX1_leftAtMost_63 : decode cX1_leftAtMost 63 = .ok (.goto (-56), 3) := by decide +kernel
theorem dX1_leftAtMost_66 : decode cX1_leftAtMost 66 = .ok (.iload_n 2, 1) := by decide +kernel
theorem dX1_leftAtMost_67 : decode cX1_leftAtMost 67 = .ok (.iload_n 3, 1) := by decide +kernel
theorem dX1_leftAtMost_68 : decode cX1_leftAtMost 68 = .ok (.invokestatic 43, 3) := by decide +kernel
theorem dX1_leftAtMost_71 : decode cX1_leftAtMost 71 = .ok (.ireturn, 1) := by decide +kernel
theorem dX2_init_0 : decode cX2_init 0 = .ok (.aload_n 0, 1) := by decide +kernel
theorem dX2_init_1 : decode cX2_init 1 = .ok (.invokespecial 3, 3) := by decide +kernel
theorem dX2_init_4 : decode cX2_init 4 = .ok (.aload_n 0, 1) := by decide +kernel
theorem dX2_init_5 : decode cX2_init 5 = .ok (.bipush 8, 2) := by decide +kernel
theorem dX2_init_7 : decode cX2_init 7 = .ok (.newarray .int, 2) := by decide +kernel
theorem dX2_init_9 : decode cX2_init 9 = .ok (.putfield 9, 3) := by decide +kernel
theorem dX2_init_12 : decode cX2_init 12 = .ok (.aload_n 0, 1) := by decide +kernel
theorem dX2_init_13 : decode cX2_init 13 = .ok (.bipush 8, 2) := by decide +kernel
theorem dX2_init_15 : decode cX2_init 15 = .ok (.newarray .int, 2) := by decide +kernel
theorem dX2_init_17 : decode cX2_init 17 = .ok (.putfield 15, 3) := by decide +kernel
theorem dX2_init_20 : decode cX2_init 20 = .ok (.return_, 1) := by decide +kernel
theorem dX2_clear_0 : decode cX2_clear 0 = .ok (.iconst 0, 1) := by decide +kernel
theorem dX2_clear_1 : decode cX2_clear 1 = .ok (.istore_n 1, 1) := by decide +kernel
theorem dX2_clear_2 : decode cX2_clear 2 = .ok (.iload_n 1, 1) := by decide +kernel
theorem dX2_clear_3 : decode cX2_clear 3 = .ok (.bipush 8, 2) := by decide +kernel
theorem dX2_clear_5 : decode cX2_clear 5 = .ok (.if_icmp .ge 23, 3) := by decide +kernel
theorem dX2_clear_8 : decode cX2_clear 8 = .ok (.aload_n 0, 1) := by decide +kernel
theorem dX2_clear_9 : decode cX2_clear 9 = .ok (.getfield 9, 3) := by decide +kernel
theorem dX2_clear_12 : decode cX2_clear 12 = .ok (.iload_n 1, 1) := by decide +kernel
theorem dX2_clear_13 : decode cX2_clear 13 = .ok (.iconst 0, 1) := by decide +kernel
theorem dX2_clear_14 : decode cX2_clear 14 = .ok (.iastore, 1) := by decide +kernel
theorem dX2_clear_15 : decode cX2_clear 15 = .ok (.aload_n 0, 1) := by decide +kernel
theorem dX2_clear_16 : decode cX2_clear 16 = .ok (.getfield 15, 3) := by decide +kernel
theorem dX2_clear_19 : decode cX2_clear 19 = .ok (.iload_n 1, 1) := by decide +kernel
theorem dX2_clear_20 : decode cX2_clear 20 = .ok (.iconst (-1), 1) := by decide +kernel
theorem dX2_clear_21 : decode cX2_clear 21 = .ok (.iastore, 1) := by decide +kernel
theorem dX2_clear_22 : decode cX2_clear 22 = .ok (.iinc 1 1, 3) := by decide +kernel
theorem dX2_clear_25 : decode cX2_clear 25 = .ok (.goto (-23), 3) := by decide +kernel
theorem dX2_clear_28 : decode cX2_clear 28 = .ok (.aload_n 0, 1) := by decide +kernel
theorem dX2_clear_29 : decode cX2_clear 29 = .ok (.iconst 0, 1) := by decide +kernel
theorem dX2_clear_30 : decode cX2_clear 30 = .ok (.putfield 18, 3) := by decide +kernel
theorem dX2_clear_33 : decode cX2_clear 33 = .ok (.aload_n 0, 1) := by decide +kernel
theorem dX2_clear_34 : decode cX2_clear 34 = .ok (.iconst 0, 1) := by decide +kernel
theorem dX2_clear_35 : decode cX2_clear 35 = .ok (.putfield 22, 3) := by decide +kernel
theorem dX2_clear_38 : decode cX2_clear 38 = .ok (.return_, 1) := by decide +kernel
theorem dX2_becomes_0 : decode cX2_becomes 0 = .ok (.iconst 0, 1) := by decide +kernel
theorem dX2_becomes_1 : decode cX2_becomes 1 = .ok (.istore_n 2, 1) := by decide +kernel
theorem dX2_becomes_2 : decode cX2_becomes 2 = .ok (.iload_n 2, 1) := by decide +kernel
theorem dX2_becomes_3 : decode cX2_becomes 3 = .ok (.bipush 8, 2) := by decide +kernel
theorem dX2_becomes_5 : decode cX2_becomes 5 = .ok (.if_icmp .ge 33, 3) := by decide +kernel
theorem dX2_becomes_8 : decode cX2_becomes 8 = .ok (.aload_n 0, 1) := by decide +kernel
theorem dX2_becomes_9 : decode cX2_becomes 9 = .ok (.getfield 9, 3) := by decide +kernel
theorem dX2_becomes_12 : decode cX2_becomes 12 = .ok (.iload_n 2, 1) := by decide +kernel
theorem dX2_becomes_13 : decode cX2_becomes 13 = .ok (.aload_n 1, 1) := by decide +kernel
theorem dX2_becomes_14 : decode cX2_becomes 14 = .ok (.getfield 9, 3) := by decide +kernel
theorem dX2_becomes_17 : decode cX2_becomes 17 = .ok (.iload_n 2, 1) := by decide +kernel
theorem dX2_becomes_18 : decode cX2_becomes 18 = .ok (.iaload, 1) := by decide +kernel
theorem dX2_becomes_19 : decode cX2_becomes 19 = .ok (.iastore, 1) := by decide +kernel
theorem dX2_becomes_20 : decode cX2_becomes 20 = .ok (.aload_n 0, 1) := by decide +kernel
theorem dX2_becomes_21 : decode cX2_becomes 21 = .ok (.getfield 15, 3) := by decide +kernel
theorem dX2_becomes_24 : decode cX2_becomes 24 = .ok (.iload_n 2, 1) := by decide +kernel
theorem dX2_becomes_25 : decode cX2_becomes 25 = .ok (.aload_n 1, 1) := by decide +kernel
theorem dX2_becomes_26 : decode cX2_becomes 26 = .ok (.getfield 15, 3) := by decide +kernel
theorem dX2_becomes_29 : decode cX2_becomes 29 = .ok (.iload_n 2, 1) := by decide +kernel
theorem dX2_becomes_30 : decode cX2_becomes 30 = .ok (.iaload, 1) := by decide +kernel
theorem dX2_becomes_31 : decode cX2_becomes 31 = .ok (.iastore, 1) := by decide +kernel
theorem dX2_becomes_32 : decode cX2_becomes 32 = .ok (.iinc 2 1, 3) := by decide +kernel
theorem dX2_becomes_35 : decode cX2_becomes 35 = .ok (.goto (-33), 3) := by decide +kernel
theorem dX2_becomes_38 : decode cX2_becomes 38 = .ok (.aload_n 0, 1) := by decide +kernel
theorem dX2_becomes_39 : decode cX2_becomes 39 = .ok (.aload_n 1, 1) := by decide +kernel
theorem dX2_becomes_40 : decode cX2_becomes 40 = .ok (.getfield 18, 3) := by decide +kernel
theorem dX2_becomes_43 : decode cX2_becomes 43 = .ok (.putfield 18, 3) := by decide +kernel
theorem dX2_becomes_46 : decode cX2_becomes 46 = .ok (.aload_n 0, 1) := by decide +kernel
theorem dX2_becomes_47 : decode cX2_becomes 47 = .ok (.aload_n 1, 1) := by decide +kernel
theorem dX2_becomes_48 : decode cX2_becomes 48 = .ok (.getfield 22, 3) := by decide +kernel
theorem dX2_becomes_51 : decode cX2_becomes 51 = .ok (.putfield 22, 3) := by decide +kernel
theorem dX2_becomes_54 : decode cX2_becomes 54 = .ok (.return_, 1) := by decide +kernel
theorem dX2_binding_0 : decode cX2_binding 0 = .ok (.iconst 0, 1) := by decide +kernel
theorem dX2_binding_1 : decode cX2_binding 1 = .ok (.istore_n 2, 1) := by decide +kernel
theorem dX2_binding_2 : decode cX2_binding 2 = .ok (.iconst 0, 1) := by decide +kernel
theorem dX2_binding_3 : decode cX2_binding 3 = .ok (.istore_n 3, 1) := by decide +kernel
theorem dX2_binding_4 : decode cX2_binding 4 = .ok (.iload_n 3, 1) := by decide +kernel
theorem dX2_binding_5 : decode cX2_binding 5 = .ok (.bipush 8, 2) := by decide +kernel
theorem dX2_binding_7 : decode cX2_binding 7 = .ok (.if_icmp .ge 25, 3) := by decide +kernel
theorem dX2_binding_10 : decode cX2_binding 10 = .ok (.aload_n 0, 1) := by decide +kernel
theorem dX2_binding_11 : decode cX2_binding 11 = .ok (.getfield 9, 3) := by decide +kernel
theorem dX2_binding_14 : decode cX2_binding 14 = .ok (.iload_n 3, 1) := by decide +kernel
theorem dX2_binding_15 : decode cX2_binding 15 = .ok (.iaload, 1) := by decide +kernel
theorem dX2_binding_16 : decode cX2_binding 16 = .ok (.iload_n 1, 1) := by decide +kernel
theorem dX2_binding_17 : decode cX2_binding 17 = .ok (.if_icmp .le 9, 3) := by decide +kernel
theorem dX2_binding_20 : decode cX2_binding 20 = .ok (.iload_n 2, 1) := by decide +kernel
theorem dX2_binding_21 : decode cX2_binding 21 = .ok (.iconst 1, 1) := by decide +kernel
theorem dX2_binding_22 : decode cX2_binding 22 = .ok (.iload_n 3, 1) := by decide +kernel
theorem dX2_binding_23 : decode cX2_binding 23 = .ok (.ishl, 1) := by decide +kernel
theorem dX2_binding_24 : decode cX2_binding 24 = .ok (.ior, 1) := by decide +kernel
theorem dX2_binding_25 : decode cX2_binding 25 = .ok (.istore_n 2, 1) := by decide +kernel
theorem dX2_binding_26 : decode cX2_binding 26 = .ok (.iinc 3 1, 3) := by decide +kernel
theorem dX2_binding_29 : decode cX2_binding 29 = .ok (.goto (-25), 3) := by decide +kernel
theorem dX2_binding_32 : decode cX2_binding 32 = .ok (.iload_n 2, 1) := by decide +kernel
theorem dX2_binding_33 : decode cX2_binding 33 = .ok (.ireturn, 1) := by decide +kernel
theorem dX2_pressedOn_0 : decode cX2_pressedOn 0 = .ok (.iconst 0, 1) := by decide +kernel
theorem dX2_pressedOn_1 : decode cX2_pressedOn 1 = .ok (.istore_n 2, 1) := by decide +kernel
theorem dX2_pressedOn_2 : decode cX2_pressedOn 2 = .ok (.iconst 0, 1) := by decide +kernel
theorem dX2_pressedOn_3 : decode cX2_pressedOn 3 = .ok (.istore_n 3, 1) := by decide +kernel
theorem dX2_pressedOn_4 : decode cX2_pressedOn 4 = .ok (.iload_n 3, 1) := by decide +kernel
theorem dX2_pressedOn_5 : decode cX2_pressedOn 5 = .ok (.bipush 8, 2) := by decide +kernel
theorem dX2_pressedOn_7 : decode cX2_pressedOn 7 = .ok (.if_icmp .ge 25, 3) := by decide +kernel
theorem dX2_pressedOn_10 : decode cX2_pressedOn 10 = .ok (.aload_n 0, 1) := by decide +kernel
theorem dX2_pressedOn_11 : decode cX2_pressedOn 11 = .ok (.getfield 15, 3) := by decide +kernel
theorem dX2_pressedOn_14 : decode cX2_pressedOn 14 = .ok (.iload_n 3, 1) := by decide +kernel
theorem dX2_pressedOn_15 : decode cX2_pressedOn 15 = .ok (.iaload, 1) := by decide +kernel
theorem dX2_pressedOn_16 : decode cX2_pressedOn 16 = .ok (.iload_n 1, 1) := by decide +kernel
theorem dX2_pressedOn_17 : decode cX2_pressedOn 17 = .ok (.if_icmp .ne 9, 3) := by decide +kernel
theorem dX2_pressedOn_20 : decode cX2_pressedOn 20 = .ok (.iload_n 2, 1) := by decide +kernel
theorem dX2_pressedOn_21 : decode cX2_pressedOn 21 = .ok (.iconst 1, 1) := by decide +kernel
theorem dX2_pressedOn_22 : decode cX2_pressedOn 22 = .ok (.iload_n 3, 1) := by decide +kernel
theorem dX2_pressedOn_23 : decode cX2_pressedOn 23 = .ok (.ishl, 1) := by decide +kernel
theorem dX2_pressedOn_24 : decode cX2_pressedOn 24 = .ok (.ior, 1) := by decide +kernel
theorem dX2_pressedOn_25 : decode cX2_pressedOn 25 = .ok (.istore_n 2, 1) := by decide +kernel
theorem dX2_pressedOn_26 : decode cX2_pressedOn 26 = .ok (.iinc 3 1, 3) := by decide +kernel
theorem dX2_pressedOn_29 : decode cX2_pressedOn 29 = .ok (.goto (-25), 3) := by decide +kernel
theorem dX2_pressedOn_32 : decode cX2_pressedOn 32 = .ok (.iload_n 2, 1) := by decide +kernel
theorem dX2_pressedOn_33 : decode cX2_pressedOn 33 = .ok (.ireturn, 1) := by decide +kernel
theorem dX2_inkOf_0 : decode cX2_inkOf 0 = .ok (.iconst 0, 1) := by decide +kernel
theorem dX2_inkOf_1 : decode cX2_inkOf 1 = .ok (.istore_n 2, 1) := by decide +kernel
theorem dX2_inkOf_2 : decode cX2_inkOf 2 = .ok (.iconst 0, 1) := by decide +kernel
theorem dX2_inkOf_3 : decode cX2_inkOf 3 = .ok (.istore_n 3, 1) := by decide +kernel
theorem dX2_inkOf_4 : decode cX2_inkOf 4 = .ok (.iload_n 3, 1) := by decide +kernel
theorem dX2_inkOf_5 : decode cX2_inkOf 5 = .ok (.bipush 8, 2) := by decide +kernel
theorem dX2_inkOf_7 : decode cX2_inkOf 7 = .ok (.if_icmp .ge 27, 3) := by decide +kernel
theorem dX2_inkOf_10 : decode cX2_inkOf 10 = .ok (.iload_n 1, 1) := by decide +kernel
theorem dX2_inkOf_11 : decode cX2_inkOf 11 = .ok (.i2l, 1) := by decide +kernel
theorem dX2_inkOf_12 : decode cX2_inkOf 12 = .ok (.iload_n 3, 1) := by decide +kernel
theorem dX2_inkOf_13 : decode cX2_inkOf 13 = .ok (.invokestatic 25, 3) := by decide +kernel
theorem dX2_inkOf_16 : decode cX2_inkOf 16 = .ok (.ifCond .eq 12, 3) := by decide +kernel
theorem dX2_inkOf_19 : decode cX2_inkOf 19 = .ok (.iload_n 2, 1) := by decide +kernel
theorem dX2_inkOf_20 : decode cX2_inkOf 20 = .ok (.aload_n 0, 1) := by decide +kernel
theorem dX2_inkOf_21 : decode cX2_inkOf 21 = .ok (.getfield 9, 3) := by decide +kernel
theorem dX2_inkOf_24 : decode cX2_inkOf 24 = .ok (.iload_n 3, 1) := by decide +kernel
theorem dX2_inkOf_25 : decode cX2_inkOf 25 = .ok (.iaload, 1) := by decide +kernel
theorem dX2_inkOf_26 : decode cX2_inkOf 26 = .ok (.iadd, 1) := by decide +kernel
theorem dX2_inkOf_27 : decode cX2_inkOf 27 = .ok (.istore_n 2, 1) := by decide +kernel
theorem dX2_inkOf_28 : decode cX2_inkOf 28 = .ok (.iinc 3 1, 3) := by decide +kernel
theorem dX2_inkOf_31 : decode cX2_inkOf 31 = .ok (.goto (-27), 3) := by decide +kernel
theorem dX2_inkOf_34 : decode cX2_inkOf 34 = .ok (.iload_n 2, 1) := by decide +kernel
theorem dX2_inkOf_35 : decode cX2_inkOf 35 = .ok (.ireturn, 1) := by decide +kernel
theorem dX2_pressOn_0 : decode cX2_pressOn 0 = .ok (.iload_n 1, 1) := by decide +kernel
theorem dX2_pressOn_1 : decode cX2_pressOn 1 = .ok (.ifCond .lt 9, 3) := by decide +kernel
theorem dX2_pressOn_4 : decode cX2_pressOn 4 = .ok (.iload_n 1, 1) := by decide +kernel
theorem dX2_pressOn_5 : decode cX2_pressOn 5 = .ok (.bipush 8, 2) := by decide +kernel
theorem dX2_pressOn_7 : decode cX2_pressOn 7 = .ok (.if_icmp .lt 5, 3) := by decide +kernel
theorem dX2_pressOn_10 : decode cX2_pressOn 10 = .ok (.iconst 0, 1) := by decide +kernel
theorem dX2_pressOn_11 : decode cX2_pressOn 11 = .ok (.ireturn, 1) := by decide +kernel
theorem dX2_pressOn_12 : decode cX2_pressOn 12 = .ok (.aload_n 0, 1) := by decide +kernel
theorem dX2_pressOn_13 : decode cX2_pressOn 13 = .ok (.iconst 0, 1) := by decide +kernel
theorem dX2_pressOn_14 : decode cX2_pressOn 14 = .ok (.invokevirtual 29, 3) := by decide +kernel
theorem dX2_pressOn_17 : decode cX2_pressOn 17 = .ok (.istore 5, 2) := by decide +kernel
theorem dX2_pressOn_19 : decode cX2_pressOn 19 = .ok (.iconst 0, 1) := by decide +kernel
theorem dX2_pressOn_20 : decode cX2_pressOn 20 = .ok (.istore 6, 2) := by decide +kernel
theorem dX2_pressOn_22 : decode cX2_pressOn 22 = .ok (.iload 6, 2) := by decide +kernel
theorem dX2_pressOn_24 : decode cX2_pressOn 24 = .ok (.bipush 8, 2) := by decide +kernel
theorem dX2_pressOn_26 : decode cX2_pressOn 26 = .ok (.if_icmp .ge 47, 3) := by decide +kernel
theorem dX2_pressOn_29 : decode cX2_pressOn 29 = .ok (.iload 6, 2) := by decide +kernel
theorem dX2_pressOn_31 : decode cX2_pressOn 31 = .ok (.iload_n 1, 1) := by decide +kernel
theorem dX2_pressOn_32 : decode cX2_pressOn 32 = .ok (.if_icmp .eq 35, 3) := by decide +kernel
theorem dX2_pressOn_35 : decode cX2_pressOn 35 = .ok (.aload_n 0, 1) := by decide +kernel
theorem dX2_pressOn_36 : decode cX2_pressOn 36 = .ok (.getfield 15, 3) := by decide +kernel
theorem dX2_pressOn_39 : decode cX2_pressOn 39 = .ok (.iload 6, 2) := by decide +kernel
theorem dX2_pressOn_41 : decode cX2_pressOn 41 = .ok (.iaload, 1) := by decide +kernel
theorem dX2_pressOn_42 : decode cX2_pressOn 42 = .ok (.iload_n 2, 1) := by decide +kernel
theorem dX2_pressOn_43 : decode cX2_pressOn 43 = .ok (.if_icmp .ne 24, 3) := by decide +kernel
theorem dX2_pressOn_46 : decode cX2_pressOn 46 = .ok (.aload_n 0, 1) := by decide +kernel
theorem dX2_pressOn_47 : decode cX2_pressOn 47 = .ok (.getfield 9, 3) := by decide +kernel
theorem dX2_pressOn_50 : decode cX2_pressOn 50 = .ok (.iload 6, 2) := by decide +kernel
theorem dX2_pressOn_52 : decode cX2_pressOn 52 = .ok (.iconst 0, 1) := by decide +kernel
theorem dX2_pressOn_53 : decode cX2_pressOn 53 = .ok (.aload_n 0, 1) := by decide +kernel
theorem dX2_pressOn_54 : decode cX2_pressOn 54 = .ok (.getfield 9, 3) := by decide +kernel
theorem dX2_pressOn_57 : decode cX2_pressOn 57 = .ok (.iload 6, 2) := by decide +kernel
theorem dX2_pressOn_59 : decode cX2_pressOn 59 = .ok (.iaload, 1) := by decide +kernel
theorem dX2_pressOn_60 : decode cX2_pressOn 60 = .ok (.iload 4, 2) := by decide +kernel
theorem dX2_pressOn_62 : decode cX2_pressOn 62 = .ok (.isub, 1) := by decide +kernel
theorem dX2_pressOn_63 : decode cX2_pressOn 63 = .ok (.invokestatic 33, 3) := by decide +kernel
theorem dX2_pressOn_66 : decode cX2_pressOn 66 = .ok (.iastore, 1) := by decide +kernel
theorem dX2_pressOn_67 : decode cX2_pressOn 67 = .ok (.iinc 6 1, 3) := by decide +kernel
theorem dX2_pressOn_70 : decode cX2_pressOn 70 = .ok (.goto (-48), 3) := by decide +kernel
theorem dX2_pressOn_73 : decode cX2_pressOn 73 = .ok (.iload 5, 2) := by decide +kernel
theorem dX2_pressOn_75 : decode cX2_pressOn 75 = .ok (.aload_n 0, 1) := by decide +kernel
theorem dX2_pressOn_76 : decode cX2_pressOn 76 = .ok (.iconst 0, 1) := by decide +kernel
theorem dX2_pressOn_77 : decode cX2_pressOn 77 = .ok (.invokevirtual 29, 3) := by decide +kernel
theorem dX2_pressOn_80 : decode cX2_pressOn 80 = .ok (.iconst (-1), 1) := by decide +kernel
theorem dX2_pressOn_81 : decode cX2_pressOn 81 = .ok (.ixor, 1) := by decide +kernel
theorem dX2_pressOn_82 : decode cX2_pressOn 82 = .ok (.iand, 1) := by decide +kernel
theorem dX2_pressOn_83 : decode cX2_pressOn 83 = .ok (.istore 6, 2) := by decide +kernel
theorem dX2_pressOn_85 : decode cX2_pressOn 85 = .ok (.aload_n 0, 1) := by decide +kernel
theorem dX2_pressOn_86 : decode cX2_pressOn 86 = .ok (.getfield 15, 3) := by decide +kernel
theorem dX2_pressOn_89 : decode cX2_pressOn 89 = .ok (.iload_n 1, 1) := by decide +kernel
theorem dX2_pressOn_90 : decode cX2_pressOn 90 = .ok (.iload_n 2, 1) := by decide +kernel
theorem dX2_pressOn_91 : decode cX2_pressOn 91 = .ok (.iastore, 1) := by decide +kernel
theorem dX2_pressOn_92 : decode cX2_pressOn 92 = .ok (.aload_n 0, 1) := by decide +kernel
theorem dX2_pressOn_93 : decode cX2_pressOn 93 = .ok (.getfield 9, 3) := by decide +kernel
theorem dX2_pressOn_96 : decode cX2_pressOn 96 = .ok (.iload_n 1, 1) := by decide +kernel
theorem dX2_pressOn_97 : decode cX2_pressOn 97 = .ok (.iload_n 3, 1) := by decide +kernel
theorem dX2_pressOn_98 : decode cX2_pressOn 98 = .ok (.iastore, 1) := by decide +kernel
theorem dX2_pressOn_99 : decode cX2_pressOn 99 = .ok (.iload 6, 2) := by decide +kernel
theorem dX2_pressOn_101 : decode cX2_pressOn 101 = .ok (.ireturn, 1) := by decide +kernel
theorem dX2_passDay_0 : decode cX2_passDay 0 = .ok (.aload_n 0, 1) := by decide +kernel
theorem dX2_passDay_1 : decode cX2_passDay 1 = .ok (.iconst 0, 1) := by decide +kernel
theorem dX2_passDay_2 : decode cX2_passDay 2 = .ok (.invokevirtual 29, 3) := by decide +kernel
theorem dX2_passDay_5 : decode cX2_passDay 5 = .ok (.istore_n 1, 1) := by decide +kernel
theorem dX2_passDay_6 : decode cX2_passDay 6 = .ok (.iconst 0, 1) := by decide +kernel
theorem dX2_passDay_7 : decode cX2_passDay 7 = .ok (.istore_n 2, 1) := by decide +kernel
theorem dX2_passDay_8 : decode cX2_passDay 8 = .ok (.iload_n 2, 1) := by decide +kernel
theorem dX2_passDay_9 : decode cX2_passDay 9 = .ok (.bipush 8, 2) := by decide +kernel
theorem dX2_passDay_11 : decode cX2_passDay 11 = .ok (.if_icmp .ge 27, 3) := by decide +kernel
theorem dX2_passDay_14 : decode cX2_passDay 14 = .ok (.aload_n 0, 1) := by decide +kernel
theorem dX2_passDay_15 : decode cX2_passDay 15 = .ok (.getfield 9, 3) := by decide +kernel
theorem dX2_passDay_18 : decode cX2_passDay 18 = .ok (.iload_n 2, 1) := by decide +kernel
theorem dX2_passDay_19 : decode cX2_passDay 19 = .ok (.iconst 0, 1) := by decide +kernel
theorem dX2_passDay_20 : decode cX2_passDay 20 = .ok (.aload_n 0, 1) := by decide +kernel
theorem dX2_passDay_21 : decode cX2_passDay 21 = .ok (.getfield 9, 3) := by decide +kernel
theorem dX2_passDay_24 : decode cX2_passDay 24 = .ok (.iload_n 2, 1) := by decide +kernel
theorem dX2_passDay_25 : decode cX2_passDay 25 = .ok (.iaload, 1) := by decide +kernel
theorem dX2_passDay_26 : decode cX2_passDay 26 = .ok (.iconst 1, 1) := by decide +kernel
theorem dX2_passDay_27 : decode cX2_passDay 27 = .ok (.isub, 1) := by decide +kernel
theorem dX2_passDay_28 : decode cX2_passDay 28 = .ok (.invokestatic 33, 3) := by decide +kernel
theorem dX2_passDay_31 : decode cX2_passDay 31 = .ok (.iastore, 1) := by decide +kernel
theorem dX2_passDay_32 : decode cX2_passDay 32 = .ok (.iinc 2 1, 3) := by decide +kernel
theorem dX2_passDay_35 : decode cX2_passDay 35 = .ok (.goto (-27), 3) := by decide +kernel
theorem dX2_passDay_38 : decode cX2_passDay 38 = .ok (.aload_n 0, 1) := by decide +kernel
theorem dX2_passDay_39 : decode cX2_passDay 39 = .ok (.dup, 1) := by decide +kernel
theorem dX2_passDay_40 : decode cX2_passDay 40 = .ok (.getfield 22, 3) := by decide +kernel
theorem dX2_passDay_43 : decode cX2_passDay 43 = .ok (.iconst 1, 1) := by decide +kernel
theorem dX2_passDay_44 : decode cX2_passDay 44 = .ok (.iadd, 1) := by decide +kernel
theorem dX2_passDay_45 : decode cX2_passDay 45 = .ok (.putfield 22, 3) := by decide +kernel
theorem dX2_passDay_48 : decode cX2_passDay 48 = .ok (.iload_n 1, 1) := by decide +kernel
theorem dX2_passDay_49 : decode cX2_passDay 49 = .ok (.aload_n 0, 1) := by decide +kernel
theorem dX2_passDay_50 : decode cX2_passDay 50 = .ok (.iconst 0, 1) := by decide +kernel
theorem dX2_passDay_51 : decode cX2_passDay 51 = .ok (.invokevirtual 29, 3) := by decide +kernel
theorem dX2_passDay_54 : decode cX2_passDay 54 = .ok (.iconst (-1), 1) := by decide +kernel
theorem dX2_passDay_55 : decode cX2_passDay 55 = .ok (.ixor, 1) := by decide +kernel
theorem dX2_passDay_56 : decode cX2_passDay 56 = .ok (.iand, 1) := by decide +kernel
theorem dX2_passDay_57 : decode cX2_passDay 57 = .ok (.ireturn, 1) := by decide +kernel
theorem dX2_passRainyDay_0 : decode cX2_passRainyDay 0 = .ok (.aload_n 0, 1) := by decide +kernel
theorem dX2_passRainyDay_1 : decode cX2_passRainyDay 1 = .ok (.invokevirtual 39, 3) := by decide +kernel
theorem dX2_passRainyDay_4 : decode cX2_passRainyDay 4 = .ok (.pop, 1) := by decide +kernel
theorem dX2_passRainyDay_5 : decode cX2_passRainyDay 5 = .ok (.iload_n 2, 1) := by decide +kernel
theorem dX2_passRainyDay_6 : decode cX2_passRainyDay 6 = .ok (.istore_n 3, 1) := by decide +kernel
theorem dX2_passRainyDay_7 : decode cX2_passRainyDay 7 = .ok (.iconst 0, 1) := by decide +kernel
theorem dX2_passRainyDay_8 : decode cX2_passRainyDay 8 = .ok (.istore 4, 2) := by decide +kernel
theorem dX2_passRainyDay_10 : decode cX2_passRainyDay 10 = .ok (.iload 4, 2) := by decide +kernel
theorem dX2_passRainyDay_12 : decode cX2_passRainyDay 12 = .ok (.bipush 8, 2) := by decide +kernel
theorem dX2_passRainyDay_14 : decode cX2_passRainyDay 14 = .ok (.if_icmp .ge 46, 3) := by decide +kernel
theorem dX2_passRainyDay_17 : decode cX2_passRainyDay 17 = .ok (.aload_n 0, 1) := by decide +kernel
theorem dX2_passRainyDay_18 : decode cX2_passRainyDay 18 = .ok (.getfield 9, 3) := by decide +kernel
theorem dX2_passRainyDay_21 : decode cX2_passRainyDay 21 = .ok (.iload 4, 2) := by decide +kernel
theorem dX2_passRainyDay_23 : decode cX2_passRainyDay 23 = .ok (.iaload, 1) := by decide +kernel
theorem dX2_passRainyDay_24 : decode cX2_passRainyDay 24 = .ok (.ifCond .le 30, 3) := by decide +kernel
theorem dX2_passRainyDay_27 : decode cX2_passRainyDay 27 = .ok (.bipush 75, 2) := by decide +kernel
theorem dX2_passRainyDay_29 : decode cX2_passRainyDay 29 = .ok (.iload_n 3, 1) := by decide +kernel
theorem dX2_passRainyDay_30 : decode cX2_passRainyDay 30 = .ok (.imul, 1) := by decide +kernel
theorem dX2_passRainyDay_31 : decode cX2_passRainyDay 31 = .ok (.bipush 74, 2) := by decide +kernel
theorem dX2_passRainyDay_33 : decode cX2_passRainyDay 33 = .ok (.iadd, 1) := by decide +kernel
theorem dX2_passRainyDay_34 : decode cX2_passRainyDay 34 = .ok (.ldc 43, 2) := by decide +kernel
theorem dX2_passRainyDay_36 : decode cX2_passRainyDay 36 = .ok (.irem, 1) := by decide +kernel
theorem dX2_passRainyDay_37 : decode cX2_passRainyDay 37 = .ok (.istore_n 3, 1) := by decide +kernel
theorem dX2_passRainyDay_38 : decode cX2_passRainyDay 38 = .ok (.iload_n 3, 1) := by decide +kernel
theorem dX2_passRainyDay_39 : decode cX2_passRainyDay 39 = .ok (.bipush 100, 2) := by decide +kernel
theorem dX2_passRainyDay_41 : decode cX2_passRainyDay 41 = .ok (.irem, 1) := by decide +kernel
theorem dX2_passRainyDay_42 : decode cX2_passRainyDay 42 = .ok (.iload_n 1, 1) := by decide +kernel
theorem dX2_passRainyDay_43 : decode cX2_passRainyDay 43 = .ok (.if_icmp .ge 11, 3) := by decide +kernel
theorem dX2_passRainyDay_46 : decode cX2_passRainyDay 46 = .ok (.aload_n 0, 1) := by decide +kernel
theorem dX2_passRainyDay_47 : decode cX2_passRainyDay 47 = .ok (.getfield 9, 3) := by decide +kernel
theorem dX2_passRainyDay_50 : decode cX2_passRainyDay 50 = .ok (.iload 4, 2) := by decide +kernel
theorem dX2_passRainyDay_52 : decode cX2_passRainyDay 52 = .ok (.iconst 0, 1) := by decide +kernel
theorem dX2_passRainyDay_53 : decode cX2_passRainyDay 53 = .ok (.iastore, 1) := by decide +kernel
theorem dX2_passRainyDay_54 : decode cX2_passRainyDay 54 = .ok (.iinc 4 1, 3) := by decide +kernel
theorem dX2_passRainyDay_57 : decode cX2_passRainyDay 57 = .ok (.goto (-47), 3) := by decide +kernel
theorem dX2_passRainyDay_60 : decode cX2_passRainyDay 60 = .ok (.iload_n 3, 1) := by decide +kernel
theorem dX2_passRainyDay_61 : decode cX2_passRainyDay 61 = .ok (.ireturn, 1) := by decide +kernel
theorem dX3_init_0 : decode cX3_init 0 = .ok (.aload_n 0, 1) := by decide +kernel
theorem dX3_init_1 : decode cX3_init 1 = .ok (.invokespecial 3, 3) := by decide +kernel
theorem dX3_init_4 : decode cX3_init 4 = .ok (.aload_n 0, 1) := by decide +kernel
theorem dX3_init_5 : decode cX3_init 5 = .ok (.bipush 16, 2) := by decide +kernel
theorem dX3_init_7 : decode cX3_init 7 = .ok (.anewarray 9, 3) := by decide +kernel
theorem dX3_init_10 : decode cX3_init 10 = .ok (.putfield 11, 3) := by decide +kernel
theorem dX3_init_13 : decode cX3_init 13 = .ok (.aload_n 0, 1) := by decide +kernel
theorem dX3_init_14 : decode cX3_init 14 = .ok (.iconst 3, 1) := by decide +kernel
theorem dX3_init_15 : decode cX3_init 15 = .ok (.anewarray 9, 3) := by decide +kernel
theorem dX3_init_18 : decode cX3_init 18 = .ok (.putfield 17, 3) := by decide +kernel
theorem dX3_init_21 : decode cX3_init 21 = .ok (.iconst 0, 1) := by decide +kernel
theorem dX3_init_22 : decode cX3_init 22 = .ok (.istore_n 1, 1) := by decide +kernel
theorem dX3_init_23 : decode cX3_init 23 = .ok (.iload_n 1, 1) := by decide +kernel
theorem dX3_init_24 : decode cX3_init 24 = .ok (.bipush 16, 2) := by decide +kernel
theorem dX3_init_26 : decode cX3_init 26 = .ok (.if_icmp .ge 22, 3) := by decide +kernel
theorem dX3_init_29 : decode cX3_init 29 = .ok (.aload_n 0, 1) := by decide +kernel
theorem dX3_init_30 : decode cX3_init 30 = .ok (.getfield 11, 3) := by decide +kernel
theorem dX3_init_33 : decode cX3_init 33 = .ok (.iload_n 1, 1) := by decide +kernel
theorem dX3_init_34 : decode cX3_init 34 = .ok (.new 9, 3) := by decide +kernel
theorem dX3_init_37 : decode cX3_init 37 = .ok (.dup, 1) := by decide +kernel
theorem dX3_init_38 : decode cX3_init 38 = .ok (.invokespecial 20, 3) := by decide +kernel
theorem dX3_init_41 : decode cX3_init 41 = .ok (.aastore, 1) := by decide +kernel
theorem dX3_init_42 : decode cX3_init 42 = .ok (.iinc 1 1, 3) := by decide +kernel
theorem dX3_init_45 : decode cX3_init 45 = .ok (.goto (-22), 3) := by decide +kernel
theorem dX3_init_48 : decode cX3_init 48 = .ok (.iconst 0, 1) := by decide +kernel
theorem dX3_init_49 : decode cX3_init 49 = .ok (.istore_n 1, 1) := by decide +kernel
theorem dX3_init_50 : decode cX3_init 50 = .ok (.iload_n 1, 1) := by decide +kernel
theorem dX3_init_51 : decode cX3_init 51 = .ok (.iconst 3, 1) := by decide +kernel
theorem dX3_init_52 : decode cX3_init 52 = .ok (.if_icmp .ge 22, 3) := by decide +kernel
theorem dX3_init_55 : decode cX3_init 55 = .ok (.aload_n 0, 1) := by decide +kernel
theorem dX3_init_56 : decode cX3_init 56 = .ok (.getfield 17, 3) := by decide +kernel
theorem dX3_init_59 : decode cX3_init 59 = .ok (.iload_n 1, 1) := by decide +kernel
theorem dX3_init_60 : decode cX3_init 60 = .ok (.new 9, 3) := by decide +kernel
theorem dX3_init_63 : decode cX3_init 63 = .ok (.dup, 1) := by decide +kernel
theorem dX3_init_64 : decode cX3_init 64 = .ok (.invokespecial 20, 3) := by decide +kernel
theorem dX3_init_67 : decode cX3_init 67 = .ok (.aastore, 1) := by decide +kernel
theorem dX3_init_68 : decode cX3_init 68 = .ok (.iinc 1 1, 3) := by decide +kernel
theorem dX3_init_71 : decode cX3_init 71 = .ok (.goto (-21), 3) := by decide +kernel
theorem dX3_init_74 : decode cX3_init 74 = .ok (.return_, 1) := by decide +kernel
theorem dX3_forget_0 : decode cX3_forget 0 = .ok (.aload_n 0, 1) := by decide +kernel
theorem dX3_forget_1 : decode cX3_forget 1 = .ok (.iconst 0, 1) := by decide +kernel
theorem dX3_forget_2 : decode cX3_forget 2 = .ok (.putfield 21, 3) := by decide +kernel
theorem dX3_forget_5 : decode cX3_forget 5 = .ok (.aload_n 0, 1) := by decide +kernel
theorem dX3_forget_6 : decode cX3_forget 6 = .ok (.iconst 0, 1) := by decide +kernel
theorem dX3_forget_7 : decode cX3_forget 7 = .ok (.putfield 25, 3) := by decide +kernel
theorem dX3_forget_10 : decode cX3_forget 10 = .ok (.return_, 1) := by decide +kernel
theorem dX3_keepAct_0 : decode cX3_keepAct 0 = .ok (.aload_n 0, 1) := by decide +kernel
theorem dX3_keepAct_1 : decode cX3_keepAct 1 = .ok (.getfield 11, 3) := by decide +kernel
theorem dX3_keepAct_4 : decode cX3_keepAct 4 = .ok (.aload_n 0, 1) := by decide +kernel
theorem dX3_keepAct_5 : decode cX3_keepAct 5 = .ok (.getfield 28, 3) := by decide +kernel
theorem dX3_keepAct_8 : decode cX3_keepAct 8 = .ok (.aload_n 0, 1) := by decide +kernel
theorem dX3_keepAct_9 : decode cX3_keepAct 9 = .ok (.getfield 21, 3) := by decide +kernel
theorem dX3_keepAct_12 : decode cX3_keepAct 12 = .ok (.iadd, 1) := by decide +kernel
theorem dX3_keepAct_13 : decode cX3_keepAct 13 = .ok (.bipush 16, 2) := by decide +kernel
theorem dX3_keepAct_15 : decode cX3_keepAct 15 = .ok (.irem, 1) := by decide +kernel
theorem dX3_keepAct_16 : decode cX3_keepAct 16 = .ok (.aaload, 1) := by decide +kernel
theorem dX3_keepAct_17 : decode cX3_keepAct 17 = .ok (.aload_n 1, 1) := by decide +kernel
theorem dX3_keepAct_18 : decode cX3_keepAct 18 = .ok (.invokevirtual 31, 3) := by decide +kernel
theorem dX3_keepAct_21 : decode cX3_keepAct 21 = .ok (.aload_n 0, 1) := by decide +kernel
theorem dX3_keepAct_22 : decode cX3_keepAct 22 = .ok (.getfield 21, 3) := by decide +kernel
theorem dX3_keepAct_25 : decode cX3_keepAct 25 = .ok (.bipush 16, 2) := by decide +kernel
theorem dX3_keepAct_27 : decode cX3_keepAct 27 = .ok (.if_icmp .ge 16, 3) := by decide +kernel
theorem dX3_keepAct_30 : decode cX3_keepAct 30 = .ok (.aload_n 0, 1) := by decide +kernel
theorem dX3_keepAct_31 : decode cX3_keepAct 31 = .ok (.dup, 1) := by decide +kernel
theorem dX3_keepAct_32 : decode cX3_keepAct 32 = .ok (.getfield 21, 3) := by decide +kernel
theorem dX3_keepAct_35 : decode cX3_keepAct 35 = .ok (.iconst 1, 1) := by decide +kernel
theorem dX3_keepAct_36 : decode cX3_keepAct 36 = .ok (.iadd, 1) := by decide +kernel
theorem dX3_keepAct_37 : decode cX3_keepAct 37 = .ok (.putfield 21, 3) := by decide +kernel
theorem dX3_keepAct_40 : decode cX3_keepAct 40 = .ok (.goto 16, 3) := by decide +kernel
theorem dX3_keepAct_43 : decode cX3_keepAct 43 = .ok (.aload_n 0, 1) := by decide +kernel
theorem dX3_keepAct_44 : decode cX3_keepAct 44 = .ok (.aload_n 0, 1) := by decide +kernel
theorem dX3_keepAct_45 : decode cX3_keepAct 45 = .ok (.getfield 28, 3) := by decide +kernel
theorem dX3_keepAct_48 : decode cX3_keepAct 48 = .ok (.iconst 1, 1) := by decide +kernel
theorem dX3_keepAct_49 : decode cX3_keepAct 49 = .ok (.iadd, 1) := by decide +kernel
theorem dX3_keepAct_50 : decode cX3_keepAct 50 = .ok (.bipush 16, 2) := by decide +kernel
theorem dX3_keepAct_52 : decode cX3_keepAct 52 = .ok (.irem, 1) := by decide +kernel
theorem dX3_keepAct_53 : decode cX3_keepAct 53 = .ok (.putfield 28, 3) := by decide +kernel
theorem dX3_keepAct_56 : decode cX3_keepAct 56 = .ok (.return_, 1) := by decide +kernel
theorem dX3_undoInto_0 : decode cX3_undoInto 0 = .ok (.aload_n 0, 1) := by decide +kernel
theorem dX3_undoInto_1 : decode cX3_undoInto 1 = .ok (.getfield 21, 3) := by decide +kernel
theorem dX3_undoInto_4 : decode cX3_undoInto 4 = .ok (.ifCond .ne 5, 3) := by decide +kernel
theorem dX3_undoInto_7 : decode cX3_undoInto 7 = .ok (.iconst 0, 1) := by decide +kernel
theorem dX3_undoInto_8 : decode cX3_undoInto 8 = .ok (.ireturn, 1) := by decide +kernel
theorem dX3_undoInto_9 : decode cX3_undoInto 9 = .ok (.aload_n 0, 1) := by decide +kernel
theorem dX3_undoInto_10 : decode cX3_undoInto 10 = .ok (.dup, 1) := by decide +kernel
theorem dX3_undoInto_11 : decode cX3_undoInto 11 = .ok (.getfield 21, 3) := by decide +kernel
theorem dX3_undoInto_14 : decode cX3_undoInto 14 = .ok (.iconst 1, 1) := by decide +kernel
theorem dX3_undoInto_15 : decode cX3_undoInto 15 = .ok (.isub, 1) := by decide +kernel
theorem dX3_undoInto_16 : decode cX3_undoInto 16 = .ok (.putfield 21, 3) := by decide +kernel
theorem dX3_undoInto_19 : decode cX3_undoInto 19 = .ok (.aload_n 1, 1) := by decide +kernel
theorem dX3_undoInto_20 : decode cX3_undoInto 20 = .ok (.aload_n 0, 1) := by decide +kernel
theorem dX3_undoInto_21 : decode cX3_undoInto 21 = .ok (.getfield 11, 3) := by decide +kernel
theorem dX3_undoInto_24 : decode cX3_undoInto 24 = .ok (.aload_n 0, 1) := by decide +kernel
theorem dX3_undoInto_25 : decode cX3_undoInto 25 = .ok (.getfield 28, 3) := by decide +kernel
theorem dX3_undoInto_28 : decode cX3_undoInto 28 = .ok (.aload_n 0, 1) := by decide +kernel
theorem dX3_undoInto_29 : decode cX3_undoInto 29 = .ok (.getfield 21, 3) := by decide +kernel
theorem dX3_undoInto_32 : decode cX3_undoInto 32 = .ok (.iadd, 1) := by decide +kernel
theorem dX3_undoInto_33 : decode cX3_undoInto 33 = .ok (.bipush 16, 2) := by decide +kernel
theorem dX3_undoInto_35 : decode cX3_undoInto 35 = .ok (.irem, 1) := by decide +kernel
theorem dX3_undoInto_36 : decode cX3_undoInto 36 = .ok (.aaload, 1) := by decide +kernel
theorem dX3_undoInto_37 : decode cX3_undoInto 37 = .ok (.invokevirtual 31, 3) := by decide +kernel
theorem dX3_undoInto_40 : decode cX3_undoInto 40 = .ok (.iconst 1, 1) := by decide +kernel
theorem dX3_undoInto_41 : decode cX3_undoInto 41 = .ok (.ireturn, 1) := by decide +kernel
theorem dX3_keepImage_0 : decode cX3_keepImage 0 = .ok (.aload_n 0, 1) := by decide +kernel
theorem dX3_keepImage_1 : decode cX3_keepImage 1 = .ok (.getfield 25, 3) := by decide +kernel
theorem dX3_keepImage_4 : decode cX3_keepImage 4 = .ok (.iconst 3, 1) := by decide +kernel
theorem dX3_keepImage_5 : decode cX3_keepImage 5 = .ok (.if_icmp .lt 5, 3) := by decide +kernel
theorem dX3_keepImage_8 : decode cX3_keepImage 8 = .ok (.iconst (-1), 1) := by decide +kernel
theorem dX3_keepImage_9 : decode cX3_keepImage 9 = .ok (.ireturn, 1) := by decide +kernel
theorem dX3_keepImage_10 : decode cX3_keepImage 10 = .ok (.aload_n 0, 1) := by decide +kernel
theorem dX3_keepImage_11 : decode cX3_keepImage 11 = .ok (.getfield 17, 3) := by decide +kernel
theorem dX3_keepImage_14 : decode cX3_keepImage 14 = .ok (.aload_n 0, 1) := by decide +kernel
theorem dX3_keepImage_15 : decode cX3_keepImage 15 = .ok (.getfield 25, 3) := by decide +kernel
theorem dX3_keepImage_18 : decode cX3_keepImage 18 = .ok (.aaload, 1) := by decide +kernel
theorem dX3_keepImage_19 : decode cX3_keepImage 19 = .ok (.aload_n 1, 1) := by decide +kernel
theorem dX3_keepImage_20 : decode cX3_keepImage 20 = .ok (.invokevirtual 31, 3) := by decide +kernel
theorem dX3_keepImage_23 : decode cX3_keepImage 23 = .ok (.aload_n 0, 1) := by decide +kernel
theorem dX3_keepImage_24 : decode cX3_keepImage 24 = .ok (.dup, 1) := by decide +kernel
theorem dX3_keepImage_25 : decode cX3_keepImage 25 = .ok (.getfield 25, 3) := by decide +kernel
theorem dX3_keepImage_28 : decode cX3_keepImage 28 = .ok (.iconst 1, 1) := by decide +kernel
theorem dX3_keepImage_29 : decode cX3_keepImage 29 = .ok (.iadd, 1) := by decide +kernel
theorem dX3_keepImage_30 : decode cX3_keepImage 30 = .ok (.putfield 25, 3) := by decide +kernel
theorem dX3_keepImage_33 : decode cX3_keepImage 33 = .ok (.aload_n 0, 1) := by decide +kernel
theorem dX3_keepImage_34 : decode cX3_keepImage 34 = .ok (.getfield 25, 3) := by decide +kernel
theorem dX3_keepImage_37 : decode cX3_keepImage 37 = .ok (.iconst 1, 1) := by decide +kernel
theorem dX3_keepImage_38 : decode cX3_keepImage 38 = .ok (.isub, 1) := by decide +kernel
theorem dX3_keepImage_39 : decode cX3_keepImage 39 = .ok (.ireturn, 1) := by decide +kernel
theorem dX3_goBackInto_0 : decode cX3_goBackInto 0 = .ok (.iload_n 2, 1) := by decide +kernel
theorem dX3_goBackInto_1 : decode cX3_goBackInto 1 = .ok (.ifCond .lt 11, 3) := by decide +kernel
theorem dX3_goBackInto_4 : decode cX3_goBackInto 4 = .ok (.iload_n 2, 1) := by decide +kernel
theorem dX3_goBackInto_5 : decode cX3_goBackInto 5 = .ok (.aload_n 0, 1) := by decide +kernel
theorem dX3_goBackInto_6 : decode cX3_goBackInto 6 = .ok (.getfield 25, 3) := by decide +kernel
theorem dX3_goBackInto_9 : decode cX3_goBackInto 9 = .ok (.if_icmp .lt 5, 3) := by decide +kernel
theorem dX3_goBackInto_12 : decode cX3_goBackInto 12 = .ok (.iconst 0, 1) := by decide +kernel
theorem dX3_goBackInto_13 : decode cX3_goBackInto 13 = .ok (.ireturn, 1) := by decide +kernel
theorem dX3_goBackInto_14 : decode cX3_goBackInto 14 = .ok (.aload_n 1, 1) := by decide +kernel
theorem dX3_goBackInto_15 : decode cX3_goBackInto 15 = .ok (.aload_n 0, 1) := by decide +kernel
theorem dX3_goBackInto_16 : decode cX3_goBackInto 16 = .ok (.getfield 17, 3) := by decide +kernel
theorem dX3_goBackInto_19 : decode cX3_goBackInto 19 = .ok (.iload_n 2, 1) := by decide +kernel
theorem dX3_goBackInto_20 : decode cX3_goBackInto 20 = .ok (.aaload, 1) := by decide +kernel
theorem dX3_goBackInto_21 : decode cX3_goBackInto 21 = .ok (.invokevirtual 31, 3) := by decide +kernel
theorem dX3_goBackInto_24 : decode cX3_goBackInto 24 = .ok (.aload_n 0, 1) := by decide +kernel
theorem dX3_goBackInto_25 : decode cX3_goBackInto 25 = .ok (.iconst 0, 1) := by decide +kernel
theorem dX3_goBackInto_26 : decode cX3_goBackInto 26 = .ok (.putfield 21, 3) := by decide +kernel
theorem dX3_goBackInto_29 : decode cX3_goBackInto 29 = .ok (.iconst 1, 1) := by decide +kernel
theorem dX3_goBackInto_30 : decode cX3_goBackInto 30 = .ok (.ireturn, 1) := by decide +kernel
theorem dX4_init_0 : decode cX4_init 0 = .ok (.aload_n 0, 1) := by decide +kernel
theorem dX4_init_1 : decode cX4_init 1 = .ok (.invokespecial 3, 3) := by decide +kernel
theorem dX4_init_4 : decode cX4_init 4 = .ok (.aload_n 0, 1) := by decide +kernel
theorem dX4_init_5 : decode cX4_init 5 = .ok (.sipush 900, 3) := by decide +kernel
theorem dX4_init_8 : decode cX4_init 8 = .ok (.newarray .byte, 2) := by decide +kernel
theorem dX4_init_10 : decode cX4_init 10 = .ok (.putfield 9, 3) := by decide +kernel
theorem dX4_init_13 : decode cX4_init 13 = .ok (.aload_n 0, 1) := by decide +kernel
theorem dX4_init_14 : decode cX4_init 14 = .ok (.bipush 18, 2) := by decide +kernel
theorem dX4_init_16 : decode cX4_init 16 = .ok (.newarray .long, 2) := by decide +kernel
theorem dX4_init_18 : decode cX4_init 18 = .ok (.putfield 15, 3) := by decide +kernel
theorem dX4_init_21 : decode cX4_init 21 = .ok (.aload_n 0, 1) := by decide +kernel
theorem dX4_init_22 : decode cX4_init 22 = .ok (.bipush 18, 2) := by decide +kernel
theorem dX4_init_24 : decode cX4_init 24 = .ok (.newarray .int, 2) := by decide +kernel
theorem dX4_init_26 : decode cX4_init 26 = .ok (.putfield 19, 3) := by decide +kernel
theorem dX4_init_29 : decode cX4_init 29 = .ok (.aload_n 0, 1) := by decide +kernel
theorem dX4_init_30 : decode cX4_init 30 = .ok (.bipush 18, 2) := by decide +kernel
theorem dX4_init_32 : decode cX4_init 32 = .ok (.newarray .int, 2) := by decide +kernel
theorem dX4_init_34 : decode cX4_init 34 = .ok (.putfield 23, 3) := by decide +kernel
theorem dX4_init_37 : decode cX4_init 37 = .ok (.aload_n 0, 1) := by decide +kernel
theorem dX4_init_38 : decode cX4_init 38 = .ok (.bipush 6, 2) := by decide +kernel
theorem dX4_init_40 : decode cX4_init 40 = .ok (.newarray .long, 2) := by decide +kernel
theorem dX4_init_42 : decode cX4_init 42 = .ok (.dup, 1) := by decide +kernel
theorem dX4_init_43 : decode cX4_init 43 = .ok (.iconst 0, 1) := by decide +kernel
theorem dX4_init_44 : decode cX4_init 44 = .ok (.ldc 26, 2) := by decide +kernel
theorem dX4_init_46 : decode cX4_init 46 = .ok (.invokestatic 28, 3) := by decide +kernel
theorem dX4_init_49 : decode cX4_init 49 = .ok (.lastore, 1) := by decide +kernel
theorem dX4_init_50 : decode cX4_init 50 = .ok (.dup, 1) := by decide +kernel
theorem dX4_init_51 : decode cX4_init 51 = .ok (.iconst 1, 1) := by decide +kernel
theorem dX4_init_52 : decode cX4_init 52 = .ok (.ldc 32, 2) := by decide +kernel
theorem dX4_init_54 : decode cX4_init 54 = .ok (.invokestatic 28, 3) := by decide +kernel
theorem dX4_init_57 : decode cX4_init 57 = .ok (.lastore, 1) := by decide +kernel
theorem dX4_init_58 : decode cX4_init 58 = .ok (.dup, 1) := by decide +kernel
theorem dX4_init_59 : decode cX4_init 59 = .ok (.iconst 2, 1) := by decide +kernel
theorem dX4_init_60 : decode cX4_init 60 = .ok (.ldc 34, 2) := by decide +kernel
theorem dX4_init_62 : decode cX4_init 62 = .ok (.invokestatic 28, 3) := by decide +kernel
theorem dX4_init_65 : decode cX4_init 65 = .ok (.lastore, 1) := by decide +kernel
theorem dX4_init_66 : decode cX4_init 66 = .ok (.dup, 1) := by decide +kernel
theorem dX4_init_67 : decode cX4_init 67 = .ok (.iconst 3, 1) := by decide +kernel
theorem dX4_init_68 : decode cX4_init 68 = .ok (.ldc 36, 2) := by decide +kernel
theorem dX4_init_70 : decode cX4_init 70 = .ok (.invokestatic 28, 3) := by decide +kernel
theorem dX4_init_73 : decode cX4_init 73 = .ok (.lastore, 1) := by decide +kernel
theorem dX4_init_74 : decode cX4_init 74 = .ok (.dup, 1) := by decide +kernel
theorem dX4_init_75 : decode cX4_init 75 = .ok (.iconst 4, 1) := by decide +kernel
theorem dX4_init_76 : decode cX4_init 76 = .ok (.ldc 38, 2) := by decide +kernel
theorem dX4_init_78 : decode cX4_init 78 = .ok (.invokestatic 28, 3) := by decide +kernel
theorem dX4_init_81 : decode cX4_init 81 = .ok (.lastore, 1) := by decide +kernel
theorem dX4_init_82 : decode cX4_init 82 = .ok (.dup, 1) := by decide +kernel
theorem dX4_init_83 : decode cX4_init 83 = .ok (.iconst 5, 1) := by decide +kernel
theorem dX4_init_84 : decode cX4_init 84 = .ok (.ldc 40, 2) := by decide +kernel
theorem dX4_init_86 : decode cX4_init 86 = .ok (.invokestatic 28, 3) := by decide +kernel
theorem dX4_init_89 : decode cX4_init 89 = .ok (.lastore, 1) := by decide +kernel
theorem dX4_init_90 : decode cX4_init 90 = .ok (.putfield 42, 3) := by decide +kernel
theorem dX4_init_93 : decode cX4_init 93 = .ok (.aload_n 0, 1) := by decide +kernel
theorem dX4_init_94 : decode cX4_init 94 = .ok (.new 45, 3) := by decide +kernel
theorem dX4_init_97 : decode cX4_init 97 = .ok (.dup, 1) := by decide +kernel
theorem dX4_init_98 : decode cX4_init 98 = .ok (.invokespecial 47, 3) := by decide +kernel
theorem dX4_init_101 : decode cX4_init 101 = .ok (.putfield 48, 3) := by decide +kernel
theorem dX4_init_104 : decode cX4_init 104 = .ok (.return_, 1) := by decide +kernel
theorem dX4_takeFour_0 : decode cX4_takeFour 0 = .ok (.bipush 24, 2) := by decide +kernel
theorem dX4_takeFour_2 : decode cX4_takeFour 2 = .ok (.istore_n 2, 1) := by decide +kernel
theorem dX4_takeFour_3 : decode cX4_takeFour 3 = .ok (.iload_n 2, 1) := by decide +kernel
theorem dX4_takeFour_4 : decode cX4_takeFour 4 = .ok (.ifCond .lt 42, 3) := by decide +kernel
theorem dX4_takeFour_7 : decode cX4_takeFour 7 = .ok (.aload_n 0, 1) := by decide +kernel
theorem dX4_takeFour_8 : decode cX4_takeFour 8 = .ok (.getfield 51, 3) := by decide +kernel
theorem dX4_takeFour_11 : decode cX4_takeFour 11 = .ok (.sipush 900, 3) := by decide +kernel
theorem dX4_takeFour_14 : decode cX4_takeFour 14 = .ok (.if_icmp .ge 26, 3) := by decide +kernel
theorem dX4_takeFour_17 : decode cX4_takeFour 17 = .ok (.aload_n 0, 1) := by decide +kernel
theorem dX4_takeFour_18 : decode cX4_takeFour 18 = .ok (.getfield 9, 3) := by decide +kernel
theorem dX4_takeFour_21 : decode cX4_takeFour 21 = .ok (.aload_n 0, 1) := by decide +kernel
theorem dX4_takeFour_22 : decode cX4_takeFour 22 = .ok (.getfield 51, 3) := by decide +kernel
theorem dX4_takeFour_25 : decode cX4_takeFour 25 = .ok (.iload_n 1, 1) := by decide +kernel
theorem dX4_takeFour_26 : decode cX4_takeFour 26 = .ok (.iload_n 2, 1) := by decide +kernel
theorem dX4_takeFour_27 : decode cX4_takeFour 27 = .ok (.iushr, 1) := by decide +kernel
theorem dX4_takeFour_28 : decode cX4_takeFour 28 = .ok (.i2b, 1) := by decide +kernel
theorem dX4_takeFour_29 : decode cX4_takeFour 29 = .ok (.bastore, 1) := by decide +kernel
theorem dX4_takeFour_30 : decode cX4_takeFour 30 = .ok (.aload_n 0, 1) := by decide +kernel
theorem dX4_takeFour_31 : decode cX4_takeFour 31 = .ok (.dup, 1) := by decide +kernel
theorem dX4_takeFour_32 : decode cX4_takeFour 32 = .ok (.getfield 51, 3) := by decide +kernel
theorem dX4_takeFour_35 : decode cX4_takeFour 35 = .ok (.iconst 1, 1) := by decide +kernel
theorem dX4_takeFour_36 : decode cX4_takeFour 36 = .ok (.iadd, 1) := by decide +kernel
theorem dX4_takeFour_37 : decode cX4_takeFour 37 = .ok (.putfield 51, 3) := by decide +kernel
theorem dX4_takeFour_40 : decode cX4_takeFour 40 = .ok (.iinc 2 (-8), 3) := by decide +kernel
theorem dX4_takeFour_43 : decode cX4_takeFour 43 = .ok (.goto (-40), 3) := by decide +kernel
theorem dX4_takeFour_46 : decode cX4_takeFour 46 = .ok (.return_, 1) := by decide +kernel
theorem dX4_handOver_0 : decode cX4_handOver 0 = .ok (.aload_n 0, 1) := by decide +kernel
theorem dX4_handOver_1 : decode cX4_handOver 1 = .ok (.getfield 48, 3) := by decide +kernel
theorem dX4_handOver_4 : decode cX4_handOver 4 = .ok (.astore_n 2, 1) := by decide +kernel
theorem dX4_handOver_5 : decode cX4_handOver 5 = .ok (.aload_n 0, 1) := by decide +kernel
theorem dX4_handOver_6 : decode cX4_handOver 6 = .ok (.aload_n 1, 1) := by decide +kernel
theorem dX4_handOver_7 : decode cX4_handOver 7 = .ok (.putfield 48, 3) := by decide +kernel
theorem dX4_handOver_10 : decode cX4_handOver 10 = .ok (.aload_n 2, 1) := by decide +kernel
theorem dX4_handOver_11 : decode cX4_handOver 11 = .ok (.areturn, 1) := by decide +kernel
theorem dX4_readCity_0 : decode cX4_readCity 0 = .ok (.aload_n 0, 1) := by decide +kernel
theorem dX4_readCity_1 : decode cX4_readCity 1 = .ok (.getfield 48, 3) := by decide +kernel
theorem dX4_readCity_4 : decode cX4_readCity 4 = .ok (.invokevirtual 55, 3) := by decide +kernel
theorem dX4_readCity_7 : decode cX4_readCity 7 = .ok (.aload_n 0, 1) := by decide +kernel
theorem dX4_readCity_8 : decode cX4_readCity 8 = .ok (.iload_n 1, 1) := by decide +kernel
theorem dX4_readCity_9 : decode cX4_readCity 9 = .ok (.aload_n 0, 1) := by decide +kernel
theorem dX4_readCity_10 : decode cX4_readCity 10 = .ok (.getfield 51, 3) := by decide +kernel
theorem dX4_readCity_13 : decode cX4_readCity 13 = .ok (.invokestatic 58, 3) := by decide +kernel
theorem dX4_readCity_16 : decode cX4_readCity 16 = .ok (.putfield 64, 3) := by decide +kernel
theorem dX4_readCity_19 : decode cX4_readCity 19 = .ok (.aload_n 0, 1) := by decide +kernel
theorem dX4_readCity_20 : decode cX4_readCity 20 = .ok (.iconst 0, 1) := by decide +kernel
theorem dX4_readCity_21 : decode cX4_readCity 21 = .ok (.putfield 51, 3) := by decide +kernel
theorem dX4_readCity_24 : decode cX4_readCity 24 = .ok (.aload_n 0, 1) := by decide +kernel
theorem dX4_readCity_25 : decode cX4_readCity 25 = .ok (.iconst 0, 1) := by decide +kernel
theorem dX4_readCity_26 : decode cX4_readCity 26 = .ok (.putfield 67, 3) := by decide +kernel
theorem dX4_readCity_29 : decode cX4_readCity 29 = .ok (.aload_n 0, 1) := by decide +kernel
theorem dX4_readCity_30 : decode cX4_readCity 30 = .ok (.iconst 0, 1) := by decide +kernel
theorem dX4_readCity_31 : decode cX4_readCity 31 = .ok (.putfield 70, 3) := by decide +kernel
theorem dX4_readCity_34 : decode cX4_readCity 34 = .ok (.aload_n 0, 1) := by decide +kernel
theorem dX4_readCity_35 : decode cX4_readCity 35 = .ok (.iconst 0, 1) := by decide +kernel
theorem dX4_readCity_36 : decode cX4_readCity 36 = .ok (.putfield 73, 3) := by decide +kernel
theorem dX4_readCity_39 : decode cX4_readCity 39 = .ok (.aload_n 0, 1) := by decide +kernel
theorem dX4_readCity_40 : decode cX4_readCity 40 = .ok (.iconst 0, 1) := by decide +kernel
theorem dX4_readCity_41 : decode cX4_readCity 41 = .ok (.putfield 77, 3) := by decide +kernel
theorem dX4_readCity_44 : decode cX4_readCity 44 = .ok (.aload_n 0, 1) := by decide +kernel
theorem dX4_readCity_45 : decode cX4_readCity 45 = .ok (.iconst (-1), 1) := by decide +kernel
theorem dX4_readCity_46 : decode cX4_readCity 46 = .ok (.putfield 80, 3) := by decide +kernel
theorem dX4_readCity_49 : decode cX4_readCity 49 = .ok (.aload_n 0, 1) := by decide +kernel
theorem dX4_readCity_50 : decode cX4_readCity 50 = .ok (.invokevirtual 83, 3) := by decide +kernel
theorem dX4_readCity_53 : decode cX4_readCity 53 = .ok (.iconst 0, 1) := by decide +kernel
theorem dX4_readCity_54 : decode cX4_readCity 54 = .ok (.istore_n 2, 1) := by decide +kernel
theorem dX4_readCity_55 : decode cX4_readCity 55 = .ok (.iload_n 2, 1) := by decide +kernel
theorem dX4_readCity_56 : decode cX4_readCity 56 = .ok (.sipush 900, 3) := by decide +kernel
theorem dX4_readCity_59 : decode cX4_readCity 59 = .ok (.if_icmp .gt 82, 3) := by decide +kernel
theorem dX4_readCity_62 : decode cX4_readCity 62 = .ok (.aload_n 0, 1) := by decide +kernel
theorem dX4_readCity_63 : decode cX4_readCity 63 = .ok (.invokevirtual 86, 3) := by decide +kernel
theorem dX4_readCity_66 : decode cX4_readCity 66 = .ok (.ifCond .ne 5, 3) := by decide +kernel
theorem dX4_readCity_69 : decode cX4_readCity 69 = .ok (.iconst 0, 1) := by decide +kernel
theorem dX4_readCity_70 : decode cX4_readCity 70 = .ok (.ireturn, 1) := by decide +kernel
theorem dX4_readCity_71 : decode cX4_readCity 71 = .ok (.aload_n 0, 1) := by decide +kernel
theorem dX4_readCity_72 : decode cX4_readCity 72 = .ok (.getfield 90, 3) := by decide +kernel
theorem dX4_readCity_75 : decode cX4_readCity 75 = .ok (.ifCond .ne 38, 3) := by decide +kernel
theorem dX4_readCity_78 : decode cX4_readCity 78 = .ok (.aload_n 0, 1) := by decide +kernel
theorem dX4_readCity_79 : decode cX4_readCity 79 = .ok (.getfield 48, 3) := by decide +kernel
theorem dX4_readCity_82 : decode cX4_readCity 82 = .ok (.getfield 93, 3) := by decide +kernel
theorem dX4_readCity_85 : decode cX4_readCity 85 = .ok (.ifCond .le 13, 3) := by decide +kernel
theorem dX4_readCity_88 : decode cX4_readCity 88 = .ok (.aload_n 0, 1) := by decide +kernel
theorem dX4_readCity_89 : decode cX4_readCity 89 = .ok (.getfield 48, 3) := by decide +kernel
theorem dX4_readCity_92 : decode cX4_readCity 92 = .ok (.getfield 96, 3) := by decide +kernel
theorem dX4_readCity_95 : decode cX4_readCity 95 = .ok (.ifCond .gt 12, 3) := by decide +kernel
theorem dX4_readCity_98 : decode cX4_readCity 98 = .ok (.aload_n 0, 1) := by decide +kernel
theorem dX4_readCity_99 : decode cX4_readCity 99 = .ok (.bipush 6, 2) := by decide +kernel
theorem dX4_readCity_101 : decode cX4_readCity 101 = .ok (.invokevirtual 99, 3) := by decide +kernel
theorem dX4_readCity_104 : decode cX4_readCity 104 = .ok (.ifCond .eq 7, 3) := by decide +kernel
theorem dX4_readCity_107 : decode cX4_readCity 107 = .ok (.iconst 1, 1) := by decide +kernel
theorem dX4_readCity_108 : decode cX4_readCity 108 = .ok (.goto 4, 3) := by decide +kernel
theorem dX4_readCity_111 : decode cX4_readCity 111 = .ok (.iconst 0, 1) := by decide +kernel
theorem dX4_readCity_112 : decode cX4_readCity 112 = .ok (.ireturn, 1) := by decide +kernel
theorem dX4_readCity_113 : decode cX4_readCity 113 = .ok (.aload_n 0, 1) := by decide +kernel
theorem dX4_readCity_114 : decode cX4_readCity 114 = .ok (.aload_n 0, 1) := by decide +kernel
theorem dX4_readCity_115 : decode cX4_readCity 115 = .ok (.getfield 90, 3) := by decide +kernel
theorem dX4_readCity_118 : decode cX4_readCity 118 = .ok (.iconst 3, 1) := by decide +kernel
theorem dX4_readCity_119 : decode cX4_readCity 119 = .ok (.if_icmp .ne 7, 3) := by decide +kernel
theorem dX4_readCity_122 : decode cX4_readCity 122 = .ok (.iconst 1, 1) := by decide +kernel
theorem dX4_readCity_123 : decode cX4_readCity 123 = .ok (.goto 4, 3) := by decide +kernel
theorem dX4_readCity_126 : decode cX4_readCity 126 = .ok (.iconst 0, 1) := by decide +kernel
theorem dX4_readCity_127 : decode cX4_readCity 127 = .ok (.invokevirtual 103, 3) := by decide +kernel
theorem dX4_readCity_130 : decode cX4_readCity 130 = .ok (.ifCond .ne 5, 3) := by decide +kernel
theorem dX4_readCity_133 : decode cX4_readCity 133 = .ok (.iconst 0, 1) := by decide +kernel
theorem dX4_readCity_134 : decode cX4_readCity 134 = .ok (.ireturn, 1) := by decide +kernel
theorem dX4_readCity_135 : decode cX4_readCity 135 = .ok (.iinc 2 1, 3) := by decide +kernel
theorem dX4_readCity_138 : decode cX4_readCity 138 = .ok (.goto (-83), 3) := by decide +kernel
theorem dX4_readCity_141 : decode cX4_readCity 141 = .ok (.aload_n 0, 1) := by decide +kernel
theorem dX4_readCity_142 : decode cX4_readCity 142 = .ok (.iconst 1, 1) := by decide +kernel
theorem dX4_readCity_143 : decode cX4_readCity 143 = .ok (.invokevirtual 99, 3) := by decide +kernel
theorem dX4_readCity_146 : decode cX4_readCity 146 = .ok (.ireturn, 1) := by decide +kernel
theorem dX4_fails_0 : decode cX4_fails 0 = .ok (.aload_n 0, 1) := by decide +kernel
theorem dX4_fails_1 : decode cX4_fails 1 = .ok (.iload_n 1, 1) := by decide +kernel
theorem dX4_fails_2 : decode cX4_fails 2 = .ok (.putfield 77, 3) := by decide +kernel
theorem dX4_fails_5 : decode cX4_fails 5 = .ok (.aload_n 0, 1) := by decide +kernel
theorem dX4_fails_6 : decode cX4_fails 6 = .ok (.aload_n 0, 1) := by decide +kernel
theorem dX4_fails_7 : decode cX4_fails 7 = .ok (.getfield 107, 3) := by decide +kernel
theorem dX4_fails_10 : decode cX4_fails 10 = .ok (.putfield 80, 3) := by decide +kernel
theorem dX4_fails_13 : decode cX4_fails 13 = .ok (.iconst 0, 1) := by decide +kernel
theorem dX4_fails_14 : decode cX4_fails 14 = .ok (.ireturn, 1) := by decide +kernel
theorem dX4_advance_0 : decode cX4_advance 0 = .ok (.aload_n 0, 1) := by decide +kernel
theorem dX4_advance_1 : decode cX4_advance 1 = .ok (.getfield 67, 3) := by decide +kernel
theorem dX4_advance_4 : decode cX4_advance 4 = .ok (.aload_n 0, 1) := by decide +kernel
theorem dX4_advance_5 : decode cX4_advance 5 = .ok (.getfield 64, 3) := by decide +kernel
theorem dX4_advance_8 : decode cX4_advance 8 = .ok (.if_icmp .ge 30, 3) := by decide +kernel
theorem dX4_advance_11 : decode cX4_advance 11 = .ok (.aload_n 0, 1) := by decide +kernel
theorem dX4_advance_12 : decode cX4_advance 12 = .ok (.getfield 9, 3) := by decide +kernel
theorem dX4_advance_15 : decode cX4_advance 15 = .ok (.aload_n 0, 1) := by decide +kernel
theorem dX4_advance_16 : decode cX4_advance 16 = .ok (.getfield 67, 3) := by decide +kernel
theorem dX4_advance_19 : decode cX4_advance 19 = .ok (.baload, 1) := by decide +kernel
theorem dX4_advance_20 : decode cX4_advance 20 = .ok (.bipush 32, 2) := by decide +kernel
theorem dX4_advance_22 : decode cX4_advance 22 = .ok (.if_icmp .ne 16, 3) := by decide +kernel
theorem dX4_advance_25 : decode cX4_advance 25 = .ok (.aload_n 0, 1) := by decide +kernel
theorem dX4_advance_26 : decode cX4_advance 26 = .ok (.dup, 1) := by decide +kernel
theorem dX4_advance_27 : decode cX4_advance 27 = .ok (.getfield 67, 3) := by decide +kernel
theorem dX4_advance_30 : decode cX4_advance 30 = .ok (.iconst 1, 1) := by decide +kernel
theorem dX4_advance_31 : decode cX4_advance 31 = .ok (.iadd, 1) := by decide +kernel
theorem dX4_advance_32 : decode cX4_advance 32 = .ok (.putfield 67, 3) := by decide +kernel
theorem dX4_advance_35 : decode cX4_advance 35 = .ok (.goto (-35), 3) := by decide +kernel
theorem dX4_advance_38 : decode cX4_advance 38 = .ok (.aload_n 0, 1) := by decide +kernel
theorem dX4_advance_39 : decode cX4_advance 39 = .ok (.aload_n 0, 1) := by decide +kernel
theorem dX4_advance_40 : decode cX4_advance 40 = .ok (.getfield 67, 3) := by decide +kernel
theorem dX4_advance_43 : decode cX4_advance 43 = .ok (.putfield 107, 3) := by decide +kernel
theorem dX4_advance_46 : decode cX4_advance 46 = .ok (.aload_n 0, 1) := by decide +kernel
theorem dX4_advance_47 : decode cX4_advance 47 = .ok (.getfield 107, 3) := by decide +kernel
theorem dX4_advance_50 : decode cX4_advance 50 = .ok (.aload_n 0, 1) := by decide +kernel
theorem dX4_advance_51 : decode cX4_advance 51 = .ok (.getfield 64, 3) := by decide +kernel
theorem dX4_advance_54 : decode cX4_advance 54 = .ok (.if_icmp .lt 9, 3) := by decide +kernel
theorem dX4_advance_57 : decode cX4_advance 57 = .ok (.aload_n 0, 1) := by decide +kernel
theorem dX4_advance_58 : decode cX4_advance 58 = .ok (.iconst 0, 1) := by decide +kernel
theorem dX4_advance_59 : decode cX4_advance 59 = .ok (.putfield 90, 3) := by decide +kernel
theorem dX4_advance_62 : decode cX4_advance 62 = .ok (.return_, 1) := by decide +kernel
theorem dX4_advance_63 : decode cX4_advance 63 = .ok (.aload_n 0, 1) := by decide +kernel
theorem dX4_advance_64 : decode cX4_advance 64 = .ok (.getfield 9, 3) := by decide +kernel
theorem dX4_advance_67 : decode cX4_advance 67 = .ok (.aload_n 0, 1) := by decide +kernel
theorem dX4_advance_68 : decode cX4_advance 68 = .ok (.getfield 107, 3) := by decide +kernel
theorem dX4_advance_71 : decode cX4_advance 71 = .ok (.baload, 1) := by decide +kernel
theorem dX4_advance_72 : decode cX4_advance 72 = .ok (.istore_n 1, 1) := by decide +kernel
theorem dX4_advance_73 : decode cX4_advance 73 = .ok (.iload_n 1, 1) := by decide +kernel
theorem dX4_advance_74 : decode cX4_advance 74 = .ok (.bipush 97, 2) := by decide +kernel
theorem dX4_advance_76 : decode cX4_advance 76 = .ok (.if_icmp .lt 37, 3) := by decide +kernel
theorem dX4_advance_79 : decode cX4_advance 79 = .ok (.iload_n 1, 1) := by decide +kernel
theorem dX4_advance_80 : decode cX4_advance 80 = .ok (.bipush 122, 2) := by decide +kernel
theorem dX4_advance_82 : decode cX4_advance 82 = .ok (.if_icmp .gt 31, 3) := by decide +kernel
theorem dX4_advance_85 : decode cX4_advance 85 = .ok (.aload_n 0, 1) := by decide +kernel
theorem dX4_advance_86 : decode cX4_advance 86 = .ok (.aload_n 0, 1) := by decide +kernel
theorem dX4_advance_87 : decode cX4_advance 87 = .ok (.bipush 97, 2) := by decide +kernel
theorem dX4_advance_89 : decode cX4_advance 89 = .ok (.bipush 122, 2) := by decide +kernel
theorem dX4_advance_91 : decode cX4_advance 91 = .ok (.bipush 27, 2) := by decide +kernel
theorem dX4_advance_93 : decode cX4_advance 93 = .ok (.iconst 1, 1) := by decide +kernel
theorem dX4_advance_94 : decode cX4_advance 94 = .ok (.invokevirtual 110, 3) := by decide +kernel
theorem dX4_advance_97 : decode cX4_advance 97 = .ok (.bipush 8, 2) := by decide +kernel
theorem dX4_advance_99 : decode cX4_advance 99 = .ok (.if_icmp .gt 7, 3) := by decide +kernel
theorem dX4_advance_102 : decode cX4_advance 102 = .ok (.iconst 1, 1) := by decide +kernel
theorem dX4_advance_103 : decode cX4_advance 103 = .ok (.goto 4, 3) := by decide +kernel
theorem dX4_advance_106 : decode cX4_advance 106 = .ok (.iconst 5, 1) := by decide +kernel
theorem dX4_advance_107 : decode cX4_advance 107 = .ok (.putfield 90, 3) := by decide +kernel
theorem dX4_advance_110 : decode cX4_advance 110 = .ok (.goto 77, 3) := by decide +kernel
theorem dX4_advance_113 : decode cX4_advance 113 = .ok (.iload_n 1, 1) := by decide +kernel
theorem dX4_advance_114 : decode cX4_advance 114 = .ok (.bipush 48, 2) := by decide +kernel
theorem dX4_advance_116 : decode cX4_advance 116 = .ok (.if_icmp .lt 36, 3) := by decide +kernel
theorem dX4_advance_119 : decode cX4_advance 119 = .ok (.iload_n 1, 1) := by decide +kernel
theorem dX4_advance_120 : decode cX4_advance 120 = .ok (.bipush 57, 2) := by decide +kernel
theorem dX4_advance_122 : decode cX4_advance 122 = .ok (.if_icmp .gt 30, 3) := by decide +kernel
theorem dX4_advance_125 : decode cX4_advance 125 = .ok (.aload_n 0, 1) := by decide +kernel
theorem dX4_advance_126 : decode cX4_advance 126 = .ok (.aload_n 0, 1) := by decide +kernel
theorem dX4_advance_127 : decode cX4_advance 127 = .ok (.bipush 48, 2) := by decide +kernel
theorem dX4_advance_129 : decode cX4_advance 129 = .ok (.bipush 57, 2) := by decide +kernel
theorem dX4_advance_131 : decode cX4_advance 131 = .ok (.bipush 10, 2) := by decide +kernel
theorem dX4_advance_133 : decode cX4_advance 133 = .ok (.iconst 0, 1) := by decide +kernel
theorem dX4_advance_134 : decode cX4_advance 134 = .ok (.invokevirtual 110, 3) := by decide +kernel
theorem dX4_advance_137 : decode cX4_advance 137 = .ok (.iconst 3, 1) := by decide +kernel
theorem dX4_advance_138 : decode cX4_advance 138 = .ok (.if_icmp .gt 7, 3) := by decide +kernel
theorem dX4_advance_141 : decode cX4_advance 141 = .ok (.iconst 2, 1) := by decide +kernel
theorem dX4_advance_142 : decode cX4_advance 142 = .ok (.goto 4, 3) := by decide +kernel
theorem dX4_advance_145 : decode cX4_advance 145 = .ok (.iconst 5, 1) := by decide +kernel
theorem dX4_advance_146 : decode cX4_advance 146 = .ok (.putfield 90, 3) := by decide +kernel
theorem dX4_advance_149 : decode cX4_advance 149 = .ok (.goto 38, 3) := by decide +kernel
theorem dX4_advance_152 : decode cX4_advance 152 = .ok (.aload_n 0, 1) := by decide +kernel
theorem dX4_advance_153 : decode cX4_advance 153 = .ok (.iload_n 1, 1) := by decide +kernel
theorem dX4_advance_154 : decode cX4_advance 154 = .ok (.bipush 59, 2) := by decide +kernel
theorem dX4_advance_156 : decode cX4_advance 156 = .ok (.if_icmp .ne 7, 3) := by decide +kernel
theorem dX4_advance_159 : decode cX4_advance 159 = .ok (.iconst 3, 1) := by decide +kernel
theorem dX4_advance_160 : decode cX4_advance 160 = .ok (.goto 14, 3) := by decide +kernel
theorem dX4_advance_163 : decode cX4_advance 163 = .ok (.iload_n 1, 1) := by decide +kernel
theorem dX4_advance_164 : decode cX4_advance 164 = .ok (.bipush 44, 2) := by decide +kernel
theorem dX4_advance_166 : decode cX4_advance 166 = .ok (.if_icmp .ne 7, 3) := by decide +kernel
theorem dX4_advance_169 : decode cX4_advance 169 = .ok (.iconst 4, 1) := by decide +kernel
theorem dX4_advance_170 : decode cX4_advance 170 = .ok (.goto 4, 3) := by decide +kernel
theorem dX4_advance_173 : decode cX4_advance 173 = .ok (.iconst 5, 1) := by decide +kernel
theorem dX4_advance_174 : decode cX4_advance 174 = .ok (.putfield 90, 3) := by decide +kernel
theorem dX4_advance_177 : decode cX4_advance 177 = .ok (.aload_n 0, 1) := by decide +kernel
theorem dX4_advance_178 : decode cX4_advance 178 = .ok (.dup, 1) := by decide +kernel
theorem dX4_advance_179 : decode cX4_advance 179 = .ok (.getfield 67, 3) := by decide +kernel
theorem dX4_advance_182 : decode cX4_advance 182 = .ok (.iconst 1, 1) := by decide +kernel
theorem dX4_advance_183 : decode cX4_advance 183 = .ok (.iadd, 1) := by decide +kernel
theorem dX4_advance_184 : decode cX4_advance 184 = .ok (.putfield 67, 3) := by decide +kernel
theorem dX4_advance_187 : decode cX4_advance 187 = .ok (.return_, 1) := by decide +kernel
theorem dX4_takeRun_0 : decode cX4_takeRun 0 = .ok (.aload_n 0, 1) := by decide +kernel
theorem dX4_takeRun_1 : decode cX4_takeRun 1 = .ok (.lconst 0, 1) := by decide +kernel
theorem dX4_takeRun_2 : decode cX4_takeRun 2 = .ok (.putfield 114, 3) := by decide +kernel
theorem dX4_takeRun_5 : decode cX4_takeRun 5 = .ok (.aload_n 0, 1) := by decide +kernel
theorem dX4_takeRun_6 : decode cX4_takeRun 6 = .ok (.getfield 67, 3) := by decide +kernel
theorem dX4_takeRun_9 : decode cX4_takeRun 9 = .ok (.aload_n 0, 1) := by decide +kernel
theorem dX4_takeRun_10 : decode cX4_takeRun 10 = .ok (.getfield 64, 3) := by decide +kernel
theorem dX4_takeRun_13 : decode cX4_takeRun 13 = .ok (.if_icmp .ge 69, 3) := by decide +kernel
theorem dX4_takeRun_16 : decode cX4_takeRun 16 = .ok (.aload_n 0, 1) := by decide +kernel
theorem dX4_takeRun_17 : decode cX4_takeRun 17 = .ok (.getfield 9, 3) := by decide +kernel
theorem dX4_takeRun_20 : decode cX4_takeRun 20 = .ok (.aload_n 0, 1) := by decide +kernel
theorem dX4_takeRun_21 : decode cX4_takeRun 21 = .ok (.getfield 67, 3) := by decide +kernel
theorem dX4_takeRun_24 : decode cX4_takeRun 24 = .ok (.baload, 1) := by decide +kernel
theorem dX4_takeRun_25 : decode cX4_takeRun 25 = .ok (.iload_n 1, 1) := by decide +kernel
theorem dX4_takeRun_26 : decode cX4_takeRun 26 = .ok (.if_icmp .lt 56, 3) := by decide +kernel
theorem dX4_takeRun_29 : decode cX4_takeRun 29 = .ok (.aload_n 0, 1) := by decide +kernel
theorem dX4_takeRun_30 : decode cX4_takeRun 30 = .ok (.getfield 9, 3) := by decide +kernel
theorem dX4_takeRun_33 : decode cX4_takeRun 33 = .ok (.aload_n 0, 1) := by decide +kernel
theorem dX4_takeRun_34 : decode cX4_takeRun 34 = .ok (.getfield 67, 3) := by decide +kernel
theorem dX4_takeRun_37 : decode cX4_takeRun 37 = .ok (.baload, 1) := by decide +kernel
theorem dX4_takeRun_38 : decode cX4_takeRun 38 = .ok (.iload_n 2, 1) := by decide +kernel
theorem dX4_takeRun_39 : decode cX4_takeRun 39 = .ok (.if_icmp .gt 43, 3) := by decide +kernel
theorem dX4_takeRun_42 : decode cX4_takeRun 42 = .ok (.aload_n 0, 1) := by decide +kernel
theorem dX4_takeRun_43 : decode cX4_takeRun 43 = .ok (.aload_n 0, 1) := by decide +kernel
theorem dX4_takeRun_44 : decode cX4_takeRun 44 = .ok (.getfield 114, 3) := by decide +kernel
theorem dX4_takeRun_47 : decode cX4_takeRun 47 = .ok (.iload_n 3, 1) := by decide +kernel
theorem dX4_takeRun_48 : decode cX4_takeRun 48 = .ok (.i2l, 1) := by decide +kernel
theorem dX4_takeRun_49 : decode cX4_takeRun 49 = .ok (.lmul, 1) := by decide +kernel
theorem dX4_takeRun_50 : decode cX4_takeRun 50 = .ok (.aload_n 0, 1) := by decide +kernel
theorem dX4_takeRun_51 : decode cX4_takeRun 51 = .ok (.getfield 9, 3) := by decide +kernel
theorem dX4_takeRun_54 : decode cX4_takeRun 54 = .ok (.aload_n 0, 1) := by decide +kernel
theorem dX4_takeRun_55 : decode cX4_takeRun 55 = .ok (.getfield 67, 3) := by decide +kernel
theorem dX4_takeRun_58 : decode cX4_takeRun 58 = .ok (.baload, 1) := by decide +kernel
theorem dX4_takeRun_59 : decode cX4_takeRun 59 = .ok (.iload_n 1, 1) := by decide +kernel
theorem dX4_takeRun_60 : decode cX4_takeRun 60 = .ok (.isub, 1) := by decide +kernel
theorem dX4_takeRun_61 : decode cX4_takeRun 61 = .ok (.iload 4, 2) := by decide +kernel
theorem dX4_takeRun_63 : decode cX4_takeRun 63 = .ok (.iadd, 1) := by decide +kernel
theorem dX4_takeRun_64 : decode cX4_takeRun 64 = .ok (.i2l, 1) := by decide +kernel
theorem dX4_takeRun_65 : decode cX4_takeRun 65 = .ok (.ladd, 1) := by decide +kernel
theorem dX4_takeRun_66 : decode cX4_takeRun 66 = .ok (.putfield 114, 3) := by decide +kernel
theorem dX4_takeRun_69 : decode cX4_takeRun 69 = .ok (.aload_n 0, 1) := by decide +kernel
theorem dX4_takeRun_70 : decode cX4_takeRun 70 = .ok (.dup, 1) := by decide +kernel
theorem dX4_takeRun_71 : decode cX4_takeRun 71 = .ok (.getfield 67, 3) := by decide +kernel
theorem dX4_takeRun_74 : decode cX4_takeRun 74 = .ok (.iconst 1, 1) := by decide +kernel
theorem dX4_takeRun_75 : decode cX4_takeRun 75 = .ok (.iadd, 1) := by decide +kernel
theorem dX4_takeRun_76 : decode cX4_takeRun 76 = .ok (.putfield 67, 3) := by decide +kernel
theorem dX4_takeRun_79 : decode cX4_takeRun 79 = .ok (.goto (-74), 3) := by decide +kernel
theorem dX4_takeRun_82 : decode cX4_takeRun 82 = .ok (.aload_n 0, 1) := by decide +kernel
theorem dX4_takeRun_83 : decode cX4_takeRun 83 = .ok (.getfield 67, 3) := by decide +kernel
theorem dX4_takeRun_86 : decode cX4_takeRun 86 = .ok (.aload_n 0, 1) := by decide +kernel
theorem dX4_takeRun_87 : decode cX4_takeRun 87 = .ok (.getfield 107, 3) := by decide +kernel
theorem dX4_takeRun_90 : decode cX4_takeRun 90 = .ok (.isub, 1) := by decide +kernel
theorem dX4_takeRun_91 : decode cX4_takeRun 91 = .ok (.ireturn, 1) := by decide +kernel
theorem dX4_packed_0 : decode cX4_packed 0 = .ok (.lconst 0, 1) := by decide +kernel
theorem dX4_packed_1 : decode cX4_packed 1 = .ok (.lstore_n 1, 1) := by decide +kernel
theorem dX4_packed_2 : decode cX4_packed 2 = .ok (.iconst 0, 1) := by decide +kernel
theorem dX4_packed_3 : decode cX4_packed 3 = .ok (.istore_n 3, 1) := by decide +kernel
theorem dX4_packed_4 : decode cX4_packed 4 = .ok (.iload_n 3, 1) := by decide +kernel
theorem dX4_packed_5 : decode cX4_packed 5 = .ok (.aload_n 0, 1) := by decide +kernel
theorem dX4_packed_6 : decode cX4_packed 6 = .ok (.invokevirtual 118, 3) := by decide +kernel
theorem dX4_packed_9 : decode cX4_packed 9 = .ok (.if_icmp .ge 27, 3) := by decide +kernel
theorem dX4_packed_12 : decode cX4_packed 12 = .ok (.lload_n 1, 1) := by decide +kernel
theorem dX4_packed_13 : decode cX4_packed 13 = .ok (.ldc2_w 124, 3) := by decide +kernel
theorem dX4_packed_16 : decode cX4_packed 16 = .ok (.lmul, 1) := by decide +kernel
theorem dX4_packed_17 : decode cX4_packed 17 = .ok (.aload_n 0, 1) := by decide +kernel
theorem dX4_packed_18 : decode cX4_packed 18 = .ok (.iload_n 3, 1) := by decide +kernel
theorem dX4_packed_19 : decode cX4_packed 19 = .ok (.invokevirtual 126, 3) := by decide +kernel
theorem dX4_packed_22 : decode cX4_packed 22 = .ok (.bipush 97, 2) := by decide +kernel
theorem dX4_packed_24 : decode cX4_packed 24 = .ok (.isub, 1) := by decide +kernel
theorem dX4_packed_25 : decode cX4_packed 25 = .ok (.iconst 1, 1) := by decide +kernel
theorem dX4_packed_26 : decode cX4_packed 26 = .ok (.iadd, 1) := by decide +kernel
theorem dX4_packed_27 : decode cX4_packed 27 = .ok (.i2l, 1) := by decide +kernel
theorem dX4_packed_28 : decode cX4_packed 28 = .ok (.ladd, 1) := by decide +kernel
theorem dX4_packed_29 : decode cX4_packed 29 = .ok (.lstore_n 1, 1) := by decide +kernel
theorem dX4_packed_30 : decode cX4_packed 30 = .ok (.iinc 3 1, 3) := by decide +kernel
theorem dX4_packed_33 : decode cX4_packed 33 = .ok (.goto (-29), 3) := by decide +kernel
theorem dX4_packed_36 : decode cX4_packed 36 = .ok (.lload_n 1, 1) := by decide +kernel
theorem dX4_packed_37 : decode cX4_packed 37 = .ok (.lreturn, 1) := by decide +kernel
theorem dX4_stands_0 : decode cX4_stands 0 = .ok (.aload_n 0, 1) := by decide +kernel
theorem dX4_stands_1 : decode cX4_stands 1 = .ok (.getfield 90, 3) := by decide +kernel
theorem dX4_stands_4 : decode cX4_stands 4 = .ok (.iconst 1, 1) := by decide +kernel
theorem dX4_stands_5 : decode cX4_stands 5 = .ok (.if_icmp .ne 19, 3) := by decide +kernel
theorem dX4_stands_8 : decode cX4_stands 8 = .ok (.aload_n 0, 1) := by decide +kernel
theorem dX4_stands_9 : decode cX4_stands 9 = .ok (.getfield 114, 3) := by decide +kernel
theorem dX4_stands_12 : decode cX4_stands 12 = .ok (.aload_n 1, 1) := by decide +kernel
theorem dX4_stands_13 : decode cX4_stands 13 = .ok (.invokestatic 28, 3) := by decide +kernel
theorem dX4_stands_16 : decode cX4_stands 16 = .ok (.lcmp, 1) := by decide +kernel
theorem dX4_stands_17 : decode cX4_stands 17 = .ok (.ifCond .ne 7, 3) := by decide +kernel
theorem dX4_stands_20 : decode cX4_stands 20 = .ok (.iconst 1, 1) := by decide +kernel
theorem dX4_stands_21 : decode cX4_stands 21 = .ok (.goto 4, 3) := by decide +kernel
theorem dX4_stands_24 : decode cX4_stands 24 = .ok (.iconst 0, 1) := by decide +kernel
theorem dX4_stands_25 : decode cX4_stands 25 = .ok (.ireturn, 1) := by decide +kernel
theorem dX4_passes_0 : decode cX4_passes 0 = .ok (.iload_n 1, 1) := by decide +kernel
theorem dX4_passes_1 : decode cX4_passes 1 = .ok (.ifCond .ne 9, 3) := by decide +kernel
theorem dX4_passes_4 : decode cX4_passes 4 = .ok (.aload_n 0, 1) := by decide +kernel
theorem dX4_passes_5 : decode cX4_passes 5 = .ok (.iconst 1, 1) := by decide +kernel
theorem dX4_passes_6 : decode cX4_passes 6 = .ok (.invokevirtual 99, 3) := by decide +kernel
theorem dX4_passes_9 : decode cX4_passes 9 = .ok (.ireturn, 1) := by decide +kernel
theorem dX4_passes_10 : decode cX4_passes 10 = .ok (.aload_n 0, 1) := by decide +kernel
theorem dX4_passes_11 : decode cX4_passes 11 = .ok (.invokevirtual 83, 3) := by decide +kernel
theorem dX4_passes_14 : decode cX4_passes 14 = .ok (.iconst 1, 1) := by decide +kernel
theorem dX4_passes_15 : decode cX4_passes 15 = .ok (.ireturn, 1) := by decide +kernel
theorem dX4_passesWord_0 : decode cX4_passesWord 0 = .ok (.aload_n 0, 1) := by decide +kernel
theorem dX4_passesWord_1 : decode cX4_passesWord 1 = .ok (.aload_n 0, 1) := by decide +kernel
theorem dX4_passesWord_2 : decode cX4_passesWord 2 = .ok (.aload_n 1, 1) := by decide +kernel
theorem dX4_passesWord_3 : decode cX4_passesWord 3 = .ok (.invokevirtual 130, 3) := by decide +kernel
theorem dX4_passesWord_6 : decode cX4_passesWord 6 = .ok (.invokevirtual 103, 3) := by decide +kernel
theorem dX4_passesWord_9 : decode cX4_passesWord 9 = .ok (.ireturn, 1) := by decide +kernel
theorem dX4_passWhole_0 : decode cX4_passWhole 0 = .ok (.aload_n 0, 1) := by decide +kernel
theorem dX4_passWhole_1 : decode cX4_passWhole 1 = .ok (.getfield 90, 3) := by decide +kernel
theorem dX4_passWhole_4 : decode cX4_passWhole 4 = .ok (.iconst 2, 1) := by decide +kernel
theorem dX4_passWhole_5 : decode cX4_passWhole 5 = .ok (.if_icmp .eq 11, 3) := by decide +kernel
theorem dX4_passWhole_8 : decode cX4_passWhole 8 = .ok (.aload_n 0, 1) := by decide +kernel
theorem dX4_passWhole_9 : decode cX4_passWhole 9 = .ok (.iconst 1, 1) := by decide +kernel
theorem dX4_passWhole_10 : decode cX4_passWhole 10 = .ok (.invokevirtual 99, 3) := by decide +kernel
theorem dX4_passWhole_13 : decode cX4_passWhole 13 = .ok (.pop, 1) := by decide +kernel
theorem dX4_passWhole_14 : decode cX4_passWhole 14 = .ok (.iconst (-1), 1) := by decide +kernel
theorem dX4_passWhole_15 : decode cX4_passWhole 15 = .ok (.ireturn, 1) := by decide +kernel
theorem dX4_passWhole_16 : decode cX4_passWhole 16 = .ok (.aload_n 0, 1) := by decide +kernel
theorem dX4_passWhole_17 : decode cX4_passWhole 17 = .ok (.getfield 114, 3) := by decide +kernel
theorem dX4_passWhole_20 : decode cX4_passWhole 20 = .ok (.iload_n 1, 1) := by decide +kernel
theorem dX4_passWhole_21 : decode cX4_passWhole 21 = .ok (.i2l, 1) := by decide +kernel
theorem dX4_passWhole_22 : decode cX4_passWhole 22 = .ok (.lcmp, 1) := by decide +kernel
theorem dX4_passWhole_23 : decode cX4_passWhole 23 = .ok (.ifCond .lt 13, 3) := by decide +kernel
theorem dX4_passWhole_26 : decode cX4_passWhole 26 = .ok (.aload_n 0, 1) := by decide +kernel
theorem dX4_passWhole_27 : decode cX4_passWhole 27 = .ok (.getfield 114, 3) := by decide +kernel
theorem dX4_passWhole_30 : decode cX4_passWhole 30 = .ok (.iload_n 2, 1) := by decide +kernel
theorem dX4_passWhole_31 : decode cX4_passWhole 31 = .ok (.i2l, 1) := by decide +kernel
theorem dX4_passWhole_32 : decode cX4_passWhole 32 = .ok (.lcmp, 1) := by decide +kernel
theorem dX4_passWhole_33 : decode cX4_passWhole 33 = .ok (.ifCond .le 11, 3) := by decide +kernel
theorem dX4_passWhole_36 : decode cX4_passWhole 36 = .ok (.aload_n 0, 1) := by decide +kernel
theorem dX4_passWhole_37 : decode cX4_passWhole 37 = .ok (.iconst 4, 1) := by decide +kernel
theorem dX4_passWhole_38 : decode cX4_passWhole 38 = .ok (.invokevirtual 99, 3) := by decide +kernel
theorem dX4_passWhole_41 : decode cX4_passWhole 41 = .ok (.pop, 1) := by decide +kernel
theorem dX4_passWhole_42 : decode cX4_passWhole 42 = .ok (.iconst (-1), 1) := by decide +kernel
theorem dX4_passWhole_43 : decode cX4_passWhole 43 = .ok (.ireturn, 1) := by decide +kernel
theorem dX4_passWhole_44 : decode cX4_passWhole 44 = .ok (.aload_n 0, 1) := by decide +kernel
theorem dX4_passWhole_45 : decode cX4_passWhole 45 = .ok (.getfield 114, 3) := by decide +kernel
theorem dX4_passWhole_48 : decode cX4_passWhole 48 = .ok (.l2i, 1) := by decide +kernel
theorem dX4_passWhole_49 : decode cX4_passWhole 49 = .ok (.istore_n 3, 1) := by decide +kernel
theorem dX4_passWhole_50 : decode cX4_passWhole 50 = .ok (.aload_n 0, 1) := by decide +kernel
theorem dX4_passWhole_51 : decode cX4_passWhole 51 = .ok (.invokevirtual 83, 3) := by decide +kernel
theorem dX4_passWhole_54 : decode cX4_passWhole 54 = .ok (.iload_n 3, 1) := by decide +kernel
theorem dX4_passWhole_55 : decode cX4_passWhole 55 = .ok (.ireturn, 1) := by decide +kernel
theorem dX4_isName_0 : decode cX4_isName 0 = .ok (.aload_n 0, 1) := by decide +kernel
theorem dX4_isName_1 : decode cX4_isName 1 = .ok (.getfield 90, 3) := by decide +kernel
theorem dX4_isName_4 : decode cX4_isName 4 = .ok (.iconst 1, 1) := by decide +kernel
theorem dX4_isName_5 : decode cX4_isName 5 = .ok (.if_icmp .ne 15, 3) := by decide +kernel
theorem dX4_isName_8 : decode cX4_isName 8 = .ok (.aload_n 0, 1) := by decide +kernel
theorem dX4_isName_9 : decode cX4_isName 9 = .ok (.invokevirtual 134, 3) := by decide +kernel
theorem dX4_isName_12 : decode cX4_isName 12 = .ok (.iconst (-1), 1) := by decide +kernel
theorem dX4_isName_13 : decode cX4_isName 13 = .ok (.if_icmp .ne 7, 3) := by decide +kernel
theorem dX4_isName_16 : decode cX4_isName 16 = .ok (.iconst 1, 1) := by decide +kernel
theorem dX4_isName_17 : decode cX4_isName 17 = .ok (.goto 4, 3) := by decide +kernel
theorem dX4_isName_20 : decode cX4_isName 20 = .ok (.iconst 0, 1) := by decide +kernel
theorem dX4_isName_21 : decode cX4_isName 21 = .ok (.ireturn, 1) := by decide +kernel
theorem dX4_nameHere_0 : decode cX4_nameHere 0 = .ok (.iconst 0, 1) := by decide +kernel
theorem dX4_nameHere_1 : decode cX4_nameHere 1 = .ok (.istore_n 1, 1) := by decide +kernel
theorem dX4_nameHere_2 : decode cX4_nameHere 2 = .ok (.iload_n 1, 1) := by decide +kernel
theorem dX4_nameHere_3 : decode cX4_nameHere 3 = .ok (.aload_n 0, 1) := by decide +kernel
theorem dX4_nameHere_4 : decode cX4_nameHere 4 = .ok (.getfield 70, 3) := by decide +kernel
theorem dX4_nameHere_7 : decode cX4_nameHere 7 = .ok (.if_icmp .ge 31, 3) := by decide +kernel
theorem dX4_nameHere_10 : decode cX4_nameHere 10 = .ok (.iload_n 1, 1) := by decide +kernel
theorem dX4_nameHere_11 : decode cX4_nameHere 11 = .ok (.bipush 18, 2) := by decide +kernel
theorem dX4_nameHere_13 : decode cX4_nameHere 13 = .ok (.if_icmp .ge 25, 3) := by decide +kernel
theorem dX4_nameHere_16 : decode cX4_nameHere 16 = .ok (.aload_n 0, 1) := by decide +kernel
theorem dX4_nameHere_17 : decode cX4_nameHere 17 = .ok (.getfield 15, 3) := by decide +kernel
theorem dX4_nameHere_20 : decode cX4_nameHere 20 = .ok (.iload_n 1, 1) := by decide +kernel
theorem dX4_nameHere_21 : decode cX4_nameHere 21 = .ok (.laload, 1) := by decide +kernel
theorem dX4_nameHere_22 : decode cX4_nameHere 22 = .ok (.aload_n 0, 1) := by decide +kernel
theorem dX4_nameHere_23 : decode cX4_nameHere 23 = .ok (.getfield 114, 3) := by decide +kernel
theorem dX4_nameHere_26 : decode cX4_nameHere 26 = .ok (.lcmp, 1) := by decide +kernel
theorem dX4_nameHere_27 : decode cX4_nameHere 27 = .ok (.ifCond .ne 5, 3) := by decide +kernel
theorem dX4_nameHere_30 : decode cX4_nameHere 30 = .ok (.iload_n 1, 1) := by decide +kernel
theorem dX4_nameHere_31 : decode cX4_nameHere 31 = .ok (.ireturn, 1) := by decide +kernel
theorem dX4_nameHere_32 : decode cX4_nameHere 32 = .ok (.iinc 1 1, 3) := by decide +kernel
theorem dX4_nameHere_35 : decode cX4_nameHere 35 = .ok (.goto (-33), 3) := by decide +kernel
theorem dX4_nameHere_38 : decode cX4_nameHere 38 = .ok (.iconst (-1), 1) := by decide +kernel
theorem dX4_nameHere_39 : decode cX4_nameHere 39 = .ok (.ireturn, 1) := by decide +kernel
theorem dX4_tellsName_0 : decode cX4_tellsName 0 = .ok (.aload_n 0, 1) := by decide +kernel
theorem dX4_tellsName_1 : decode cX4_tellsName 1 = .ok (.invokevirtual 137, 3) := by decide +kernel
theorem dX4_tellsName_4 : decode cX4_tellsName 4 = .ok (.ifCond .ne 9, 3) := by decide +kernel
theorem dX4_tellsName_7 : decode cX4_tellsName 7 = .ok (.aload_n 0, 1) := by decide +kernel
theorem dX4_tellsName_8 : decode cX4_tellsName 8 = .ok (.iconst 1, 1) := by decide +kernel
theorem dX4_tellsName_9 : decode cX4_tellsName 9 = .ok (.invokevirtual 99, 3) := by decide +kernel
theorem dX4_tellsName_12 : decode cX4_tellsName 12 = .ok (.ireturn, 1) := by decide +kernel
theorem dX4_tellsName_13 : decode cX4_tellsName 13 = .ok (.aload_n 0, 1) := by decide +kernel
theorem dX4_tellsName_14 : decode cX4_tellsName 14 = .ok (.invokevirtual 140, 3) := by decide +kernel
theorem dX4_tellsName_17 : decode cX4_tellsName 17 = .ok (.iconst (-1), 1) := by decide +kernel
theorem dX4_tellsName_18 : decode cX4_tellsName 18 = .ok (.if_icmp .ne 12, 3) := by decide +kernel
theorem dX4_tellsName_21 : decode cX4_tellsName 21 = .ok (.aload_n 0, 1) := by decide +kernel
theorem dX4_tellsName_22 : decode cX4_tellsName 22 = .ok (.getfield 70, 3) := by decide +kernel
theorem dX4_tellsName_25 : decode cX4_tellsName 25 = .ok (.bipush 18, 2) := by decide +kernel
theorem dX4_tellsName_27 : decode cX4_tellsName 27 = .ok (.if_icmp .lt 9, 3) := by decide +kernel
theorem dX4_tellsName_30 : decode cX4_tellsName 30 = .ok (.aload_n 0, 1) := by decide +kernel
theorem dX4_tellsName_31 : decode cX4_tellsName 31 = .ok (.iconst 3, 1) := by decide +kernel
theorem dX4_tellsName_32 : decode cX4_tellsName 32 = .ok (.invokevirtual 99, 3) := by decide +kernel
theorem dX4_tellsName_35 : decode cX4_tellsName 35 = .ok (.ireturn, 1) := by decide +kernel
theorem dX4_tellsName_36 : decode cX4_tellsName 36 = .ok (.aload_n 0, 1) := by decide +kernel
theorem dX4_tellsName_37 : decode cX4_tellsName 37 = .ok (.getfield 15, 3) := by decide +kernel
theorem dX4_tellsName_40 : decode cX4_tellsName 40 = .ok (.aload_n 0, 1) := by decide +kernel
theorem dX4_tellsName_41 : decode cX4_tellsName 41 = .ok (.getfield 70, 3) := by decide +kernel
theorem dX4_tellsName_44 : decode cX4_tellsName 44 = .ok (.aload_n 0, 1) := by decide +kernel
theorem dX4_tellsName_45 : decode cX4_tellsName 45 = .ok (.getfield 114, 3) := by decide +kernel
theorem dX4_tellsName_48 : decode cX4_tellsName 48 = .ok (.lastore, 1) := by decide +kernel
theorem dX4_tellsName_49 : decode cX4_tellsName 49 = .ok (.aload_n 0, 1) := by decide +kernel
theorem dX4_tellsName_50 : decode cX4_tellsName 50 = .ok (.getfield 19, 3) := by decide +kernel
theorem dX4_tellsName_53 : decode cX4_tellsName 53 = .ok (.aload_n 0, 1) := by decide +kernel
theorem dX4_tellsName_54 : decode cX4_tellsName 54 = .ok (.getfield 70, 3) := by decide +kernel
theorem dX4_tellsName_57 : decode cX4_tellsName 57 = .ok (.iload_n 1, 1) := by decide +kernel
theorem dX4_tellsName_58 : decode cX4_tellsName 58 = .ok (.iastore, 1) := by decide +kernel
theorem dX4_tellsName_59 : decode cX4_tellsName 59 = .ok (.aload_n 0, 1) := by decide +kernel
theorem dX4_tellsName_60 : decode cX4_tellsName 60 = .ok (.getfield 23, 3) := by decide +kernel
theorem dX4_tellsName_63 : decode cX4_tellsName 63 = .ok (.aload_n 0, 1) := by decide +kernel
theorem dX4_tellsName_64 : decode cX4_tellsName 64 = .ok (.getfield 70, 3) := by decide +kernel
theorem dX4_tellsName_67 : decode cX4_tellsName 67 = .ok (.iload_n 2, 1) := by decide +kernel
theorem dX4_tellsName_68 : decode cX4_tellsName 68 = .ok (.iastore, 1) := by decide +kernel
theorem dX4_tellsName_69 : decode cX4_tellsName 69 = .ok (.aload_n 0, 1) := by decide +kernel
theorem dX4_tellsName_70 : decode cX4_tellsName 70 = .ok (.dup, 1) := by decide +kernel
theorem dX4_tellsName_71 : decode cX4_tellsName 71 = .ok (.getfield 70, 3) := by decide +kernel
theorem dX4_tellsName_74 : decode cX4_tellsName 74 = .ok (.iconst 1, 1) := by decide +kernel
theorem dX4_tellsName_75 : decode cX4_tellsName 75 = .ok (.iadd, 1) := by decide +kernel
theorem dX4_tellsName_76 : decode cX4_tellsName 76 = .ok (.putfield 70, 3) := by decide +kernel
theorem dX4_tellsName_79 : decode cX4_tellsName 79 = .ok (.aload_n 0, 1) := by decide +kernel
theorem dX4_tellsName_80 : decode cX4_tellsName 80 = .ok (.invokevirtual 83, 3) := by decide +kernel
theorem dX4_tellsName_83 : decode cX4_tellsName 83 = .ok (.iconst 1, 1) := by decide +kernel
theorem dX4_tellsName_84 : decode cX4_tellsName 84 = .ok (.ireturn, 1) := by decide +kernel
theorem dX4_passName_0 : decode cX4_passName 0 = .ok (.aload_n 0, 1) := by decide +kernel
theorem dX4_passName_1 : decode cX4_passName 1 = .ok (.invokevirtual 137, 3) := by decide +kernel
theorem dX4_passName_4 : decode cX4_passName 4 = .ok (.ifCond .ne 11, 3) := by decide +kernel
theorem dX4_passName_7 : decode cX4_passName 7 = .ok (.aload_n 0, 1) := by decide +kernel
theorem dX4_passName_8 : decode cX4_passName 8 = .ok (.iconst 1, 1) := by decide +kernel
theorem dX4_passName_9 : decode cX4_passName 9 = .ok (.invokevirtual 99, 3) := by decide +kernel
theorem dX4_passName_12 : decode cX4_passName 12 = .ok (.pop, 1) := by decide +kernel
theorem dX4_passName_13 : decode cX4_passName 13 = .ok (.iconst (-1), 1) := by decide +kernel
theorem dX4_passName_14 : decode cX4_passName 14 = .ok (.ireturn, 1) := by decide +kernel
theorem dX4_passName_15 : decode cX4_passName 15 = .ok (.aload_n 0, 1) := by decide +kernel
theorem dX4_passName_16 : decode cX4_passName 16 = .ok (.invokevirtual 140, 3) := by decide +kernel
theorem dX4_passName_19 : decode cX4_passName 19 = .ok (.istore_n 3, 1) := by decide +kernel
theorem dX4_passName_20 : decode cX4_passName 20 = .ok (.iload_n 3, 1) := by decide +kernel
theorem dX4_passName_21 : decode cX4_passName 21 = .ok (.ifCond .lt 19, 3) := by decide +kernel
theorem dX4_passName_24 : decode cX4_passName 24 = .ok (.iload_n 3, 1) := by decide +kernel
theorem dX4_passName_25 : decode cX4_passName 25 = .ok (.bipush 18, 2) := by decide +kernel
theorem dX4_passName_27 : decode cX4_passName 27 = .ok (.if_icmp .ge 13, 3) := by decide +kernel
theorem dX4_passName_30 : decode cX4_passName 30 = .ok (.aload_n 0, 1) := by decide +kernel
theorem dX4_passName_31 : decode cX4_passName 31 = .ok (.getfield 19, 3) := by decide +kernel
theorem dX4_passName_34 : decode cX4_passName 34 = .ok (.iload_n 3, 1) := by decide +kernel
theorem dX4_passName_35 : decode cX4_passName 35 = .ok (.iaload, 1) := by decide +kernel
theorem dX4_passName_36 : decode cX4_passName 36 = .ok (.iload_n 1, 1) := by decide +kernel
theorem dX4_passName_37 : decode cX4_passName 37 = .ok (.if_icmp .eq 11, 3) := by decide +kernel
theorem dX4_passName_40 : decode cX4_passName 40 = .ok (.aload_n 0, 1) := by decide +kernel
theorem dX4_passName_41 : decode cX4_passName 41 = .ok (.iconst 2, 1) := by decide +kernel
theorem dX4_passName_42 : decode cX4_passName 42 = .ok (.invokevirtual 99, 3) := by decide +kernel
theorem dX4_passName_45 : decode cX4_passName 45 = .ok (.pop, 1) := by decide +kernel
theorem dX4_passName_46 : decode cX4_passName 46 = .ok (.iconst (-1), 1) := by decide +kernel
theorem dX4_passName_47 : decode cX4_passName 47 = .ok (.ireturn, 1) := by decide +kernel
theorem dX4_passName_48 : decode cX4_passName 48 = .ok (.iload_n 2, 1) := by decide +kernel
theorem dX4_passName_49 : decode cX4_passName 49 = .ok (.i2l, 1) := by decide +kernel
theorem dX4_passName_50 : decode cX4_passName 50 = .ok (.aload_n 0, 1) := by decide +kernel
theorem dX4_passName_51 : decode cX4_passName 51 = .ok (.getfield 23, 3) := by decide +kernel
theorem dX4_passName_54 : decode cX4_passName 54 = .ok (.iload_n 3, 1) := by decide +kernel
theorem dX4_passName_55 : decode cX4_passName 55 = .ok (.iaload, 1) := by decide +kernel
theorem dX4_passName_56 : decode cX4_passName 56 = .ok (.invokestatic 143, 3) := by decide +kernel
theorem dX4_passName_59 : decode cX4_passName 59 = .ok (.ifCond .eq 11, 3) := by decide +kernel
theorem dX4_passName_62 : decode cX4_passName 62 = .ok (.aload_n 0, 1) := by decide +kernel
theorem dX4_passName_63 : decode cX4_passName 63 = .ok (.iconst 3, 1) := by decide +kernel
theorem dX4_passName_64 : decode cX4_passName 64 = .ok (.invokevirtual 99, 3) := by decide +kernel
theorem dX4_passName_67 : decode cX4_passName 67 = .ok (.pop, 1) := by decide +kernel
theorem dX4_passName_68 : decode cX4_passName 68 = .ok (.iconst (-1), 1) := by decide +kernel
theorem dX4_passName_69 : decode cX4_passName 69 = .ok (.ireturn, 1) := by decide +kernel
theorem dX4_passName_70 : decode cX4_passName 70 = .ok (.aload_n 0, 1) := by decide +kernel
theorem dX4_passName_71 : decode cX4_passName 71 = .ok (.invokevirtual 83, 3) := by decide +kernel
theorem dX4_passName_74 : decode cX4_passName 74 = .ok (.aload_n 0, 1) := by decide +kernel
theorem dX4_passName_75 : decode cX4_passName 75 = .ok (.getfield 23, 3) := by decide +kernel
theorem dX4_passName_78 : decode cX4_passName 78 = .ok (.iload_n 3, 1) := by decide +kernel
theorem dX4_passName_79 : decode cX4_passName 79 = .ok (.iaload, 1) := by decide +kernel
theorem dX4_passName_80 : decode cX4_passName 80 = .ok (.ireturn, 1) := by decide +kernel
theorem dX4_lineSort_0 : decode cX4_lineSort 0 = .ok (.iconst 0, 1) := by decide +kernel
theorem dX4_lineSort_1 : decode cX4_lineSort 1 = .ok (.istore_n 1, 1) := by decide +kernel
theorem dX4_lineSort_2 : decode cX4_lineSort 2 = .ok (.iload_n 1, 1) := by decide +kernel
theorem dX4_lineSort_3 : decode cX4_lineSort 3 = .ok (.aload_n 0, 1) := by decide +kernel
theorem dX4_lineSort_4 : decode cX4_lineSort 4 = .ok (.getfield 42, 3) := by decide +kernel
theorem dX4_lineSort_7 : decode cX4_lineSort 7 = .ok (.arraylength, 1) := by decide +kernel
theorem dX4_lineSort_8 : decode cX4_lineSort 8 = .ok (.if_icmp .ge 33, 3) := by decide +kernel
theorem dX4_lineSort_11 : decode cX4_lineSort 11 = .ok (.aload_n 0, 1) := by decide +kernel
theorem dX4_lineSort_12 : decode cX4_lineSort 12 = .ok (.getfield 90, 3) := by decide +kernel
theorem dX4_lineSort_15 : decode cX4_lineSort 15 = .ok (.iconst 1, 1) := by decide +kernel
theorem dX4_lineSort_16 : decode cX4_lineSort 16 = .ok (.if_icmp .ne 19, 3) := by decide +kernel
theorem dX4_lineSort_19 : decode cX4_lineSort 19 = .ok (.aload_n 0, 1) := by decide +kernel
theorem dX4_lineSort_20 : decode cX4_lineSort 20 = .ok (.getfield 114, 3) := by decide +kernel
theorem dX4_lineSort_23 : decode cX4_lineSort 23 = .ok (.aload_n 0, 1) := by decide +kernel
theorem dX4_lineSort_24 : decode cX4_lineSort 24 = .ok (.getfield 42, 3) := by decide +kernel
theorem dX4_lineSort_27 : decode cX4_lineSort 27 = .ok (.iload_n 1, 1) := by decide +kernel
theorem dX4_lineSort_28 : decode cX4_lineSort 28 = .ok (.laload, 1) := by decide +kernel
theorem dX4_lineSort_29 : decode cX4_lineSort 29 = .ok (.lcmp, 1) := by decide +kernel
theorem dX4_lineSort_30 : decode cX4_lineSort 30 = .ok (.ifCond .ne 5, 3) := by decide +kernel
theorem dX4_lineSort_33 : decode cX4_lineSort 33 = .ok (.iload_n 1, 1) := by decide +kernel
theorem dX4_lineSort_34 : decode cX4_lineSort 34 = .ok (.ireturn, 1) := by decide +kernel
theorem dX4_lineSort_35 : decode cX4_lineSort 35 = .ok (.iinc 1 1, 3) := by decide +kernel
theorem dX4_lineSort_38 : decode cX4_lineSort 38 = .ok (.goto (-36), 3) := by decide +kernel
theorem dX4_lineSort_41 : decode cX4_lineSort 41 = .ok (.iconst (-1), 1) := by decide +kernel
theorem dX4_lineSort_42 : decode cX4_lineSort 42 = .ok (.ireturn, 1) := by decide +kernel
theorem dX4_isFull_0 : decode cX4_isFull 0 = .ok (.iload_n 1, 1) := by decide +kernel
theorem dX4_isFull_1 : decode cX4_isFull 1 = .ok (.tableswitch 101 1 4 #[31, 48, 66, 84], 31) := by decide +kernel
theorem dX4_isFull_32 : decode cX4_isFull 32 = .ok (.aload_n 0, 1) := by decide +kernel
theorem dX4_isFull_33 : decode cX4_isFull 33 = .ok (.getfield 48, 3) := by decide +kernel
theorem dX4_isFull_36 : decode cX4_isFull 36 = .ok (.getfield 93, 3) := by decide +kernel
theorem dX4_isFull_39 : decode cX4_isFull 39 = .ok (.iconst 4, 1) := by decide +kernel
theorem dX4_isFull_40 : decode cX4_isFull 40 = .ok (.if_icmp .lt 7, 3) := by decide +kernel
theorem dX4_isFull_43 : decode cX4_isFull 43 = .ok (.iconst 1, 1) := by decide +kernel
theorem dX4_isFull_44 : decode cX4_isFull 44 = .ok (.goto 4, 3) := by decide +kernel
theorem dX4_isFull_47 : decode cX4_isFull 47 = .ok (.iconst 0, 1) := by decide +kernel
theorem dX4_isFull_48 : decode cX4_isFull 48 = .ok (.ireturn, 1) := by decide +kernel
theorem dX4_isFull_49 : decode cX4_isFull 49 = .ok (.aload_n 0, 1) := by decide +kernel
theorem dX4_isFull_50 : decode cX4_isFull 50 = .ok (.getfield 48, 3) := by decide +kernel
theorem dX4_isFull_53 : decode cX4_isFull 53 = .ok (.getfield 96, 3) := by decide +kernel
theorem dX4_isFull_56 : decode cX4_isFull 56 = .ok (.bipush 6, 2) := by decide +kernel
theorem dX4_isFull_58 : decode cX4_isFull 58 = .ok (.if_icmp .lt 7, 3) := by decide +kernel
theorem dX4_isFull_61 : decode cX4_isFull 61 = .ok (.iconst 1, 1) := by decide +kernel
theorem dX4_isFull_62 : decode cX4_isFull 62 = .ok (.goto 4, 3) := by decide +kernel
theorem dX4_isFull_65 : decode cX4_isFull 65 = .ok (.iconst 0, 1) := by decide +kernel
theorem dX4_isFull_66 : decode cX4_isFull 66 = .ok (.ireturn, 1) := by decide +kernel
theorem dX4_isFull_67 : decode cX4_isFull 67 = .ok (.aload_n 0, 1) := by decide +kernel
theorem dX4_isFull_68 : decode cX4_isFull 68 = .ok (.getfield 48, 3) := by decide +kernel
theorem dX4_isFull_71 : decode cX4_isFull 71 = .ok (.getfield 147, 3) := by decide +kernel
theorem dX4_isFull_74 : decode cX4_isFull 74 = .ok (.bipush 8, 2) := by decide +kernel
theorem dX4_isFull_76 : decode cX4_isFull 76 = .ok (.if_icmp .lt 7, 3) := by decide +kernel
theorem dX4_isFull_79 : decode cX4_isFull 79 = .ok (.iconst 1, 1) := by decide +kernel
theorem dX4_isFull_80 : decode cX4_isFull 80 = .ok (.goto 4, 3) := by decide +kernel
theorem dX4_isFull_83 : decode cX4_isFull 83 = .ok (.iconst 0, 1) := by decide +kernel
theorem dX4_isFull_84 : decode cX4_isFull 84 = .ok (.ireturn, 1) := by decide +kernel
theorem dX4_isFull_85 : decode cX4_isFull 85 = .ok (.aload_n 0, 1) := by decide +kernel
theorem dX4_isFull_86 : decode cX4_isFull 86 = .ok (.getfield 48, 3) := by decide +kernel
theorem dX4_isFull_89 : decode cX4_isFull 89 = .ok (.getfield 150, 3) := by decide +kernel
theorem dX4_isFull_92 : decode cX4_isFull 92 = .ok (.iconst 5, 1) := by decide +kernel
theorem dX4_isFull_93 : decode cX4_isFull 93 = .ok (.if_icmp .lt 7, 3) := by decide +kernel
theorem dX4_isFull_96 : decode cX4_isFull 96 = .ok (.iconst 1, 1) := by decide +kernel
theorem dX4_isFull_97 : decode cX4_isFull 97 = .ok (.goto 4, 3) := by decide +kernel
theorem dX4_isFull_100 : decode cX4_isFull 100 = .ok (.iconst 0, 1) := by decide +kernel
theorem dX4_isFull_101 : decode cX4_isFull 101 = .ok (.ireturn, 1) := by decide +kernel
theorem dX4_isFull_102 : decode cX4_isFull 102 = .ok (.aload_n 0, 1) := by decide +kernel
theorem dX4_isFull_103 : decode cX4_isFull 103 = .ok (.getfield 48, 3) := by decide +kernel
theorem dX4_isFull_106 : decode cX4_isFull 106 = .ok (.getfield 152, 3) := by decide +kernel
theorem dX4_isFull_109 : decode cX4_isFull 109 = .ok (.bipush 6, 2) := by decide +kernel
theorem dX4_isFull_111 : decode cX4_isFull 111 = .ok (.if_icmp .lt 7, 3) := by decide +kernel
theorem dX4_isFull_114 : decode cX4_isFull 114 = .ok (.iconst 1, 1) := by decide +kernel
theorem dX4_isFull_115 : decode cX4_isFull 115 = .ok (.goto 4, 3) := by decide +kernel
theorem dX4_isFull_118 : decode cX4_isFull 118 = .ok (.iconst 0, 1) := by decide +kernel
theorem dX4_isFull_119 : decode cX4_isFull 119 = .ok (.ireturn, 1) := by decide +kernel
theorem dX4_readLine_0 : decode cX4_readLine 0 = .ok (.aload_n 0, 1) := by decide +kernel
theorem dX4_readLine_1 : decode cX4_readLine 1 = .ok (.invokevirtual 134, 3) := by decide +kernel
theorem dX4_readLine_4 : decode cX4_readLine 4 = .ok (.istore_n 1, 1) := by decide +kernel
theorem dX4_readLine_5 : decode cX4_readLine 5 = .ok (.iload_n 1, 1) := by decide +kernel
theorem dX4_readLine_6 : decode cX4_readLine 6 = .ok (.iconst (-1), 1) := by decide +kernel
theorem dX4_readLine_7 : decode cX4_readLine 7 = .ok (.if_icmp .ne 9, 3) := by decide +kernel
theorem dX4_readLine_10 : decode cX4_readLine 10 = .ok (.aload_n 0, 1) := by decide +kernel
theorem dX4_readLine_11 : decode cX4_readLine 11 = .ok (.iconst 1, 1) := by decide +kernel
theorem dX4_readLine_12 : decode cX4_readLine 12 = .ok (.invokevirtual 99, 3) := by decide +kernel
theorem dX4_readLine_15 : decode cX4_readLine 15 = .ok (.ireturn, 1) := by decide +kernel
theorem dX4_readLine_16 : decode cX4_readLine 16 = .ok (.iload_n 1, 1) := by decide +kernel
theorem dX4_readLine_17 : decode cX4_readLine 17 = .ok (.ifCond .ne 16, 3) := by decide +kernel
theorem dX4_readLine_20 : decode cX4_readLine 20 = .ok (.aload_n 0, 1) := by decide +kernel
theorem dX4_readLine_21 : decode cX4_readLine 21 = .ok (.getfield 73, 3) := by decide +kernel
theorem dX4_readLine_24 : decode cX4_readLine 24 = .ok (.ifCond .eq 9, 3) := by decide +kernel
theorem dX4_readLine_27 : decode cX4_readLine 27 = .ok (.aload_n 0, 1) := by decide +kernel
theorem dX4_readLine_28 : decode cX4_readLine 28 = .ok (.iconst 3, 1) := by decide +kernel
theorem dX4_readLine_29 : decode cX4_readLine 29 = .ok (.invokevirtual 99, 3) := by decide +kernel
theorem dX4_readLine_32 : decode cX4_readLine 32 = .ok (.ireturn, 1) := by decide +kernel
theorem dX4_readLine_33 : decode cX4_readLine 33 = .ok (.iload_n 1, 1) := by decide +kernel
theorem dX4_readLine_34 : decode cX4_readLine 34 = .ok (.ifCond .eq 17, 3) := by decide +kernel
theorem dX4_readLine_37 : decode cX4_readLine 37 = .ok (.aload_n 0, 1) := by decide +kernel
theorem dX4_readLine_38 : decode cX4_readLine 38 = .ok (.getfield 73, 3) := by decide +kernel
theorem dX4_readLine_41 : decode cX4_readLine 41 = .ok (.ifCond .ne 10, 3) := by decide +kernel
theorem dX4_readLine_44 : decode cX4_readLine 44 = .ok (.aload_n 0, 1) := by decide +kernel
theorem dX4_readLine_45 : decode cX4_readLine 45 = .ok (.bipush 6, 2) := by decide +kernel
theorem dX4_readLine_47 : decode cX4_readLine 47 = .ok (.invokevirtual 99, 3) := by decide +kernel
theorem dX4_readLine_50 : decode cX4_readLine 50 = .ok (.ireturn, 1) := by decide +kernel
theorem dX4_readLine_51 : decode cX4_readLine 51 = .ok (.iload_n 1, 1) := by decide +kernel
theorem dX4_readLine_52 : decode cX4_readLine 52 = .ok (.ifCond .eq 17, 3) := by decide +kernel
theorem dX4_readLine_55 : decode cX4_readLine 55 = .ok (.aload_n 0, 1) := by decide +kernel
theorem dX4_readLine_56 : decode cX4_readLine 56 = .ok (.iload_n 1, 1) := by decide +kernel
theorem dX4_readLine_57 : decode cX4_readLine 57 = .ok (.invokevirtual 155, 3) := by decide +kernel
theorem dX4_readLine_60 : decode cX4_readLine 60 = .ok (.ifCond .eq 9, 3) := by decide +kernel
theorem dX4_readLine_63 : decode cX4_readLine 63 = .ok (.aload_n 0, 1) := by decide +kernel
theorem dX4_readLine_64 : decode cX4_readLine 64 = .ok (.iconst 5, 1) := by decide +kernel
theorem dX4_readLine_65 : decode cX4_readLine 65 = .ok (.invokevirtual 99, 3) := by decide +kernel
theorem dX4_readLine_68 : decode cX4_readLine 68 = .ok (.ireturn, 1) := by decide +kernel
theorem dX4_readLine_69 : decode cX4_readLine 69 = .ok (.aload_n 0, 1) := by decide +kernel
theorem dX4_readLine_70 : decode cX4_readLine 70 = .ok (.invokevirtual 83, 3) := by decide +kernel
theorem dX4_readLine_73 : decode cX4_readLine 73 = .ok (.iload_n 1, 1) := by decide +kernel
theorem dX4_readLine_74 : decode cX4_readLine 74 = .ok (.tableswitch 59 0 4 #[34, 39, 44, 49, 54], 34) := by decide +kernel
theorem dX4_readLine_108 : decode cX4_readLine 108 = .ok (.aload_n 0, 1) := by decide +kernel
theorem dX4_readLine_109 : decode cX4_readLine 109 = .ok (.invokevirtual 158, 3) := by decide +kernel
theorem dX4_readLine_112 : decode cX4_readLine 112 = .ok (.ireturn, 1) := by decide +kernel
theorem dX4_readLine_113 : decode cX4_readLine 113 = .ok (.aload_n 0, 1) := by decide +kernel
theorem dX4_readLine_114 : decode cX4_readLine 114 = .ok (.invokevirtual 161, 3) := by decide +kernel
theorem dX4_readLine_117 : decode cX4_readLine 117 = .ok (.ireturn, 1) := by decide +kernel
theorem dX4_readLine_118 : decode cX4_readLine 118 = .ok (.aload_n 0, 1) := by decide +kernel
theorem dX4_readLine_119 : decode cX4_readLine 119 = .ok (.invokevirtual 164, 3) := by decide +kernel
theorem dX4_readLine_122 : decode cX4_readLine 122 = .ok (.ireturn, 1) := by decide +kernel
theorem dX4_readLine_123 : decode cX4_readLine 123 = .ok (.aload_n 0, 1) := by decide +kernel
theorem dX4_readLine_124 : decode cX4_readLine 124 = .ok (.invokevirtual 167, 3) := by decide +kernel
theorem dX4_readLine_127 : decode cX4_readLine 127 = .ok (.ireturn, 1) := by decide +kernel
theorem dX4_readLine_128 : decode cX4_readLine 128 = .ok (.aload_n 0, 1) := by decide +kernel
theorem dX4_readLine_129 : decode cX4_readLine 129 = .ok (.invokevirtual 170, 3) := by decide +kernel
theorem dX4_readLine_132 : decode cX4_readLine 132 = .ok (.ireturn, 1) := by decide +kernel
theorem dX4_readLine_133 : decode cX4_readLine 133 = .ok (.aload_n 0, 1) := by decide +kernel
theorem dX4_readLine_134 : decode cX4_readLine 134 = .ok (.invokevirtual 173, 3) := by decide +kernel
theorem dX4_readLine_137 : decode cX4_readLine 137 = .ok (.ireturn, 1) := by decide +kernel
theorem dX4_readHead_0 : decode cX4_readHead 0 = .ok (.aload_n 0, 1) := by decide +kernel
theorem dX4_readHead_1 : decode cX4_readHead 1 = .ok (.iconst 1, 1) := by decide +kernel
theorem dX4_readHead_2 : decode cX4_readHead 2 = .ok (.putfield 73, 3) := by decide +kernel
theorem dX4_readHead_5 : decode cX4_readHead 5 = .ok (.aload_n 0, 1) := by decide +kernel
theorem dX4_readHead_6 : decode cX4_readHead 6 = .ok (.getfield 48, 3) := by decide +kernel
theorem dX4_readHead_9 : decode cX4_readHead 9 = .ok (.aload_n 0, 1) := by decide +kernel
theorem dX4_readHead_10 : decode cX4_readHead 10 = .ok (.ldc 176, 2) := by decide +kernel
theorem dX4_readHead_12 : decode cX4_readHead 12 = .ok (.invokevirtual 178, 3) := by decide +kernel
theorem dX4_readHead_15 : decode cX4_readHead 15 = .ok (.ifCond .eq 13, 3) := by decide +kernel
theorem dX4_readHead_18 : decode cX4_readHead 18 = .ok (.aload_n 0, 1) := by decide +kernel
theorem dX4_readHead_19 : decode cX4_readHead 19 = .ok (.iconst 0, 1) := by decide +kernel
theorem dX4_readHead_20 : decode cX4_readHead 20 = .ok (.bipush 9, 2) := by decide +kernel
theorem dX4_readHead_22 : decode cX4_readHead 22 = .ok (.invokevirtual 181, 3) := by decide +kernel
theorem dX4_readHead_25 : decode cX4_readHead 25 = .ok (.goto 4, 3) := by decide +kernel
theorem dX4_readHead_28 : decode cX4_readHead 28 = .ok (.iconst (-1), 1) := by decide +kernel
theorem dX4_readHead_29 : decode cX4_readHead 29 = .ok (.putfield 184, 3) := by decide +kernel
theorem dX4_readHead_32 : decode cX4_readHead 32 = .ok (.aload_n 0, 1) := by decide +kernel
theorem dX4_readHead_33 : decode cX4_readHead 33 = .ok (.getfield 48, 3) := by decide +kernel
theorem dX4_readHead_36 : decode cX4_readHead 36 = .ok (.getfield 184, 3) := by decide +kernel
theorem dX4_readHead_39 : decode cX4_readHead 39 = .ok (.iconst (-1), 1) := by decide +kernel
theorem dX4_readHead_40 : decode cX4_readHead 40 = .ok (.if_icmp .ne 5, 3) := by decide +kernel
theorem dX4_readHead_43 : decode cX4_readHead 43 = .ok (.iconst 0, 1) := by decide +kernel
theorem dX4_readHead_44 : decode cX4_readHead 44 = .ok (.ireturn, 1) := by decide +kernel
theorem dX4_readHead_45 : decode cX4_readHead 45 = .ok (.aload_n 0, 1) := by decide +kernel
theorem dX4_readHead_46 : decode cX4_readHead 46 = .ok (.getfield 48, 3) := by decide +kernel
theorem dX4_readHead_49 : decode cX4_readHead 49 = .ok (.aload_n 0, 1) := by decide +kernel
theorem dX4_readHead_50 : decode cX4_readHead 50 = .ok (.ldc 186, 2) := by decide +kernel
theorem dX4_readHead_52 : decode cX4_readHead 52 = .ok (.invokevirtual 178, 3) := by decide +kernel
theorem dX4_readHead_55 : decode cX4_readHead 55 = .ok (.ifCond .eq 13, 3) := by decide +kernel
theorem dX4_readHead_58 : decode cX4_readHead 58 = .ok (.aload_n 0, 1) := by decide +kernel
theorem dX4_readHead_59 : decode cX4_readHead 59 = .ok (.iconst 0, 1) := by decide +kernel
theorem dX4_readHead_60 : decode cX4_readHead 60 = .ok (.bipush 100, 2) := by decide +kernel
theorem dX4_readHead_62 : decode cX4_readHead 62 = .ok (.invokevirtual 181, 3) := by decide +kernel
theorem dX4_readHead_65 : decode cX4_readHead 65 = .ok (.goto 4, 3) := by decide +kernel
theorem dX4_readHead_68 : decode cX4_readHead 68 = .ok (.iconst (-1), 1) := by decide +kernel
theorem dX4_readHead_69 : decode cX4_readHead 69 = .ok (.putfield 188, 3) := by decide +kernel
theorem dX4_readHead_72 : decode cX4_readHead 72 = .ok (.aload_n 0, 1) := by decide +kernel
theorem dX4_readHead_73 : decode cX4_readHead 73 = .ok (.getfield 48, 3) := by decide +kernel
theorem dX4_readHead_76 : decode cX4_readHead 76 = .ok (.getfield 188, 3) := by decide +kernel
theorem dX4_readHead_79 : decode cX4_readHead 79 = .ok (.iconst (-1), 1) := by decide +kernel
theorem dX4_readHead_80 : decode cX4_readHead 80 = .ok (.if_icmp .ne 5, 3) := by decide +kernel
theorem dX4_readHead_83 : decode cX4_readHead 83 = .ok (.iconst 0, 1) := by decide +kernel
theorem dX4_readHead_84 : decode cX4_readHead 84 = .ok (.ireturn, 1) := by decide +kernel
theorem dX4_readHead_85 : decode cX4_readHead 85 = .ok (.aload_n 0, 1) := by decide +kernel
theorem dX4_readHead_86 : decode cX4_readHead 86 = .ok (.getfield 48, 3) := by decide +kernel
theorem dX4_readHead_89 : decode cX4_readHead 89 = .ok (.aload_n 0, 1) := by decide +kernel
theorem dX4_readHead_90 : decode cX4_readHead 90 = .ok (.ldc 190, 2) := by decide +kernel
theorem dX4_readHead_92 : decode cX4_readHead 92 = .ok (.invokevirtual 178, 3) := by decide +kernel
theorem dX4_readHead_95 : decode cX4_readHead 95 = .ok (.ifCond .eq 13, 3) := by decide +kernel
theorem dX4_readHead_98 : decode cX4_readHead 98 = .ok (.aload_n 0, 1) := by decide +kernel
theorem dX4_readHead_99 : decode cX4_readHead 99 = .ok (.iconst 0, 1) := by decide +kernel
theorem dX4_readHead_100 : decode cX4_readHead 100 = .ok (.bipush 100, 2) := by decide +kernel
theorem dX4_readHead_102 : decode cX4_readHead 102 = .ok (.invokevirtual 181, 3) := by decide +kernel
theorem dX4_readHead_105 : decode cX4_readHead 105 = .ok (.goto 4, 3) := by decide +kernel
theorem dX4_readHead_108 : decode cX4_readHead 108 = .ok (.iconst (-1), 1) := by decide +kernel
theorem dX4_readHead_109 : decode cX4_readHead 109 = .ok (.putfield 192, 3) := by decide +kernel
theorem dX4_readHead_112 : decode cX4_readHead 112 = .ok (.aload_n 0, 1) := by decide +kernel
theorem dX4_readHead_113 : decode cX4_readHead 113 = .ok (.getfield 48, 3) := by decide +kernel
theorem dX4_readHead_116 : decode cX4_readHead 116 = .ok (.getfield 192, 3) := by decide +kernel
theorem dX4_readHead_119 : decode cX4_readHead 119 = .ok (.iconst (-1), 1) := by decide +kernel
theorem dX4_readHead_120 : decode cX4_readHead 120 = .ok (.if_icmp .eq 7, 3) := by decide +kernel
theorem dX4_readHead_123 : decode cX4_readHead 123 = .ok (.iconst 1, 1) := by decide +kernel
theorem dX4_readHead_124 : decode cX4_readHead 124 = .ok (.goto 4, 3) := by decide +kernel
theorem dX4_readHead_127 : decode cX4_readHead 127 = .ok (.iconst 0, 1) := by decide +kernel
theorem dX4_readHead_128 : decode cX4_readHead 128 = .ok (.ireturn, 1) := by decide +kernel
theorem dX4_readMan_0 : decode cX4_readMan 0 = .ok (.aload_n 0, 1) := by decide +kernel
theorem dX4_readMan_1 : decode cX4_readMan 1 = .ok (.iconst 1, 1) := by decide +kernel
theorem dX4_readMan_2 : decode cX4_readMan 2 = .ok (.aload_n 0, 1) := by decide +kernel
theorem dX4_readMan_3 : decode cX4_readMan 3 = .ok (.getfield 48, 3) := by decide +kernel
theorem dX4_readMan_6 : decode cX4_readMan 6 = .ok (.getfield 93, 3) := by decide +kernel
theorem dX4_readMan_9 : decode cX4_readMan 9 = .ok (.invokevirtual 194, 3) := by decide +kernel
theorem dX4_readMan_12 : decode cX4_readMan 12 = .ok (.ifCond .ne 5, 3) := by decide +kernel
theorem dX4_readMan_15 : decode cX4_readMan 15 = .ok (.iconst 0, 1) := by decide +kernel
theorem dX4_readMan_16 : decode cX4_readMan 16 = .ok (.ireturn, 1) := by decide +kernel
theorem dX4_readMan_17 : decode cX4_readMan 17 = .ok (.aload_n 0, 1) := by decide +kernel
theorem dX4_readMan_18 : decode cX4_readMan 18 = .ok (.getfield 48, 3) := by decide +kernel
theorem dX4_readMan_21 : decode cX4_readMan 21 = .ok (.dup, 1) := by decide +kernel
theorem dX4_readMan_22 : decode cX4_readMan 22 = .ok (.getfield 93, 3) := by decide +kernel
theorem dX4_readMan_25 : decode cX4_readMan 25 = .ok (.iconst 1, 1) := by decide +kernel
theorem dX4_readMan_26 : decode cX4_readMan 26 = .ok (.iadd, 1) := by decide +kernel
theorem dX4_readMan_27 : decode cX4_readMan 27 = .ok (.putfield 93, 3) := by decide +kernel
theorem dX4_readMan_30 : decode cX4_readMan 30 = .ok (.iconst 1, 1) := by decide +kernel
theorem dX4_readMan_31 : decode cX4_readMan 31 = .ok (.ireturn, 1) := by decide +kernel
theorem dX4_readDeed_0 : decode cX4_readDeed 0 = .ok (.aload_n 0, 1) := by decide +kernel
theorem dX4_readDeed_1 : decode cX4_readDeed 1 = .ok (.iconst 2, 1) := by decide +kernel
theorem dX4_readDeed_2 : decode cX4_readDeed 2 = .ok (.aload_n 0, 1) := by decide +kernel
theorem dX4_readDeed_3 : decode cX4_readDeed 3 = .ok (.getfield 48, 3) := by decide +kernel
theorem dX4_readDeed_6 : decode cX4_readDeed 6 = .ok (.getfield 96, 3) := by decide +kernel
theorem dX4_readDeed_9 : decode cX4_readDeed 9 = .ok (.invokevirtual 194, 3) := by decide +kernel
theorem dX4_readDeed_12 : decode cX4_readDeed 12 = .ok (.ifCond .ne 5, 3) := by decide +kernel
theorem dX4_readDeed_15 : decode cX4_readDeed 15 = .ok (.iconst 0, 1) := by decide +kernel
theorem dX4_readDeed_16 : decode cX4_readDeed 16 = .ok (.ireturn, 1) := by decide +kernel
theorem dX4_readDeed_17 : decode cX4_readDeed 17 = .ok (.aload_n 0, 1) := by decide +kernel
theorem dX4_readDeed_18 : decode cX4_readDeed 18 = .ok (.getfield 48, 3) := by decide +kernel
theorem dX4_readDeed_21 : decode cX4_readDeed 21 = .ok (.dup, 1) := by decide +kernel
theorem dX4_readDeed_22 : decode cX4_readDeed 22 = .ok (.getfield 96, 3) := by decide +kernel
theorem dX4_readDeed_25 : decode cX4_readDeed 25 = .ok (.iconst 1, 1) := by decide +kernel
theorem dX4_readDeed_26 : decode cX4_readDeed 26 = .ok (.iadd, 1) := by decide +kernel
theorem dX4_readDeed_27 : decode cX4_readDeed 27 = .ok (.putfield 96, 3) := by decide +kernel
theorem dX4_readDeed_30 : decode cX4_readDeed 30 = .ok (.iconst 1, 1) := by decide +kernel
theorem dX4_readDeed_31 : decode cX4_readDeed 31 = .ok (.ireturn, 1) := by decide +kernel
theorem dX4_readClause_0 : decode cX4_readClause 0 = .ok (.aload_n 0, 1) := by decide +kernel
theorem dX4_readClause_1 : decode cX4_readClause 1 = .ok (.iconst 3, 1) := by decide +kernel
theorem dX4_readClause_2 : decode cX4_readClause 2 = .ok (.aload_n 0, 1) := by decide +kernel
theorem dX4_readClause_3 : decode cX4_readClause 3 = .ok (.getfield 48, 3) := by decide +kernel
theorem dX4_readClause_6 : decode cX4_readClause 6 = .ok (.getfield 147, 3) := by decide +kernel
theorem dX4_readClause_9 : decode cX4_readClause 9 = .ok (.invokevirtual 194, 3) := by decide +kernel
theorem dX4_readClause_12 : decode cX4_readClause 12 = .ok (.ifCond .ne 5, 3) := by decide +kernel
theorem dX4_readClause_15 : decode cX4_readClause 15 = .ok (.iconst 0, 1) := by decide +kernel
theorem dX4_readClause_16 : decode cX4_readClause 16 = .ok (.ireturn, 1) := by decide +kernel
theorem dX4_readClause_17 : decode cX4_readClause 17 = .ok (.aload_n 0, 1) := by decide +kernel
theorem dX4_readClause_18 : decode cX4_readClause 18 = .ok (.ldc 198, 2) := by decide +kernel
theorem dX4_readClause_20 : decode cX4_readClause 20 = .ok (.invokevirtual 178, 3) := by decide +kernel
theorem dX4_readClause_23 : decode cX4_readClause 23 = .ok (.ifCond .eq 12, 3) := by decide +kernel
theorem dX4_readClause_26 : decode cX4_readClause 26 = .ok (.aload_n 0, 1) := by decide +kernel
theorem dX4_readClause_27 : decode cX4_readClause 27 = .ok (.iconst 1, 1) := by decide +kernel
theorem dX4_readClause_28 : decode cX4_readClause 28 = .ok (.iconst 0, 1) := by decide +kernel
theorem dX4_readClause_29 : decode cX4_readClause 29 = .ok (.invokevirtual 200, 3) := by decide +kernel
theorem dX4_readClause_32 : decode cX4_readClause 32 = .ok (.goto 4, 3) := by decide +kernel
theorem dX4_readClause_35 : decode cX4_readClause 35 = .ok (.iconst (-1), 1) := by decide +kernel
theorem dX4_readClause_36 : decode cX4_readClause 36 = .ok (.istore_n 1, 1) := by decide +kernel
theorem dX4_readClause_37 : decode cX4_readClause 37 = .ok (.iload_n 1, 1) := by decide +kernel
theorem dX4_readClause_38 : decode cX4_readClause 38 = .ok (.iconst (-1), 1) := by decide +kernel
theorem dX4_readClause_39 : decode cX4_readClause 39 = .ok (.if_icmp .ne 5, 3) := by decide +kernel
theorem dX4_readClause_42 : decode cX4_readClause 42 = .ok (.iconst 0, 1) := by decide +kernel
theorem dX4_readClause_43 : decode cX4_readClause 43 = .ok (.ireturn, 1) := by decide +kernel
theorem dX4_readClause_44 : decode cX4_readClause 44 = .ok (.aload_n 0, 1) := by decide +kernel
theorem dX4_readClause_45 : decode cX4_readClause 45 = .ok (.ldc 203, 2) := by decide +kernel
theorem dX4_readClause_47 : decode cX4_readClause 47 = .ok (.invokevirtual 178, 3) := by decide +kernel
theorem dX4_readClause_50 : decode cX4_readClause 50 = .ok (.ifCond .eq 13, 3) := by decide +kernel
theorem dX4_readClause_53 : decode cX4_readClause 53 = .ok (.aload_n 0, 1) := by decide +kernel
theorem dX4_readClause_54 : decode cX4_readClause 54 = .ok (.iconst 1, 1) := by decide +kernel
theorem dX4_readClause_55 : decode cX4_readClause 55 = .ok (.bipush 40, 2) := by decide +kernel
theorem dX4_readClause_57 : decode cX4_readClause 57 = .ok (.invokevirtual 181, 3) := by decide +kernel
theorem dX4_readClause_60 : decode cX4_readClause 60 = .ok (.goto 4, 3) := by decide +kernel
theorem dX4_readClause_63 : decode cX4_readClause 63 = .ok (.iconst (-1), 1) := by decide +kernel
theorem dX4_readClause_64 : decode cX4_readClause 64 = .ok (.istore_n 2, 1) := by decide +kernel
theorem dX4_readClause_65 : decode cX4_readClause 65 = .ok (.iload_n 2, 1) := by decide +kernel
theorem dX4_readClause_66 : decode cX4_readClause 66 = .ok (.iconst (-1), 1) := by decide +kernel
theorem dX4_readClause_67 : decode cX4_readClause 67 = .ok (.if_icmp .ne 5, 3) := by decide +kernel
theorem dX4_readClause_70 : decode cX4_readClause 70 = .ok (.iconst 0, 1) := by decide +kernel
theorem dX4_readClause_71 : decode cX4_readClause 71 = .ok (.ireturn, 1) := by decide +kernel
theorem dX4_readClause_72 : decode cX4_readClause 72 = .ok (.aload_n 0, 1) := by decide +kernel
theorem dX4_readClause_73 : decode cX4_readClause 73 = .ok (.invokevirtual 205, 3) := by decide +kernel
theorem dX4_readClause_76 : decode cX4_readClause 76 = .ok (.istore_n 3, 1) := by decide +kernel
theorem dX4_readClause_77 : decode cX4_readClause 77 = .ok (.aload_n 0, 1) := by decide +kernel
theorem dX4_readClause_78 : decode cX4_readClause 78 = .ok (.iload_n 3, 1) := by decide +kernel
theorem dX4_readClause_79 : decode cX4_readClause 79 = .ok (.iconst (-1), 1) := by decide +kernel
theorem dX4_readClause_80 : decode cX4_readClause 80 = .ok (.if_icmp .eq 7, 3) := by decide +kernel
theorem dX4_readClause_83 : decode cX4_readClause 83 = .ok (.iconst 1, 1) := by decide +kernel
theorem dX4_readClause_84 : decode cX4_readClause 84 = .ok (.goto 4, 3) := by decide +kernel
theorem dX4_readClause_87 : decode cX4_readClause 87 = .ok (.iconst 0, 1) := by decide +kernel
theorem dX4_readClause_88 : decode cX4_readClause 88 = .ok (.invokevirtual 103, 3) := by decide +kernel
theorem dX4_readClause_91 : decode cX4_readClause 91 = .ok (.ifCond .eq 12, 3) := by decide +kernel
theorem dX4_readClause_94 : decode cX4_readClause 94 = .ok (.aload_n 0, 1) := by decide +kernel
theorem dX4_readClause_95 : decode cX4_readClause 95 = .ok (.iconst 2, 1) := by decide +kernel
theorem dX4_readClause_96 : decode cX4_readClause 96 = .ok (.iconst 0, 1) := by decide +kernel
theorem dX4_readClause_97 : decode cX4_readClause 97 = .ok (.invokevirtual 200, 3) := by decide +kernel
theorem dX4_readClause_100 : decode cX4_readClause 100 = .ok (.goto 4, 3) := by decide +kernel
theorem dX4_readClause_103 : decode cX4_readClause 103 = .ok (.iconst (-1), 1) := by decide +kernel
theorem dX4_readClause_104 : decode cX4_readClause 104 = .ok (.istore 4, 2) := by decide +kernel
theorem dX4_readClause_106 : decode cX4_readClause 106 = .ok (.iload 4, 2) := by decide +kernel
theorem dX4_readClause_108 : decode cX4_readClause 108 = .ok (.iconst (-1), 1) := by decide +kernel
theorem dX4_readClause_109 : decode cX4_readClause 109 = .ok (.if_icmp .ne 5, 3) := by decide +kernel
theorem dX4_readClause_112 : decode cX4_readClause 112 = .ok (.iconst 0, 1) := by decide +kernel
theorem dX4_readClause_113 : decode cX4_readClause 113 = .ok (.ireturn, 1) := by decide +kernel
theorem dX4_readClause_114 : decode cX4_readClause 114 = .ok (.iload_n 3, 1) := by decide +kernel
theorem dX4_readClause_115 : decode cX4_readClause 115 = .ok (.ifCond .eq 8, 3) := by decide +kernel
theorem dX4_readClause_118 : decode cX4_readClause 118 = .ok (.iload_n 3, 1) := by decide +kernel
theorem dX4_readClause_119 : decode cX4_readClause 119 = .ok (.iconst 1, 1) := by decide +kernel
theorem dX4_readClause_120 : decode cX4_readClause 120 = .ok (.if_icmp .ne 7, 3) := by decide +kernel
theorem dX4_readClause_123 : decode cX4_readClause 123 = .ok (.iconst 1, 1) := by decide +kernel
theorem dX4_readClause_124 : decode cX4_readClause 124 = .ok (.goto 4, 3) := by decide +kernel
theorem dX4_readClause_127 : decode cX4_readClause 127 = .ok (.iconst 0, 1) := by decide +kernel
theorem dX4_readClause_128 : decode cX4_readClause 128 = .ok (.istore 5, 2) := by decide +kernel
theorem dX4_readClause_130 : decode cX4_readClause 130 = .ok (.iload 5, 2) := by decide +kernel
theorem dX4_readClause_132 : decode cX4_readClause 132 = .ok (.ifCond .eq 8, 3) := by decide +kernel
theorem dX4_readClause_135 : decode cX4_readClause 135 = .ok (.bipush (-2), 2) := by decide +kernel
theorem dX4_readClause_137 : decode cX4_readClause 137 = .ok (.goto 12, 3) := by decide +kernel
theorem dX4_readClause_140 : decode cX4_readClause 140 = .ok (.aload_n 0, 1) := by decide +kernel
theorem dX4_readClause_141 : decode cX4_readClause 141 = .ok (.iconst 2, 1) := by decide +kernel
theorem dX4_readClause_142 : decode cX4_readClause 142 = .ok (.iconst 1, 1) := by decide +kernel
theorem dX4_readClause_143 : decode cX4_readClause 143 = .ok (.iload 4, 2) := by decide +kernel
theorem dX4_readClause_145 : decode cX4_readClause 145 = .ok (.ishl, 1) := by decide +kernel
theorem dX4_readClause_146 : decode cX4_readClause 146 = .ok (.invokevirtual 200, 3) := by decide +kernel
theorem dX4_readClause_149 : decode cX4_readClause 149 = .ok (.istore 6, 2) := by decide +kernel
theorem dX4_readClause_151 : decode cX4_readClause 151 = .ok (.iload 6, 2) := by decide +kernel
theorem dX4_readClause_153 : decode cX4_readClause 153 = .ok (.iconst (-1), 1) := by decide +kernel
theorem dX4_readClause_154 : decode cX4_readClause 154 = .ok (.if_icmp .ne 5, 3) := by decide +kernel
theorem dX4_readClause_157 : decode cX4_readClause 157 = .ok (.iconst 0, 1) := by decide +kernel
theorem dX4_readClause_158 : decode cX4_readClause 158 = .ok (.ireturn, 1) := by decide +kernel
theorem dX4_readClause_159 : decode cX4_readClause 159 = .ok (.aload_n 0, 1) := by decide +kernel
theorem dX4_readClause_160 : decode cX4_readClause 160 = .ok (.getfield 48, 3) := by decide +kernel
theorem dX4_readClause_163 : decode cX4_readClause 163 = .ok (.iload_n 3, 1) := by decide +kernel
theorem dX4_readClause_164 : decode cX4_readClause 164 = .ok (.iload 4, 2) := by decide +kernel
theorem dX4_readClause_166 : decode cX4_readClause 166 = .ok (.iload 6, 2) := by decide +kernel
theorem dX4_readClause_168 : decode cX4_readClause 168 = .ok (.iload_n 1, 1) := by decide +kernel
theorem dX4_readClause_169 : decode cX4_readClause 169 = .ok (.iload_n 2, 1) := by decide +kernel
theorem dX4_readClause_170 : decode cX4_readClause 170 = .ok (.invokevirtual 208, 3) := by decide +kernel
theorem dX4_readClause_173 : decode cX4_readClause 173 = .ok (.iconst 1, 1) := by decide +kernel
theorem dX4_readClause_174 : decode cX4_readClause 174 = .ok (.ireturn, 1) := by decide +kernel
theorem dX4_formHere_0 : decode cX4_formHere 0 = .ok (.aload_n 0, 1) := by decide +kernel
theorem dX4_formHere_1 : decode cX4_formHere 1 = .ok (.ldc 212, 2) := by decide +kernel
theorem dX4_formHere_3 : decode cX4_formHere 3 = .ok (.invokevirtual 130, 3) := by decide +kernel
theorem dX4_formHere_6 : decode cX4_formHere 6 = .ok (.ifCond .eq 5, 3) := by decide +kernel
theorem dX4_formHere_9 : decode cX4_formHere 9 = .ok (.iconst 0, 1) := by decide +kernel
theorem dX4_formHere_10 : decode cX4_formHere 10 = .ok (.ireturn, 1) := by decide +kernel
theorem dX4_formHere_11 : decode cX4_formHere 11 = .ok (.aload_n 0, 1) := by decide +kernel
theorem dX4_formHere_12 : decode cX4_formHere 12 = .ok (.ldc 214, 2) := by decide +kernel
theorem dX4_formHere_14 : decode cX4_formHere 14 = .ok (.invokevirtual 130, 3) := by decide +kernel
theorem dX4_formHere_17 : decode cX4_formHere 17 = .ok (.ifCond .eq 5, 3) := by decide +kernel
theorem dX4_formHere_20 : decode cX4_formHere 20 = .ok (.iconst 1, 1) := by decide +kernel
theorem dX4_formHere_21 : decode cX4_formHere 21 = .ok (.ireturn, 1) := by decide +kernel
theorem dX4_formHere_22 : decode cX4_formHere 22 = .ok (.aload_n 0, 1) := by decide +kernel
theorem dX4_formHere_23 : decode cX4_formHere 23 = .ok (.ldc 216, 2) := by decide +kernel
theorem dX4_formHere_25 : decode cX4_formHere 25 = .ok (.invokevirtual 130, 3) := by decide +kernel
theorem dX4_formHere_28 : decode cX4_formHere 28 = .ok (.ifCond .eq 5, 3) := by decide +kernel
theorem dX4_formHere_31 : decode cX4_formHere 31 = .ok (.iconst 2, 1) := by decide +kernel
theorem dX4_formHere_32 : decode cX4_formHere 32 = .ok (.ireturn, 1) := by decide +kernel
theorem dX4_formHere_33 : decode cX4_formHere 33 = .ok (.aload_n 0, 1) := by decide +kernel
theorem dX4_formHere_34 : decode cX4_formHere 34 = .ok (.ldc 218, 2) := by decide +kernel
theorem dX4_formHere_36 : decode cX4_formHere 36 = .ok (.invokevirtual 130, 3) := by decide +kernel
theorem dX4_formHere_39 : decode cX4_formHere 39 = .ok (.ifCond .eq 5, 3) := by decide +kernel
theorem dX4_formHere_42 : decode cX4_formHere 42 = .ok (.iconst 3, 1) := by decide +kernel
theorem dX4_formHere_43 : decode cX4_formHere 43 = .ok (.ireturn, 1) := by decide +kernel
theorem dX4_formHere_44 : decode cX4_formHere 44 = .ok (.aload_n 0, 1) := by decide +kernel
theorem dX4_formHere_45 : decode cX4_formHere 45 = .ok (.ldc 220, 2) := by decide +kernel
theorem dX4_formHere_47 : decode cX4_formHere 47 = .ok (.invokevirtual 130, 3) := by decide +kernel
theorem dX4_formHere_50 : decode cX4_formHere 50 = .ok (.ifCond .eq 5, 3) := by decide +kernel
theorem dX4_formHere_53 : decode cX4_formHere 53 = .ok (.iconst 4, 1) := by decide +kernel
theorem dX4_formHere_54 : decode cX4_formHere 54 = .ok (.ireturn, 1) := by decide +kernel
theorem dX4_formHere_55 : decode cX4_formHere 55 = .ok (.aload_n 0, 1) := by decide +kernel
theorem dX4_formHere_56 : decode cX4_formHere 56 = .ok (.ldc 222, 2) := by decide +kernel
theorem dX4_formHere_58 : decode cX4_formHere 58 = .ok (.invokevirtual 130, 3) := by decide +kernel
theorem dX4_formHere_61 : decode cX4_formHere 61 = .ok (.ifCond .eq 7, 3) := by decide +kernel
theorem dX4_formHere_64 : decode cX4_formHere 64 = .ok (.iconst 5, 1) := by decide +kernel
theorem dX4_formHere_65 : decode cX4_formHere 65 = .ok (.goto 4, 3) := by decide +kernel
theorem dX4_formHere_68 : decode cX4_formHere 68 = .ok (.iconst (-1), 1) := by decide +kernel
theorem dX4_formHere_69 : decode cX4_formHere 69 = .ok (.ireturn, 1) := by decide +kernel
theorem dX4_readUnsure_0 : decode cX4_readUnsure 0 = .ok (.aload_n 0, 1) := by decide +kernel
theorem dX4_readUnsure_1 : decode cX4_readUnsure 1 = .ok (.iconst 3, 1) := by decide +kernel
theorem dX4_readUnsure_2 : decode cX4_readUnsure 2 = .ok (.aload_n 0, 1) := by decide +kernel
theorem dX4_readUnsure_3 : decode cX4_readUnsure 3 = .ok (.getfield 48, 3) := by decide +kernel
theorem dX4_readUnsure_6 : decode cX4_readUnsure 6 = .ok (.invokevirtual 224, 3) := by decide +kernel
theorem dX4_readUnsure_9 : decode cX4_readUnsure 9 = .ok (.invokevirtual 200, 3) := by decide +kernel
theorem dX4_readUnsure_12 : decode cX4_readUnsure 12 = .ok (.istore_n 1, 1) := by decide +kernel
theorem dX4_readUnsure_13 : decode cX4_readUnsure 13 = .ok (.iload_n 1, 1) := by decide +kernel
theorem dX4_readUnsure_14 : decode cX4_readUnsure 14 = .ok (.iconst (-1), 1) := by decide +kernel
theorem dX4_readUnsure_15 : decode cX4_readUnsure 15 = .ok (.if_icmp .ne 5, 3) := by decide +kernel
theorem dX4_readUnsure_18 : decode cX4_readUnsure 18 = .ok (.iconst 0, 1) := by decide +kernel
theorem dX4_readUnsure_19 : decode cX4_readUnsure 19 = .ok (.ireturn, 1) := by decide +kernel
theorem dX4_readUnsure_20 : decode cX4_readUnsure 20 = .ok (.aload_n 0, 1) := by decide +kernel
theorem dX4_readUnsure_21 : decode cX4_readUnsure 21 = .ok (.getfield 48, 3) := by decide +kernel
theorem dX4_readUnsure_24 : decode cX4_readUnsure 24 = .ok (.iload_n 1, 1) := by decide +kernel
theorem dX4_readUnsure_25 : decode cX4_readUnsure 25 = .ok (.invokevirtual 227, 3) := by decide +kernel
theorem dX4_readUnsure_28 : decode cX4_readUnsure 28 = .ok (.iconst 1, 1) := by decide +kernel
theorem dX4_readUnsure_29 : decode cX4_readUnsure 29 = .ok (.ireturn, 1) := by decide +kernel
theorem dX4_readDid_0 : decode cX4_readDid 0 = .ok (.aload_n 0, 1) := by decide +kernel
theorem dX4_readDid_1 : decode cX4_readDid 1 = .ok (.iconst 1, 1) := by decide +kernel
theorem dX4_readDid_2 : decode cX4_readDid 2 = .ok (.iconst 0, 1) := by decide +kernel
theorem dX4_readDid_3 : decode cX4_readDid 3 = .ok (.invokevirtual 200, 3) := by decide +kernel
theorem dX4_readDid_6 : decode cX4_readDid 6 = .ok (.istore_n 1, 1) := by decide +kernel
theorem dX4_readDid_7 : decode cX4_readDid 7 = .ok (.iload_n 1, 1) := by decide +kernel
theorem dX4_readDid_8 : decode cX4_readDid 8 = .ok (.iconst (-1), 1) := by decide +kernel
theorem dX4_readDid_9 : decode cX4_readDid 9 = .ok (.if_icmp .ne 5, 3) := by decide +kernel
theorem dX4_readDid_12 : decode cX4_readDid 12 = .ok (.iconst 0, 1) := by decide +kernel
theorem dX4_readDid_13 : decode cX4_readDid 13 = .ok (.ireturn, 1) := by decide +kernel
theorem dX4_readDid_14 : decode cX4_readDid 14 = .ok (.aload_n 0, 1) := by decide +kernel
theorem dX4_readDid_15 : decode cX4_readDid 15 = .ok (.ldc 231, 2) := by decide +kernel
theorem dX4_readDid_17 : decode cX4_readDid 17 = .ok (.invokevirtual 178, 3) := by decide +kernel
theorem dX4_readDid_20 : decode cX4_readDid 20 = .ok (.ifCond .eq 13, 3) := by decide +kernel
theorem dX4_readDid_23 : decode cX4_readDid 23 = .ok (.aload_n 0, 1) := by decide +kernel
theorem dX4_readDid_24 : decode cX4_readDid 24 = .ok (.iconst 0, 1) := by decide +kernel
theorem dX4_readDid_25 : decode cX4_readDid 25 = .ok (.bipush 40, 2) := by decide +kernel
theorem dX4_readDid_27 : decode cX4_readDid 27 = .ok (.invokevirtual 181, 3) := by decide +kernel
theorem dX4_readDid_30 : decode cX4_readDid 30 = .ok (.goto 4, 3) := by decide +kernel
theorem dX4_readDid_33 : decode cX4_readDid 33 = .ok (.iconst (-1), 1) := by decide +kernel
theorem dX4_readDid_34 : decode cX4_readDid 34 = .ok (.istore_n 2, 1) := by decide +kernel
theorem dX4_readDid_35 : decode cX4_readDid 35 = .ok (.iload_n 2, 1) := by decide +kernel
theorem dX4_readDid_36 : decode cX4_readDid 36 = .ok (.iconst (-1), 1) := by decide +kernel
theorem dX4_readDid_37 : decode cX4_readDid 37 = .ok (.if_icmp .ne 5, 3) := by decide +kernel
theorem dX4_readDid_40 : decode cX4_readDid 40 = .ok (.iconst 0, 1) := by decide +kernel
theorem dX4_readDid_41 : decode cX4_readDid 41 = .ok (.ireturn, 1) := by decide +kernel
theorem dX4_readDid_42 : decode cX4_readDid 42 = .ok (.aload_n 0, 1) := by decide +kernel
theorem dX4_readDid_43 : decode cX4_readDid 43 = .ok (.ldc 233, 2) := by decide +kernel
theorem dX4_readDid_45 : decode cX4_readDid 45 = .ok (.invokevirtual 130, 3) := by decide +kernel
theorem dX4_readDid_48 : decode cX4_readDid 48 = .ok (.istore_n 3, 1) := by decide +kernel
theorem dX4_readDid_49 : decode cX4_readDid 49 = .ok (.aload_n 0, 1) := by decide +kernel
theorem dX4_readDid_50 : decode cX4_readDid 50 = .ok (.iload_n 3, 1) := by decide +kernel
theorem dX4_readDid_51 : decode cX4_readDid 51 = .ok (.ifCond .ne 12, 3) := by decide +kernel
theorem dX4_readDid_54 : decode cX4_readDid 54 = .ok (.aload_n 0, 1) := by decide +kernel
theorem dX4_readDid_55 : decode cX4_readDid 55 = .ok (.ldc 235, 2) := by decide +kernel
theorem dX4_readDid_57 : decode cX4_readDid 57 = .ok (.invokevirtual 130, 3) := by decide +kernel
theorem dX4_readDid_60 : decode cX4_readDid 60 = .ok (.ifCond .eq 7, 3) := by decide +kernel
theorem dX4_readDid_63 : decode cX4_readDid 63 = .ok (.iconst 1, 1) := by decide +kernel
theorem dX4_readDid_64 : decode cX4_readDid 64 = .ok (.goto 4, 3) := by decide +kernel
theorem dX4_readDid_67 : decode cX4_readDid 67 = .ok (.iconst 0, 1) := by decide +kernel
theorem dX4_readDid_68 : decode cX4_readDid 68 = .ok (.invokevirtual 103, 3) := by decide +kernel
theorem dX4_readDid_71 : decode cX4_readDid 71 = .ok (.ifCond .ne 5, 3) := by decide +kernel
theorem dX4_readDid_74 : decode cX4_readDid 74 = .ok (.iconst 0, 1) := by decide +kernel
theorem dX4_readDid_75 : decode cX4_readDid 75 = .ok (.ireturn, 1) := by decide +kernel
theorem dX4_readDid_76 : decode cX4_readDid 76 = .ok (.iconst 0, 1) := by decide +kernel
theorem dX4_readDid_77 : decode cX4_readDid 77 = .ok (.istore 4, 2) := by decide +kernel
theorem dX4_readDid_79 : decode cX4_readDid 79 = .ok (.aload_n 0, 1) := by decide +kernel
theorem dX4_readDid_80 : decode cX4_readDid 80 = .ok (.getfield 90, 3) := by decide +kernel
theorem dX4_readDid_83 : decode cX4_readDid 83 = .ok (.ifCond .eq 15, 3) := by decide +kernel
theorem dX4_readDid_86 : decode cX4_readDid 86 = .ok (.aload_n 0, 1) := by decide +kernel
theorem dX4_readDid_87 : decode cX4_readDid 87 = .ok (.getfield 90, 3) := by decide +kernel
theorem dX4_readDid_90 : decode cX4_readDid 90 = .ok (.iconst 3, 1) := by decide +kernel
theorem dX4_readDid_91 : decode cX4_readDid 91 = .ok (.if_icmp .eq 7, 3) := by decide +kernel
theorem dX4_readDid_94 : decode cX4_readDid 94 = .ok (.iconst 1, 1) := by decide +kernel
theorem dX4_readDid_95 : decode cX4_readDid 95 = .ok (.goto 4, 3) := by decide +kernel
theorem dX4_readDid_98 : decode cX4_readDid 98 = .ok (.iconst 0, 1) := by decide +kernel
theorem dX4_readDid_99 : decode cX4_readDid 99 = .ok (.istore 5, 2) := by decide +kernel
theorem dX4_readDid_101 : decode cX4_readDid 101 = .ok (.iconst 0, 1) := by decide +kernel
theorem dX4_readDid_102 : decode cX4_readDid 102 = .ok (.istore 6, 2) := by decide +kernel
theorem dX4_readDid_104 : decode cX4_readDid 104 = .ok (.iload 5, 2) := by decide +kernel
theorem dX4_readDid_106 : decode cX4_readDid 106 = .ok (.ifCond .eq 66, 3) := by decide +kernel
theorem dX4_readDid_109 : decode cX4_readDid 109 = .ok (.iload 6, 2) := by decide +kernel
theorem dX4_readDid_111 : decode cX4_readDid 111 = .ok (.bipush 6, 2) := by decide +kernel
theorem dX4_readDid_113 : decode cX4_readDid 113 = .ok (.if_icmp .gt 59, 3) := by decide +kernel
theorem dX4_readDid_116 : decode cX4_readDid 116 = .ok (.aload_n 0, 1) := by decide +kernel
theorem dX4_readDid_117 : decode cX4_readDid 117 = .ok (.iconst 2, 1) := by decide +kernel
theorem dX4_readDid_118 : decode cX4_readDid 118 = .ok (.iload 4, 2) := by decide +kernel
theorem dX4_readDid_120 : decode cX4_readDid 120 = .ok (.invokevirtual 200, 3) := by decide +kernel
theorem dX4_readDid_123 : decode cX4_readDid 123 = .ok (.istore 7, 2) := by decide +kernel
theorem dX4_readDid_125 : decode cX4_readDid 125 = .ok (.iload 7, 2) := by decide +kernel
theorem dX4_readDid_127 : decode cX4_readDid 127 = .ok (.iconst (-1), 1) := by decide +kernel
theorem dX4_readDid_128 : decode cX4_readDid 128 = .ok (.if_icmp .ne 5, 3) := by decide +kernel
theorem dX4_readDid_131 : decode cX4_readDid 131 = .ok (.iconst 0, 1) := by decide +kernel
theorem dX4_readDid_132 : decode cX4_readDid 132 = .ok (.ireturn, 1) := by decide +kernel
theorem dX4_readDid_133 : decode cX4_readDid 133 = .ok (.iload 4, 2) := by decide +kernel
theorem dX4_readDid_135 : decode cX4_readDid 135 = .ok (.iconst 1, 1) := by decide +kernel
theorem dX4_readDid_136 : decode cX4_readDid 136 = .ok (.iload 7, 2) := by decide +kernel
theorem dX4_readDid_138 : decode cX4_readDid 138 = .ok (.ishl, 1) := by decide +kernel
theorem dX4_readDid_139 : decode cX4_readDid 139 = .ok (.ior, 1) := by decide +kernel
theorem dX4_readDid_140 : decode cX4_readDid 140 = .ok (.istore 4, 2) := by decide +kernel
theorem dX4_readDid_142 : decode cX4_readDid 142 = .ok (.aload_n 0, 1) := by decide +kernel
theorem dX4_readDid_143 : decode cX4_readDid 143 = .ok (.getfield 90, 3) := by decide +kernel
theorem dX4_readDid_146 : decode cX4_readDid 146 = .ok (.iconst 4, 1) := by decide +kernel
theorem dX4_readDid_147 : decode cX4_readDid 147 = .ok (.if_icmp .ne 7, 3) := by decide +kernel
theorem dX4_readDid_150 : decode cX4_readDid 150 = .ok (.iconst 1, 1) := by decide +kernel
theorem dX4_readDid_151 : decode cX4_readDid 151 = .ok (.goto 4, 3) := by decide +kernel
theorem dX4_readDid_154 : decode cX4_readDid 154 = .ok (.iconst 0, 1) := by decide +kernel
theorem dX4_readDid_155 : decode cX4_readDid 155 = .ok (.istore 5, 2) := by decide +kernel
theorem dX4_readDid_157 : decode cX4_readDid 157 = .ok (.iload 5, 2) := by decide +kernel
theorem dX4_readDid_159 : decode cX4_readDid 159 = .ok (.ifCond .eq 7, 3) := by decide +kernel
theorem dX4_readDid_162 : decode cX4_readDid 162 = .ok (.aload_n 0, 1) := by decide +kernel
theorem dX4_readDid_163 : decode cX4_readDid 163 = .ok (.invokevirtual 83, 3) := by decide +kernel
theorem dX4_readDid_166 : decode cX4_readDid 166 = .ok (.iinc 6 1, 3) := by decide +kernel
theorem dX4_readDid_169 : decode cX4_readDid 169 = .ok (.goto (-65), 3) := by decide +kernel
theorem dX4_readDid_172 : decode cX4_readDid 172 = .ok (.aload_n 0, 1) := by decide +kernel
theorem dX4_readDid_173 : decode cX4_readDid 173 = .ok (.getfield 48, 3) := by decide +kernel
theorem dX4_readDid_176 : decode cX4_readDid 176 = .ok (.iload_n 1, 1) := by decide +kernel
theorem dX4_readDid_177 : decode cX4_readDid 177 = .ok (.iload_n 2, 1) := by decide +kernel
theorem dX4_readDid_178 : decode cX4_readDid 178 = .ok (.iload_n 3, 1) := by decide +kernel
theorem dX4_readDid_179 : decode cX4_readDid 179 = .ok (.iload 4, 2) := by decide +kernel
theorem dX4_readDid_181 : decode cX4_readDid 181 = .ok (.invokevirtual 237, 3) := by decide +kernel
theorem dX4_readDid_184 : decode cX4_readDid 184 = .ok (.iconst 1, 1) := by decide +kernel
theorem dX4_readDid_185 : decode cX4_readDid 185 = .ok (.ireturn, 1) := by decide +kernel
theorem dX5_init_0 : decode cX5_init 0 = .ok (.aload_n 0, 1) := by decide +kernel
theorem dX5_init_1 : decode cX5_init 1 = .ok (.invokespecial 3, 3) := by decide +kernel
theorem dX5_init_4 : decode cX5_init 4 = .ok (.aload_n 0, 1) := by decide +kernel
theorem dX5_init_5 : decode cX5_init 5 = .ok (.bipush 8, 2) := by decide +kernel
theorem dX5_init_7 : decode cX5_init 7 = .ok (.newarray .int, 2) := by decide +kernel
theorem dX5_init_9 : decode cX5_init 9 = .ok (.putfield 9, 3) := by decide +kernel
theorem dX5_init_12 : decode cX5_init 12 = .ok (.aload_n 0, 1) := by decide +kernel
theorem dX5_init_13 : decode cX5_init 13 = .ok (.bipush 8, 2) := by decide +kernel
theorem dX5_init_15 : decode cX5_init 15 = .ok (.newarray .long, 2) := by decide +kernel
theorem dX5_init_17 : decode cX5_init 17 = .ok (.putfield 15, 3) := by decide +kernel
theorem dX5_init_20 : decode cX5_init 20 = .ok (.return_, 1) := by decide +kernel
theorem dX5_fewestMen_0 : decode cX5_fewestMen 0 = .ok (.aload_n 2, 1) := by decide +kernel
theorem dX5_fewestMen_1 : decode cX5_fewestMen 1 = .ok (.iconst 0, 1) := by decide +kernel
theorem dX5_fewestMen_2 : decode cX5_fewestMen 2 = .ok (.invokevirtual 19, 3) := by decide +kernel
theorem dX5_fewestMen_5 : decode cX5_fewestMen 5 = .ok (.invokestatic 25, 3) := by decide +kernel
theorem dX5_fewestMen_8 : decode cX5_fewestMen 8 = .ok (.istore_n 3, 1) := by decide +kernel
theorem dX5_fewestMen_9 : decode cX5_fewestMen 9 = .ok (.iconst 0, 1) := by decide +kernel
theorem dX5_fewestMen_10 : decode cX5_fewestMen 10 = .ok (.istore 4, 2) := by decide +kernel
theorem dX5_fewestMen_12 : decode cX5_fewestMen 12 = .ok (.iload 4, 2) := by decide +kernel
theorem dX5_fewestMen_14 : decode cX5_fewestMen 14 = .ok (.iload_n 3, 1) := by decide +kernel
theorem dX5_fewestMen_15 : decode cX5_fewestMen 15 = .ok (.if_icmp .ge 25, 3) := by decide +kernel
theorem dX5_fewestMen_18 : decode cX5_fewestMen 18 = .ok (.aload_n 0, 1) := by decide +kernel
theorem dX5_fewestMen_19 : decode cX5_fewestMen 19 = .ok (.aload_n 1, 1) := by decide +kernel
theorem dX5_fewestMen_20 : decode cX5_fewestMen 20 = .ok (.aload_n 2, 1) := by decide +kernel
theorem dX5_fewestMen_21 : decode cX5_fewestMen 21 = .ok (.iconst 0, 1) := by decide +kernel
theorem dX5_fewestMen_22 : decode cX5_fewestMen 22 = .ok (.iconst 0, 1) := by decide +kernel
theorem dX5_fewestMen_23 : decode cX5_fewestMen 23 = .ok (.iload 4, 2) := by decide +kernel
theorem dX5_fewestMen_25 : decode cX5_fewestMen 25 = .ok (.invokevirtual 30, 3) := by decide +kernel
theorem dX5_fewestMen_28 : decode cX5_fewestMen 28 = .ok (.ifCond .eq 6, 3) := by decide +kernel
theorem dX5_fewestMen_31 : decode cX5_fewestMen 31 = .ok (.iload 4, 2) := by decide +kernel
theorem dX5_fewestMen_33 : decode cX5_fewestMen 33 = .ok (.ireturn, 1) := by decide +kernel
theorem dX5_fewestMen_34 : decode cX5_fewestMen 34 = .ok (.iinc 4 1, 3) := by decide +kernel
theorem dX5_fewestMen_37 : decode cX5_fewestMen 37 = .ok (.goto (-25), 3) := by decide +kernel
theorem dX5_fewestMen_40 : decode cX5_fewestMen 40 = .ok (.aload_n 0, 1) := by decide +kernel
theorem dX5_fewestMen_41 : decode cX5_fewestMen 41 = .ok (.aload_n 1, 1) := by decide +kernel
theorem dX5_fewestMen_42 : decode cX5_fewestMen 42 = .ok (.aload_n 2, 1) := by decide +kernel
theorem dX5_fewestMen_43 : decode cX5_fewestMen 43 = .ok (.iconst 0, 1) := by decide +kernel
theorem dX5_fewestMen_44 : decode cX5_fewestMen 44 = .ok (.iconst 0, 1) := by decide +kernel
theorem dX5_fewestMen_45 : decode cX5_fewestMen 45 = .ok (.iload_n 3, 1) := by decide +kernel
theorem dX5_fewestMen_46 : decode cX5_fewestMen 46 = .ok (.invokevirtual 30, 3) := by decide +kernel
theorem dX5_fewestMen_49 : decode cX5_fewestMen 49 = .ok (.pop, 1) := by decide +kernel
theorem dX5_fewestMen_50 : decode cX5_fewestMen 50 = .ok (.iload_n 3, 1) := by decide +kernel
theorem dX5_fewestMen_51 : decode cX5_fewestMen 51 = .ok (.ireturn, 1) := by decide +kernel
theorem dX5_goesOn_0 : decode cX5_goesOn 0 = .ok (.iload_n 3, 1) := by decide +kernel
theorem dX5_goesOn_1 : decode cX5_goesOn 1 = .ok (.ifCond .lt 9, 3) := by decide +kernel
theorem dX5_goesOn_4 : decode cX5_goesOn 4 = .ok (.iload_n 3, 1) := by decide +kernel
theorem dX5_goesOn_5 : decode cX5_goesOn 5 = .ok (.bipush 8, 2) := by decide +kernel
theorem dX5_goesOn_7 : decode cX5_goesOn 7 = .ok (.if_icmp .lt 5, 3) := by decide +kernel
theorem dX5_goesOn_10 : decode cX5_goesOn 10 = .ok (.iconst 1, 1) := by decide +kernel
theorem dX5_goesOn_11 : decode cX5_goesOn 11 = .ok (.ireturn, 1) := by decide +kernel
theorem dX5_goesOn_12 : decode cX5_goesOn 12 = .ok (.aload_n 2, 1) := by decide +kernel
theorem dX5_goesOn_13 : decode cX5_goesOn 13 = .ok (.getfield 34, 3) := by decide +kernel
theorem dX5_goesOn_16 : decode cX5_goesOn 16 = .ok (.iload_n 3, 1) := by decide +kernel
theorem dX5_goesOn_17 : decode cX5_goesOn 17 = .ok (.iaload, 1) := by decide +kernel
theorem dX5_goesOn_18 : decode cX5_goesOn 18 = .ok (.ifCond .ne 25, 3) := by decide +kernel
theorem dX5_goesOn_21 : decode cX5_goesOn 21 = .ok (.aload_n 0, 1) := by decide +kernel
theorem dX5_goesOn_22 : decode cX5_goesOn 22 = .ok (.getfield 9, 3) := by decide +kernel
theorem dX5_goesOn_25 : decode cX5_goesOn 25 = .ok (.iload_n 3, 1) := by decide +kernel
theorem dX5_goesOn_26 : decode cX5_goesOn 26 = .ok (.bipush (-2), 2) := by decide +kernel
theorem dX5_goesOn_28 : decode cX5_goesOn 28 = .ok (.iastore, 1) := by decide +kernel
theorem dX5_goesOn_29 : decode cX5_goesOn 29 = .ok (.aload_n 0, 1) := by decide +kernel
theorem dX5_goesOn_30 : decode cX5_goesOn 30 = .ok (.aload_n 1, 1) := by decide +kernel
theorem dX5_goesOn_31 : decode cX5_goesOn 31 = .ok (.aload_n 2, 1) := by decide +kernel
theorem dX5_goesOn_32 : decode cX5_goesOn 32 = .ok (.iload_n 3, 1) := by decide +kernel
theorem dX5_goesOn_33 : decode cX5_goesOn 33 = .ok (.iconst 1, 1) := by decide +kernel
theorem dX5_goesOn_34 : decode cX5_goesOn 34 = .ok (.iadd, 1) := by decide +kernel
theorem dX5_goesOn_35 : decode cX5_goesOn 35 = .ok (.iload 4, 2) := by decide +kernel
theorem dX5_goesOn_37 : decode cX5_goesOn 37 = .ok (.iload 5, 2) := by decide +kernel
theorem dX5_goesOn_39 : decode cX5_goesOn 39 = .ok (.invokevirtual 30, 3) := by decide +kernel
theorem dX5_goesOn_42 : decode cX5_goesOn 42 = .ok (.ireturn, 1) := by decide +kernel
theorem dX5_goesOn_43 : decode cX5_goesOn 43 = .ok (.aload_n 1, 1) := by decide +kernel
theorem dX5_goesOn_44 : decode cX5_goesOn 44 = .ok (.iconst 1, 1) := by decide +kernel
theorem dX5_goesOn_45 : decode cX5_goesOn 45 = .ok (.iload_n 3, 1) := by decide +kernel
theorem dX5_goesOn_46 : decode cX5_goesOn 46 = .ok (.ishl, 1) := by decide +kernel
theorem dX5_goesOn_47 : decode cX5_goesOn 47 = .ok (.aload_n 2, 1) := by decide +kernel
theorem dX5_goesOn_48 : decode cX5_goesOn 48 = .ok (.getfield 37, 3) := by decide +kernel
theorem dX5_goesOn_51 : decode cX5_goesOn 51 = .ok (.invokevirtual 41, 3) := by decide +kernel
theorem dX5_goesOn_54 : decode cX5_goesOn 54 = .ok (.lstore 6, 2) := by decide +kernel
theorem dX5_goesOn_56 : decode cX5_goesOn 56 = .ok (.iconst 0, 1) := by decide +kernel
theorem dX5_goesOn_57 : decode cX5_goesOn 57 = .ok (.istore 8, 2) := by decide +kernel
theorem dX5_goesOn_59 : decode cX5_goesOn 59 = .ok (.iload 8, 2) := by decide +kernel
theorem dX5_goesOn_61 : decode cX5_goesOn 61 = .ok (.iload 4, 2) := by decide +kernel
theorem dX5_goesOn_63 : decode cX5_goesOn 63 = .ok (.if_icmp .gt 109, 3) := by decide +kernel
theorem dX5_goesOn_66 : decode cX5_goesOn 66 = .ok (.iload 8, 2) := by decide +kernel
theorem dX5_goesOn_68 : decode cX5_goesOn 68 = .ok (.iload 5, 2) := by decide +kernel
theorem dX5_goesOn_70 : decode cX5_goesOn 70 = .ok (.if_icmp .ge 102, 3) := by decide +kernel
theorem dX5_goesOn_73 : decode cX5_goesOn 73 = .ok (.iload 8, 2) := by decide +kernel
theorem dX5_goesOn_75 : decode cX5_goesOn 75 = .ok (.bipush 8, 2) := by decide +kernel
theorem dX5_goesOn_77 : decode cX5_goesOn 77 = .ok (.if_icmp .ge 95, 3) := by decide +kernel
theorem dX5_goesOn_80 : decode cX5_goesOn 80 = .ok (.iload 8, 2) := by decide +kernel
theorem dX5_goesOn_82 : decode cX5_goesOn 82 = .ok (.iload 4, 2) := by decide +kernel
theorem dX5_goesOn_84 : decode cX5_goesOn 84 = .ok (.if_icmp .ge 13, 3) := by decide +kernel
theorem dX5_goesOn_87 : decode cX5_goesOn 87 = .ok (.aload_n 0, 1) := by decide +kernel
theorem dX5_goesOn_88 : decode cX5_goesOn 88 = .ok (.getfield 15, 3) := by decide +kernel
theorem dX5_goesOn_91 : decode cX5_goesOn 91 = .ok (.iload 8, 2) := by decide +kernel
theorem dX5_goesOn_93 : decode cX5_goesOn 93 = .ok (.laload, 1) := by decide +kernel
theorem dX5_goesOn_94 : decode cX5_goesOn 94 = .ok (.goto 6, 3) := by decide +kernel
theorem dX5_goesOn_97 : decode cX5_goesOn 97 = .ok (.ldc2_w 47, 3) := by decide +kernel
theorem dX5_goesOn_100 : decode cX5_goesOn 100 = .ok (.lstore 9, 2) := by decide +kernel
theorem dX5_goesOn_102 : decode cX5_goesOn 102 = .ok (.lload 9, 2) := by decide +kernel
theorem dX5_goesOn_104 : decode cX5_goesOn 104 = .ok (.lload 6, 2) := by decide +kernel
theorem dX5_goesOn_106 : decode cX5_goesOn 106 = .ok (.land, 1) := by decide +kernel
theorem dX5_goesOn_107 : decode cX5_goesOn 107 = .ok (.lconst 0, 1) := by decide +kernel
theorem dX5_goesOn_108 : decode cX5_goesOn 108 = .ok (.lcmp, 1) := by decide +kernel
theorem dX5_goesOn_109 : decode cX5_goesOn 109 = .ok (.ifCond .eq 57, 3) := by decide +kernel
theorem dX5_goesOn_112 : decode cX5_goesOn 112 = .ok (.aload_n 0, 1) := by decide +kernel
theorem dX5_goesOn_113 : decode cX5_goesOn 113 = .ok (.getfield 9, 3) := by decide +kernel
theorem dX5_goesOn_116 : decode cX5_goesOn 116 = .ok (.iload_n 3, 1) := by decide +kernel
theorem dX5_goesOn_117 : decode cX5_goesOn 117 = .ok (.iload 8, 2) := by decide +kernel
theorem dX5_goesOn_119 : decode cX5_goesOn 119 = .ok (.iastore, 1) := by decide +kernel
theorem dX5_goesOn_120 : decode cX5_goesOn 120 = .ok (.aload_n 0, 1) := by decide +kernel
theorem dX5_goesOn_121 : decode cX5_goesOn 121 = .ok (.getfield 15, 3) := by decide +kernel
theorem dX5_goesOn_124 : decode cX5_goesOn 124 = .ok (.iload 8, 2) := by decide +kernel
theorem dX5_goesOn_126 : decode cX5_goesOn 126 = .ok (.lload 9, 2) := by decide +kernel
theorem dX5_goesOn_128 : decode cX5_goesOn 128 = .ok (.lload 6, 2) := by decide +kernel
theorem dX5_goesOn_130 : decode cX5_goesOn 130 = .ok (.land, 1) := by decide +kernel
theorem dX5_goesOn_131 : decode cX5_goesOn 131 = .ok (.lastore, 1) := by decide +kernel
theorem dX5_goesOn_132 : decode cX5_goesOn 132 = .ok (.aload_n 0, 1) := by decide +kernel
theorem dX5_goesOn_133 : decode cX5_goesOn 133 = .ok (.aload_n 1, 1) := by decide +kernel
theorem dX5_goesOn_134 : decode cX5_goesOn 134 = .ok (.aload_n 2, 1) := by decide +kernel
theorem dX5_goesOn_135 : decode cX5_goesOn 135 = .ok (.iload_n 3, 1) := by decide +kernel
theorem dX5_goesOn_136 : decode cX5_goesOn 136 = .ok (.iconst 1, 1) := by decide +kernel
theorem dX5_goesOn_137 : decode cX5_goesOn 137 = .ok (.iadd, 1) := by decide +kernel
theorem dX5_goesOn_138 : decode cX5_goesOn 138 = .ok (.iload 4, 2) := by decide +kernel
theorem dX5_goesOn_140 : decode cX5_goesOn 140 = .ok (.iload 8, 2) := by decide +kernel
theorem dX5_goesOn_142 : decode cX5_goesOn 142 = .ok (.iconst 1, 1) := by decide +kernel
theorem dX5_goesOn_143 : decode cX5_goesOn 143 = .ok (.iadd, 1) := by decide +kernel
theorem dX5_goesOn_144 : decode cX5_goesOn 144 = .ok (.invokestatic 49, 3) := by decide +kernel
theorem dX5_goesOn_147 : decode cX5_goesOn 147 = .ok (.iload 5, 2) := by decide +kernel
theorem dX5_goesOn_149 : decode cX5_goesOn 149 = .ok (.invokevirtual 30, 3) := by decide +kernel
theorem dX5_goesOn_152 : decode cX5_goesOn 152 = .ok (.ifCond .eq 5, 3) := by decide +kernel
theorem dX5_goesOn_155 : decode cX5_goesOn 155 = .ok (.iconst 1, 1) := by decide +kernel
theorem dX5_goesOn_156 : decode cX5_goesOn 156 = .ok (.ireturn, 1) := by decide +kernel
theorem dX5_goesOn_157 : decode cX5_goesOn 157 = .ok (.aload_n 0, 1) := by decide +kernel
theorem dX5_goesOn_158 : decode cX5_goesOn 158 = .ok (.getfield 15, 3) := by decide +kernel
theorem dX5_goesOn_161 : decode cX5_goesOn 161 = .ok (.iload 8, 2) := by decide +kernel
theorem dX5_goesOn_163 : decode cX5_goesOn 163 = .ok (.lload 9, 2) := by decide +kernel
theorem dX5_goesOn_165 : decode cX5_goesOn 165 = .ok (.lastore, 1) := by decide +kernel
theorem dX5_goesOn_166 : decode cX5_goesOn 166 = .ok (.iinc 8 1, 3) := by decide +kernel
theorem dX5_goesOn_169 : decode cX5_goesOn 169 = .ok (.goto (-110), 3) := by decide +kernel
theorem dX5_goesOn_172 : decode cX5_goesOn 172 = .ok (.iconst 0, 1) := by decide +kernel
theorem dX5_goesOn_173 : decode cX5_goesOn 173 = .ok (.ireturn, 1) := by decide +kernel
theorem dJ0_length_8abf5_0 : decode cJ0_length_8abf5 0 = .ok (.aload_n 0, 1) := by decide +kernel
theorem dJ0_length_8abf5_1 : decode cJ0_length_8abf5 1 = .ok (.getfield 9, 3) := by decide +kernel
theorem dJ0_length_8abf5_4 : decode cJ0_length_8abf5 4 = .ok (.arraylength, 1) := by decide +kernel
theorem dJ0_length_8abf5_5 : decode cJ0_length_8abf5 5 = .ok (.aload_n 0, 1) := by decide +kernel
theorem dJ0_length_8abf5_6 : decode cJ0_length_8abf5 6 = .ok (.invokevirtual 335, 3) := by decide +kernel
theorem dJ0_length_8abf5_9 : decode cJ0_length_8abf5 9 = .ok (.ishr, 1) := by decide +kernel
theorem dJ0_length_8abf5_10 : decode cJ0_length_8abf5 10 = .ok (.ireturn, 1) := by decide +kernel
theorem dJ0_charAt_5068e_0 : decode cJ0_charAt_5068e 0 = .ok (.aload_n 0, 1) := by decide +kernel
theorem dJ0_charAt_5068e_1 : decode cJ0_charAt_5068e 1 = .ok (.invokevirtual 492, 3) := by decide +kernel
theorem dJ0_charAt_5068e_4 : decode cJ0_charAt_5068e 4 = .ok (.ifCond .eq 12, 3) := by decide +kernel
theorem dJ0_charAt_5068e_7 : decode cJ0_charAt_5068e 7 = .ok (.aload_n 0, 1) := by decide +kernel
theorem dJ0_charAt_5068e_8 : decode cJ0_charAt_5068e 8 = .ok (.getfield 9, 3) := by decide +kernel
theorem dJ0_charAt_5068e_11 : decode cJ0_charAt_5068e 11 = .ok (.iload_n 1, 1) := by decide +kernel
theorem dJ0_charAt_5068e_12 : decode cJ0_charAt_5068e 12 = .ok (.invokestatic 495, 3) := by decide +kernel
theorem dJ0_charAt_5068e_15 : decode cJ0_charAt_5068e 15 = .ok (.ireturn, 1) := by decide +kernel
theorem dJ0_charAt_5068e_16 : decode cJ0_charAt_5068e 16 = .ok (.aload_n 0, 1) := by decide +kernel
theorem dJ0_charAt_5068e_17 : decode cJ0_charAt_5068e 17 = .ok (.getfield 9, 3) := by decide +kernel
theorem dJ0_charAt_5068e_20 : decode cJ0_charAt_5068e 20 = .ok (.iload_n 1, 1) := by decide +kernel
theorem dJ0_charAt_5068e_21 : decode cJ0_charAt_5068e 21 = .ok (.invokestatic 498, 3) := by decide +kernel
theorem dJ0_charAt_5068e_24 : decode cJ0_charAt_5068e 24 = .ok (.ireturn, 1) := by decide +kernel
theorem dJ0_coder_7d493_0 : decode cJ0_coder_7d493 0 = .ok (.getstatic 38, 3) := by decide +kernel
theorem dJ0_coder_7d493_3 : decode cJ0_coder_7d493 3 = .ok (.ifCond .eq 10, 3) := by decide +kernel
theorem dJ0_coder_7d493_6 : decode cJ0_coder_7d493 6 = .ok (.aload_n 0, 1) := by decide +kernel
theorem dJ0_coder_7d493_7 : decode cJ0_coder_7d493 7 = .ok (.getfield 15, 3) := by decide +kernel
theorem dJ0_coder_7d493_10 : decode cJ0_coder_7d493 10 = .ok (.goto 4, 3) := by decide +kernel
theorem dJ0_coder_7d493_13 : decode cJ0_coder_7d493 13 = .ok (.iconst 1, 1) := by decide +kernel
theorem dJ0_coder_7d493_14 : decode cJ0_coder_7d493 14 = .ok (.ireturn, 1) := by decide +kernel
theorem dJ0_isLatin1_aae02_0 : decode cJ0_isLatin1_aae02 0 = .ok (.getstatic 38, 3) := by decide +kernel
theorem dJ0_isLatin1_aae02_3 : decode cJ0_isLatin1_aae02 3 = .ok (.ifCond .eq 14, 3) := by decide +kernel
theorem dJ0_isLatin1_aae02_6 : decode cJ0_isLatin1_aae02 6 = .ok (.aload_n 0, 1) := by decide +kernel
theorem dJ0_isLatin1_aae02_7 : decode cJ0_isLatin1_aae02 7 = .ok (.getfield 15, 3) := by decide +kernel
theorem dJ0_isLatin1_aae02_10 : decode cJ0_isLatin1_aae02 10 = .ok (.ifCond .ne 7, 3) := by decide +kernel
theorem dJ0_isLatin1_aae02_13 : decode cJ0_isLatin1_aae02 13 = .ok (.iconst 1, 1) := by decide +kernel
theorem dJ0_isLatin1_aae02_14 : decode cJ0_isLatin1_aae02 14 = .ok (.goto 4, 3) := by decide +kernel
theorem dJ0_isLatin1_aae02_17 : decode cJ0_isLatin1_aae02 17 = .ok (.iconst 0, 1) := by decide +kernel
theorem dJ0_isLatin1_aae02_18 : decode cJ0_isLatin1_aae02 18 = .ok (.ireturn, 1) := by decide +kernel
theorem dJ0_checkIndex_df160_0 : decode cJ0_checkIndex_df160 0 = .ok (.iload_n 0, 1) := by decide +kernel
theorem dJ0_checkIndex_df160_1 : decode cJ0_checkIndex_df160 1 = .ok (.iload_n 1, 1) := by decide +kernel
theorem dJ0_checkIndex_df160_2 : decode cJ0_checkIndex_df160 2 = .ok (.getstatic 1053, 3) := by decide +kernel
theorem dJ0_checkIndex_df160_5 : decode cJ0_checkIndex_df160 5 = .ok (.invokestatic 1059, 3) := by decide +kernel
theorem dJ0_checkIndex_df160_8 : decode cJ0_checkIndex_df160 8 = .ok (.pop, 1) := by decide +kernel
theorem dJ0_checkIndex_df160_9 : decode cJ0_checkIndex_df160 9 = .ok (.return_, 1) := by decide +kernel
theorem dJ1_charAt_3b067_0 : decode cJ1_charAt_3b067 0 = .ok (.iload_n 1, 1) := by decide +kernel
theorem dJ1_charAt_3b067_1 : decode cJ1_charAt_3b067 1 = .ok (.aload_n 0, 1) := by decide +kernel
theorem dJ1_charAt_3b067_2 : decode cJ1_charAt_3b067 2 = .ok (.arraylength, 1) := by decide +kernel
theorem dJ1_charAt_3b067_3 : decode cJ1_charAt_3b067 3 = .ok (.invokestatic 9, 3) := by decide +kernel
theorem dJ1_charAt_3b067_6 : decode cJ1_charAt_3b067 6 = .ok (.aload_n 0, 1) := by decide +kernel
theorem dJ1_charAt_3b067_7 : decode cJ1_charAt_3b067 7 = .ok (.iload_n 1, 1) := by decide +kernel
theorem dJ1_charAt_3b067_8 : decode cJ1_charAt_3b067 8 = .ok (.baload, 1) := by decide +kernel
theorem dJ1_charAt_3b067_9 : decode cJ1_charAt_3b067 9 = .ok (.sipush 255, 3) := by decide +kernel
theorem dJ1_charAt_3b067_12 : decode cJ1_charAt_3b067 12 = .ok (.iand, 1) := by decide +kernel
theorem dJ1_charAt_3b067_13 : decode cJ1_charAt_3b067 13 = .ok (.i2c, 1) := by decide +kernel
theorem dJ1_charAt_3b067_14 : decode cJ1_charAt_3b067 14 = .ok (.ireturn, 1) := by decide +kernel
theorem dJ13_bitCount_95d88_0 : decode cJ13_bitCount_95d88 0 = .ok (.lload_n 0, 1) := by decide +kernel
theorem dJ13_bitCount_95d88_1 : decode cJ13_bitCount_95d88 1 = .ok (.lload_n 0, 1) := by decide +kernel
theorem dJ13_bitCount_95d88_2 : decode cJ13_bitCount_95d88 2 = .ok (.iconst 1, 1) := by decide +kernel
theorem dJ13_bitCount_95d88_3 : decode cJ13_bitCount_95d88 3 = .ok (.lushr, 1) := by decide +kernel
theorem dJ13_bitCount_95d88_4 : decode cJ13_bitCount_95d88 4 = .ok (.ldc2_w 314, 3) := by decide +kernel
theorem dJ13_bitCount_95d88_7 : decode cJ13_bitCount_95d88 7 = .ok (.land, 1) := by decide +kernel
theorem dJ13_bitCount_95d88_8 : decode cJ13_bitCount_95d88 8 = .ok (.lsub, 1) := by decide +kernel
theorem dJ13_bitCount_95d88_9 : decode cJ13_bitCount_95d88 9 = .ok (.lstore_n 0, 1) := by decide +kernel
theorem dJ13_bitCount_95d88_10 : decode cJ13_bitCount_95d88 10 = .ok (.lload_n 0, 1) := by decide +kernel
theorem dJ13_bitCount_95d88_11 : decode cJ13_bitCount_95d88 11 = .ok (.ldc2_w 316, 3) := by decide +kernel
theorem dJ13_bitCount_95d88_14 : decode cJ13_bitCount_95d88 14 = .ok (.land, 1) := by decide +kernel
theorem dJ13_bitCount_95d88_15 : decode cJ13_bitCount_95d88 15 = .ok (.lload_n 0, 1) := by decide +kernel
theorem dJ13_bitCount_95d88_16 : decode cJ13_bitCount_95d88 16 = .ok (.iconst 2, 1) := by decide +kernel
theorem dJ13_bitCount_95d88_17 : decode cJ13_bitCount_95d88 17 = .ok (.lushr, 1) := by decide +kernel
theorem dJ13_bitCount_95d88_18 : decode cJ13_bitCount_95d88 18 = .ok (.ldc2_w 316, 3) := by decide +kernel
theorem dJ13_bitCount_95d88_21 : decode cJ13_bitCount_95d88 21 = .ok (.land, 1) := by decide +kernel
theorem dJ13_bitCount_95d88_22 : decode cJ13_bitCount_95d88 22 = .ok (.ladd, 1) := by decide +kernel
theorem dJ13_bitCount_95d88_23 : decode cJ13_bitCount_95d88 23 = .ok (.lstore_n 0, 1) := by decide +kernel
theorem dJ13_bitCount_95d88_24 : decode cJ13_bitCount_95d88 24 = .ok (.lload_n 0, 1) := by decide +kernel
theorem dJ13_bitCount_95d88_25 : decode cJ13_bitCount_95d88 25 = .ok (.lload_n 0, 1) := by decide +kernel
theorem dJ13_bitCount_95d88_26 : decode cJ13_bitCount_95d88 26 = .ok (.iconst 4, 1) := by decide +kernel
theorem dJ13_bitCount_95d88_27 : decode cJ13_bitCount_95d88 27 = .ok (.lushr, 1) := by decide +kernel
theorem dJ13_bitCount_95d88_28 : decode cJ13_bitCount_95d88 28 = .ok (.ladd, 1) := by decide +kernel
theorem dJ13_bitCount_95d88_29 : decode cJ13_bitCount_95d88 29 = .ok (.ldc2_w 318, 3) := by decide +kernel
theorem dJ13_bitCount_95d88_32 : decode cJ13_bitCount_95d88 32 = .ok (.land, 1) := by decide +kernel
theorem dJ13_bitCount_95d88_33 : decode cJ13_bitCount_95d88 33 = .ok (.lstore_n 0, 1) := by decide +kernel
theorem dJ13_bitCount_95d88_34 : decode cJ13_bitCount_95d88 34 = .ok (.lload_n 0, 1) := by decide +kernel
theorem dJ13_bitCount_95d88_35 : decode cJ13_bitCount_95d88 35 = .ok (.lload_n 0, 1) := by decide +kernel
theorem dJ13_bitCount_95d88_36 : decode cJ13_bitCount_95d88 36 = .ok (.bipush 8, 2) := by decide +kernel
theorem dJ13_bitCount_95d88_38 : decode cJ13_bitCount_95d88 38 = .ok (.lushr, 1) := by decide +kernel
theorem dJ13_bitCount_95d88_39 : decode cJ13_bitCount_95d88 39 = .ok (.ladd, 1) := by decide +kernel
theorem dJ13_bitCount_95d88_40 : decode cJ13_bitCount_95d88 40 = .ok (.lstore_n 0, 1) := by decide +kernel
theorem dJ13_bitCount_95d88_41 : decode cJ13_bitCount_95d88 41 = .ok (.lload_n 0, 1) := by decide +kernel
theorem dJ13_bitCount_95d88_42 : decode cJ13_bitCount_95d88 42 = .ok (.lload_n 0, 1) := by decide +kernel
theorem dJ13_bitCount_95d88_43 : decode cJ13_bitCount_95d88 43 = .ok (.bipush 16, 2) := by decide +kernel
theorem dJ13_bitCount_95d88_45 : decode cJ13_bitCount_95d88 45 = .ok (.lushr, 1) := by decide +kernel
theorem dJ13_bitCount_95d88_46 : decode cJ13_bitCount_95d88 46 = .ok (.ladd, 1) := by decide +kernel
theorem dJ13_bitCount_95d88_47 : decode cJ13_bitCount_95d88 47 = .ok (.lstore_n 0, 1) := by decide +kernel
theorem dJ13_bitCount_95d88_48 : decode cJ13_bitCount_95d88 48 = .ok (.lload_n 0, 1) := by decide +kernel
theorem dJ13_bitCount_95d88_49 : decode cJ13_bitCount_95d88 49 = .ok (.lload_n 0, 1) := by decide +kernel
theorem dJ13_bitCount_95d88_50 : decode cJ13_bitCount_95d88 50 = .ok (.bipush 32, 2) := by decide +kernel
theorem dJ13_bitCount_95d88_52 : decode cJ13_bitCount_95d88 52 = .ok (.lushr, 1) := by decide +kernel
theorem dJ13_bitCount_95d88_53 : decode cJ13_bitCount_95d88 53 = .ok (.ladd, 1) := by decide +kernel
theorem dJ13_bitCount_95d88_54 : decode cJ13_bitCount_95d88 54 = .ok (.lstore_n 0, 1) := by decide +kernel
theorem dJ13_bitCount_95d88_55 : decode cJ13_bitCount_95d88 55 = .ok (.lload_n 0, 1) := by decide +kernel
theorem dJ13_bitCount_95d88_56 : decode cJ13_bitCount_95d88 56 = .ok (.l2i, 1) := by decide +kernel
theorem dJ13_bitCount_95d88_57 : decode cJ13_bitCount_95d88 57 = .ok (.bipush 127, 2) := by decide +kernel
theorem dJ13_bitCount_95d88_59 : decode cJ13_bitCount_95d88 59 = .ok (.iand, 1) := by decide +kernel
theorem dJ13_bitCount_95d88_60 : decode cJ13_bitCount_95d88 60 = .ok (.ireturn, 1) := by decide +kernel
theorem dJ2_getChar_3b067_0 : decode cJ2_getChar_3b067 0 = .ok (.getstatic 44, 3) := by decide +kernel
theorem dJ2_getChar_3b067_3 : decode cJ2_getChar_3b067 3 = .ok (.ifCond .ne 25, 3) := by decide +kernel
theorem dJ2_getChar_3b067_6 : decode cJ2_getChar_3b067 6 = .ok (.iload_n 1, 1) := by decide +kernel
theorem dJ2_getChar_3b067_7 : decode cJ2_getChar_3b067 7 = .ok (.ifCond .lt 11, 3) := by decide +kernel
theorem dJ2_getChar_3b067_10 : decode cJ2_getChar_3b067 10 = .ok (.iload_n 1, 1) := by decide +kernel
theorem dJ2_getChar_3b067_11 : decode cJ2_getChar_3b067 11 = .ok (.aload_n 0, 1) := by decide +kernel
theorem dJ2_getChar_3b067_12 : decode cJ2_getChar_3b067 12 = .ok (.invokestatic 48, 3) := by decide +kernel
theorem dJ2_getChar_3b067_15 : decode cJ2_getChar_3b067 15 = .ok (.if_icmp .lt 13, 3) := by decide +kernel
theorem dJ2_getChar_3b067_18 : decode cJ2_getChar_3b067 18 = .ok (.new 52, 3) := by decide +kernel
theorem dJ2_getChar_3b067_21 : decode cJ2_getChar_3b067 21 = .ok (.dup, 1) := by decide +kernel
theorem dJ2_getChar_3b067_22 : decode cJ2_getChar_3b067 22 = .ok (.ldc 54, 2) := by decide +kernel
theorem dJ2_getChar_3b067_24 : decode cJ2_getChar_3b067 24 = .ok (.invokespecial 56, 3) := by decide +kernel
theorem dJ2_getChar_3b067_27 : decode cJ2_getChar_3b067 27 = .ok (.athrow, 1) := by decide +kernel
theorem dJ2_getChar_3b067_28 : decode cJ2_getChar_3b067 28 = .ok (.iload_n 1, 1) := by decide +kernel
theorem dJ2_getChar_3b067_29 : decode cJ2_getChar_3b067 29 = .ok (.iconst 1, 1) := by decide +kernel
theorem dJ2_getChar_3b067_30 : decode cJ2_getChar_3b067 30 = .ok (.ishl, 1) := by decide +kernel
theorem dJ2_getChar_3b067_31 : decode cJ2_getChar_3b067 31 = .ok (.istore_n 1, 1) := by decide +kernel
theorem dJ2_getChar_3b067_32 : decode cJ2_getChar_3b067 32 = .ok (.aload_n 0, 1) := by decide +kernel
theorem dJ2_getChar_3b067_33 : decode cJ2_getChar_3b067 33 = .ok (.iload_n 1, 1) := by decide +kernel
theorem dJ2_getChar_3b067_34 : decode cJ2_getChar_3b067 34 = .ok (.iinc 1 1, 3) := by decide +kernel
theorem dJ2_getChar_3b067_37 : decode cJ2_getChar_3b067 37 = .ok (.baload, 1) := by decide +kernel
theorem dJ2_getChar_3b067_38 : decode cJ2_getChar_3b067 38 = .ok (.sipush 255, 3) := by decide +kernel
theorem dJ2_getChar_3b067_41 : decode cJ2_getChar_3b067 41 = .ok (.iand, 1) := by decide +kernel
theorem dJ2_getChar_3b067_42 : decode cJ2_getChar_3b067 42 = .ok (.getstatic 59, 3) := by decide +kernel
theorem dJ2_getChar_3b067_45 : decode cJ2_getChar_3b067 45 = .ok (.ishl, 1) := by decide +kernel
theorem dJ2_getChar_3b067_46 : decode cJ2_getChar_3b067 46 = .ok (.aload_n 0, 1) := by decide +kernel
theorem dJ2_getChar_3b067_47 : decode cJ2_getChar_3b067 47 = .ok (.iload_n 1, 1) := by decide +kernel
theorem dJ2_getChar_3b067_48 : decode cJ2_getChar_3b067 48 = .ok (.baload, 1) := by decide +kernel
theorem dJ2_getChar_3b067_49 : decode cJ2_getChar_3b067 49 = .ok (.sipush 255, 3) := by decide +kernel
theorem dJ2_getChar_3b067_52 : decode cJ2_getChar_3b067 52 = .ok (.iand, 1) := by decide +kernel
theorem dJ2_getChar_3b067_53 : decode cJ2_getChar_3b067 53 = .ok (.getstatic 63, 3) := by decide +kernel
theorem dJ2_getChar_3b067_56 : decode cJ2_getChar_3b067 56 = .ok (.ishl, 1) := by decide +kernel
theorem dJ2_getChar_3b067_57 : decode cJ2_getChar_3b067 57 = .ok (.ior, 1) := by decide +kernel
theorem dJ2_getChar_3b067_58 : decode cJ2_getChar_3b067 58 = .ok (.i2c, 1) := by decide +kernel
theorem dJ2_getChar_3b067_59 : decode cJ2_getChar_3b067 59 = .ok (.ireturn, 1) := by decide +kernel
theorem dJ2_length_9d52b_0 : decode cJ2_length_9d52b 0 = .ok (.aload_n 0, 1) := by decide +kernel
theorem dJ2_length_9d52b_1 : decode cJ2_length_9d52b 1 = .ok (.arraylength, 1) := by decide +kernel
theorem dJ2_length_9d52b_2 : decode cJ2_length_9d52b 2 = .ok (.iconst 1, 1) := by decide +kernel
theorem dJ2_length_9d52b_3 : decode cJ2_length_9d52b 3 = .ok (.ishr, 1) := by decide +kernel
theorem dJ2_length_9d52b_4 : decode cJ2_length_9d52b 4 = .ok (.ireturn, 1) := by decide +kernel
theorem dJ2_charAt_3b067_0 : decode cJ2_charAt_3b067 0 = .ok (.iload_n 1, 1) := by decide +kernel
theorem dJ2_charAt_3b067_1 : decode cJ2_charAt_3b067 1 = .ok (.aload_n 0, 1) := by decide +kernel
theorem dJ2_charAt_3b067_2 : decode cJ2_charAt_3b067 2 = .ok (.invokestatic 67, 3) := by decide +kernel
theorem dJ2_charAt_3b067_5 : decode cJ2_charAt_3b067 5 = .ok (.aload_n 0, 1) := by decide +kernel
theorem dJ2_charAt_3b067_6 : decode cJ2_charAt_3b067 6 = .ok (.iload_n 1, 1) := by decide +kernel
theorem dJ2_charAt_3b067_7 : decode cJ2_charAt_3b067 7 = .ok (.invokestatic 71, 3) := by decide +kernel
theorem dJ2_charAt_3b067_10 : decode cJ2_charAt_3b067 10 = .ok (.ireturn, 1) := by decide +kernel
theorem dJ2_checkIndex_2214a_0 : decode cJ2_checkIndex_2214a 0 = .ok (.iload_n 0, 1) := by decide +kernel
theorem dJ2_checkIndex_2214a_1 : decode cJ2_checkIndex_2214a 1 = .ok (.aload_n 1, 1) := by decide +kernel
theorem dJ2_checkIndex_2214a_2 : decode cJ2_checkIndex_2214a 2 = .ok (.invokestatic 48, 3) := by decide +kernel
theorem dJ2_checkIndex_2214a_5 : decode cJ2_checkIndex_2214a 5 = .ok (.invokestatic 414, 3) := by decide +kernel
theorem dJ2_checkIndex_2214a_8 : decode cJ2_checkIndex_2214a 8 = .ok (.return_, 1) := by decide +kernel
theorem dJ3_checkIndex_8e157_0 : decode cJ3_checkIndex_8e157 0 = .ok (.iload_n 0, 1) := by decide +kernel
theorem dJ3_checkIndex_8e157_1 : decode cJ3_checkIndex_8e157 1 = .ok (.ifCond .lt 8, 3) := by decide +kernel
theorem dJ3_checkIndex_8e157_4 : decode cJ3_checkIndex_8e157 4 = .ok (.iload_n 0, 1) := by decide +kernel
theorem dJ3_checkIndex_8e157_5 : decode cJ3_checkIndex_8e157 5 = .ok (.iload_n 1, 1) := by decide +kernel
theorem dJ3_checkIndex_8e157_6 : decode cJ3_checkIndex_8e157 6 = .ok (.if_icmp .lt 10, 3) := by decide +kernel
theorem dJ3_checkIndex_8e157_9 : decode cJ3_checkIndex_8e157 9 = .ok (.aload_n 2, 1) := by decide +kernel
theorem dJ3_checkIndex_8e157_10 : decode cJ3_checkIndex_8e157 10 = .ok (.iload_n 0, 1) := by decide +kernel
theorem dJ3_checkIndex_8e157_11 : decode cJ3_checkIndex_8e157 11 = .ok (.iload_n 1, 1) := by decide +kernel
theorem dJ3_checkIndex_8e157_12 : decode cJ3_checkIndex_8e157 12 = .ok (.invokestatic 95, 3) := by decide +kernel
theorem dJ3_checkIndex_8e157_15 : decode cJ3_checkIndex_8e157 15 = .ok (.athrow, 1) := by decide +kernel
theorem dJ3_checkIndex_8e157_16 : decode cJ3_checkIndex_8e157 16 = .ok (.iload_n 0, 1) := by decide +kernel
theorem dJ3_checkIndex_8e157_17 : decode cJ3_checkIndex_8e157 17 = .ok (.ireturn, 1) := by decide +kernel
theorem dJ6_bitCount_0f7a4_0 : decode cJ6_bitCount_0f7a4 0 = .ok (.iload_n 0, 1) := by decide +kernel
theorem dJ6_bitCount_0f7a4_1 : decode cJ6_bitCount_0f7a4 1 = .ok (.iload_n 0, 1) := by decide +kernel
theorem dJ6_bitCount_0f7a4_2 : decode cJ6_bitCount_0f7a4 2 = .ok (.iconst 1, 1) := by decide +kernel
theorem dJ6_bitCount_0f7a4_3 : decode cJ6_bitCount_0f7a4 3 = .ok (.iushr, 1) := by decide +kernel
theorem dJ6_bitCount_0f7a4_4 : decode cJ6_bitCount_0f7a4 4 = .ok (.ldc_w 265, 3) := by decide +kernel
theorem dJ6_bitCount_0f7a4_7 : decode cJ6_bitCount_0f7a4 7 = .ok (.iand, 1) := by decide +kernel
theorem dJ6_bitCount_0f7a4_8 : decode cJ6_bitCount_0f7a4 8 = .ok (.isub, 1) := by decide +kernel
theorem dJ6_bitCount_0f7a4_9 : decode cJ6_bitCount_0f7a4 9 = .ok (.istore_n 0, 1) := by decide +kernel
theorem dJ6_bitCount_0f7a4_10 : decode cJ6_bitCount_0f7a4 10 = .ok (.iload_n 0, 1) := by decide +kernel
theorem dJ6_bitCount_0f7a4_11 : decode cJ6_bitCount_0f7a4 11 = .ok (.ldc_w 266, 3) := by decide +kernel
theorem dJ6_bitCount_0f7a4_14 : decode cJ6_bitCount_0f7a4 14 = .ok (.iand, 1) := by decide +kernel
theorem dJ6_bitCount_0f7a4_15 : decode cJ6_bitCount_0f7a4 15 = .ok (.iload_n 0, 1) := by decide +kernel
theorem dJ6_bitCount_0f7a4_16 : decode cJ6_bitCount_0f7a4 16 = .ok (.iconst 2, 1) := by decide +kernel
theorem dJ6_bitCount_0f7a4_17 : decode cJ6_bitCount_0f7a4 17 = .ok (.iushr, 1) := by decide +kernel
theorem dJ6_bitCount_0f7a4_18 : decode cJ6_bitCount_0f7a4 18 = .ok (.ldc_w 266, 3) := by decide +kernel
theorem dJ6_bitCount_0f7a4_21 : decode cJ6_bitCount_0f7a4 21 = .ok (.iand, 1) := by decide +kernel
theorem dJ6_bitCount_0f7a4_22 : decode cJ6_bitCount_0f7a4 22 = .ok (.iadd, 1) := by decide +kernel
theorem dJ6_bitCount_0f7a4_23 : decode cJ6_bitCount_0f7a4 23 = .ok (.istore_n 0, 1) := by decide +kernel
theorem dJ6_bitCount_0f7a4_24 : decode cJ6_bitCount_0f7a4 24 = .ok (.iload_n 0, 1) := by decide +kernel
theorem dJ6_bitCount_0f7a4_25 : decode cJ6_bitCount_0f7a4 25 = .ok (.iload_n 0, 1) := by decide +kernel
theorem dJ6_bitCount_0f7a4_26 : decode cJ6_bitCount_0f7a4 26 = .ok (.iconst 4, 1) := by decide +kernel
theorem dJ6_bitCount_0f7a4_27 : decode cJ6_bitCount_0f7a4 27 = .ok (.iushr, 1) := by decide +kernel
theorem dJ6_bitCount_0f7a4_28 : decode cJ6_bitCount_0f7a4 28 = .ok (.iadd, 1) := by decide +kernel
theorem dJ6_bitCount_0f7a4_29 : decode cJ6_bitCount_0f7a4 29 = .ok (.ldc_w 267, 3) := by decide +kernel
theorem dJ6_bitCount_0f7a4_32 : decode cJ6_bitCount_0f7a4 32 = .ok (.iand, 1) := by decide +kernel
theorem dJ6_bitCount_0f7a4_33 : decode cJ6_bitCount_0f7a4 33 = .ok (.istore_n 0, 1) := by decide +kernel
theorem dJ6_bitCount_0f7a4_34 : decode cJ6_bitCount_0f7a4 34 = .ok (.iload_n 0, 1) := by decide +kernel
theorem dJ6_bitCount_0f7a4_35 : decode cJ6_bitCount_0f7a4 35 = .ok (.iload_n 0, 1) := by decide +kernel
theorem dJ6_bitCount_0f7a4_36 : decode cJ6_bitCount_0f7a4 36 = .ok (.bipush 8, 2) := by decide +kernel
theorem dJ6_bitCount_0f7a4_38 : decode cJ6_bitCount_0f7a4 38 = .ok (.iushr, 1) := by decide +kernel
theorem dJ6_bitCount_0f7a4_39 : decode cJ6_bitCount_0f7a4 39 = .ok (.iadd, 1) := by decide +kernel
theorem dJ6_bitCount_0f7a4_40 : decode cJ6_bitCount_0f7a4 40 = .ok (.istore_n 0, 1) := by decide +kernel
theorem dJ6_bitCount_0f7a4_41 : decode cJ6_bitCount_0f7a4 41 = .ok (.iload_n 0, 1) := by decide +kernel
theorem dJ6_bitCount_0f7a4_42 : decode cJ6_bitCount_0f7a4 42 = .ok (.iload_n 0, 1) := by decide +kernel
theorem dJ6_bitCount_0f7a4_43 : decode cJ6_bitCount_0f7a4 43 = .ok (.bipush 16, 2) := by decide +kernel
theorem dJ6_bitCount_0f7a4_45 : decode cJ6_bitCount_0f7a4 45 = .ok (.iushr, 1) := by decide +kernel
theorem dJ6_bitCount_0f7a4_46 : decode cJ6_bitCount_0f7a4 46 = .ok (.iadd, 1) := by decide +kernel
theorem dJ6_bitCount_0f7a4_47 : decode cJ6_bitCount_0f7a4 47 = .ok (.istore_n 0, 1) := by decide +kernel
theorem dJ6_bitCount_0f7a4_48 : decode cJ6_bitCount_0f7a4 48 = .ok (.iload_n 0, 1) := by decide +kernel
theorem dJ6_bitCount_0f7a4_49 : decode cJ6_bitCount_0f7a4 49 = .ok (.bipush 63, 2) := by decide +kernel
theorem dJ6_bitCount_0f7a4_51 : decode cJ6_bitCount_0f7a4 51 = .ok (.iand, 1) := by decide +kernel
theorem dJ6_bitCount_0f7a4_52 : decode cJ6_bitCount_0f7a4 52 = .ok (.ireturn, 1) := by decide +kernel
theorem dJ9_max_7cf53_0 : decode cJ9_max_7cf53 0 = .ok (.iload_n 0, 1) := by decide +kernel
theorem dJ9_max_7cf53_1 : decode cJ9_max_7cf53 1 = .ok (.iload_n 1, 1) := by decide +kernel
theorem dJ9_max_7cf53_2 : decode cJ9_max_7cf53 2 = .ok (.if_icmp .lt 7, 3) := by decide +kernel
theorem dJ9_max_7cf53_5 : decode cJ9_max_7cf53 5 = .ok (.iload_n 0, 1) := by decide +kernel
theorem dJ9_max_7cf53_6 : decode cJ9_max_7cf53 6 = .ok (.goto 4, 3) := by decide +kernel
theorem dJ9_max_7cf53_9 : decode cJ9_max_7cf53 9 = .ok (.iload_n 1, 1) := by decide +kernel
theorem dJ9_max_7cf53_10 : decode cJ9_max_7cf53 10 = .ok (.ireturn, 1) := by decide +kernel
theorem dJ9_min_7cf53_0 : decode cJ9_min_7cf53 0 = .ok (.iload_n 0, 1) := by decide +kernel
theorem dJ9_min_7cf53_1 : decode cJ9_min_7cf53 1 = .ok (.iload_n 1, 1) := by decide +kernel
theorem dJ9_min_7cf53_2 : decode cJ9_min_7cf53 2 = .ok (.if_icmp .gt 7, 3) := by decide +kernel
theorem dJ9_min_7cf53_5 : decode cJ9_min_7cf53 5 = .ok (.iload_n 0, 1) := by decide +kernel
theorem dJ9_min_7cf53_6 : decode cJ9_min_7cf53 6 = .ok (.goto 4, 3) := by decide +kernel
theorem dJ9_min_7cf53_9 : decode cJ9_min_7cf53 9 = .ok (.iload_n 1, 1) := by decide +kernel
theorem dJ9_min_7cf53_10 : decode cJ9_min_7cf53 10 = .ok (.ireturn, 1) := by decide +kernel
