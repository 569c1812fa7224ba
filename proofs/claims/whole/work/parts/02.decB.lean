theorem dX6_init_0 : decode cX6_init 0 = .ok (.aload_n 0, 1) := by decide +kernel
theorem dX6_init_1 : decode cX6_init 1 = .ok (.invokespecial 3, 3) := by decide +kernel
theorem dX6_init_4 : decode cX6_init 4 = .ok (.aload_n 0, 1) := by decide +kernel
theorem dX6_init_5 : decode cX6_init 5 = .ok (.new 9, 3) := by decide +kernel
theorem dX6_init_8 : decode cX6_init 8 = .ok (.dup, 1) := by decide +kernel
theorem dX6_init_9 : decode cX6_init 9 = .ok (.invokespecial 11, 3) := by decide +kernel
theorem dX6_init_12 : decode cX6_init 12 = .ok (.putfield 12, 3) := by decide +kernel
theorem dX6_init_15 : decode cX6_init 15 = .ok (.aload_n 0, 1) := by decide +kernel
theorem dX6_init_16 : decode cX6_init 16 = .ok (.new 16, 3) := by decide +kernel
theorem dX6_init_19 : decode cX6_init 19 = .ok (.dup, 1) := by decide +kernel
theorem dX6_init_20 : decode cX6_init 20 = .ok (.invokespecial 18, 3) := by decide +kernel
theorem dX6_init_23 : decode cX6_init 23 = .ok (.putfield 19, 3) := by decide +kernel
theorem dX6_init_26 : decode cX6_init 26 = .ok (.aload_n 0, 1) := by decide +kernel
theorem dX6_init_27 : decode cX6_init 27 = .ok (.new 23, 3) := by decide +kernel
theorem dX6_init_30 : decode cX6_init 30 = .ok (.dup, 1) := by decide +kernel
theorem dX6_init_31 : decode cX6_init 31 = .ok (.invokespecial 25, 3) := by decide +kernel
theorem dX6_init_34 : decode cX6_init 34 = .ok (.putfield 26, 3) := by decide +kernel
theorem dX6_init_37 : decode cX6_init 37 = .ok (.aload_n 0, 1) := by decide +kernel
theorem dX6_init_38 : decode cX6_init 38 = .ok (.new 23, 3) := by decide +kernel
theorem dX6_init_41 : decode cX6_init 41 = .ok (.dup, 1) := by decide +kernel
theorem dX6_init_42 : decode cX6_init 42 = .ok (.invokespecial 25, 3) := by decide +kernel
theorem dX6_init_45 : decode cX6_init 45 = .ok (.putfield 30, 3) := by decide +kernel
theorem dX6_init_48 : decode cX6_init 48 = .ok (.aload_n 0, 1) := by decide +kernel
theorem dX6_init_49 : decode cX6_init 49 = .ok (.new 23, 3) := by decide +kernel
theorem dX6_init_52 : decode cX6_init 52 = .ok (.dup, 1) := by decide +kernel
theorem dX6_init_53 : decode cX6_init 53 = .ok (.invokespecial 25, 3) := by decide +kernel
theorem dX6_init_56 : decode cX6_init 56 = .ok (.putfield 33, 3) := by decide +kernel
theorem dX6_init_59 : decode cX6_init 59 = .ok (.aload_n 0, 1) := by decide +kernel
theorem dX6_init_60 : decode cX6_init 60 = .ok (.new 36, 3) := by decide +kernel
theorem dX6_init_63 : decode cX6_init 63 = .ok (.dup, 1) := by decide +kernel
theorem dX6_init_64 : decode cX6_init 64 = .ok (.invokespecial 38, 3) := by decide +kernel
theorem dX6_init_67 : decode cX6_init 67 = .ok (.putfield 39, 3) := by decide +kernel
theorem dX6_init_70 : decode cX6_init 70 = .ok (.aload_n 0, 1) := by decide +kernel
theorem dX6_init_71 : decode cX6_init 71 = .ok (.new 43, 3) := by decide +kernel
theorem dX6_init_74 : decode cX6_init 74 = .ok (.dup, 1) := by decide +kernel
theorem dX6_init_75 : decode cX6_init 75 = .ok (.invokespecial 45, 3) := by decide +kernel
theorem dX6_init_78 : decode cX6_init 78 = .ok (.putfield 46, 3) := by decide +kernel
theorem dX6_init_81 : decode cX6_init 81 = .ok (.aload_n 0, 1) := by decide +kernel
theorem dX6_init_82 : decode cX6_init 82 = .ok (.new 50, 3) := by decide +kernel
theorem dX6_init_85 : decode cX6_init 85 = .ok (.dup, 1) := by decide +kernel
theorem dX6_init_86 : decode cX6_init 86 = .ok (.invokespecial 52, 3) := by decide +kernel
theorem dX6_init_89 : decode cX6_init 89 = .ok (.putfield 53, 3) := by decide +kernel
theorem dX6_init_92 : decode cX6_init 92 = .ok (.aload_n 0, 1) := by decide +kernel
theorem dX6_init_93 : decode cX6_init 93 = .ok (.iconst 0, 1) := by decide +kernel
theorem dX6_init_94 : decode cX6_init 94 = .ok (.putfield 57, 3) := by decide +kernel
theorem dX6_init_97 : decode cX6_init 97 = .ok (.aload_n 0, 1) := by decide +kernel
theorem dX6_init_98 : decode cX6_init 98 = .ok (.iconst 0, 1) := by decide +kernel
theorem dX6_init_99 : decode cX6_init 99 = .ok (.putfield 61, 3) := by decide +kernel
theorem dX6_init_102 : decode cX6_init 102 = .ok (.aload_n 0, 1) := by decide +kernel
theorem dX6_init_103 : decode cX6_init 103 = .ok (.iconst (-1), 1) := by decide +kernel
theorem dX6_init_104 : decode cX6_init 104 = .ok (.putfield 64, 3) := by decide +kernel
theorem dX6_init_107 : decode cX6_init 107 = .ok (.return_, 1) := by decide +kernel
theorem dX6_feed_0 : decode cX6_feed 0 = .ok (.aload_n 0, 1) := by decide +kernel
theorem dX6_feed_1 : decode cX6_feed 1 = .ok (.getfield 12, 3) := by decide +kernel
theorem dX6_feed_4 : decode cX6_feed 4 = .ok (.getfield 67, 3) := by decide +kernel
theorem dX6_feed_7 : decode cX6_feed 7 = .ok (.bipush 20, 2) := by decide +kernel
theorem dX6_feed_9 : decode cX6_feed 9 = .ok (.iadd, 1) := by decide +kernel
theorem dX6_feed_10 : decode cX6_feed 10 = .ok (.sipush 900, 3) := by decide +kernel
theorem dX6_feed_13 : decode cX6_feed 13 = .ok (.if_icmp .le 5, 3) := by decide +kernel
theorem dX6_feed_16 : decode cX6_feed 16 = .ok (.iconst (-1), 1) := by decide +kernel
theorem dX6_feed_17 : decode cX6_feed 17 = .ok (.ireturn, 1) := by decide +kernel
theorem dX6_feed_18 : decode cX6_feed 18 = .ok (.aload_n 0, 1) := by decide +kernel
theorem dX6_feed_19 : decode cX6_feed 19 = .ok (.getfield 12, 3) := by decide +kernel
theorem dX6_feed_22 : decode cX6_feed 22 = .ok (.iload_n 1, 1) := by decide +kernel
theorem dX6_feed_23 : decode cX6_feed 23 = .ok (.invokevirtual 70, 3) := by decide +kernel
theorem dX6_feed_26 : decode cX6_feed 26 = .ok (.aload_n 0, 1) := by decide +kernel
theorem dX6_feed_27 : decode cX6_feed 27 = .ok (.getfield 12, 3) := by decide +kernel
theorem dX6_feed_30 : decode cX6_feed 30 = .ok (.iload_n 2, 1) := by decide +kernel
theorem dX6_feed_31 : decode cX6_feed 31 = .ok (.invokevirtual 70, 3) := by decide +kernel
theorem dX6_feed_34 : decode cX6_feed 34 = .ok (.aload_n 0, 1) := by decide +kernel
theorem dX6_feed_35 : decode cX6_feed 35 = .ok (.getfield 12, 3) := by decide +kernel
theorem dX6_feed_38 : decode cX6_feed 38 = .ok (.iload_n 3, 1) := by decide +kernel
theorem dX6_feed_39 : decode cX6_feed 39 = .ok (.invokevirtual 70, 3) := by decide +kernel
theorem dX6_feed_42 : decode cX6_feed 42 = .ok (.aload_n 0, 1) := by decide +kernel
theorem dX6_feed_43 : decode cX6_feed 43 = .ok (.getfield 12, 3) := by decide +kernel
theorem dX6_feed_46 : decode cX6_feed 46 = .ok (.iload 4, 2) := by decide +kernel
theorem dX6_feed_48 : decode cX6_feed 48 = .ok (.invokevirtual 70, 3) := by decide +kernel
theorem dX6_feed_51 : decode cX6_feed 51 = .ok (.aload_n 0, 1) := by decide +kernel
theorem dX6_feed_52 : decode cX6_feed 52 = .ok (.getfield 12, 3) := by decide +kernel
theorem dX6_feed_55 : decode cX6_feed 55 = .ok (.iload 5, 2) := by decide +kernel
theorem dX6_feed_57 : decode cX6_feed 57 = .ok (.invokevirtual 70, 3) := by decide +kernel
theorem dX6_feed_60 : decode cX6_feed 60 = .ok (.aload_n 0, 1) := by decide +kernel
theorem dX6_feed_61 : decode cX6_feed 61 = .ok (.getfield 12, 3) := by decide +kernel
theorem dX6_feed_64 : decode cX6_feed 64 = .ok (.getfield 67, 3) := by decide +kernel
theorem dX6_feed_67 : decode cX6_feed 67 = .ok (.ireturn, 1) := by decide +kernel
theorem dX6_city_0 : decode cX6_city 0 = .ok (.iload_n 1, 1) := by decide +kernel
theorem dX6_city_1 : decode cX6_city 1 = .ok (.ifCond .lt 14, 3) := by decide +kernel
theorem dX6_city_4 : decode cX6_city 4 = .ok (.iload_n 1, 1) := by decide +kernel
theorem dX6_city_5 : decode cX6_city 5 = .ok (.aload_n 0, 1) := by decide +kernel
theorem dX6_city_6 : decode cX6_city 6 = .ok (.getfield 12, 3) := by decide +kernel
theorem dX6_city_9 : decode cX6_city 9 = .ok (.getfield 67, 3) := by decide +kernel
theorem dX6_city_12 : decode cX6_city 12 = .ok (.if_icmp .le 9, 3) := by decide +kernel
theorem dX6_city_15 : decode cX6_city 15 = .ok (.aload_n 0, 1) := by decide +kernel
theorem dX6_city_16 : decode cX6_city 16 = .ok (.iconst 2, 1) := by decide +kernel
theorem dX6_city_17 : decode cX6_city 17 = .ok (.invokevirtual 74, 3) := by decide +kernel
theorem dX6_city_20 : decode cX6_city 20 = .ok (.ireturn, 1) := by decide +kernel
theorem dX6_city_21 : decode cX6_city 21 = .ok (.aload_n 0, 1) := by decide +kernel
theorem dX6_city_22 : decode cX6_city 22 = .ok (.getfield 12, 3) := by decide +kernel
theorem dX6_city_25 : decode cX6_city 25 = .ok (.iload_n 1, 1) := by decide +kernel
theorem dX6_city_26 : decode cX6_city 26 = .ok (.invokevirtual 78, 3) := by decide +kernel
theorem dX6_city_29 : decode cX6_city 29 = .ok (.istore_n 2, 1) := by decide +kernel
theorem dX6_city_30 : decode cX6_city 30 = .ok (.aload_n 0, 1) := by decide +kernel
theorem dX6_city_31 : decode cX6_city 31 = .ok (.aload_n 0, 1) := by decide +kernel
theorem dX6_city_32 : decode cX6_city 32 = .ok (.getfield 12, 3) := by decide +kernel
theorem dX6_city_35 : decode cX6_city 35 = .ok (.getfield 82, 3) := by decide +kernel
theorem dX6_city_38 : decode cX6_city 38 = .ok (.putfield 61, 3) := by decide +kernel
theorem dX6_city_41 : decode cX6_city 41 = .ok (.aload_n 0, 1) := by decide +kernel
theorem dX6_city_42 : decode cX6_city 42 = .ok (.aload_n 0, 1) := by decide +kernel
theorem dX6_city_43 : decode cX6_city 43 = .ok (.getfield 12, 3) := by decide +kernel
theorem dX6_city_46 : decode cX6_city 46 = .ok (.getfield 83, 3) := by decide +kernel
theorem dX6_city_49 : decode cX6_city 49 = .ok (.putfield 64, 3) := by decide +kernel
theorem dX6_city_52 : decode cX6_city 52 = .ok (.iload_n 2, 1) := by decide +kernel
theorem dX6_city_53 : decode cX6_city 53 = .ok (.ifCond .ne 9, 3) := by decide +kernel
theorem dX6_city_56 : decode cX6_city 56 = .ok (.aload_n 0, 1) := by decide +kernel
theorem dX6_city_57 : decode cX6_city 57 = .ok (.iconst 4, 1) := by decide +kernel
theorem dX6_city_58 : decode cX6_city 58 = .ok (.invokevirtual 74, 3) := by decide +kernel
theorem dX6_city_61 : decode cX6_city 61 = .ok (.ireturn, 1) := by decide +kernel
theorem dX6_city_62 : decode cX6_city 62 = .ok (.aload_n 0, 1) := by decide +kernel
theorem dX6_city_63 : decode cX6_city 63 = .ok (.invokevirtual 86, 3) := by decide +kernel
theorem dX6_city_66 : decode cX6_city 66 = .ok (.aload_n 0, 1) := by decide +kernel
theorem dX6_city_67 : decode cX6_city 67 = .ok (.aload_n 0, 1) := by decide +kernel
theorem dX6_city_68 : decode cX6_city 68 = .ok (.getfield 19, 3) := by decide +kernel
theorem dX6_city_71 : decode cX6_city 71 = .ok (.getfield 89, 3) := by decide +kernel
theorem dX6_city_74 : decode cX6_city 74 = .ok (.invokevirtual 92, 3) := by decide +kernel
theorem dX6_city_77 : decode cX6_city 77 = .ok (.ireturn, 1) := by decide +kernel
theorem dX6_fault_0 : decode cX6_fault 0 = .ok (.aload_n 0, 1) := by decide +kernel
theorem dX6_fault_1 : decode cX6_fault 1 = .ok (.getfield 61, 3) := by decide +kernel
theorem dX6_fault_4 : decode cX6_fault 4 = .ok (.ireturn, 1) := by decide +kernel
theorem dX6_where_0 : decode cX6_where 0 = .ok (.aload_n 0, 1) := by decide +kernel
theorem dX6_where_1 : decode cX6_where 1 = .ok (.getfield 57, 3) := by decide +kernel
theorem dX6_where_4 : decode cX6_where 4 = .ok (.iconst 4, 1) := by decide +kernel
theorem dX6_where_5 : decode cX6_where 5 = .ok (.if_icmp .ne 10, 3) := by decide +kernel
theorem dX6_where_8 : decode cX6_where 8 = .ok (.aload_n 0, 1) := by decide +kernel
theorem dX6_where_9 : decode cX6_where 9 = .ok (.getfield 64, 3) := by decide +kernel
theorem dX6_where_12 : decode cX6_where 12 = .ok (.goto 4, 3) := by decide +kernel
theorem dX6_where_15 : decode cX6_where 15 = .ok (.iconst (-1), 1) := by decide +kernel
theorem dX6_where_16 : decode cX6_where 16 = .ok (.ireturn, 1) := by decide +kernel
theorem dX6_clause_0 : decode cX6_clause 0 = .ok (.aload_n 0, 1) := by decide +kernel
theorem dX6_clause_1 : decode cX6_clause 1 = .ok (.iload_n 1, 1) := by decide +kernel
theorem dX6_clause_2 : decode cX6_clause 2 = .ok (.invokevirtual 95, 3) := by decide +kernel
theorem dX6_clause_5 : decode cX6_clause 5 = .ok (.ifCond .ne 9, 3) := by decide +kernel
theorem dX6_clause_8 : decode cX6_clause 8 = .ok (.aload_n 0, 1) := by decide +kernel
theorem dX6_clause_9 : decode cX6_clause 9 = .ok (.iconst 1, 1) := by decide +kernel
theorem dX6_clause_10 : decode cX6_clause 10 = .ok (.invokevirtual 74, 3) := by decide +kernel
theorem dX6_clause_13 : decode cX6_clause 13 = .ok (.ireturn, 1) := by decide +kernel
theorem dX6_clause_14 : decode cX6_clause 14 = .ok (.iload_n 2, 1) := by decide +kernel
theorem dX6_clause_15 : decode cX6_clause 15 = .ok (.tableswitch 141 0 6 #[41, 55, 69, 83, 97, 111, 127], 41) := by decide +kernel
theorem dX6_clause_56 : decode cX6_clause 56 = .ok (.aload_n 0, 1) := by decide +kernel
theorem dX6_clause_57 : decode cX6_clause 57 = .ok (.aload_n 0, 1) := by decide +kernel
theorem dX6_clause_58 : decode cX6_clause 58 = .ok (.getfield 19, 3) := by decide +kernel
theorem dX6_clause_61 : decode cX6_clause 61 = .ok (.getfield 98, 3) := by decide +kernel
theorem dX6_clause_64 : decode cX6_clause 64 = .ok (.iload_n 1, 1) := by decide +kernel
theorem dX6_clause_65 : decode cX6_clause 65 = .ok (.iaload, 1) := by decide +kernel
theorem dX6_clause_66 : decode cX6_clause 66 = .ok (.invokevirtual 92, 3) := by decide +kernel
theorem dX6_clause_69 : decode cX6_clause 69 = .ok (.ireturn, 1) := by decide +kernel
theorem dX6_clause_70 : decode cX6_clause 70 = .ok (.aload_n 0, 1) := by decide +kernel
theorem dX6_clause_71 : decode cX6_clause 71 = .ok (.aload_n 0, 1) := by decide +kernel
theorem dX6_clause_72 : decode cX6_clause 72 = .ok (.getfield 19, 3) := by decide +kernel
theorem dX6_clause_75 : decode cX6_clause 75 = .ok (.getfield 102, 3) := by decide +kernel
theorem dX6_clause_78 : decode cX6_clause 78 = .ok (.iload_n 1, 1) := by decide +kernel
theorem dX6_clause_79 : decode cX6_clause 79 = .ok (.iaload, 1) := by decide +kernel
theorem dX6_clause_80 : decode cX6_clause 80 = .ok (.invokevirtual 92, 3) := by decide +kernel
theorem dX6_clause_83 : decode cX6_clause 83 = .ok (.ireturn, 1) := by decide +kernel
theorem dX6_clause_84 : decode cX6_clause 84 = .ok (.aload_n 0, 1) := by decide +kernel
theorem dX6_clause_85 : decode cX6_clause 85 = .ok (.aload_n 0, 1) := by decide +kernel
theorem dX6_clause_86 : decode cX6_clause 86 = .ok (.getfield 19, 3) := by decide +kernel
theorem dX6_clause_89 : decode cX6_clause 89 = .ok (.getfield 104, 3) := by decide +kernel
theorem dX6_clause_92 : decode cX6_clause 92 = .ok (.iload_n 1, 1) := by decide +kernel
theorem dX6_clause_93 : decode cX6_clause 93 = .ok (.iaload, 1) := by decide +kernel
theorem dX6_clause_94 : decode cX6_clause 94 = .ok (.invokevirtual 92, 3) := by decide +kernel
theorem dX6_clause_97 : decode cX6_clause 97 = .ok (.ireturn, 1) := by decide +kernel
theorem dX6_clause_98 : decode cX6_clause 98 = .ok (.aload_n 0, 1) := by decide +kernel
theorem dX6_clause_99 : decode cX6_clause 99 = .ok (.aload_n 0, 1) := by decide +kernel
theorem dX6_clause_100 : decode cX6_clause 100 = .ok (.getfield 30, 3) := by decide +kernel
theorem dX6_clause_103 : decode cX6_clause 103 = .ok (.getfield 107, 3) := by decide +kernel
theorem dX6_clause_106 : decode cX6_clause 106 = .ok (.iload_n 1, 1) := by decide +kernel
theorem dX6_clause_107 : decode cX6_clause 107 = .ok (.iaload, 1) := by decide +kernel
theorem dX6_clause_108 : decode cX6_clause 108 = .ok (.invokevirtual 92, 3) := by decide +kernel
theorem dX6_clause_111 : decode cX6_clause 111 = .ok (.ireturn, 1) := by decide +kernel
theorem dX6_clause_112 : decode cX6_clause 112 = .ok (.aload_n 0, 1) := by decide +kernel
theorem dX6_clause_113 : decode cX6_clause 113 = .ok (.aload_n 0, 1) := by decide +kernel
theorem dX6_clause_114 : decode cX6_clause 114 = .ok (.getfield 30, 3) := by decide +kernel
theorem dX6_clause_117 : decode cX6_clause 117 = .ok (.getfield 110, 3) := by decide +kernel
theorem dX6_clause_120 : decode cX6_clause 120 = .ok (.iload_n 1, 1) := by decide +kernel
theorem dX6_clause_121 : decode cX6_clause 121 = .ok (.iaload, 1) := by decide +kernel
theorem dX6_clause_122 : decode cX6_clause 122 = .ok (.invokevirtual 92, 3) := by decide +kernel
theorem dX6_clause_125 : decode cX6_clause 125 = .ok (.ireturn, 1) := by decide +kernel
theorem dX6_clause_126 : decode cX6_clause 126 = .ok (.aload_n 0, 1) := by decide +kernel
theorem dX6_clause_127 : decode cX6_clause 127 = .ok (.aload_n 0, 1) := by decide +kernel
theorem dX6_clause_128 : decode cX6_clause 128 = .ok (.getfield 30, 3) := by decide +kernel
theorem dX6_clause_131 : decode cX6_clause 131 = .ok (.getfield 113, 3) := by decide +kernel
theorem dX6_clause_134 : decode cX6_clause 134 = .ok (.iload_n 1, 1) := by decide +kernel
theorem dX6_clause_135 : decode cX6_clause 135 = .ok (.ishr, 1) := by decide +kernel
theorem dX6_clause_136 : decode cX6_clause 136 = .ok (.iconst 1, 1) := by decide +kernel
theorem dX6_clause_137 : decode cX6_clause 137 = .ok (.iand, 1) := by decide +kernel
theorem dX6_clause_138 : decode cX6_clause 138 = .ok (.invokevirtual 92, 3) := by decide +kernel
theorem dX6_clause_141 : decode cX6_clause 141 = .ok (.ireturn, 1) := by decide +kernel
theorem dX6_clause_142 : decode cX6_clause 142 = .ok (.aload_n 0, 1) := by decide +kernel
theorem dX6_clause_143 : decode cX6_clause 143 = .ok (.aload_n 0, 1) := by decide +kernel
theorem dX6_clause_144 : decode cX6_clause 144 = .ok (.getfield 19, 3) := by decide +kernel
theorem dX6_clause_147 : decode cX6_clause 147 = .ok (.getfield 116, 3) := by decide +kernel
theorem dX6_clause_150 : decode cX6_clause 150 = .ok (.iload_n 1, 1) := by decide +kernel
theorem dX6_clause_151 : decode cX6_clause 151 = .ok (.iaload, 1) := by decide +kernel
theorem dX6_clause_152 : decode cX6_clause 152 = .ok (.invokevirtual 92, 3) := by decide +kernel
theorem dX6_clause_155 : decode cX6_clause 155 = .ok (.ireturn, 1) := by decide +kernel
theorem dX6_clause_156 : decode cX6_clause 156 = .ok (.aload_n 0, 1) := by decide +kernel
theorem dX6_clause_157 : decode cX6_clause 157 = .ok (.iconst 1, 1) := by decide +kernel
theorem dX6_clause_158 : decode cX6_clause 158 = .ok (.invokevirtual 74, 3) := by decide +kernel
theorem dX6_clause_161 : decode cX6_clause 161 = .ok (.ireturn, 1) := by decide +kernel
theorem dX6_man_0 : decode cX6_man 0 = .ok (.aload_n 0, 1) := by decide +kernel
theorem dX6_man_1 : decode cX6_man 1 = .ok (.iload_n 1, 1) := by decide +kernel
theorem dX6_man_2 : decode cX6_man 2 = .ok (.invokevirtual 117, 3) := by decide +kernel
theorem dX6_man_5 : decode cX6_man 5 = .ok (.ifCond .ne 9, 3) := by decide +kernel
theorem dX6_man_8 : decode cX6_man 8 = .ok (.aload_n 0, 1) := by decide +kernel
theorem dX6_man_9 : decode cX6_man 9 = .ok (.iconst 1, 1) := by decide +kernel
theorem dX6_man_10 : decode cX6_man 10 = .ok (.invokevirtual 74, 3) := by decide +kernel
theorem dX6_man_13 : decode cX6_man 13 = .ok (.ireturn, 1) := by decide +kernel
theorem dX6_man_14 : decode cX6_man 14 = .ok (.iload_n 2, 1) := by decide +kernel
theorem dX6_man_15 : decode cX6_man 15 = .ok (.tableswitch 67 0 2 #[25, 38, 49], 25) := by decide +kernel
theorem dX6_man_40 : decode cX6_man 40 = .ok (.aload_n 0, 1) := by decide +kernel
theorem dX6_man_41 : decode cX6_man 41 = .ok (.aload_n 0, 1) := by decide +kernel
theorem dX6_man_42 : decode cX6_man 42 = .ok (.getfield 30, 3) := by decide +kernel
theorem dX6_man_45 : decode cX6_man 45 = .ok (.iload_n 1, 1) := by decide +kernel
theorem dX6_man_46 : decode cX6_man 46 = .ok (.invokevirtual 120, 3) := by decide +kernel
theorem dX6_man_49 : decode cX6_man 49 = .ok (.invokevirtual 92, 3) := by decide +kernel
theorem dX6_man_52 : decode cX6_man 52 = .ok (.ireturn, 1) := by decide +kernel
theorem dX6_man_53 : decode cX6_man 53 = .ok (.aload_n 0, 1) := by decide +kernel
theorem dX6_man_54 : decode cX6_man 54 = .ok (.aload_n 0, 1) := by decide +kernel
theorem dX6_man_55 : decode cX6_man 55 = .ok (.iload_n 1, 1) := by decide +kernel
theorem dX6_man_56 : decode cX6_man 56 = .ok (.iconst 0, 1) := by decide +kernel
theorem dX6_man_57 : decode cX6_man 57 = .ok (.invokevirtual 123, 3) := by decide +kernel
theorem dX6_man_60 : decode cX6_man 60 = .ok (.invokevirtual 92, 3) := by decide +kernel
theorem dX6_man_63 : decode cX6_man 63 = .ok (.ireturn, 1) := by decide +kernel
theorem dX6_man_64 : decode cX6_man 64 = .ok (.aload_n 0, 1) := by decide +kernel
theorem dX6_man_65 : decode cX6_man 65 = .ok (.aload_n 0, 1) := by decide +kernel
theorem dX6_man_66 : decode cX6_man 66 = .ok (.getfield 30, 3) := by decide +kernel
theorem dX6_man_69 : decode cX6_man 69 = .ok (.aload_n 0, 1) := by decide +kernel
theorem dX6_man_70 : decode cX6_man 70 = .ok (.iload_n 1, 1) := by decide +kernel
theorem dX6_man_71 : decode cX6_man 71 = .ok (.iconst 0, 1) := by decide +kernel
theorem dX6_man_72 : decode cX6_man 72 = .ok (.invokevirtual 123, 3) := by decide +kernel
theorem dX6_man_75 : decode cX6_man 75 = .ok (.invokevirtual 127, 3) := by decide +kernel
theorem dX6_man_78 : decode cX6_man 78 = .ok (.invokevirtual 92, 3) := by decide +kernel
theorem dX6_man_81 : decode cX6_man 81 = .ok (.ireturn, 1) := by decide +kernel
theorem dX6_man_82 : decode cX6_man 82 = .ok (.aload_n 0, 1) := by decide +kernel
theorem dX6_man_83 : decode cX6_man 83 = .ok (.iconst 1, 1) := by decide +kernel
theorem dX6_man_84 : decode cX6_man 84 = .ok (.invokevirtual 74, 3) := by decide +kernel
theorem dX6_man_87 : decode cX6_man 87 = .ok (.ireturn, 1) := by decide +kernel
theorem dX6_keeps_0 : decode cX6_keeps 0 = .ok (.aload_n 0, 1) := by decide +kernel
theorem dX6_keeps_1 : decode cX6_keeps 1 = .ok (.iload_n 1, 1) := by decide +kernel
theorem dX6_keeps_2 : decode cX6_keeps 2 = .ok (.invokevirtual 95, 3) := by decide +kernel
theorem dX6_keeps_5 : decode cX6_keeps 5 = .ok (.ifCond .ne 9, 3) := by decide +kernel
theorem dX6_keeps_8 : decode cX6_keeps 8 = .ok (.aload_n 0, 1) := by decide +kernel
theorem dX6_keeps_9 : decode cX6_keeps 9 = .ok (.iconst 1, 1) := by decide +kernel
theorem dX6_keeps_10 : decode cX6_keeps 10 = .ok (.invokevirtual 74, 3) := by decide +kernel
theorem dX6_keeps_13 : decode cX6_keeps 13 = .ok (.ireturn, 1) := by decide +kernel
theorem dX6_keeps_14 : decode cX6_keeps 14 = .ok (.aload_n 0, 1) := by decide +kernel
theorem dX6_keeps_15 : decode cX6_keeps 15 = .ok (.iload_n 2, 1) := by decide +kernel
theorem dX6_keeps_16 : decode cX6_keeps 16 = .ok (.invokevirtual 130, 3) := by decide +kernel
theorem dX6_keeps_19 : decode cX6_keeps 19 = .ok (.ifCond .ne 9, 3) := by decide +kernel
theorem dX6_keeps_22 : decode cX6_keeps 22 = .ok (.aload_n 0, 1) := by decide +kernel
theorem dX6_keeps_23 : decode cX6_keeps 23 = .ok (.iconst 2, 1) := by decide +kernel
theorem dX6_keeps_24 : decode cX6_keeps 24 = .ok (.invokevirtual 74, 3) := by decide +kernel
theorem dX6_keeps_27 : decode cX6_keeps 27 = .ok (.ireturn, 1) := by decide +kernel
theorem dX6_keeps_28 : decode cX6_keeps 28 = .ok (.aload_n 0, 1) := by decide +kernel
theorem dX6_keeps_29 : decode cX6_keeps 29 = .ok (.aload_n 0, 1) := by decide +kernel
theorem dX6_keeps_30 : decode cX6_keeps 30 = .ok (.iconst 1, 1) := by decide +kernel
theorem dX6_keeps_31 : decode cX6_keeps 31 = .ok (.iload_n 1, 1) := by decide +kernel
theorem dX6_keeps_32 : decode cX6_keeps 32 = .ok (.ishl, 1) := by decide +kernel
theorem dX6_keeps_33 : decode cX6_keeps 33 = .ok (.invokevirtual 133, 3) := by decide +kernel
theorem dX6_keeps_36 : decode cX6_keeps 36 = .ok (.iload_n 2, 1) := by decide +kernel
theorem dX6_keeps_37 : decode cX6_keeps 37 = .ok (.invokestatic 137, 3) := by decide +kernel
theorem dX6_keeps_40 : decode cX6_keeps 40 = .ok (.ifCond .eq 7, 3) := by decide +kernel
theorem dX6_keeps_43 : decode cX6_keeps 43 = .ok (.iconst 1, 1) := by decide +kernel
theorem dX6_keeps_44 : decode cX6_keeps 44 = .ok (.goto 4, 3) := by decide +kernel
theorem dX6_keeps_47 : decode cX6_keeps 47 = .ok (.iconst 0, 1) := by decide +kernel
theorem dX6_keeps_48 : decode cX6_keeps 48 = .ok (.invokevirtual 92, 3) := by decide +kernel
theorem dX6_keeps_51 : decode cX6_keeps 51 = .ok (.ireturn, 1) := by decide +kernel
theorem dX6_may_0 : decode cX6_may 0 = .ok (.aload_n 0, 1) := by decide +kernel
theorem dX6_may_1 : decode cX6_may 1 = .ok (.iload_n 1, 1) := by decide +kernel
theorem dX6_may_2 : decode cX6_may 2 = .ok (.invokevirtual 117, 3) := by decide +kernel
theorem dX6_may_5 : decode cX6_may 5 = .ok (.ifCond .ne 9, 3) := by decide +kernel
theorem dX6_may_8 : decode cX6_may 8 = .ok (.aload_n 0, 1) := by decide +kernel
theorem dX6_may_9 : decode cX6_may 9 = .ok (.iconst 1, 1) := by decide +kernel
theorem dX6_may_10 : decode cX6_may 10 = .ok (.invokevirtual 74, 3) := by decide +kernel
theorem dX6_may_13 : decode cX6_may 13 = .ok (.ireturn, 1) := by decide +kernel
theorem dX6_may_14 : decode cX6_may 14 = .ok (.aload_n 0, 1) := by decide +kernel
theorem dX6_may_15 : decode cX6_may 15 = .ok (.iload_n 2, 1) := by decide +kernel
theorem dX6_may_16 : decode cX6_may 16 = .ok (.invokevirtual 130, 3) := by decide +kernel
theorem dX6_may_19 : decode cX6_may 19 = .ok (.ifCond .ne 9, 3) := by decide +kernel
theorem dX6_may_22 : decode cX6_may 22 = .ok (.aload_n 0, 1) := by decide +kernel
theorem dX6_may_23 : decode cX6_may 23 = .ok (.iconst 2, 1) := by decide +kernel
theorem dX6_may_24 : decode cX6_may 24 = .ok (.invokevirtual 74, 3) := by decide +kernel
theorem dX6_may_27 : decode cX6_may 27 = .ok (.ireturn, 1) := by decide +kernel
theorem dX6_may_28 : decode cX6_may 28 = .ok (.aload_n 0, 1) := by decide +kernel
theorem dX6_may_29 : decode cX6_may 29 = .ok (.aload_n 0, 1) := by decide +kernel
theorem dX6_may_30 : decode cX6_may 30 = .ok (.iload_n 1, 1) := by decide +kernel
theorem dX6_may_31 : decode cX6_may 31 = .ok (.invokevirtual 141, 3) := by decide +kernel
theorem dX6_may_34 : decode cX6_may 34 = .ok (.iload_n 2, 1) := by decide +kernel
theorem dX6_may_35 : decode cX6_may 35 = .ok (.invokestatic 137, 3) := by decide +kernel
theorem dX6_may_38 : decode cX6_may 38 = .ok (.ifCond .eq 7, 3) := by decide +kernel
theorem dX6_may_41 : decode cX6_may 41 = .ok (.iconst 1, 1) := by decide +kernel
theorem dX6_may_42 : decode cX6_may 42 = .ok (.goto 4, 3) := by decide +kernel
theorem dX6_may_45 : decode cX6_may 45 = .ok (.iconst 0, 1) := by decide +kernel
theorem dX6_may_46 : decode cX6_may 46 = .ok (.invokevirtual 92, 3) := by decide +kernel
theorem dX6_may_49 : decode cX6_may 49 = .ok (.ireturn, 1) := by decide +kernel
theorem dX6_ways_0 : decode cX6_ways 0 = .ok (.aload_n 0, 1) := by decide +kernel
theorem dX6_ways_1 : decode cX6_ways 1 = .ok (.iload_n 1, 1) := by decide +kernel
theorem dX6_ways_2 : decode cX6_ways 2 = .ok (.invokevirtual 117, 3) := by decide +kernel
theorem dX6_ways_5 : decode cX6_ways 5 = .ok (.ifCond .ne 9, 3) := by decide +kernel
theorem dX6_ways_8 : decode cX6_ways 8 = .ok (.aload_n 0, 1) := by decide +kernel
theorem dX6_ways_9 : decode cX6_ways 9 = .ok (.iconst 1, 1) := by decide +kernel
theorem dX6_ways_10 : decode cX6_ways 10 = .ok (.invokevirtual 74, 3) := by decide +kernel
theorem dX6_ways_13 : decode cX6_ways 13 = .ok (.ireturn, 1) := by decide +kernel
theorem dX6_ways_14 : decode cX6_ways 14 = .ok (.aload_n 0, 1) := by decide +kernel
theorem dX6_ways_15 : decode cX6_ways 15 = .ok (.aload_n 0, 1) := by decide +kernel
theorem dX6_ways_16 : decode cX6_ways 16 = .ok (.iload_n 1, 1) := by decide +kernel
theorem dX6_ways_17 : decode cX6_ways 17 = .ok (.invokevirtual 141, 3) := by decide +kernel
theorem dX6_ways_20 : decode cX6_ways 20 = .ok (.invokestatic 144, 3) := by decide +kernel
theorem dX6_ways_23 : decode cX6_ways 23 = .ok (.invokevirtual 92, 3) := by decide +kernel
theorem dX6_ways_26 : decode cX6_ways 26 = .ok (.ireturn, 1) := by decide +kernel
theorem dX6_wayAt_0 : decode cX6_wayAt 0 = .ok (.aload_n 0, 1) := by decide +kernel
theorem dX6_wayAt_1 : decode cX6_wayAt 1 = .ok (.iload_n 1, 1) := by decide +kernel
theorem dX6_wayAt_2 : decode cX6_wayAt 2 = .ok (.invokevirtual 117, 3) := by decide +kernel
theorem dX6_wayAt_5 : decode cX6_wayAt 5 = .ok (.ifCond .ne 9, 3) := by decide +kernel
theorem dX6_wayAt_8 : decode cX6_wayAt 8 = .ok (.aload_n 0, 1) := by decide +kernel
theorem dX6_wayAt_9 : decode cX6_wayAt 9 = .ok (.iconst 1, 1) := by decide +kernel
theorem dX6_wayAt_10 : decode cX6_wayAt 10 = .ok (.invokevirtual 74, 3) := by decide +kernel
theorem dX6_wayAt_13 : decode cX6_wayAt 13 = .ok (.ireturn, 1) := by decide +kernel
theorem dX6_wayAt_14 : decode cX6_wayAt 14 = .ok (.aload_n 0, 1) := by decide +kernel
theorem dX6_wayAt_15 : decode cX6_wayAt 15 = .ok (.iload_n 1, 1) := by decide +kernel
theorem dX6_wayAt_16 : decode cX6_wayAt 16 = .ok (.invokevirtual 141, 3) := by decide +kernel
theorem dX6_wayAt_19 : decode cX6_wayAt 19 = .ok (.iload_n 2, 1) := by decide +kernel
theorem dX6_wayAt_20 : decode cX6_wayAt 20 = .ok (.invokestatic 150, 3) := by decide +kernel
theorem dX6_wayAt_23 : decode cX6_wayAt 23 = .ok (.istore_n 3, 1) := by decide +kernel
theorem dX6_wayAt_24 : decode cX6_wayAt 24 = .ok (.iload_n 3, 1) := by decide +kernel
theorem dX6_wayAt_25 : decode cX6_wayAt 25 = .ok (.iconst (-1), 1) := by decide +kernel
theorem dX6_wayAt_26 : decode cX6_wayAt 26 = .ok (.if_icmp .ne 11, 3) := by decide +kernel
theorem dX6_wayAt_29 : decode cX6_wayAt 29 = .ok (.aload_n 0, 1) := by decide +kernel
theorem dX6_wayAt_30 : decode cX6_wayAt 30 = .ok (.iconst 1, 1) := by decide +kernel
theorem dX6_wayAt_31 : decode cX6_wayAt 31 = .ok (.invokevirtual 74, 3) := by decide +kernel
theorem dX6_wayAt_34 : decode cX6_wayAt 34 = .ok (.goto 8, 3) := by decide +kernel
theorem dX6_wayAt_37 : decode cX6_wayAt 37 = .ok (.aload_n 0, 1) := by decide +kernel
theorem dX6_wayAt_38 : decode cX6_wayAt 38 = .ok (.iload_n 3, 1) := by decide +kernel
theorem dX6_wayAt_39 : decode cX6_wayAt 39 = .ok (.invokevirtual 92, 3) := by decide +kernel
theorem dX6_wayAt_42 : decode cX6_wayAt 42 = .ok (.ireturn, 1) := by decide +kernel
theorem dX6_can_0 : decode cX6_can 0 = .ok (.aload_n 0, 1) := by decide +kernel
theorem dX6_can_1 : decode cX6_can 1 = .ok (.iload_n 1, 1) := by decide +kernel
theorem dX6_can_2 : decode cX6_can 2 = .ok (.invokevirtual 117, 3) := by decide +kernel
theorem dX6_can_5 : decode cX6_can 5 = .ok (.ifCond .ne 9, 3) := by decide +kernel
theorem dX6_can_8 : decode cX6_can 8 = .ok (.aload_n 0, 1) := by decide +kernel
theorem dX6_can_9 : decode cX6_can 9 = .ok (.iconst 1, 1) := by decide +kernel
theorem dX6_can_10 : decode cX6_can 10 = .ok (.invokevirtual 74, 3) := by decide +kernel
theorem dX6_can_13 : decode cX6_can 13 = .ok (.ireturn, 1) := by decide +kernel
theorem dX6_can_14 : decode cX6_can 14 = .ok (.aload_n 0, 1) := by decide +kernel
theorem dX6_can_15 : decode cX6_can 15 = .ok (.aload_n 0, 1) := by decide +kernel
theorem dX6_can_16 : decode cX6_can 16 = .ok (.aload_n 0, 1) := by decide +kernel
theorem dX6_can_17 : decode cX6_can 17 = .ok (.iload_n 1, 1) := by decide +kernel
theorem dX6_can_18 : decode cX6_can 18 = .ok (.invokevirtual 141, 3) := by decide +kernel
theorem dX6_can_21 : decode cX6_can 21 = .ok (.invokevirtual 154, 3) := by decide +kernel
theorem dX6_can_24 : decode cX6_can 24 = .ok (.invokevirtual 92, 3) := by decide +kernel
theorem dX6_can_27 : decode cX6_can 27 = .ok (.ireturn, 1) := by decide +kernel
theorem dX6_must_0 : decode cX6_must 0 = .ok (.aload_n 0, 1) := by decide +kernel
theorem dX6_must_1 : decode cX6_must 1 = .ok (.iload_n 1, 1) := by decide +kernel
theorem dX6_must_2 : decode cX6_must 2 = .ok (.invokevirtual 117, 3) := by decide +kernel
theorem dX6_must_5 : decode cX6_must 5 = .ok (.ifCond .ne 9, 3) := by decide +kernel
theorem dX6_must_8 : decode cX6_must 8 = .ok (.aload_n 0, 1) := by decide +kernel
theorem dX6_must_9 : decode cX6_must 9 = .ok (.iconst 1, 1) := by decide +kernel
theorem dX6_must_10 : decode cX6_must 10 = .ok (.invokevirtual 74, 3) := by decide +kernel
theorem dX6_must_13 : decode cX6_must 13 = .ok (.ireturn, 1) := by decide +kernel
theorem dX6_must_14 : decode cX6_must 14 = .ok (.aload_n 0, 1) := by decide +kernel
theorem dX6_must_15 : decode cX6_must 15 = .ok (.aload_n 0, 1) := by decide +kernel
theorem dX6_must_16 : decode cX6_must 16 = .ok (.aload_n 0, 1) := by decide +kernel
theorem dX6_must_17 : decode cX6_must 17 = .ok (.iload_n 1, 1) := by decide +kernel
theorem dX6_must_18 : decode cX6_must 18 = .ok (.invokevirtual 141, 3) := by decide +kernel
theorem dX6_must_21 : decode cX6_must 21 = .ok (.invokevirtual 157, 3) := by decide +kernel
theorem dX6_must_24 : decode cX6_must 24 = .ok (.invokevirtual 92, 3) := by decide +kernel
theorem dX6_must_27 : decode cX6_must 27 = .ok (.ireturn, 1) := by decide +kernel
theorem dX6_idlest_0 : decode cX6_idlest 0 = .ok (.aload_n 0, 1) := by decide +kernel
theorem dX6_idlest_1 : decode cX6_idlest 1 = .ok (.iload_n 1, 1) := by decide +kernel
theorem dX6_idlest_2 : decode cX6_idlest 2 = .ok (.invokevirtual 117, 3) := by decide +kernel
theorem dX6_idlest_5 : decode cX6_idlest 5 = .ok (.ifCond .ne 9, 3) := by decide +kernel
theorem dX6_idlest_8 : decode cX6_idlest 8 = .ok (.aload_n 0, 1) := by decide +kernel
theorem dX6_idlest_9 : decode cX6_idlest 9 = .ok (.iconst 1, 1) := by decide +kernel
theorem dX6_idlest_10 : decode cX6_idlest 10 = .ok (.invokevirtual 74, 3) := by decide +kernel
theorem dX6_idlest_13 : decode cX6_idlest 13 = .ok (.ireturn, 1) := by decide +kernel
theorem dX6_idlest_14 : decode cX6_idlest 14 = .ok (.aload_n 0, 1) := by decide +kernel
theorem dX6_idlest_15 : decode cX6_idlest 15 = .ok (.iload_n 1, 1) := by decide +kernel
theorem dX6_idlest_16 : decode cX6_idlest 16 = .ok (.invokevirtual 141, 3) := by decide +kernel
theorem dX6_idlest_19 : decode cX6_idlest 19 = .ok (.lstore_n 2, 1) := by decide +kernel
theorem dX6_idlest_20 : decode cX6_idlest 20 = .ok (.bipush (-2), 2) := by decide +kernel
theorem dX6_idlest_22 : decode cX6_idlest 22 = .ok (.istore 4, 2) := by decide +kernel
theorem dX6_idlest_24 : decode cX6_idlest 24 = .ok (.iconst 0, 1) := by decide +kernel
theorem dX6_idlest_25 : decode cX6_idlest 25 = .ok (.istore 5, 2) := by decide +kernel
theorem dX6_idlest_27 : decode cX6_idlest 27 = .ok (.iload 5, 2) := by decide +kernel
theorem dX6_idlest_29 : decode cX6_idlest 29 = .ok (.aload_n 0, 1) := by decide +kernel
theorem dX6_idlest_30 : decode cX6_idlest 30 = .ok (.invokevirtual 160, 3) := by decide +kernel
theorem dX6_idlest_33 : decode cX6_idlest 33 = .ok (.if_icmp .ge 42, 3) := by decide +kernel
theorem dX6_idlest_36 : decode cX6_idlest 36 = .ok (.lload_n 2, 1) := by decide +kernel
theorem dX6_idlest_37 : decode cX6_idlest 37 = .ok (.iload 5, 2) := by decide +kernel
theorem dX6_idlest_39 : decode cX6_idlest 39 = .ok (.invokestatic 137, 3) := by decide +kernel
theorem dX6_idlest_42 : decode cX6_idlest 42 = .ok (.ifCond .eq 27, 3) := by decide +kernel
theorem dX6_idlest_45 : decode cX6_idlest 45 = .ok (.iload 4, 2) := by decide +kernel
theorem dX6_idlest_47 : decode cX6_idlest 47 = .ok (.bipush (-2), 2) := by decide +kernel
theorem dX6_idlest_49 : decode cX6_idlest 49 = .ok (.if_icmp .eq 16, 3) := by decide +kernel
theorem dX6_idlest_52 : decode cX6_idlest 52 = .ok (.iload 5, 2) := by decide +kernel
theorem dX6_idlest_54 : decode cX6_idlest 54 = .ok (.invokestatic 164, 3) := by decide +kernel
theorem dX6_idlest_57 : decode cX6_idlest 57 = .ok (.iload 4, 2) := by decide +kernel
theorem dX6_idlest_59 : decode cX6_idlest 59 = .ok (.invokestatic 164, 3) := by decide +kernel
theorem dX6_idlest_62 : decode cX6_idlest 62 = .ok (.if_icmp .ge 7, 3) := by decide +kernel
theorem dX6_idlest_65 : decode cX6_idlest 65 = .ok (.iload 5, 2) := by decide +kernel
theorem dX6_idlest_67 : decode cX6_idlest 67 = .ok (.istore 4, 2) := by decide +kernel
theorem dX6_idlest_69 : decode cX6_idlest 69 = .ok (.iinc 5 1, 3) := by decide +kernel
theorem dX6_idlest_72 : decode cX6_idlest 72 = .ok (.goto (-45), 3) := by decide +kernel
theorem dX6_idlest_75 : decode cX6_idlest 75 = .ok (.aload_n 0, 1) := by decide +kernel
theorem dX6_idlest_76 : decode cX6_idlest 76 = .ok (.iload 4, 2) := by decide +kernel
theorem dX6_idlest_78 : decode cX6_idlest 78 = .ok (.invokevirtual 92, 3) := by decide +kernel
theorem dX6_idlest_81 : decode cX6_idlest 81 = .ok (.ireturn, 1) := by decide +kernel
theorem dX6_stuck_0 : decode cX6_stuck 0 = .ok (.aload_n 0, 1) := by decide +kernel
theorem dX6_stuck_1 : decode cX6_stuck 1 = .ok (.invokevirtual 168, 3) := by decide +kernel
theorem dX6_stuck_4 : decode cX6_stuck 4 = .ok (.ifCond .eq 9, 3) := by decide +kernel
theorem dX6_stuck_7 : decode cX6_stuck 7 = .ok (.aload_n 0, 1) := by decide +kernel
theorem dX6_stuck_8 : decode cX6_stuck 8 = .ok (.iconst 1, 1) := by decide +kernel
theorem dX6_stuck_9 : decode cX6_stuck 9 = .ok (.invokevirtual 74, 3) := by decide +kernel
theorem dX6_stuck_12 : decode cX6_stuck 12 = .ok (.ireturn, 1) := by decide +kernel
theorem dX6_stuck_13 : decode cX6_stuck 13 = .ok (.iconst 0, 1) := by decide +kernel
theorem dX6_stuck_14 : decode cX6_stuck 14 = .ok (.istore_n 1, 1) := by decide +kernel
theorem dX6_stuck_15 : decode cX6_stuck 15 = .ok (.iconst 0, 1) := by decide +kernel
theorem dX6_stuck_16 : decode cX6_stuck 16 = .ok (.istore_n 2, 1) := by decide +kernel
theorem dX6_stuck_17 : decode cX6_stuck 17 = .ok (.iload_n 2, 1) := by decide +kernel
theorem dX6_stuck_18 : decode cX6_stuck 18 = .ok (.aload_n 0, 1) := by decide +kernel
theorem dX6_stuck_19 : decode cX6_stuck 19 = .ok (.getfield 19, 3) := by decide +kernel
theorem dX6_stuck_22 : decode cX6_stuck 22 = .ok (.getfield 89, 3) := by decide +kernel
theorem dX6_stuck_25 : decode cX6_stuck 25 = .ok (.if_icmp .ge 25, 3) := by decide +kernel
theorem dX6_stuck_28 : decode cX6_stuck 28 = .ok (.aload_n 0, 1) := by decide +kernel
theorem dX6_stuck_29 : decode cX6_stuck 29 = .ok (.iload_n 2, 1) := by decide +kernel
theorem dX6_stuck_30 : decode cX6_stuck 30 = .ok (.invokevirtual 141, 3) := by decide +kernel
theorem dX6_stuck_33 : decode cX6_stuck 33 = .ok (.lconst 0, 1) := by decide +kernel
theorem dX6_stuck_34 : decode cX6_stuck 34 = .ok (.lcmp, 1) := by decide +kernel
theorem dX6_stuck_35 : decode cX6_stuck 35 = .ok (.ifCond .ne 9, 3) := by decide +kernel
theorem dX6_stuck_38 : decode cX6_stuck 38 = .ok (.iload_n 1, 1) := by decide +kernel
theorem dX6_stuck_39 : decode cX6_stuck 39 = .ok (.iconst 1, 1) := by decide +kernel
theorem dX6_stuck_40 : decode cX6_stuck 40 = .ok (.iload_n 2, 1) := by decide +kernel
theorem dX6_stuck_41 : decode cX6_stuck 41 = .ok (.ishl, 1) := by decide +kernel
theorem dX6_stuck_42 : decode cX6_stuck 42 = .ok (.ior, 1) := by decide +kernel
theorem dX6_stuck_43 : decode cX6_stuck 43 = .ok (.istore_n 1, 1) := by decide +kernel
theorem dX6_stuck_44 : decode cX6_stuck 44 = .ok (.iinc 2 1, 3) := by decide +kernel
theorem dX6_stuck_47 : decode cX6_stuck 47 = .ok (.goto (-30), 3) := by decide +kernel
theorem dX6_stuck_50 : decode cX6_stuck 50 = .ok (.aload_n 0, 1) := by decide +kernel
theorem dX6_stuck_51 : decode cX6_stuck 51 = .ok (.iload_n 1, 1) := by decide +kernel
theorem dX6_stuck_52 : decode cX6_stuck 52 = .ok (.invokevirtual 92, 3) := by decide +kernel
theorem dX6_stuck_55 : decode cX6_stuck 55 = .ok (.ireturn, 1) := by decide +kernel
theorem dX6_mostBound_0 : decode cX6_mostBound 0 = .ok (.aload_n 0, 1) := by decide +kernel
theorem dX6_mostBound_1 : decode cX6_mostBound 1 = .ok (.invokevirtual 168, 3) := by decide +kernel
theorem dX6_mostBound_4 : decode cX6_mostBound 4 = .ok (.ifCond .eq 9, 3) := by decide +kernel
theorem dX6_mostBound_7 : decode cX6_mostBound 7 = .ok (.aload_n 0, 1) := by decide +kernel
theorem dX6_mostBound_8 : decode cX6_mostBound 8 = .ok (.iconst 1, 1) := by decide +kernel
theorem dX6_mostBound_9 : decode cX6_mostBound 9 = .ok (.invokevirtual 74, 3) := by decide +kernel
theorem dX6_mostBound_12 : decode cX6_mostBound 12 = .ok (.ireturn, 1) := by decide +kernel
theorem dX6_mostBound_13 : decode cX6_mostBound 13 = .ok (.iconst 0, 1) := by decide +kernel
theorem dX6_mostBound_14 : decode cX6_mostBound 14 = .ok (.istore_n 1, 1) := by decide +kernel
theorem dX6_mostBound_15 : decode cX6_mostBound 15 = .ok (.iconst 1, 1) := by decide +kernel
theorem dX6_mostBound_16 : decode cX6_mostBound 16 = .ok (.istore_n 2, 1) := by decide +kernel
theorem dX6_mostBound_17 : decode cX6_mostBound 17 = .ok (.iload_n 2, 1) := by decide +kernel
theorem dX6_mostBound_18 : decode cX6_mostBound 18 = .ok (.aload_n 0, 1) := by decide +kernel
theorem dX6_mostBound_19 : decode cX6_mostBound 19 = .ok (.getfield 19, 3) := by decide +kernel
theorem dX6_mostBound_22 : decode cX6_mostBound 22 = .ok (.getfield 89, 3) := by decide +kernel
theorem dX6_mostBound_25 : decode cX6_mostBound 25 = .ok (.if_icmp .ge 30, 3) := by decide +kernel
theorem dX6_mostBound_28 : decode cX6_mostBound 28 = .ok (.aload_n 0, 1) := by decide +kernel
theorem dX6_mostBound_29 : decode cX6_mostBound 29 = .ok (.iload_n 2, 1) := by decide +kernel
theorem dX6_mostBound_30 : decode cX6_mostBound 30 = .ok (.invokevirtual 141, 3) := by decide +kernel
theorem dX6_mostBound_33 : decode cX6_mostBound 33 = .ok (.invokestatic 144, 3) := by decide +kernel
theorem dX6_mostBound_36 : decode cX6_mostBound 36 = .ok (.aload_n 0, 1) := by decide +kernel
theorem dX6_mostBound_37 : decode cX6_mostBound 37 = .ok (.iload_n 1, 1) := by decide +kernel
theorem dX6_mostBound_38 : decode cX6_mostBound 38 = .ok (.invokevirtual 141, 3) := by decide +kernel
theorem dX6_mostBound_41 : decode cX6_mostBound 41 = .ok (.invokestatic 144, 3) := by decide +kernel
theorem dX6_mostBound_44 : decode cX6_mostBound 44 = .ok (.if_icmp .ge 5, 3) := by decide +kernel
theorem dX6_mostBound_47 : decode cX6_mostBound 47 = .ok (.iload_n 2, 1) := by decide +kernel
theorem dX6_mostBound_48 : decode cX6_mostBound 48 = .ok (.istore_n 1, 1) := by decide +kernel
theorem dX6_mostBound_49 : decode cX6_mostBound 49 = .ok (.iinc 2 1, 3) := by decide +kernel
theorem dX6_mostBound_52 : decode cX6_mostBound 52 = .ok (.goto (-35), 3) := by decide +kernel
theorem dX6_mostBound_55 : decode cX6_mostBound 55 = .ok (.aload_n 0, 1) := by decide +kernel
theorem dX6_mostBound_56 : decode cX6_mostBound 56 = .ok (.iload_n 1, 1) := by decide +kernel
theorem dX6_mostBound_57 : decode cX6_mostBound 57 = .ok (.invokevirtual 92, 3) := by decide +kernel
theorem dX6_mostBound_60 : decode cX6_mostBound 60 = .ok (.ireturn, 1) := by decide +kernel
theorem dX6_bar_0 : decode cX6_bar 0 = .ok (.aload_n 0, 1) := by decide +kernel
theorem dX6_bar_1 : decode cX6_bar 1 = .ok (.iload_n 1, 1) := by decide +kernel
theorem dX6_bar_2 : decode cX6_bar 2 = .ok (.invokevirtual 117, 3) := by decide +kernel
theorem dX6_bar_5 : decode cX6_bar 5 = .ok (.ifCond .ne 9, 3) := by decide +kernel
theorem dX6_bar_8 : decode cX6_bar 8 = .ok (.aload_n 0, 1) := by decide +kernel
theorem dX6_bar_9 : decode cX6_bar 9 = .ok (.iconst 1, 1) := by decide +kernel
theorem dX6_bar_10 : decode cX6_bar 10 = .ok (.invokevirtual 74, 3) := by decide +kernel
theorem dX6_bar_13 : decode cX6_bar 13 = .ok (.ireturn, 1) := by decide +kernel
theorem dX6_bar_14 : decode cX6_bar 14 = .ok (.aload_n 0, 1) := by decide +kernel
theorem dX6_bar_15 : decode cX6_bar 15 = .ok (.iload_n 1, 1) := by decide +kernel
theorem dX6_bar_16 : decode cX6_bar 16 = .ok (.iconst 0, 1) := by decide +kernel
theorem dX6_bar_17 : decode cX6_bar 17 = .ok (.invokevirtual 123, 3) := by decide +kernel
theorem dX6_bar_20 : decode cX6_bar 20 = .ok (.istore_n 2, 1) := by decide +kernel
theorem dX6_bar_21 : decode cX6_bar 21 = .ok (.bipush (-2), 2) := by decide +kernel
theorem dX6_bar_23 : decode cX6_bar 23 = .ok (.istore_n 3, 1) := by decide +kernel
theorem dX6_bar_24 : decode cX6_bar 24 = .ok (.iconst 0, 1) := by decide +kernel
theorem dX6_bar_25 : decode cX6_bar 25 = .ok (.istore 4, 2) := by decide +kernel
theorem dX6_bar_27 : decode cX6_bar 27 = .ok (.iload 4, 2) := by decide +kernel
theorem dX6_bar_29 : decode cX6_bar 29 = .ok (.iload_n 2, 1) := by decide +kernel
theorem dX6_bar_30 : decode cX6_bar 30 = .ok (.if_icmp .gt 50, 3) := by decide +kernel
theorem dX6_bar_33 : decode cX6_bar 33 = .ok (.iload 4, 2) := by decide +kernel
theorem dX6_bar_35 : decode cX6_bar 35 = .ok (.iload_n 2, 1) := by decide +kernel
theorem dX6_bar_36 : decode cX6_bar 36 = .ok (.invokestatic 172, 3) := by decide +kernel
theorem dX6_bar_39 : decode cX6_bar 39 = .ok (.ifCond .eq 35, 3) := by decide +kernel
theorem dX6_bar_42 : decode cX6_bar 42 = .ok (.aload_n 0, 1) := by decide +kernel
theorem dX6_bar_43 : decode cX6_bar 43 = .ok (.iload 4, 2) := by decide +kernel
theorem dX6_bar_45 : decode cX6_bar 45 = .ok (.invokevirtual 133, 3) := by decide +kernel
theorem dX6_bar_48 : decode cX6_bar 48 = .ok (.lconst 0, 1) := by decide +kernel
theorem dX6_bar_49 : decode cX6_bar 49 = .ok (.lcmp, 1) := by decide +kernel
theorem dX6_bar_50 : decode cX6_bar 50 = .ok (.ifCond .ne 24, 3) := by decide +kernel
theorem dX6_bar_53 : decode cX6_bar 53 = .ok (.iload_n 3, 1) := by decide +kernel
theorem dX6_bar_54 : decode cX6_bar 54 = .ok (.bipush (-2), 2) := by decide +kernel
theorem dX6_bar_56 : decode cX6_bar 56 = .ok (.if_icmp .eq 15, 3) := by decide +kernel
theorem dX6_bar_59 : decode cX6_bar 59 = .ok (.iload 4, 2) := by decide +kernel
theorem dX6_bar_61 : decode cX6_bar 61 = .ok (.invokestatic 164, 3) := by decide +kernel
theorem dX6_bar_64 : decode cX6_bar 64 = .ok (.iload_n 3, 1) := by decide +kernel
theorem dX6_bar_65 : decode cX6_bar 65 = .ok (.invokestatic 164, 3) := by decide +kernel
theorem dX6_bar_68 : decode cX6_bar 68 = .ok (.if_icmp .ge 6, 3) := by decide +kernel
theorem dX6_bar_71 : decode cX6_bar 71 = .ok (.iload 4, 2) := by decide +kernel
theorem dX6_bar_73 : decode cX6_bar 73 = .ok (.istore_n 3, 1) := by decide +kernel
theorem dX6_bar_74 : decode cX6_bar 74 = .ok (.iinc 4 1, 3) := by decide +kernel
theorem dX6_bar_77 : decode cX6_bar 77 = .ok (.goto (-50), 3) := by decide +kernel
theorem dX6_bar_80 : decode cX6_bar 80 = .ok (.aload_n 0, 1) := by decide +kernel
theorem dX6_bar_81 : decode cX6_bar 81 = .ok (.iload_n 3, 1) := by decide +kernel
theorem dX6_bar_82 : decode cX6_bar 82 = .ok (.invokevirtual 92, 3) := by decide +kernel
theorem dX6_bar_85 : decode cX6_bar 85 = .ok (.ireturn, 1) := by decide +kernel
theorem dX6_free_0 : decode cX6_free 0 = .ok (.aload_n 0, 1) := by decide +kernel
theorem dX6_free_1 : decode cX6_free 1 = .ok (.iload_n 1, 1) := by decide +kernel
theorem dX6_free_2 : decode cX6_free 2 = .ok (.invokevirtual 117, 3) := by decide +kernel
theorem dX6_free_5 : decode cX6_free 5 = .ok (.ifCond .ne 9, 3) := by decide +kernel
theorem dX6_free_8 : decode cX6_free 8 = .ok (.aload_n 0, 1) := by decide +kernel
theorem dX6_free_9 : decode cX6_free 9 = .ok (.iconst 1, 1) := by decide +kernel
theorem dX6_free_10 : decode cX6_free 10 = .ok (.invokevirtual 74, 3) := by decide +kernel
theorem dX6_free_13 : decode cX6_free 13 = .ok (.ireturn, 1) := by decide +kernel
theorem dX6_free_14 : decode cX6_free 14 = .ok (.aload_n 0, 1) := by decide +kernel
theorem dX6_free_15 : decode cX6_free 15 = .ok (.iload_n 1, 1) := by decide +kernel
theorem dX6_free_16 : decode cX6_free 16 = .ok (.iconst 0, 1) := by decide +kernel
theorem dX6_free_17 : decode cX6_free 17 = .ok (.invokevirtual 123, 3) := by decide +kernel
theorem dX6_free_20 : decode cX6_free 20 = .ok (.istore_n 2, 1) := by decide +kernel
theorem dX6_free_21 : decode cX6_free 21 = .ok (.iload_n 2, 1) := by decide +kernel
theorem dX6_free_22 : decode cX6_free 22 = .ok (.istore_n 3, 1) := by decide +kernel
theorem dX6_free_23 : decode cX6_free 23 = .ok (.iconst 0, 1) := by decide +kernel
theorem dX6_free_24 : decode cX6_free 24 = .ok (.istore 4, 2) := by decide +kernel
theorem dX6_free_26 : decode cX6_free 26 = .ok (.iload 4, 2) := by decide +kernel
theorem dX6_free_28 : decode cX6_free 28 = .ok (.iload_n 2, 1) := by decide +kernel
theorem dX6_free_29 : decode cX6_free 29 = .ok (.if_icmp .gt 48, 3) := by decide +kernel
theorem dX6_free_32 : decode cX6_free 32 = .ok (.iload 4, 2) := by decide +kernel
theorem dX6_free_34 : decode cX6_free 34 = .ok (.iload_n 2, 1) := by decide +kernel
theorem dX6_free_35 : decode cX6_free 35 = .ok (.invokestatic 172, 3) := by decide +kernel
theorem dX6_free_38 : decode cX6_free 38 = .ok (.ifCond .eq 33, 3) := by decide +kernel
theorem dX6_free_41 : decode cX6_free 41 = .ok (.aload_n 0, 1) := by decide +kernel
theorem dX6_free_42 : decode cX6_free 42 = .ok (.iload_n 2, 1) := by decide +kernel
theorem dX6_free_43 : decode cX6_free 43 = .ok (.iload 4, 2) := by decide +kernel
theorem dX6_free_45 : decode cX6_free 45 = .ok (.iconst (-1), 1) := by decide +kernel
theorem dX6_free_46 : decode cX6_free 46 = .ok (.ixor, 1) := by decide +kernel
theorem dX6_free_47 : decode cX6_free 47 = .ok (.iand, 1) := by decide +kernel
theorem dX6_free_48 : decode cX6_free 48 = .ok (.invokevirtual 133, 3) := by decide +kernel
theorem dX6_free_51 : decode cX6_free 51 = .ok (.lconst 0, 1) := by decide +kernel
theorem dX6_free_52 : decode cX6_free 52 = .ok (.lcmp, 1) := by decide +kernel
theorem dX6_free_53 : decode cX6_free 53 = .ok (.ifCond .eq 18, 3) := by decide +kernel
theorem dX6_free_56 : decode cX6_free 56 = .ok (.iload 4, 2) := by decide +kernel
theorem dX6_free_58 : decode cX6_free 58 = .ok (.invokestatic 164, 3) := by decide +kernel
theorem dX6_free_61 : decode cX6_free 61 = .ok (.iload_n 3, 1) := by decide +kernel
theorem dX6_free_62 : decode cX6_free 62 = .ok (.invokestatic 164, 3) := by decide +kernel
theorem dX6_free_65 : decode cX6_free 65 = .ok (.if_icmp .ge 6, 3) := by decide +kernel
theorem dX6_free_68 : decode cX6_free 68 = .ok (.iload 4, 2) := by decide +kernel
theorem dX6_free_70 : decode cX6_free 70 = .ok (.istore_n 3, 1) := by decide +kernel
theorem dX6_free_71 : decode cX6_free 71 = .ok (.iinc 4 1, 3) := by decide +kernel
theorem dX6_free_74 : decode cX6_free 74 = .ok (.goto (-48), 3) := by decide +kernel
theorem dX6_free_77 : decode cX6_free 77 = .ok (.aload_n 0, 1) := by decide +kernel
theorem dX6_free_78 : decode cX6_free 78 = .ok (.iload_n 3, 1) := by decide +kernel
theorem dX6_free_79 : decode cX6_free 79 = .ok (.invokevirtual 92, 3) := by decide +kernel
theorem dX6_free_82 : decode cX6_free 82 = .ok (.ireturn, 1) := by decide +kernel
theorem dX6_cheap_0 : decode cX6_cheap 0 = .ok (.aload_n 0, 1) := by decide +kernel
theorem dX6_cheap_1 : decode cX6_cheap 1 = .ok (.iload_n 1, 1) := by decide +kernel
theorem dX6_cheap_2 : decode cX6_cheap 2 = .ok (.invokevirtual 117, 3) := by decide +kernel
theorem dX6_cheap_5 : decode cX6_cheap 5 = .ok (.ifCond .ne 9, 3) := by decide +kernel
theorem dX6_cheap_8 : decode cX6_cheap 8 = .ok (.aload_n 0, 1) := by decide +kernel
theorem dX6_cheap_9 : decode cX6_cheap 9 = .ok (.iconst 1, 1) := by decide +kernel
theorem dX6_cheap_10 : decode cX6_cheap 10 = .ok (.invokevirtual 74, 3) := by decide +kernel
theorem dX6_cheap_13 : decode cX6_cheap 13 = .ok (.ireturn, 1) := by decide +kernel
theorem dX6_cheap_14 : decode cX6_cheap 14 = .ok (.aload_n 0, 1) := by decide +kernel
theorem dX6_cheap_15 : decode cX6_cheap 15 = .ok (.aload_n 0, 1) := by decide +kernel
theorem dX6_cheap_16 : decode cX6_cheap 16 = .ok (.iload_n 1, 1) := by decide +kernel
theorem dX6_cheap_17 : decode cX6_cheap 17 = .ok (.invokevirtual 176, 3) := by decide +kernel
theorem dX6_cheap_20 : decode cX6_cheap 20 = .ok (.invokevirtual 92, 3) := by decide +kernel
theorem dX6_cheap_23 : decode cX6_cheap 23 = .ok (.ireturn, 1) := by decide +kernel
theorem dX6_price_0 : decode cX6_price 0 = .ok (.aload_n 0, 1) := by decide +kernel
theorem dX6_price_1 : decode cX6_price 1 = .ok (.iload_n 1, 1) := by decide +kernel
theorem dX6_price_2 : decode cX6_price 2 = .ok (.invokevirtual 117, 3) := by decide +kernel
theorem dX6_price_5 : decode cX6_price 5 = .ok (.ifCond .ne 9, 3) := by decide +kernel
theorem dX6_price_8 : decode cX6_price 8 = .ok (.aload_n 0, 1) := by decide +kernel
theorem dX6_price_9 : decode cX6_price 9 = .ok (.iconst 1, 1) := by decide +kernel
theorem dX6_price_10 : decode cX6_price 10 = .ok (.invokevirtual 74, 3) := by decide +kernel
theorem dX6_price_13 : decode cX6_price 13 = .ok (.ireturn, 1) := by decide +kernel
theorem dX6_price_14 : decode cX6_price 14 = .ok (.aload_n 0, 1) := by decide +kernel
theorem dX6_price_15 : decode cX6_price 15 = .ok (.aload_n 0, 1) := by decide +kernel
theorem dX6_price_16 : decode cX6_price 16 = .ok (.getfield 30, 3) := by decide +kernel
theorem dX6_price_19 : decode cX6_price 19 = .ok (.aload_n 0, 1) := by decide +kernel
theorem dX6_price_20 : decode cX6_price 20 = .ok (.iload_n 1, 1) := by decide +kernel
theorem dX6_price_21 : decode cX6_price 21 = .ok (.invokevirtual 176, 3) := by decide +kernel
theorem dX6_price_24 : decode cX6_price 24 = .ok (.invokevirtual 127, 3) := by decide +kernel
theorem dX6_price_27 : decode cX6_price 27 = .ok (.invokevirtual 92, 3) := by decide +kernel
theorem dX6_price_30 : decode cX6_price 30 = .ok (.ireturn, 1) := by decide +kernel
theorem dX6_idle_0 : decode cX6_idle 0 = .ok (.aload_n 0, 1) := by decide +kernel
theorem dX6_idle_1 : decode cX6_idle 1 = .ok (.iload_n 1, 1) := by decide +kernel
theorem dX6_idle_2 : decode cX6_idle 2 = .ok (.invokevirtual 117, 3) := by decide +kernel
theorem dX6_idle_5 : decode cX6_idle 5 = .ok (.ifCond .ne 9, 3) := by decide +kernel
theorem dX6_idle_8 : decode cX6_idle 8 = .ok (.aload_n 0, 1) := by decide +kernel
theorem dX6_idle_9 : decode cX6_idle 9 = .ok (.iconst 1, 1) := by decide +kernel
theorem dX6_idle_10 : decode cX6_idle 10 = .ok (.invokevirtual 74, 3) := by decide +kernel
theorem dX6_idle_13 : decode cX6_idle 13 = .ok (.ireturn, 1) := by decide +kernel
theorem dX6_idle_14 : decode cX6_idle 14 = .ok (.aload_n 0, 1) := by decide +kernel
theorem dX6_idle_15 : decode cX6_idle 15 = .ok (.iload_n 1, 1) := by decide +kernel
theorem dX6_idle_16 : decode cX6_idle 16 = .ok (.iconst 0, 1) := by decide +kernel
theorem dX6_idle_17 : decode cX6_idle 17 = .ok (.invokevirtual 123, 3) := by decide +kernel
theorem dX6_idle_20 : decode cX6_idle 20 = .ok (.istore_n 2, 1) := by decide +kernel
theorem dX6_idle_21 : decode cX6_idle 21 = .ok (.aload_n 0, 1) := by decide +kernel
theorem dX6_idle_22 : decode cX6_idle 22 = .ok (.iload_n 2, 1) := by decide +kernel
theorem dX6_idle_23 : decode cX6_idle 23 = .ok (.invokevirtual 133, 3) := by decide +kernel
theorem dX6_idle_26 : decode cX6_idle 26 = .ok (.lstore_n 3, 1) := by decide +kernel
theorem dX6_idle_27 : decode cX6_idle 27 = .ok (.iconst 0, 1) := by decide +kernel
theorem dX6_idle_28 : decode cX6_idle 28 = .ok (.istore 5, 2) := by decide +kernel
theorem dX6_idle_30 : decode cX6_idle 30 = .ok (.iconst 0, 1) := by decide +kernel
theorem dX6_idle_31 : decode cX6_idle 31 = .ok (.istore 6, 2) := by decide +kernel
theorem dX6_idle_33 : decode cX6_idle 33 = .ok (.iload 6, 2) := by decide +kernel
theorem dX6_idle_35 : decode cX6_idle 35 = .ok (.aload_n 0, 1) := by decide +kernel
theorem dX6_idle_36 : decode cX6_idle 36 = .ok (.getfield 19, 3) := by decide +kernel
theorem dX6_idle_39 : decode cX6_idle 39 = .ok (.getfield 179, 3) := by decide +kernel
theorem dX6_idle_42 : decode cX6_idle 42 = .ok (.if_icmp .ge 45, 3) := by decide +kernel
theorem dX6_idle_45 : decode cX6_idle 45 = .ok (.iload_n 2, 1) := by decide +kernel
theorem dX6_idle_46 : decode cX6_idle 46 = .ok (.i2l, 1) := by decide +kernel
theorem dX6_idle_47 : decode cX6_idle 47 = .ok (.iload 6, 2) := by decide +kernel
theorem dX6_idle_49 : decode cX6_idle 49 = .ok (.invokestatic 137, 3) := by decide +kernel
theorem dX6_idle_52 : decode cX6_idle 52 = .ok (.ifCond .eq 29, 3) := by decide +kernel
theorem dX6_idle_55 : decode cX6_idle 55 = .ok (.aload_n 0, 1) := by decide +kernel
theorem dX6_idle_56 : decode cX6_idle 56 = .ok (.iload_n 2, 1) := by decide +kernel
theorem dX6_idle_57 : decode cX6_idle 57 = .ok (.iconst 1, 1) := by decide +kernel
theorem dX6_idle_58 : decode cX6_idle 58 = .ok (.iload 6, 2) := by decide +kernel
theorem dX6_idle_60 : decode cX6_idle 60 = .ok (.ishl, 1) := by decide +kernel
theorem dX6_idle_61 : decode cX6_idle 61 = .ok (.iconst (-1), 1) := by decide +kernel
theorem dX6_idle_62 : decode cX6_idle 62 = .ok (.ixor, 1) := by decide +kernel
theorem dX6_idle_63 : decode cX6_idle 63 = .ok (.iand, 1) := by decide +kernel
theorem dX6_idle_64 : decode cX6_idle 64 = .ok (.invokevirtual 133, 3) := by decide +kernel
theorem dX6_idle_67 : decode cX6_idle 67 = .ok (.lload_n 3, 1) := by decide +kernel
theorem dX6_idle_68 : decode cX6_idle 68 = .ok (.lcmp, 1) := by decide +kernel
theorem dX6_idle_69 : decode cX6_idle 69 = .ok (.ifCond .ne 12, 3) := by decide +kernel
theorem dX6_idle_72 : decode cX6_idle 72 = .ok (.iload 5, 2) := by decide +kernel
theorem dX6_idle_74 : decode cX6_idle 74 = .ok (.iconst 1, 1) := by decide +kernel
theorem dX6_idle_75 : decode cX6_idle 75 = .ok (.iload 6, 2) := by decide +kernel
theorem dX6_idle_77 : decode cX6_idle 77 = .ok (.ishl, 1) := by decide +kernel
theorem dX6_idle_78 : decode cX6_idle 78 = .ok (.ior, 1) := by decide +kernel
theorem dX6_idle_79 : decode cX6_idle 79 = .ok (.istore 5, 2) := by decide +kernel
theorem dX6_idle_81 : decode cX6_idle 81 = .ok (.iinc 6 1, 3) := by decide +kernel
theorem dX6_idle_84 : decode cX6_idle 84 = .ok (.goto (-51), 3) := by decide +kernel
theorem dX6_idle_87 : decode cX6_idle 87 = .ok (.aload_n 0, 1) := by decide +kernel
theorem dX6_idle_88 : decode cX6_idle 88 = .ok (.iload 5, 2) := by decide +kernel
theorem dX6_idle_90 : decode cX6_idle 90 = .ok (.invokevirtual 92, 3) := by decide +kernel
theorem dX6_idle_93 : decode cX6_idle 93 = .ok (.ireturn, 1) := by decide +kernel
theorem dX6_heaviest_0 : decode cX6_heaviest 0 = .ok (.aload_n 0, 1) := by decide +kernel
theorem dX6_heaviest_1 : decode cX6_heaviest 1 = .ok (.iload_n 1, 1) := by decide +kernel
theorem dX6_heaviest_2 : decode cX6_heaviest 2 = .ok (.invokevirtual 117, 3) := by decide +kernel
theorem dX6_heaviest_5 : decode cX6_heaviest 5 = .ok (.ifCond .ne 9, 3) := by decide +kernel
theorem dX6_heaviest_8 : decode cX6_heaviest 8 = .ok (.aload_n 0, 1) := by decide +kernel
theorem dX6_heaviest_9 : decode cX6_heaviest 9 = .ok (.iconst 1, 1) := by decide +kernel
theorem dX6_heaviest_10 : decode cX6_heaviest 10 = .ok (.invokevirtual 74, 3) := by decide +kernel
theorem dX6_heaviest_13 : decode cX6_heaviest 13 = .ok (.ireturn, 1) := by decide +kernel
theorem dX6_heaviest_14 : decode cX6_heaviest 14 = .ok (.aload_n 0, 1) := by decide +kernel
theorem dX6_heaviest_15 : decode cX6_heaviest 15 = .ok (.iload_n 1, 1) := by decide +kernel
theorem dX6_heaviest_16 : decode cX6_heaviest 16 = .ok (.iconst 0, 1) := by decide +kernel
theorem dX6_heaviest_17 : decode cX6_heaviest 17 = .ok (.invokevirtual 123, 3) := by decide +kernel
theorem dX6_heaviest_20 : decode cX6_heaviest 20 = .ok (.istore_n 2, 1) := by decide +kernel
theorem dX6_heaviest_21 : decode cX6_heaviest 21 = .ok (.bipush (-2), 2) := by decide +kernel
theorem dX6_heaviest_23 : decode cX6_heaviest 23 = .ok (.istore_n 3, 1) := by decide +kernel
theorem dX6_heaviest_24 : decode cX6_heaviest 24 = .ok (.iconst (-1), 1) := by decide +kernel
theorem dX6_heaviest_25 : decode cX6_heaviest 25 = .ok (.istore 4, 2) := by decide +kernel
theorem dX6_heaviest_27 : decode cX6_heaviest 27 = .ok (.iconst 0, 1) := by decide +kernel
theorem dX6_heaviest_28 : decode cX6_heaviest 28 = .ok (.istore 5, 2) := by decide +kernel
theorem dX6_heaviest_30 : decode cX6_heaviest 30 = .ok (.iload 5, 2) := by decide +kernel
theorem dX6_heaviest_32 : decode cX6_heaviest 32 = .ok (.aload_n 0, 1) := by decide +kernel
theorem dX6_heaviest_33 : decode cX6_heaviest 33 = .ok (.getfield 19, 3) := by decide +kernel
theorem dX6_heaviest_36 : decode cX6_heaviest 36 = .ok (.getfield 179, 3) := by decide +kernel
theorem dX6_heaviest_39 : decode cX6_heaviest 39 = .ok (.if_icmp .ge 50, 3) := by decide +kernel
theorem dX6_heaviest_42 : decode cX6_heaviest 42 = .ok (.iload_n 2, 1) := by decide +kernel
theorem dX6_heaviest_43 : decode cX6_heaviest 43 = .ok (.i2l, 1) := by decide +kernel
theorem dX6_heaviest_44 : decode cX6_heaviest 44 = .ok (.iload 5, 2) := by decide +kernel
theorem dX6_heaviest_46 : decode cX6_heaviest 46 = .ok (.invokestatic 137, 3) := by decide +kernel
theorem dX6_heaviest_49 : decode cX6_heaviest 49 = .ok (.ifCond .eq 34, 3) := by decide +kernel
theorem dX6_heaviest_52 : decode cX6_heaviest 52 = .ok (.aload_n 0, 1) := by decide +kernel
theorem dX6_heaviest_53 : decode cX6_heaviest 53 = .ok (.iload_n 2, 1) := by decide +kernel
theorem dX6_heaviest_54 : decode cX6_heaviest 54 = .ok (.iconst 1, 1) := by decide +kernel
theorem dX6_heaviest_55 : decode cX6_heaviest 55 = .ok (.iload 5, 2) := by decide +kernel
theorem dX6_heaviest_57 : decode cX6_heaviest 57 = .ok (.ishl, 1) := by decide +kernel
theorem dX6_heaviest_58 : decode cX6_heaviest 58 = .ok (.iconst (-1), 1) := by decide +kernel
theorem dX6_heaviest_59 : decode cX6_heaviest 59 = .ok (.ixor, 1) := by decide +kernel
theorem dX6_heaviest_60 : decode cX6_heaviest 60 = .ok (.iand, 1) := by decide +kernel
theorem dX6_heaviest_61 : decode cX6_heaviest 61 = .ok (.invokevirtual 133, 3) := by decide +kernel
theorem dX6_heaviest_64 : decode cX6_heaviest 64 = .ok (.invokestatic 144, 3) := by decide +kernel
theorem dX6_heaviest_67 : decode cX6_heaviest 67 = .ok (.istore 6, 2) := by decide +kernel
theorem dX6_heaviest_69 : decode cX6_heaviest 69 = .ok (.iload 6, 2) := by decide +kernel
theorem dX6_heaviest_71 : decode cX6_heaviest 71 = .ok (.iload 4, 2) := by decide +kernel
theorem dX6_heaviest_73 : decode cX6_heaviest 73 = .ok (.if_icmp .le 10, 3) := by decide +kernel
theorem dX6_heaviest_76 : decode cX6_heaviest 76 = .ok (.iload 6, 2) := by decide +kernel
theorem dX6_heaviest_78 : decode cX6_heaviest 78 = .ok (.istore 4, 2) := by decide +kernel
theorem dX6_heaviest_80 : decode cX6_heaviest 80 = .ok (.iload 5, 2) := by decide +kernel
theorem dX6_heaviest_82 : decode cX6_heaviest 82 = .ok (.istore_n 3, 1) := by decide +kernel
theorem dX6_heaviest_83 : decode cX6_heaviest 83 = .ok (.iinc 5 1, 3) := by decide +kernel
theorem dX6_heaviest_86 : decode cX6_heaviest 86 = .ok (.goto (-56), 3) := by decide +kernel
theorem dX6_heaviest_89 : decode cX6_heaviest 89 = .ok (.aload_n 0, 1) := by decide +kernel
theorem dX6_heaviest_90 : decode cX6_heaviest 90 = .ok (.iload_n 3, 1) := by decide +kernel
theorem dX6_heaviest_91 : decode cX6_heaviest 91 = .ok (.invokevirtual 92, 3) := by decide +kernel
theorem dX6_heaviest_94 : decode cX6_heaviest 94 = .ok (.ireturn, 1) := by decide +kernel
theorem dX6_feared_0 : decode cX6_feared 0 = .ok (.aload_n 0, 1) := by decide +kernel
theorem dX6_feared_1 : decode cX6_feared 1 = .ok (.iload_n 1, 1) := by decide +kernel
theorem dX6_feared_2 : decode cX6_feared 2 = .ok (.invokevirtual 117, 3) := by decide +kernel
theorem dX6_feared_5 : decode cX6_feared 5 = .ok (.ifCond .ne 9, 3) := by decide +kernel
theorem dX6_feared_8 : decode cX6_feared 8 = .ok (.aload_n 0, 1) := by decide +kernel
theorem dX6_feared_9 : decode cX6_feared 9 = .ok (.iconst 1, 1) := by decide +kernel
theorem dX6_feared_10 : decode cX6_feared 10 = .ok (.invokevirtual 74, 3) := by decide +kernel
theorem dX6_feared_13 : decode cX6_feared 13 = .ok (.ireturn, 1) := by decide +kernel
theorem dX6_feared_14 : decode cX6_feared 14 = .ok (.aload_n 0, 1) := by decide +kernel
theorem dX6_feared_15 : decode cX6_feared 15 = .ok (.iload_n 1, 1) := by decide +kernel
theorem dX6_feared_16 : decode cX6_feared 16 = .ok (.iconst 0, 1) := by decide +kernel
theorem dX6_feared_17 : decode cX6_feared 17 = .ok (.invokevirtual 123, 3) := by decide +kernel
theorem dX6_feared_20 : decode cX6_feared 20 = .ok (.istore_n 2, 1) := by decide +kernel
theorem dX6_feared_21 : decode cX6_feared 21 = .ok (.aload_n 0, 1) := by decide +kernel
theorem dX6_feared_22 : decode cX6_feared 22 = .ok (.getfield 30, 3) := by decide +kernel
theorem dX6_feared_25 : decode cX6_feared 25 = .ok (.iconst 0, 1) := by decide +kernel
theorem dX6_feared_26 : decode cX6_feared 26 = .ok (.invokevirtual 182, 3) := by decide +kernel
theorem dX6_feared_29 : decode cX6_feared 29 = .ok (.aload_n 0, 1) := by decide +kernel
theorem dX6_feared_30 : decode cX6_feared 30 = .ok (.getfield 30, 3) := by decide +kernel
theorem dX6_feared_33 : decode cX6_feared 33 = .ok (.iload_n 1, 1) := by decide +kernel
theorem dX6_feared_34 : decode cX6_feared 34 = .ok (.invokevirtual 120, 3) := by decide +kernel
theorem dX6_feared_37 : decode cX6_feared 37 = .ok (.iconst (-1), 1) := by decide +kernel
theorem dX6_feared_38 : decode cX6_feared 38 = .ok (.ixor, 1) := by decide +kernel
theorem dX6_feared_39 : decode cX6_feared 39 = .ok (.iand, 1) := by decide +kernel
theorem dX6_feared_40 : decode cX6_feared 40 = .ok (.istore_n 3, 1) := by decide +kernel
theorem dX6_feared_41 : decode cX6_feared 41 = .ok (.aload_n 0, 1) := by decide +kernel
theorem dX6_feared_42 : decode cX6_feared 42 = .ok (.iload_n 2, 1) := by decide +kernel
theorem dX6_feared_43 : decode cX6_feared 43 = .ok (.invokevirtual 133, 3) := by decide +kernel
theorem dX6_feared_46 : decode cX6_feared 46 = .ok (.lconst 0, 1) := by decide +kernel
theorem dX6_feared_47 : decode cX6_feared 47 = .ok (.lcmp, 1) := by decide +kernel
theorem dX6_feared_48 : decode cX6_feared 48 = .ok (.ifCond .ne 7, 3) := by decide +kernel
theorem dX6_feared_51 : decode cX6_feared 51 = .ok (.iconst 1, 1) := by decide +kernel
theorem dX6_feared_52 : decode cX6_feared 52 = .ok (.goto 4, 3) := by decide +kernel
theorem dX6_feared_55 : decode cX6_feared 55 = .ok (.iconst 0, 1) := by decide +kernel
theorem dX6_feared_56 : decode cX6_feared 56 = .ok (.istore 4, 2) := by decide +kernel
theorem dX6_feared_58 : decode cX6_feared 58 = .ok (.iconst 0, 1) := by decide +kernel
theorem dX6_feared_59 : decode cX6_feared 59 = .ok (.istore 5, 2) := by decide +kernel
theorem dX6_feared_61 : decode cX6_feared 61 = .ok (.iconst 0, 1) := by decide +kernel
theorem dX6_feared_62 : decode cX6_feared 62 = .ok (.istore 6, 2) := by decide +kernel
theorem dX6_feared_64 : decode cX6_feared 64 = .ok (.iload 6, 2) := by decide +kernel
theorem dX6_feared_66 : decode cX6_feared 66 = .ok (.aload_n 0, 1) := by decide +kernel
theorem dX6_feared_67 : decode cX6_feared 67 = .ok (.getfield 19, 3) := by decide +kernel
theorem dX6_feared_70 : decode cX6_feared 70 = .ok (.getfield 179, 3) := by decide +kernel
theorem dX6_feared_73 : decode cX6_feared 73 = .ok (.if_icmp .ge 48, 3) := by decide +kernel
theorem dX6_feared_76 : decode cX6_feared 76 = .ok (.iload 4, 2) := by decide +kernel
theorem dX6_feared_78 : decode cX6_feared 78 = .ok (.ifCond .ne 37, 3) := by decide +kernel
theorem dX6_feared_81 : decode cX6_feared 81 = .ok (.iload_n 3, 1) := by decide +kernel
theorem dX6_feared_82 : decode cX6_feared 82 = .ok (.i2l, 1) := by decide +kernel
theorem dX6_feared_83 : decode cX6_feared 83 = .ok (.iload 6, 2) := by decide +kernel
theorem dX6_feared_85 : decode cX6_feared 85 = .ok (.invokestatic 137, 3) := by decide +kernel
theorem dX6_feared_88 : decode cX6_feared 88 = .ok (.ifCond .eq 27, 3) := by decide +kernel
theorem dX6_feared_91 : decode cX6_feared 91 = .ok (.aload_n 0, 1) := by decide +kernel
theorem dX6_feared_92 : decode cX6_feared 92 = .ok (.iload_n 2, 1) := by decide +kernel
theorem dX6_feared_93 : decode cX6_feared 93 = .ok (.iconst 1, 1) := by decide +kernel
theorem dX6_feared_94 : decode cX6_feared 94 = .ok (.iload 6, 2) := by decide +kernel
theorem dX6_feared_96 : decode cX6_feared 96 = .ok (.ishl, 1) := by decide +kernel
theorem dX6_feared_97 : decode cX6_feared 97 = .ok (.ior, 1) := by decide +kernel
theorem dX6_feared_98 : decode cX6_feared 98 = .ok (.invokevirtual 133, 3) := by decide +kernel
theorem dX6_feared_101 : decode cX6_feared 101 = .ok (.lconst 0, 1) := by decide +kernel
theorem dX6_feared_102 : decode cX6_feared 102 = .ok (.lcmp, 1) := by decide +kernel
theorem dX6_feared_103 : decode cX6_feared 103 = .ok (.ifCond .ne 12, 3) := by decide +kernel
theorem dX6_feared_106 : decode cX6_feared 106 = .ok (.iload 5, 2) := by decide +kernel
theorem dX6_feared_108 : decode cX6_feared 108 = .ok (.iconst 1, 1) := by decide +kernel
theorem dX6_feared_109 : decode cX6_feared 109 = .ok (.iload 6, 2) := by decide +kernel
theorem dX6_feared_111 : decode cX6_feared 111 = .ok (.ishl, 1) := by decide +kernel
theorem dX6_feared_112 : decode cX6_feared 112 = .ok (.ior, 1) := by decide +kernel
theorem dX6_feared_113 : decode cX6_feared 113 = .ok (.istore 5, 2) := by decide +kernel
theorem dX6_feared_115 : decode cX6_feared 115 = .ok (.iinc 6 1, 3) := by decide +kernel
theorem dX6_feared_118 : decode cX6_feared 118 = .ok (.goto (-54), 3) := by decide +kernel
theorem dX6_feared_121 : decode cX6_feared 121 = .ok (.aload_n 0, 1) := by decide +kernel
theorem dX6_feared_122 : decode cX6_feared 122 = .ok (.iload 5, 2) := by decide +kernel
theorem dX6_feared_124 : decode cX6_feared 124 = .ok (.invokevirtual 92, 3) := by decide +kernel
theorem dX6_feared_127 : decode cX6_feared 127 = .ok (.ireturn, 1) := by decide +kernel
theorem dX6_spread_0 : decode cX6_spread 0 = .ok (.aload_n 0, 1) := by decide +kernel
theorem dX6_spread_1 : decode cX6_spread 1 = .ok (.invokevirtual 168, 3) := by decide +kernel
theorem dX6_spread_4 : decode cX6_spread 4 = .ok (.ifCond .eq 9, 3) := by decide +kernel
theorem dX6_spread_7 : decode cX6_spread 7 = .ok (.aload_n 0, 1) := by decide +kernel
theorem dX6_spread_8 : decode cX6_spread 8 = .ok (.iconst 1, 1) := by decide +kernel
theorem dX6_spread_9 : decode cX6_spread 9 = .ok (.invokevirtual 74, 3) := by decide +kernel
theorem dX6_spread_12 : decode cX6_spread 12 = .ok (.ireturn, 1) := by decide +kernel
theorem dX6_spread_13 : decode cX6_spread 13 = .ok (.aload_n 0, 1) := by decide +kernel
theorem dX6_spread_14 : decode cX6_spread 14 = .ok (.aload_n 0, 1) := by decide +kernel
theorem dX6_spread_15 : decode cX6_spread 15 = .ok (.getfield 53, 3) := by decide +kernel
theorem dX6_spread_18 : decode cX6_spread 18 = .ok (.aload_n 0, 1) := by decide +kernel
theorem dX6_spread_19 : decode cX6_spread 19 = .ok (.getfield 19, 3) := by decide +kernel
theorem dX6_spread_22 : decode cX6_spread 22 = .ok (.aload_n 0, 1) := by decide +kernel
theorem dX6_spread_23 : decode cX6_spread 23 = .ok (.getfield 30, 3) := by decide +kernel
theorem dX6_spread_26 : decode cX6_spread 26 = .ok (.invokevirtual 185, 3) := by decide +kernel
theorem dX6_spread_29 : decode cX6_spread 29 = .ok (.invokevirtual 92, 3) := by decide +kernel
theorem dX6_spread_32 : decode cX6_spread 32 = .ok (.ireturn, 1) := by decide +kernel
theorem dX6_spreadAt_0 : decode cX6_spreadAt 0 = .ok (.aload_n 0, 1) := by decide +kernel
theorem dX6_spreadAt_1 : decode cX6_spreadAt 1 = .ok (.iload_n 1, 1) := by decide +kernel
theorem dX6_spreadAt_2 : decode cX6_spreadAt 2 = .ok (.invokevirtual 95, 3) := by decide +kernel
theorem dX6_spreadAt_5 : decode cX6_spreadAt 5 = .ok (.ifCond .ne 9, 3) := by decide +kernel
theorem dX6_spreadAt_8 : decode cX6_spreadAt 8 = .ok (.aload_n 0, 1) := by decide +kernel
theorem dX6_spreadAt_9 : decode cX6_spreadAt 9 = .ok (.iconst 1, 1) := by decide +kernel
theorem dX6_spreadAt_10 : decode cX6_spreadAt 10 = .ok (.invokevirtual 74, 3) := by decide +kernel
theorem dX6_spreadAt_13 : decode cX6_spreadAt 13 = .ok (.ireturn, 1) := by decide +kernel
theorem dX6_spreadAt_14 : decode cX6_spreadAt 14 = .ok (.aload_n 0, 1) := by decide +kernel
theorem dX6_spreadAt_15 : decode cX6_spreadAt 15 = .ok (.getfield 53, 3) := by decide +kernel
theorem dX6_spreadAt_18 : decode cX6_spreadAt 18 = .ok (.aload_n 0, 1) := by decide +kernel
theorem dX6_spreadAt_19 : decode cX6_spreadAt 19 = .ok (.getfield 19, 3) := by decide +kernel
theorem dX6_spreadAt_22 : decode cX6_spreadAt 22 = .ok (.aload_n 0, 1) := by decide +kernel
theorem dX6_spreadAt_23 : decode cX6_spreadAt 23 = .ok (.getfield 30, 3) := by decide +kernel
theorem dX6_spreadAt_26 : decode cX6_spreadAt 26 = .ok (.invokevirtual 185, 3) := by decide +kernel
theorem dX6_spreadAt_29 : decode cX6_spreadAt 29 = .ok (.pop, 1) := by decide +kernel
theorem dX6_spreadAt_30 : decode cX6_spreadAt 30 = .ok (.aload_n 0, 1) := by decide +kernel
theorem dX6_spreadAt_31 : decode cX6_spreadAt 31 = .ok (.aload_n 0, 1) := by decide +kernel
theorem dX6_spreadAt_32 : decode cX6_spreadAt 32 = .ok (.getfield 53, 3) := by decide +kernel
theorem dX6_spreadAt_35 : decode cX6_spreadAt 35 = .ok (.getfield 189, 3) := by decide +kernel
theorem dX6_spreadAt_38 : decode cX6_spreadAt 38 = .ok (.iload_n 1, 1) := by decide +kernel
theorem dX6_spreadAt_39 : decode cX6_spreadAt 39 = .ok (.iaload, 1) := by decide +kernel
theorem dX6_spreadAt_40 : decode cX6_spreadAt 40 = .ok (.invokevirtual 92, 3) := by decide +kernel
theorem dX6_spreadAt_43 : decode cX6_spreadAt 43 = .ok (.ireturn, 1) := by decide +kernel
theorem dX6_together_0 : decode cX6_together 0 = .ok (.aload_n 0, 1) := by decide +kernel
theorem dX6_together_1 : decode cX6_together 1 = .ok (.invokevirtual 168, 3) := by decide +kernel
theorem dX6_together_4 : decode cX6_together 4 = .ok (.ifCond .eq 9, 3) := by decide +kernel
theorem dX6_together_7 : decode cX6_together 7 = .ok (.aload_n 0, 1) := by decide +kernel
theorem dX6_together_8 : decode cX6_together 8 = .ok (.iconst 1, 1) := by decide +kernel
theorem dX6_together_9 : decode cX6_together 9 = .ok (.invokevirtual 74, 3) := by decide +kernel
theorem dX6_together_12 : decode cX6_together 12 = .ok (.ireturn, 1) := by decide +kernel
theorem dX6_together_13 : decode cX6_together 13 = .ok (.aload_n 0, 1) := by decide +kernel
theorem dX6_together_14 : decode cX6_together 14 = .ok (.getfield 30, 3) := by decide +kernel
theorem dX6_together_17 : decode cX6_together 17 = .ok (.iconst 0, 1) := by decide +kernel
theorem dX6_together_18 : decode cX6_together 18 = .ok (.invokevirtual 182, 3) := by decide +kernel
theorem dX6_together_21 : decode cX6_together 21 = .ok (.istore_n 1, 1) := by decide +kernel
theorem dX6_together_22 : decode cX6_together 22 = .ok (.iconst 0, 1) := by decide +kernel
theorem dX6_together_23 : decode cX6_together 23 = .ok (.istore_n 2, 1) := by decide +kernel
theorem dX6_together_24 : decode cX6_together 24 = .ok (.iconst 0, 1) := by decide +kernel
theorem dX6_together_25 : decode cX6_together 25 = .ok (.istore_n 3, 1) := by decide +kernel
theorem dX6_together_26 : decode cX6_together 26 = .ok (.iload_n 3, 1) := by decide +kernel
theorem dX6_together_27 : decode cX6_together 27 = .ok (.iload_n 1, 1) := by decide +kernel
theorem dX6_together_28 : decode cX6_together 28 = .ok (.if_icmp .gt 40, 3) := by decide +kernel
theorem dX6_together_31 : decode cX6_together 31 = .ok (.iload_n 3, 1) := by decide +kernel
theorem dX6_together_32 : decode cX6_together 32 = .ok (.iload_n 1, 1) := by decide +kernel
theorem dX6_together_33 : decode cX6_together 33 = .ok (.invokestatic 172, 3) := by decide +kernel
theorem dX6_together_36 : decode cX6_together 36 = .ok (.ifCond .eq 26, 3) := by decide +kernel
theorem dX6_together_39 : decode cX6_together 39 = .ok (.iload_n 3, 1) := by decide +kernel
theorem dX6_together_40 : decode cX6_together 40 = .ok (.invokestatic 164, 3) := by decide +kernel
theorem dX6_together_43 : decode cX6_together 43 = .ok (.iload_n 2, 1) := by decide +kernel
theorem dX6_together_44 : decode cX6_together 44 = .ok (.invokestatic 164, 3) := by decide +kernel
theorem dX6_together_47 : decode cX6_together 47 = .ok (.if_icmp .le 15, 3) := by decide +kernel
theorem dX6_together_50 : decode cX6_together 50 = .ok (.aload_n 0, 1) := by decide +kernel
theorem dX6_together_51 : decode cX6_together 51 = .ok (.iload_n 3, 1) := by decide +kernel
theorem dX6_together_52 : decode cX6_together 52 = .ok (.invokevirtual 133, 3) := by decide +kernel
theorem dX6_together_55 : decode cX6_together 55 = .ok (.lconst 0, 1) := by decide +kernel
theorem dX6_together_56 : decode cX6_together 56 = .ok (.lcmp, 1) := by decide +kernel
theorem dX6_together_57 : decode cX6_together 57 = .ok (.ifCond .eq 5, 3) := by decide +kernel
theorem dX6_together_60 : decode cX6_together 60 = .ok (.iload_n 3, 1) := by decide +kernel
theorem dX6_together_61 : decode cX6_together 61 = .ok (.istore_n 2, 1) := by decide +kernel
theorem dX6_together_62 : decode cX6_together 62 = .ok (.iinc 3 1, 3) := by decide +kernel
theorem dX6_together_65 : decode cX6_together 65 = .ok (.goto (-39), 3) := by decide +kernel
theorem dX6_together_68 : decode cX6_together 68 = .ok (.aload_n 0, 1) := by decide +kernel
theorem dX6_together_69 : decode cX6_together 69 = .ok (.iload_n 2, 1) := by decide +kernel
theorem dX6_together_70 : decode cX6_together 70 = .ok (.invokevirtual 92, 3) := by decide +kernel
theorem dX6_together_73 : decode cX6_together 73 = .ok (.ireturn, 1) := by decide +kernel
theorem dX6_ink_0 : decode cX6_ink 0 = .ok (.aload_n 0, 1) := by decide +kernel
theorem dX6_ink_1 : decode cX6_ink 1 = .ok (.iload_n 1, 1) := by decide +kernel
theorem dX6_ink_2 : decode cX6_ink 2 = .ok (.invokevirtual 95, 3) := by decide +kernel
theorem dX6_ink_5 : decode cX6_ink 5 = .ok (.ifCond .ne 9, 3) := by decide +kernel
theorem dX6_ink_8 : decode cX6_ink 8 = .ok (.aload_n 0, 1) := by decide +kernel
theorem dX6_ink_9 : decode cX6_ink 9 = .ok (.iconst 1, 1) := by decide +kernel
theorem dX6_ink_10 : decode cX6_ink 10 = .ok (.invokevirtual 74, 3) := by decide +kernel
theorem dX6_ink_13 : decode cX6_ink 13 = .ok (.ireturn, 1) := by decide +kernel
theorem dX6_ink_14 : decode cX6_ink 14 = .ok (.iload_n 2, 1) := by decide +kernel
theorem dX6_ink_15 : decode cX6_ink 15 = .ok (.invokestatic 192, 3) := by decide +kernel
theorem dX6_ink_18 : decode cX6_ink 18 = .ok (.ifCond .ne 9, 3) := by decide +kernel
theorem dX6_ink_21 : decode cX6_ink 21 = .ok (.aload_n 0, 1) := by decide +kernel
theorem dX6_ink_22 : decode cX6_ink 22 = .ok (.iconst 2, 1) := by decide +kernel
theorem dX6_ink_23 : decode cX6_ink 23 = .ok (.invokevirtual 74, 3) := by decide +kernel
theorem dX6_ink_26 : decode cX6_ink 26 = .ok (.ireturn, 1) := by decide +kernel
theorem dX6_ink_27 : decode cX6_ink 27 = .ok (.aload_n 0, 1) := by decide +kernel
theorem dX6_ink_28 : decode cX6_ink 28 = .ok (.iconst 0, 1) := by decide +kernel
theorem dX6_ink_29 : decode cX6_ink 29 = .ok (.aload_n 0, 1) := by decide +kernel
theorem dX6_ink_30 : decode cX6_ink 30 = .ok (.getfield 30, 3) := by decide +kernel
theorem dX6_ink_33 : decode cX6_ink 33 = .ok (.getfield 110, 3) := by decide +kernel
theorem dX6_ink_36 : decode cX6_ink 36 = .ok (.iload_n 1, 1) := by decide +kernel
theorem dX6_ink_37 : decode cX6_ink 37 = .ok (.iaload, 1) := by decide +kernel
theorem dX6_ink_38 : decode cX6_ink 38 = .ok (.iload_n 2, 1) := by decide +kernel
theorem dX6_ink_39 : decode cX6_ink 39 = .ok (.isub, 1) := by decide +kernel
theorem dX6_ink_40 : decode cX6_ink 40 = .ok (.invokestatic 195, 3) := by decide +kernel
theorem dX6_ink_43 : decode cX6_ink 43 = .ok (.invokevirtual 92, 3) := by decide +kernel
theorem dX6_ink_46 : decode cX6_ink 46 = .ok (.ireturn, 1) := by decide +kernel
theorem dX6_waysIn_0 : decode cX6_waysIn 0 = .ok (.aload_n 0, 1) := by decide +kernel
theorem dX6_waysIn_1 : decode cX6_waysIn 1 = .ok (.iload_n 1, 1) := by decide +kernel
theorem dX6_waysIn_2 : decode cX6_waysIn 2 = .ok (.invokevirtual 117, 3) := by decide +kernel
theorem dX6_waysIn_5 : decode cX6_waysIn 5 = .ok (.ifCond .ne 9, 3) := by decide +kernel
theorem dX6_waysIn_8 : decode cX6_waysIn 8 = .ok (.aload_n 0, 1) := by decide +kernel
theorem dX6_waysIn_9 : decode cX6_waysIn 9 = .ok (.iconst 1, 1) := by decide +kernel
theorem dX6_waysIn_10 : decode cX6_waysIn 10 = .ok (.invokevirtual 74, 3) := by decide +kernel
theorem dX6_waysIn_13 : decode cX6_waysIn 13 = .ok (.ireturn, 1) := by decide +kernel
theorem dX6_waysIn_14 : decode cX6_waysIn 14 = .ok (.iload_n 2, 1) := by decide +kernel
theorem dX6_waysIn_15 : decode cX6_waysIn 15 = .ok (.invokestatic 192, 3) := by decide +kernel
theorem dX6_waysIn_18 : decode cX6_waysIn 18 = .ok (.ifCond .ne 9, 3) := by decide +kernel
theorem dX6_waysIn_21 : decode cX6_waysIn 21 = .ok (.aload_n 0, 1) := by decide +kernel
theorem dX6_waysIn_22 : decode cX6_waysIn 22 = .ok (.iconst 2, 1) := by decide +kernel
theorem dX6_waysIn_23 : decode cX6_waysIn 23 = .ok (.invokevirtual 74, 3) := by decide +kernel
theorem dX6_waysIn_26 : decode cX6_waysIn 26 = .ok (.ireturn, 1) := by decide +kernel
theorem dX6_waysIn_27 : decode cX6_waysIn 27 = .ok (.aload_n 0, 1) := by decide +kernel
theorem dX6_waysIn_28 : decode cX6_waysIn 28 = .ok (.aload_n 0, 1) := by decide +kernel
theorem dX6_waysIn_29 : decode cX6_waysIn 29 = .ok (.aload_n 0, 1) := by decide +kernel
theorem dX6_waysIn_30 : decode cX6_waysIn 30 = .ok (.iload_n 1, 1) := by decide +kernel
theorem dX6_waysIn_31 : decode cX6_waysIn 31 = .ok (.iload_n 2, 1) := by decide +kernel
theorem dX6_waysIn_32 : decode cX6_waysIn 32 = .ok (.invokevirtual 123, 3) := by decide +kernel
theorem dX6_waysIn_35 : decode cX6_waysIn 35 = .ok (.invokevirtual 133, 3) := by decide +kernel
theorem dX6_waysIn_38 : decode cX6_waysIn 38 = .ok (.invokestatic 144, 3) := by decide +kernel
theorem dX6_waysIn_41 : decode cX6_waysIn 41 = .ok (.invokevirtual 92, 3) := by decide +kernel
theorem dX6_waysIn_44 : decode cX6_waysIn 44 = .ok (.ireturn, 1) := by decide +kernel
theorem dX6_freeIn_0 : decode cX6_freeIn 0 = .ok (.aload_n 0, 1) := by decide +kernel
theorem dX6_freeIn_1 : decode cX6_freeIn 1 = .ok (.iload_n 1, 1) := by decide +kernel
theorem dX6_freeIn_2 : decode cX6_freeIn 2 = .ok (.invokevirtual 117, 3) := by decide +kernel
theorem dX6_freeIn_5 : decode cX6_freeIn 5 = .ok (.ifCond .ne 9, 3) := by decide +kernel
theorem dX6_freeIn_8 : decode cX6_freeIn 8 = .ok (.aload_n 0, 1) := by decide +kernel
theorem dX6_freeIn_9 : decode cX6_freeIn 9 = .ok (.iconst 1, 1) := by decide +kernel
theorem dX6_freeIn_10 : decode cX6_freeIn 10 = .ok (.invokevirtual 74, 3) := by decide +kernel
theorem dX6_freeIn_13 : decode cX6_freeIn 13 = .ok (.ireturn, 1) := by decide +kernel
theorem dX6_freeIn_14 : decode cX6_freeIn 14 = .ok (.iconst 0, 1) := by decide +kernel
theorem dX6_freeIn_15 : decode cX6_freeIn 15 = .ok (.istore_n 2, 1) := by decide +kernel
theorem dX6_freeIn_16 : decode cX6_freeIn 16 = .ok (.iload_n 2, 1) := by decide +kernel
theorem dX6_freeIn_17 : decode cX6_freeIn 17 = .ok (.bipush 60, 2) := by decide +kernel
theorem dX6_freeIn_19 : decode cX6_freeIn 19 = .ok (.if_icmp .ge 24, 3) := by decide +kernel
theorem dX6_freeIn_22 : decode cX6_freeIn 22 = .ok (.aload_n 0, 1) := by decide +kernel
theorem dX6_freeIn_23 : decode cX6_freeIn 23 = .ok (.aload_n 0, 1) := by decide +kernel
theorem dX6_freeIn_24 : decode cX6_freeIn 24 = .ok (.iload_n 1, 1) := by decide +kernel
theorem dX6_freeIn_25 : decode cX6_freeIn 25 = .ok (.iload_n 2, 1) := by decide +kernel
theorem dX6_freeIn_26 : decode cX6_freeIn 26 = .ok (.invokevirtual 123, 3) := by decide +kernel
theorem dX6_freeIn_29 : decode cX6_freeIn 29 = .ok (.invokevirtual 133, 3) := by decide +kernel
theorem dX6_freeIn_32 : decode cX6_freeIn 32 = .ok (.lconst 0, 1) := by decide +kernel
theorem dX6_freeIn_33 : decode cX6_freeIn 33 = .ok (.lcmp, 1) := by decide +kernel
theorem dX6_freeIn_34 : decode cX6_freeIn 34 = .ok (.ifCond .ne 9, 3) := by decide +kernel
theorem dX6_freeIn_37 : decode cX6_freeIn 37 = .ok (.iinc 2 1, 3) := by decide +kernel
theorem dX6_freeIn_40 : decode cX6_freeIn 40 = .ok (.goto (-24), 3) := by decide +kernel
theorem dX6_freeIn_43 : decode cX6_freeIn 43 = .ok (.aload_n 0, 1) := by decide +kernel
theorem dX6_freeIn_44 : decode cX6_freeIn 44 = .ok (.iload_n 2, 1) := by decide +kernel
theorem dX6_freeIn_45 : decode cX6_freeIn 45 = .ok (.invokevirtual 92, 3) := by decide +kernel
theorem dX6_freeIn_48 : decode cX6_freeIn 48 = .ok (.ireturn, 1) := by decide +kernel
theorem dX6_clearIn_0 : decode cX6_clearIn 0 = .ok (.aload_n 0, 1) := by decide +kernel
theorem dX6_clearIn_1 : decode cX6_clearIn 1 = .ok (.iload_n 1, 1) := by decide +kernel
theorem dX6_clearIn_2 : decode cX6_clearIn 2 = .ok (.invokevirtual 117, 3) := by decide +kernel
theorem dX6_clearIn_5 : decode cX6_clearIn 5 = .ok (.ifCond .ne 9, 3) := by decide +kernel
theorem dX6_clearIn_8 : decode cX6_clearIn 8 = .ok (.aload_n 0, 1) := by decide +kernel
theorem dX6_clearIn_9 : decode cX6_clearIn 9 = .ok (.iconst 1, 1) := by decide +kernel
theorem dX6_clearIn_10 : decode cX6_clearIn 10 = .ok (.invokevirtual 74, 3) := by decide +kernel
theorem dX6_clearIn_13 : decode cX6_clearIn 13 = .ok (.ireturn, 1) := by decide +kernel
theorem dX6_clearIn_14 : decode cX6_clearIn 14 = .ok (.iconst 0, 1) := by decide +kernel
theorem dX6_clearIn_15 : decode cX6_clearIn 15 = .ok (.istore_n 2, 1) := by decide +kernel
theorem dX6_clearIn_16 : decode cX6_clearIn 16 = .ok (.iload_n 2, 1) := by decide +kernel
theorem dX6_clearIn_17 : decode cX6_clearIn 17 = .ok (.bipush 60, 2) := by decide +kernel
theorem dX6_clearIn_19 : decode cX6_clearIn 19 = .ok (.if_icmp .ge 18, 3) := by decide +kernel
theorem dX6_clearIn_22 : decode cX6_clearIn 22 = .ok (.aload_n 0, 1) := by decide +kernel
theorem dX6_clearIn_23 : decode cX6_clearIn 23 = .ok (.iload_n 1, 1) := by decide +kernel
theorem dX6_clearIn_24 : decode cX6_clearIn 24 = .ok (.iload_n 2, 1) := by decide +kernel
theorem dX6_clearIn_25 : decode cX6_clearIn 25 = .ok (.invokevirtual 123, 3) := by decide +kernel
theorem dX6_clearIn_28 : decode cX6_clearIn 28 = .ok (.ifCond .eq 9, 3) := by decide +kernel
theorem dX6_clearIn_31 : decode cX6_clearIn 31 = .ok (.iinc 2 1, 3) := by decide +kernel
theorem dX6_clearIn_34 : decode cX6_clearIn 34 = .ok (.goto (-18), 3) := by decide +kernel
theorem dX6_clearIn_37 : decode cX6_clearIn 37 = .ok (.aload_n 0, 1) := by decide +kernel
theorem dX6_clearIn_38 : decode cX6_clearIn 38 = .ok (.iload_n 2, 1) := by decide +kernel
theorem dX6_clearIn_39 : decode cX6_clearIn 39 = .ok (.invokevirtual 92, 3) := by decide +kernel
theorem dX6_clearIn_42 : decode cX6_clearIn 42 = .ok (.ireturn, 1) := by decide +kernel
theorem dX6_mayIn_0 : decode cX6_mayIn 0 = .ok (.aload_n 0, 1) := by decide +kernel
theorem dX6_mayIn_1 : decode cX6_mayIn 1 = .ok (.iload_n 1, 1) := by decide +kernel
theorem dX6_mayIn_2 : decode cX6_mayIn 2 = .ok (.invokevirtual 117, 3) := by decide +kernel
theorem dX6_mayIn_5 : decode cX6_mayIn 5 = .ok (.ifCond .ne 9, 3) := by decide +kernel
theorem dX6_mayIn_8 : decode cX6_mayIn 8 = .ok (.aload_n 0, 1) := by decide +kernel
theorem dX6_mayIn_9 : decode cX6_mayIn 9 = .ok (.iconst 1, 1) := by decide +kernel
theorem dX6_mayIn_10 : decode cX6_mayIn 10 = .ok (.invokevirtual 74, 3) := by decide +kernel
theorem dX6_mayIn_13 : decode cX6_mayIn 13 = .ok (.ireturn, 1) := by decide +kernel
theorem dX6_mayIn_14 : decode cX6_mayIn 14 = .ok (.aload_n 0, 1) := by decide +kernel
theorem dX6_mayIn_15 : decode cX6_mayIn 15 = .ok (.iload_n 2, 1) := by decide +kernel
theorem dX6_mayIn_16 : decode cX6_mayIn 16 = .ok (.invokevirtual 130, 3) := by decide +kernel
theorem dX6_mayIn_19 : decode cX6_mayIn 19 = .ok (.ifCond .ne 9, 3) := by decide +kernel
theorem dX6_mayIn_22 : decode cX6_mayIn 22 = .ok (.aload_n 0, 1) := by decide +kernel
theorem dX6_mayIn_23 : decode cX6_mayIn 23 = .ok (.iconst 2, 1) := by decide +kernel
theorem dX6_mayIn_24 : decode cX6_mayIn 24 = .ok (.invokevirtual 74, 3) := by decide +kernel
theorem dX6_mayIn_27 : decode cX6_mayIn 27 = .ok (.ireturn, 1) := by decide +kernel
theorem dX6_mayIn_28 : decode cX6_mayIn 28 = .ok (.iconst 0, 1) := by decide +kernel
theorem dX6_mayIn_29 : decode cX6_mayIn 29 = .ok (.istore_n 3, 1) := by decide +kernel
theorem dX6_mayIn_30 : decode cX6_mayIn 30 = .ok (.iload_n 3, 1) := by decide +kernel
theorem dX6_mayIn_31 : decode cX6_mayIn 31 = .ok (.bipush 60, 2) := by decide +kernel
theorem dX6_mayIn_33 : decode cX6_mayIn 33 = .ok (.if_icmp .ge 26, 3) := by decide +kernel
theorem dX6_mayIn_36 : decode cX6_mayIn 36 = .ok (.aload_n 0, 1) := by decide +kernel
theorem dX6_mayIn_37 : decode cX6_mayIn 37 = .ok (.aload_n 0, 1) := by decide +kernel
theorem dX6_mayIn_38 : decode cX6_mayIn 38 = .ok (.iload_n 1, 1) := by decide +kernel
theorem dX6_mayIn_39 : decode cX6_mayIn 39 = .ok (.iload_n 3, 1) := by decide +kernel
theorem dX6_mayIn_40 : decode cX6_mayIn 40 = .ok (.invokevirtual 123, 3) := by decide +kernel
theorem dX6_mayIn_43 : decode cX6_mayIn 43 = .ok (.invokevirtual 133, 3) := by decide +kernel
theorem dX6_mayIn_46 : decode cX6_mayIn 46 = .ok (.iload_n 2, 1) := by decide +kernel
theorem dX6_mayIn_47 : decode cX6_mayIn 47 = .ok (.invokestatic 137, 3) := by decide +kernel
theorem dX6_mayIn_50 : decode cX6_mayIn 50 = .ok (.ifCond .ne 9, 3) := by decide +kernel
theorem dX6_mayIn_53 : decode cX6_mayIn 53 = .ok (.iinc 3 1, 3) := by decide +kernel
theorem dX6_mayIn_56 : decode cX6_mayIn 56 = .ok (.goto (-26), 3) := by decide +kernel
theorem dX6_mayIn_59 : decode cX6_mayIn 59 = .ok (.aload_n 0, 1) := by decide +kernel
theorem dX6_mayIn_60 : decode cX6_mayIn 60 = .ok (.iload_n 3, 1) := by decide +kernel
theorem dX6_mayIn_61 : decode cX6_mayIn 61 = .ok (.invokevirtual 92, 3) := by decide +kernel
theorem dX6_mayIn_64 : decode cX6_mayIn 64 = .ok (.ireturn, 1) := by decide +kernel
theorem dX6_fits_0 : decode cX6_fits 0 = .ok (.aload_n 0, 1) := by decide +kernel
theorem dX6_fits_1 : decode cX6_fits 1 = .ok (.invokevirtual 168, 3) := by decide +kernel
theorem dX6_fits_4 : decode cX6_fits 4 = .ok (.ifCond .eq 9, 3) := by decide +kernel
theorem dX6_fits_7 : decode cX6_fits 7 = .ok (.aload_n 0, 1) := by decide +kernel
theorem dX6_fits_8 : decode cX6_fits 8 = .ok (.iconst 1, 1) := by decide +kernel
theorem dX6_fits_9 : decode cX6_fits 9 = .ok (.invokevirtual 74, 3) := by decide +kernel
theorem dX6_fits_12 : decode cX6_fits 12 = .ok (.ireturn, 1) := by decide +kernel
theorem dX6_fits_13 : decode cX6_fits 13 = .ok (.aload_n 0, 1) := by decide +kernel
theorem dX6_fits_14 : decode cX6_fits 14 = .ok (.aload_n 0, 1) := by decide +kernel
theorem dX6_fits_15 : decode cX6_fits 15 = .ok (.getfield 46, 3) := by decide +kernel
theorem dX6_fits_18 : decode cX6_fits 18 = .ok (.invokevirtual 200, 3) := by decide +kernel
theorem dX6_fits_21 : decode cX6_fits 21 = .ok (.invokestatic 144, 3) := by decide +kernel
theorem dX6_fits_24 : decode cX6_fits 24 = .ok (.invokevirtual 92, 3) := by decide +kernel
theorem dX6_fits_27 : decode cX6_fits 27 = .ok (.ireturn, 1) := by decide +kernel
theorem dX6_fitAt_0 : decode cX6_fitAt 0 = .ok (.aload_n 0, 1) := by decide +kernel
theorem dX6_fitAt_1 : decode cX6_fitAt 1 = .ok (.invokevirtual 168, 3) := by decide +kernel
theorem dX6_fitAt_4 : decode cX6_fitAt 4 = .ok (.ifCond .eq 7, 3) := by decide +kernel
theorem dX6_fitAt_7 : decode cX6_fitAt 7 = .ok (.iconst (-1), 1) := by decide +kernel
theorem dX6_fitAt_8 : decode cX6_fitAt 8 = .ok (.goto 14, 3) := by decide +kernel
theorem dX6_fitAt_11 : decode cX6_fitAt 11 = .ok (.aload_n 0, 1) := by decide +kernel
theorem dX6_fitAt_12 : decode cX6_fitAt 12 = .ok (.getfield 46, 3) := by decide +kernel
theorem dX6_fitAt_15 : decode cX6_fitAt 15 = .ok (.invokevirtual 200, 3) := by decide +kernel
theorem dX6_fitAt_18 : decode cX6_fitAt 18 = .ok (.iload_n 1, 1) := by decide +kernel
theorem dX6_fitAt_19 : decode cX6_fitAt 19 = .ok (.invokestatic 150, 3) := by decide +kernel
theorem dX6_fitAt_22 : decode cX6_fitAt 22 = .ok (.istore_n 2, 1) := by decide +kernel
theorem dX6_fitAt_23 : decode cX6_fitAt 23 = .ok (.iload_n 2, 1) := by decide +kernel
theorem dX6_fitAt_24 : decode cX6_fitAt 24 = .ok (.iconst (-1), 1) := by decide +kernel
theorem dX6_fitAt_25 : decode cX6_fitAt 25 = .ok (.if_icmp .ne 11, 3) := by decide +kernel
theorem dX6_fitAt_28 : decode cX6_fitAt 28 = .ok (.aload_n 0, 1) := by decide +kernel
theorem dX6_fitAt_29 : decode cX6_fitAt 29 = .ok (.iconst 1, 1) := by decide +kernel
theorem dX6_fitAt_30 : decode cX6_fitAt 30 = .ok (.invokevirtual 74, 3) := by decide +kernel
theorem dX6_fitAt_33 : decode cX6_fitAt 33 = .ok (.goto 8, 3) := by decide +kernel
theorem dX6_fitAt_36 : decode cX6_fitAt 36 = .ok (.aload_n 0, 1) := by decide +kernel
theorem dX6_fitAt_37 : decode cX6_fitAt 37 = .ok (.iload_n 2, 1) := by decide +kernel
theorem dX6_fitAt_38 : decode cX6_fitAt 38 = .ok (.invokevirtual 92, 3) := by decide +kernel
theorem dX6_fitAt_41 : decode cX6_fitAt 41 = .ok (.ireturn, 1) := by decide +kernel
theorem dX6_odds_0 : decode cX6_odds 0 = .ok (.iload_n 1, 1) := by decide +kernel
theorem dX6_odds_1 : decode cX6_odds 1 = .ok (.ifCond .lt 14, 3) := by decide +kernel
theorem dX6_odds_4 : decode cX6_odds 4 = .ok (.iload_n 1, 1) := by decide +kernel
theorem dX6_odds_5 : decode cX6_odds 5 = .ok (.aload_n 0, 1) := by decide +kernel
theorem dX6_odds_6 : decode cX6_odds 6 = .ok (.getfield 19, 3) := by decide +kernel
theorem dX6_odds_9 : decode cX6_odds 9 = .ok (.getfield 204, 3) := by decide +kernel
theorem dX6_odds_12 : decode cX6_odds 12 = .ok (.if_icmp .lt 10, 3) := by decide +kernel
theorem dX6_odds_15 : decode cX6_odds 15 = .ok (.aload_n 0, 1) := by decide +kernel
theorem dX6_odds_16 : decode cX6_odds 16 = .ok (.iconst 1, 1) := by decide +kernel
theorem dX6_odds_17 : decode cX6_odds 17 = .ok (.invokevirtual 74, 3) := by decide +kernel
theorem dX6_odds_20 : decode cX6_odds 20 = .ok (.i2l, 1) := by decide +kernel
theorem dX6_odds_21 : decode cX6_odds 21 = .ok (.lreturn, 1) := by decide +kernel
theorem dX6_odds_22 : decode cX6_odds 22 = .ok (.aload_n 0, 1) := by decide +kernel
theorem dX6_odds_23 : decode cX6_odds 23 = .ok (.iconst 0, 1) := by decide +kernel
theorem dX6_odds_24 : decode cX6_odds 24 = .ok (.putfield 57, 3) := by decide +kernel
theorem dX6_odds_27 : decode cX6_odds 27 = .ok (.aload_n 0, 1) := by decide +kernel
theorem dX6_odds_28 : decode cX6_odds 28 = .ok (.getfield 46, 3) := by decide +kernel
theorem dX6_odds_31 : decode cX6_odds 31 = .ok (.iconst 1, 1) := by decide +kernel
theorem dX6_odds_32 : decode cX6_odds 32 = .ok (.iload_n 1, 1) := by decide +kernel
theorem dX6_odds_33 : decode cX6_odds 33 = .ok (.ishl, 1) := by decide +kernel
theorem dX6_odds_34 : decode cX6_odds 34 = .ok (.invokevirtual 207, 3) := by decide +kernel
theorem dX6_odds_37 : decode cX6_odds 37 = .ok (.aload_n 0, 1) := by decide +kernel
theorem dX6_odds_38 : decode cX6_odds 38 = .ok (.getfield 46, 3) := by decide +kernel
theorem dX6_odds_41 : decode cX6_odds 41 = .ok (.iconst 0, 1) := by decide +kernel
theorem dX6_odds_42 : decode cX6_odds 42 = .ok (.invokevirtual 207, 3) := by decide +kernel
theorem dX6_odds_45 : decode cX6_odds 45 = .ok (.iload_n 2, 1) := by decide +kernel
theorem dX6_odds_46 : decode cX6_odds 46 = .ok (.invokestatic 210, 3) := by decide +kernel
theorem dX6_odds_49 : decode cX6_odds 49 = .ok (.lreturn, 1) := by decide +kernel
theorem dX6_likeliest_0 : decode cX6_likeliest 0 = .ok (.aload_n 0, 1) := by decide +kernel
theorem dX6_likeliest_1 : decode cX6_likeliest 1 = .ok (.invokevirtual 168, 3) := by decide +kernel
theorem dX6_likeliest_4 : decode cX6_likeliest 4 = .ok (.ifCond .eq 9, 3) := by decide +kernel
theorem dX6_likeliest_7 : decode cX6_likeliest 7 = .ok (.aload_n 0, 1) := by decide +kernel
theorem dX6_likeliest_8 : decode cX6_likeliest 8 = .ok (.iconst 1, 1) := by decide +kernel
theorem dX6_likeliest_9 : decode cX6_likeliest 9 = .ok (.invokevirtual 74, 3) := by decide +kernel
theorem dX6_likeliest_12 : decode cX6_likeliest 12 = .ok (.ireturn, 1) := by decide +kernel
theorem dX6_likeliest_13 : decode cX6_likeliest 13 = .ok (.aload_n 0, 1) := by decide +kernel
theorem dX6_likeliest_14 : decode cX6_likeliest 14 = .ok (.aload_n 0, 1) := by decide +kernel
theorem dX6_likeliest_15 : decode cX6_likeliest 15 = .ok (.getfield 46, 3) := by decide +kernel
theorem dX6_likeliest_18 : decode cX6_likeliest 18 = .ok (.invokevirtual 214, 3) := by decide +kernel
theorem dX6_likeliest_21 : decode cX6_likeliest 21 = .ok (.invokevirtual 92, 3) := by decide +kernel
theorem dX6_likeliest_24 : decode cX6_likeliest 24 = .ok (.ireturn, 1) := by decide +kernel
theorem dX6_ask_0 : decode cX6_ask 0 = .ok (.aload_n 0, 1) := by decide +kernel
theorem dX6_ask_1 : decode cX6_ask 1 = .ok (.invokevirtual 168, 3) := by decide +kernel
theorem dX6_ask_4 : decode cX6_ask 4 = .ok (.ifCond .eq 9, 3) := by decide +kernel
theorem dX6_ask_7 : decode cX6_ask 7 = .ok (.aload_n 0, 1) := by decide +kernel
theorem dX6_ask_8 : decode cX6_ask 8 = .ok (.iconst 1, 1) := by decide +kernel
theorem dX6_ask_9 : decode cX6_ask 9 = .ok (.invokevirtual 74, 3) := by decide +kernel
theorem dX6_ask_12 : decode cX6_ask 12 = .ok (.ireturn, 1) := by decide +kernel
theorem dX6_ask_13 : decode cX6_ask 13 = .ok (.aload_n 0, 1) := by decide +kernel
theorem dX6_ask_14 : decode cX6_ask 14 = .ok (.aload_n 0, 1) := by decide +kernel
theorem dX6_ask_15 : decode cX6_ask 15 = .ok (.invokevirtual 217, 3) := by decide +kernel
theorem dX6_ask_18 : decode cX6_ask 18 = .ok (.invokevirtual 92, 3) := by decide +kernel
theorem dX6_ask_21 : decode cX6_ask 21 = .ok (.ireturn, 1) := by decide +kernel
theorem dX6_askLeaves_0 : decode cX6_askLeaves 0 = .ok (.aload_n 0, 1) := by decide +kernel
theorem dX6_askLeaves_1 : decode cX6_askLeaves 1 = .ok (.invokevirtual 168, 3) := by decide +kernel
theorem dX6_askLeaves_4 : decode cX6_askLeaves 4 = .ok (.ifCond .eq 9, 3) := by decide +kernel
theorem dX6_askLeaves_7 : decode cX6_askLeaves 7 = .ok (.aload_n 0, 1) := by decide +kernel
theorem dX6_askLeaves_8 : decode cX6_askLeaves 8 = .ok (.iconst 1, 1) := by decide +kernel
theorem dX6_askLeaves_9 : decode cX6_askLeaves 9 = .ok (.invokevirtual 74, 3) := by decide +kernel
theorem dX6_askLeaves_12 : decode cX6_askLeaves 12 = .ok (.ireturn, 1) := by decide +kernel
theorem dX6_askLeaves_13 : decode cX6_askLeaves 13 = .ok (.aload_n 0, 1) := by decide +kernel
theorem dX6_askLeaves_14 : decode cX6_askLeaves 14 = .ok (.invokevirtual 217, 3) := by decide +kernel
theorem dX6_askLeaves_17 : decode cX6_askLeaves 17 = .ok (.istore_n 1, 1) := by decide +kernel
theorem dX6_askLeaves_18 : decode cX6_askLeaves 18 = .ok (.aload_n 0, 1) := by decide +kernel
theorem dX6_askLeaves_19 : decode cX6_askLeaves 19 = .ok (.iload_n 1, 1) := by decide +kernel
theorem dX6_askLeaves_20 : decode cX6_askLeaves 20 = .ok (.bipush (-2), 2) := by decide +kernel
theorem dX6_askLeaves_22 : decode cX6_askLeaves 22 = .ok (.if_icmp .ne 8, 3) := by decide +kernel
theorem dX6_askLeaves_25 : decode cX6_askLeaves 25 = .ok (.bipush (-2), 2) := by decide +kernel
theorem dX6_askLeaves_27 : decode cX6_askLeaves 27 = .ok (.goto 11, 3) := by decide +kernel
theorem dX6_askLeaves_30 : decode cX6_askLeaves 30 = .ok (.aload_n 0, 1) := by decide +kernel
theorem dX6_askLeaves_31 : decode cX6_askLeaves 31 = .ok (.getfield 46, 3) := by decide +kernel
theorem dX6_askLeaves_34 : decode cX6_askLeaves 34 = .ok (.iload_n 1, 1) := by decide +kernel
theorem dX6_askLeaves_35 : decode cX6_askLeaves 35 = .ok (.invokevirtual 220, 3) := by decide +kernel
theorem dX6_askLeaves_38 : decode cX6_askLeaves 38 = .ok (.invokevirtual 92, 3) := by decide +kernel
theorem dX6_askLeaves_41 : decode cX6_askLeaves 41 = .ok (.ireturn, 1) := by decide +kernel
theorem dX6_judge_0 : decode cX6_judge 0 = .ok (.aload_n 0, 1) := by decide +kernel
theorem dX6_judge_1 : decode cX6_judge 1 = .ok (.invokevirtual 168, 3) := by decide +kernel
theorem dX6_judge_4 : decode cX6_judge 4 = .ok (.ifCond .eq 9, 3) := by decide +kernel
theorem dX6_judge_7 : decode cX6_judge 7 = .ok (.aload_n 0, 1) := by decide +kernel
theorem dX6_judge_8 : decode cX6_judge 8 = .ok (.iconst 1, 1) := by decide +kernel
theorem dX6_judge_9 : decode cX6_judge 9 = .ok (.invokevirtual 74, 3) := by decide +kernel
theorem dX6_judge_12 : decode cX6_judge 12 = .ok (.ireturn, 1) := by decide +kernel
theorem dX6_judge_13 : decode cX6_judge 13 = .ok (.iconst 0, 1) := by decide +kernel
theorem dX6_judge_14 : decode cX6_judge 14 = .ok (.istore_n 1, 1) := by decide +kernel
theorem dX6_judge_15 : decode cX6_judge 15 = .ok (.iload_n 1, 1) := by decide +kernel
theorem dX6_judge_16 : decode cX6_judge 16 = .ok (.aload_n 0, 1) := by decide +kernel
theorem dX6_judge_17 : decode cX6_judge 17 = .ok (.getfield 19, 3) := by decide +kernel
theorem dX6_judge_20 : decode cX6_judge 20 = .ok (.getfield 223, 3) := by decide +kernel
theorem dX6_judge_23 : decode cX6_judge 23 = .ok (.if_icmp .ge 31, 3) := by decide +kernel
theorem dX6_judge_26 : decode cX6_judge 26 = .ok (.aload_n 0, 1) := by decide +kernel
theorem dX6_judge_27 : decode cX6_judge 27 = .ok (.getfield 19, 3) := by decide +kernel
theorem dX6_judge_30 : decode cX6_judge 30 = .ok (.iload_n 1, 1) := by decide +kernel
theorem dX6_judge_31 : decode cX6_judge 31 = .ok (.aload_n 0, 1) := by decide +kernel
theorem dX6_judge_32 : decode cX6_judge 32 = .ok (.getfield 26, 3) := by decide +kernel
theorem dX6_judge_35 : decode cX6_judge 35 = .ok (.iconst 0, 1) := by decide +kernel
theorem dX6_judge_36 : decode cX6_judge 36 = .ok (.invokevirtual 226, 3) := by decide +kernel
theorem dX6_judge_39 : decode cX6_judge 39 = .ok (.ifCond .ne 9, 3) := by decide +kernel
theorem dX6_judge_42 : decode cX6_judge 42 = .ok (.aload_n 0, 1) := by decide +kernel
theorem dX6_judge_43 : decode cX6_judge 43 = .ok (.iload_n 1, 1) := by decide +kernel
theorem dX6_judge_44 : decode cX6_judge 44 = .ok (.invokevirtual 92, 3) := by decide +kernel
theorem dX6_judge_47 : decode cX6_judge 47 = .ok (.ireturn, 1) := by decide +kernel
theorem dX6_judge_48 : decode cX6_judge 48 = .ok (.iinc 1 1, 3) := by decide +kernel
theorem dX6_judge_51 : decode cX6_judge 51 = .ok (.goto (-36), 3) := by decide +kernel
theorem dX6_judge_54 : decode cX6_judge 54 = .ok (.aload_n 0, 1) := by decide +kernel
theorem dX6_judge_55 : decode cX6_judge 55 = .ok (.bipush (-2), 2) := by decide +kernel
theorem dX6_judge_57 : decode cX6_judge 57 = .ok (.invokevirtual 92, 3) := by decide +kernel
theorem dX6_judge_60 : decode cX6_judge 60 = .ok (.ireturn, 1) := by decide +kernel
theorem dX6_shaves_0 : decode cX6_shaves 0 = .ok (.aload_n 0, 1) := by decide +kernel
theorem dX6_shaves_1 : decode cX6_shaves 1 = .ok (.iload_n 1, 1) := by decide +kernel
theorem dX6_shaves_2 : decode cX6_shaves 2 = .ok (.invokevirtual 230, 3) := by decide +kernel
theorem dX6_shaves_5 : decode cX6_shaves 5 = .ok (.istore 5, 2) := by decide +kernel
theorem dX6_shaves_7 : decode cX6_shaves 7 = .ok (.iload 5, 2) := by decide +kernel
theorem dX6_shaves_9 : decode cX6_shaves 9 = .ok (.ifCond .eq 13, 3) := by decide +kernel
theorem dX6_shaves_12 : decode cX6_shaves 12 = .ok (.aload_n 0, 1) := by decide +kernel
theorem dX6_shaves_13 : decode cX6_shaves 13 = .ok (.iload 5, 2) := by decide +kernel
theorem dX6_shaves_15 : decode cX6_shaves 15 = .ok (.invokevirtual 74, 3) := by decide +kernel
theorem dX6_shaves_18 : decode cX6_shaves 18 = .ok (.pop, 1) := by decide +kernel
theorem dX6_shaves_19 : decode cX6_shaves 19 = .ok (.bipush (-100), 2) := by decide +kernel
theorem dX6_shaves_21 : decode cX6_shaves 21 = .ok (.ireturn, 1) := by decide +kernel
theorem dX6_shaves_22 : decode cX6_shaves 22 = .ok (.aload_n 0, 1) := by decide +kernel
theorem dX6_shaves_23 : decode cX6_shaves 23 = .ok (.iload_n 1, 1) := by decide +kernel
theorem dX6_shaves_24 : decode cX6_shaves 24 = .ok (.iload_n 2, 1) := by decide +kernel
theorem dX6_shaves_25 : decode cX6_shaves 25 = .ok (.iload_n 3, 1) := by decide +kernel
theorem dX6_shaves_26 : decode cX6_shaves 26 = .ok (.iload 4, 2) := by decide +kernel
theorem dX6_shaves_28 : decode cX6_shaves 28 = .ok (.invokestatic 233, 3) := by decide +kernel
theorem dX6_shaves_31 : decode cX6_shaves 31 = .ok (.invokevirtual 92, 3) := by decide +kernel
theorem dX6_shaves_34 : decode cX6_shaves 34 = .ok (.ireturn, 1) := by decide +kernel
theorem dX6_rests_0 : decode cX6_rests 0 = .ok (.aload_n 0, 1) := by decide +kernel
theorem dX6_rests_1 : decode cX6_rests 1 = .ok (.iload_n 1, 1) := by decide +kernel
theorem dX6_rests_2 : decode cX6_rests 2 = .ok (.invokevirtual 230, 3) := by decide +kernel
theorem dX6_rests_5 : decode cX6_rests 5 = .ok (.istore_n 2, 1) := by decide +kernel
theorem dX6_rests_6 : decode cX6_rests 6 = .ok (.iload_n 2, 1) := by decide +kernel
theorem dX6_rests_7 : decode cX6_rests 7 = .ok (.ifCond .eq 9, 3) := by decide +kernel
theorem dX6_rests_10 : decode cX6_rests 10 = .ok (.aload_n 0, 1) := by decide +kernel
theorem dX6_rests_11 : decode cX6_rests 11 = .ok (.iload_n 2, 1) := by decide +kernel
theorem dX6_rests_12 : decode cX6_rests 12 = .ok (.invokevirtual 74, 3) := by decide +kernel
theorem dX6_rests_15 : decode cX6_rests 15 = .ok (.ireturn, 1) := by decide +kernel
theorem dX6_rests_16 : decode cX6_rests 16 = .ok (.iconst 0, 1) := by decide +kernel
theorem dX6_rests_17 : decode cX6_rests 17 = .ok (.istore_n 3, 1) := by decide +kernel
theorem dX6_rests_18 : decode cX6_rests 18 = .ok (.iconst 0, 1) := by decide +kernel
theorem dX6_rests_19 : decode cX6_rests 19 = .ok (.istore 4, 2) := by decide +kernel
theorem dX6_rests_21 : decode cX6_rests 21 = .ok (.iload 4, 2) := by decide +kernel
theorem dX6_rests_23 : decode cX6_rests 23 = .ok (.iconst 4, 1) := by decide +kernel
theorem dX6_rests_24 : decode cX6_rests 24 = .ok (.if_icmp .ge 21, 3) := by decide +kernel
theorem dX6_rests_27 : decode cX6_rests 27 = .ok (.iload_n 1, 1) := by decide +kernel
theorem dX6_rests_28 : decode cX6_rests 28 = .ok (.iload 4, 2) := by decide +kernel
theorem dX6_rests_30 : decode cX6_rests 30 = .ok (.invokestatic 237, 3) := by decide +kernel
theorem dX6_rests_33 : decode cX6_rests 33 = .ok (.ifCond .eq 6, 3) := by decide +kernel
theorem dX6_rests_36 : decode cX6_rests 36 = .ok (.iinc 3 1, 3) := by decide +kernel
theorem dX6_rests_39 : decode cX6_rests 39 = .ok (.iinc 4 1, 3) := by decide +kernel
theorem dX6_rests_42 : decode cX6_rests 42 = .ok (.goto (-21), 3) := by decide +kernel
theorem dX6_rests_45 : decode cX6_rests 45 = .ok (.aload_n 0, 1) := by decide +kernel
theorem dX6_rests_46 : decode cX6_rests 46 = .ok (.iload_n 3, 1) := by decide +kernel
theorem dX6_rests_47 : decode cX6_rests 47 = .ok (.invokevirtual 92, 3) := by decide +kernel
theorem dX6_rests_50 : decode cX6_rests 50 = .ok (.ireturn, 1) := by decide +kernel
theorem dX6_rest_0 : decode cX6_rest 0 = .ok (.aload_n 0, 1) := by decide +kernel
theorem dX6_rest_1 : decode cX6_rest 1 = .ok (.iload_n 1, 1) := by decide +kernel
theorem dX6_rest_2 : decode cX6_rest 2 = .ok (.invokevirtual 230, 3) := by decide +kernel
theorem dX6_rest_5 : decode cX6_rest 5 = .ok (.istore_n 2, 1) := by decide +kernel
theorem dX6_rest_6 : decode cX6_rest 6 = .ok (.iload_n 2, 1) := by decide +kernel
theorem dX6_rest_7 : decode cX6_rest 7 = .ok (.ifCond .eq 9, 3) := by decide +kernel
theorem dX6_rest_10 : decode cX6_rest 10 = .ok (.aload_n 0, 1) := by decide +kernel
theorem dX6_rest_11 : decode cX6_rest 11 = .ok (.iload_n 2, 1) := by decide +kernel
theorem dX6_rest_12 : decode cX6_rest 12 = .ok (.invokevirtual 74, 3) := by decide +kernel
theorem dX6_rest_15 : decode cX6_rest 15 = .ok (.ireturn, 1) := by decide +kernel
theorem dX6_rest_16 : decode cX6_rest 16 = .ok (.iconst 0, 1) := by decide +kernel
theorem dX6_rest_17 : decode cX6_rest 17 = .ok (.istore_n 3, 1) := by decide +kernel
theorem dX6_rest_18 : decode cX6_rest 18 = .ok (.iload_n 3, 1) := by decide +kernel
theorem dX6_rest_19 : decode cX6_rest 19 = .ok (.iconst 4, 1) := by decide +kernel
theorem dX6_rest_20 : decode cX6_rest 20 = .ok (.if_icmp .ge 48, 3) := by decide +kernel
theorem dX6_rest_23 : decode cX6_rest 23 = .ok (.iload_n 1, 1) := by decide +kernel
theorem dX6_rest_24 : decode cX6_rest 24 = .ok (.iload_n 3, 1) := by decide +kernel
theorem dX6_rest_25 : decode cX6_rest 25 = .ok (.invokestatic 237, 3) := by decide +kernel
theorem dX6_rest_28 : decode cX6_rest 28 = .ok (.ifCond .eq 34, 3) := by decide +kernel
theorem dX6_rest_31 : decode cX6_rest 31 = .ok (.aload_n 0, 1) := by decide +kernel
theorem dX6_rest_32 : decode cX6_rest 32 = .ok (.iload_n 3, 1) := by decide +kernel
theorem dX6_rest_33 : decode cX6_rest 33 = .ok (.invokestatic 240, 3) := by decide +kernel
theorem dX6_rest_36 : decode cX6_rest 36 = .ok (.ifCond .eq 8, 3) := by decide +kernel
theorem dX6_rest_39 : decode cX6_rest 39 = .ok (.bipush 10, 2) := by decide +kernel
theorem dX6_rest_41 : decode cX6_rest 41 = .ok (.goto 4, 3) := by decide +kernel
theorem dX6_rest_44 : decode cX6_rest 44 = .ok (.iconst 0, 1) := by decide +kernel
theorem dX6_rest_45 : decode cX6_rest 45 = .ok (.iload_n 3, 1) := by decide +kernel
theorem dX6_rest_46 : decode cX6_rest 46 = .ok (.invokestatic 243, 3) := by decide +kernel
theorem dX6_rest_49 : decode cX6_rest 49 = .ok (.ifCond .eq 7, 3) := by decide +kernel
theorem dX6_rest_52 : decode cX6_rest 52 = .ok (.iconst 1, 1) := by decide +kernel
theorem dX6_rest_53 : decode cX6_rest 53 = .ok (.goto 4, 3) := by decide +kernel
theorem dX6_rest_56 : decode cX6_rest 56 = .ok (.iconst 0, 1) := by decide +kernel
theorem dX6_rest_57 : decode cX6_rest 57 = .ok (.iadd, 1) := by decide +kernel
theorem dX6_rest_58 : decode cX6_rest 58 = .ok (.invokevirtual 92, 3) := by decide +kernel
theorem dX6_rest_61 : decode cX6_rest 61 = .ok (.ireturn, 1) := by decide +kernel
theorem dX6_rest_62 : decode cX6_rest 62 = .ok (.iinc 3 1, 3) := by decide +kernel
theorem dX6_rest_65 : decode cX6_rest 65 = .ok (.goto (-47), 3) := by decide +kernel
theorem dX6_rest_68 : decode cX6_rest 68 = .ok (.aload_n 0, 1) := by decide +kernel
theorem dX6_rest_69 : decode cX6_rest 69 = .ok (.bipush (-2), 2) := by decide +kernel
theorem dX6_rest_71 : decode cX6_rest 71 = .ok (.invokevirtual 92, 3) := by decide +kernel
theorem dX6_rest_74 : decode cX6_rest 74 = .ok (.ireturn, 1) := by decide +kernel
theorem dX6_mayOdds_0 : decode cX6_mayOdds 0 = .ok (.aload_n 0, 1) := by decide +kernel
theorem dX6_mayOdds_1 : decode cX6_mayOdds 1 = .ok (.iload_n 1, 1) := by decide +kernel
theorem dX6_mayOdds_2 : decode cX6_mayOdds 2 = .ok (.invokevirtual 117, 3) := by decide +kernel
theorem dX6_mayOdds_5 : decode cX6_mayOdds 5 = .ok (.ifCond .ne 10, 3) := by decide +kernel
theorem dX6_mayOdds_8 : decode cX6_mayOdds 8 = .ok (.aload_n 0, 1) := by decide +kernel
theorem dX6_mayOdds_9 : decode cX6_mayOdds 9 = .ok (.iconst 1, 1) := by decide +kernel
theorem dX6_mayOdds_10 : decode cX6_mayOdds 10 = .ok (.invokevirtual 74, 3) := by decide +kernel
theorem dX6_mayOdds_13 : decode cX6_mayOdds 13 = .ok (.i2l, 1) := by decide +kernel
theorem dX6_mayOdds_14 : decode cX6_mayOdds 14 = .ok (.lreturn, 1) := by decide +kernel
theorem dX6_mayOdds_15 : decode cX6_mayOdds 15 = .ok (.aload_n 0, 1) := by decide +kernel
theorem dX6_mayOdds_16 : decode cX6_mayOdds 16 = .ok (.iload_n 2, 1) := by decide +kernel
theorem dX6_mayOdds_17 : decode cX6_mayOdds 17 = .ok (.invokevirtual 130, 3) := by decide +kernel
theorem dX6_mayOdds_20 : decode cX6_mayOdds 20 = .ok (.ifCond .ne 10, 3) := by decide +kernel
theorem dX6_mayOdds_23 : decode cX6_mayOdds 23 = .ok (.aload_n 0, 1) := by decide +kernel
theorem dX6_mayOdds_24 : decode cX6_mayOdds 24 = .ok (.iconst 2, 1) := by decide +kernel
theorem dX6_mayOdds_25 : decode cX6_mayOdds 25 = .ok (.invokevirtual 74, 3) := by decide +kernel
theorem dX6_mayOdds_28 : decode cX6_mayOdds 28 = .ok (.i2l, 1) := by decide +kernel
theorem dX6_mayOdds_29 : decode cX6_mayOdds 29 = .ok (.lreturn, 1) := by decide +kernel
theorem dX6_mayOdds_30 : decode cX6_mayOdds 30 = .ok (.aload_n 0, 1) := by decide +kernel
theorem dX6_mayOdds_31 : decode cX6_mayOdds 31 = .ok (.iload_n 1, 1) := by decide +kernel
theorem dX6_mayOdds_32 : decode cX6_mayOdds 32 = .ok (.iconst 0, 1) := by decide +kernel
theorem dX6_mayOdds_33 : decode cX6_mayOdds 33 = .ok (.invokevirtual 123, 3) := by decide +kernel
theorem dX6_mayOdds_36 : decode cX6_mayOdds 36 = .ok (.istore 4, 2) := by decide +kernel
theorem dX6_mayOdds_38 : decode cX6_mayOdds 38 = .ok (.iconst 0, 1) := by decide +kernel
theorem dX6_mayOdds_39 : decode cX6_mayOdds 39 = .ok (.istore 5, 2) := by decide +kernel
theorem dX6_mayOdds_41 : decode cX6_mayOdds 41 = .ok (.iconst 0, 1) := by decide +kernel
theorem dX6_mayOdds_42 : decode cX6_mayOdds 42 = .ok (.istore 6, 2) := by decide +kernel
theorem dX6_mayOdds_44 : decode cX6_mayOdds 44 = .ok (.iload 6, 2) := by decide +kernel
theorem dX6_mayOdds_46 : decode cX6_mayOdds 46 = .ok (.aload_n 0, 1) := by decide +kernel
theorem dX6_mayOdds_47 : decode cX6_mayOdds 47 = .ok (.getfield 19, 3) := by decide +kernel
theorem dX6_mayOdds_50 : decode cX6_mayOdds 50 = .ok (.getfield 179, 3) := by decide +kernel
theorem dX6_mayOdds_53 : decode cX6_mayOdds 53 = .ok (.if_icmp .ge 38, 3) := by decide +kernel
theorem dX6_mayOdds_56 : decode cX6_mayOdds 56 = .ok (.iload 4, 2) := by decide +kernel
theorem dX6_mayOdds_58 : decode cX6_mayOdds 58 = .ok (.i2l, 1) := by decide +kernel
theorem dX6_mayOdds_59 : decode cX6_mayOdds 59 = .ok (.iload 6, 2) := by decide +kernel
theorem dX6_mayOdds_61 : decode cX6_mayOdds 61 = .ok (.invokestatic 137, 3) := by decide +kernel
theorem dX6_mayOdds_64 : decode cX6_mayOdds 64 = .ok (.ifCond .eq 21, 3) := by decide +kernel
theorem dX6_mayOdds_67 : decode cX6_mayOdds 67 = .ok (.aload_n 0, 1) := by decide +kernel
theorem dX6_mayOdds_68 : decode cX6_mayOdds 68 = .ok (.iconst 1, 1) := by decide +kernel
theorem dX6_mayOdds_69 : decode cX6_mayOdds 69 = .ok (.iload 6, 2) := by decide +kernel
theorem dX6_mayOdds_71 : decode cX6_mayOdds 71 = .ok (.ishl, 1) := by decide +kernel
theorem dX6_mayOdds_72 : decode cX6_mayOdds 72 = .ok (.invokevirtual 133, 3) := by decide +kernel
theorem dX6_mayOdds_75 : decode cX6_mayOdds 75 = .ok (.iload_n 2, 1) := by decide +kernel
theorem dX6_mayOdds_76 : decode cX6_mayOdds 76 = .ok (.invokestatic 137, 3) := by decide +kernel
theorem dX6_mayOdds_79 : decode cX6_mayOdds 79 = .ok (.ifCond .ne 6, 3) := by decide +kernel
theorem dX6_mayOdds_82 : decode cX6_mayOdds 82 = .ok (.iinc 5 1, 3) := by decide +kernel
theorem dX6_mayOdds_85 : decode cX6_mayOdds 85 = .ok (.iinc 6 1, 3) := by decide +kernel
theorem dX6_mayOdds_88 : decode cX6_mayOdds 88 = .ok (.goto (-44), 3) := by decide +kernel
theorem dX6_mayOdds_91 : decode cX6_mayOdds 91 = .ok (.aload_n 0, 1) := by decide +kernel
theorem dX6_mayOdds_92 : decode cX6_mayOdds 92 = .ok (.iconst 0, 1) := by decide +kernel
theorem dX6_mayOdds_93 : decode cX6_mayOdds 93 = .ok (.putfield 57, 3) := by decide +kernel
theorem dX6_mayOdds_96 : decode cX6_mayOdds 96 = .ok (.aload_n 0, 1) := by decide +kernel
theorem dX6_mayOdds_97 : decode cX6_mayOdds 97 = .ok (.getfield 19, 3) := by decide +kernel
theorem dX6_mayOdds_100 : decode cX6_mayOdds 100 = .ok (.getfield 246, 3) := by decide +kernel
theorem dX6_mayOdds_103 : decode cX6_mayOdds 103 = .ok (.iload 5, 2) := by decide +kernel
theorem dX6_mayOdds_105 : decode cX6_mayOdds 105 = .ok (.invokestatic 249, 3) := by decide +kernel
theorem dX6_mayOdds_108 : decode cX6_mayOdds 108 = .ok (.bipush 100, 2) := by decide +kernel
theorem dX6_mayOdds_110 : decode cX6_mayOdds 110 = .ok (.iload 5, 2) := by decide +kernel
theorem dX6_mayOdds_112 : decode cX6_mayOdds 112 = .ok (.invokestatic 249, 3) := by decide +kernel
theorem dX6_mayOdds_115 : decode cX6_mayOdds 115 = .ok (.iload_n 3, 1) := by decide +kernel
theorem dX6_mayOdds_116 : decode cX6_mayOdds 116 = .ok (.invokestatic 210, 3) := by decide +kernel
theorem dX6_mayOdds_119 : decode cX6_mayOdds 119 = .ok (.lreturn, 1) := by decide +kernel
theorem dX6_freeOdds_0 : decode cX6_freeOdds 0 = .ok (.aload_n 0, 1) := by decide +kernel
theorem dX6_freeOdds_1 : decode cX6_freeOdds 1 = .ok (.iload_n 1, 1) := by decide +kernel
theorem dX6_freeOdds_2 : decode cX6_freeOdds 2 = .ok (.invokevirtual 117, 3) := by decide +kernel
theorem dX6_freeOdds_5 : decode cX6_freeOdds 5 = .ok (.ifCond .ne 10, 3) := by decide +kernel
theorem dX6_freeOdds_8 : decode cX6_freeOdds 8 = .ok (.aload_n 0, 1) := by decide +kernel
theorem dX6_freeOdds_9 : decode cX6_freeOdds 9 = .ok (.iconst 1, 1) := by decide +kernel
theorem dX6_freeOdds_10 : decode cX6_freeOdds 10 = .ok (.invokevirtual 74, 3) := by decide +kernel
theorem dX6_freeOdds_13 : decode cX6_freeOdds 13 = .ok (.i2l, 1) := by decide +kernel
theorem dX6_freeOdds_14 : decode cX6_freeOdds 14 = .ok (.lreturn, 1) := by decide +kernel
theorem dX6_freeOdds_15 : decode cX6_freeOdds 15 = .ok (.aload_n 0, 1) := by decide +kernel
theorem dX6_freeOdds_16 : decode cX6_freeOdds 16 = .ok (.iload_n 1, 1) := by decide +kernel
theorem dX6_freeOdds_17 : decode cX6_freeOdds 17 = .ok (.iconst 0, 1) := by decide +kernel
theorem dX6_freeOdds_18 : decode cX6_freeOdds 18 = .ok (.invokevirtual 123, 3) := by decide +kernel
theorem dX6_freeOdds_21 : decode cX6_freeOdds 21 = .ok (.istore_n 3, 1) := by decide +kernel
theorem dX6_freeOdds_22 : decode cX6_freeOdds 22 = .ok (.lconst 0, 1) := by decide +kernel
theorem dX6_freeOdds_23 : decode cX6_freeOdds 23 = .ok (.lstore 4, 2) := by decide +kernel
theorem dX6_freeOdds_25 : decode cX6_freeOdds 25 = .ok (.iconst 0, 1) := by decide +kernel
theorem dX6_freeOdds_26 : decode cX6_freeOdds 26 = .ok (.istore 6, 2) := by decide +kernel
theorem dX6_freeOdds_28 : decode cX6_freeOdds 28 = .ok (.iload 6, 2) := by decide +kernel
theorem dX6_freeOdds_30 : decode cX6_freeOdds 30 = .ok (.iload_n 3, 1) := by decide +kernel
theorem dX6_freeOdds_31 : decode cX6_freeOdds 31 = .ok (.if_icmp .gt 41, 3) := by decide +kernel
theorem dX6_freeOdds_34 : decode cX6_freeOdds 34 = .ok (.iload 6, 2) := by decide +kernel
theorem dX6_freeOdds_36 : decode cX6_freeOdds 36 = .ok (.iload_n 3, 1) := by decide +kernel
theorem dX6_freeOdds_37 : decode cX6_freeOdds 37 = .ok (.invokestatic 172, 3) := by decide +kernel
theorem dX6_freeOdds_40 : decode cX6_freeOdds 40 = .ok (.ifCond .eq 26, 3) := by decide +kernel
theorem dX6_freeOdds_43 : decode cX6_freeOdds 43 = .ok (.aload_n 0, 1) := by decide +kernel
theorem dX6_freeOdds_44 : decode cX6_freeOdds 44 = .ok (.iload 6, 2) := by decide +kernel
theorem dX6_freeOdds_46 : decode cX6_freeOdds 46 = .ok (.invokevirtual 133, 3) := by decide +kernel
theorem dX6_freeOdds_49 : decode cX6_freeOdds 49 = .ok (.lconst 0, 1) := by decide +kernel
theorem dX6_freeOdds_50 : decode cX6_freeOdds 50 = .ok (.lcmp, 1) := by decide +kernel
theorem dX6_freeOdds_51 : decode cX6_freeOdds 51 = .ok (.ifCond .eq 15, 3) := by decide +kernel
theorem dX6_freeOdds_54 : decode cX6_freeOdds 54 = .ok (.lload 4, 2) := by decide +kernel
theorem dX6_freeOdds_56 : decode cX6_freeOdds 56 = .ok (.aload_n 0, 1) := by decide +kernel
theorem dX6_freeOdds_57 : decode cX6_freeOdds 57 = .ok (.iload 6, 2) := by decide +kernel
theorem dX6_freeOdds_59 : decode cX6_freeOdds 59 = .ok (.iload_n 3, 1) := by decide +kernel
theorem dX6_freeOdds_60 : decode cX6_freeOdds 60 = .ok (.invokevirtual 253, 3) := by decide +kernel
theorem dX6_freeOdds_63 : decode cX6_freeOdds 63 = .ok (.ladd, 1) := by decide +kernel
theorem dX6_freeOdds_64 : decode cX6_freeOdds 64 = .ok (.lstore 4, 2) := by decide +kernel
theorem dX6_freeOdds_66 : decode cX6_freeOdds 66 = .ok (.iinc 6 1, 3) := by decide +kernel
theorem dX6_freeOdds_69 : decode cX6_freeOdds 69 = .ok (.goto (-41), 3) := by decide +kernel
theorem dX6_freeOdds_72 : decode cX6_freeOdds 72 = .ok (.aload_n 0, 1) := by decide +kernel
theorem dX6_freeOdds_73 : decode cX6_freeOdds 73 = .ok (.iconst 0, 1) := by decide +kernel
theorem dX6_freeOdds_74 : decode cX6_freeOdds 74 = .ok (.putfield 57, 3) := by decide +kernel
theorem dX6_freeOdds_77 : decode cX6_freeOdds 77 = .ok (.lload 4, 2) := by decide +kernel
theorem dX6_freeOdds_79 : decode cX6_freeOdds 79 = .ok (.bipush 100, 2) := by decide +kernel
theorem dX6_freeOdds_81 : decode cX6_freeOdds 81 = .ok (.iload_n 3, 1) := by decide +kernel
theorem dX6_freeOdds_82 : decode cX6_freeOdds 82 = .ok (.invokestatic 164, 3) := by decide +kernel
theorem dX6_freeOdds_85 : decode cX6_freeOdds 85 = .ok (.invokestatic 249, 3) := by decide +kernel
theorem dX6_freeOdds_88 : decode cX6_freeOdds 88 = .ok (.iload_n 2, 1) := by decide +kernel
theorem dX6_freeOdds_89 : decode cX6_freeOdds 89 = .ok (.invokestatic 210, 3) := by decide +kernel
theorem dX6_freeOdds_92 : decode cX6_freeOdds 92 = .ok (.lreturn, 1) := by decide +kernel
theorem dX6_mean_0 : decode cX6_mean 0 = .ok (.aload_n 0, 1) := by decide +kernel
theorem dX6_mean_1 : decode cX6_mean 1 = .ok (.iload_n 1, 1) := by decide +kernel
theorem dX6_mean_2 : decode cX6_mean 2 = .ok (.invokevirtual 117, 3) := by decide +kernel
theorem dX6_mean_5 : decode cX6_mean 5 = .ok (.ifCond .ne 10, 3) := by decide +kernel
theorem dX6_mean_8 : decode cX6_mean 8 = .ok (.aload_n 0, 1) := by decide +kernel
theorem dX6_mean_9 : decode cX6_mean 9 = .ok (.iconst 1, 1) := by decide +kernel
theorem dX6_mean_10 : decode cX6_mean 10 = .ok (.invokevirtual 74, 3) := by decide +kernel
theorem dX6_mean_13 : decode cX6_mean 13 = .ok (.i2l, 1) := by decide +kernel
theorem dX6_mean_14 : decode cX6_mean 14 = .ok (.lreturn, 1) := by decide +kernel
theorem dX6_mean_15 : decode cX6_mean 15 = .ok (.aload_n 0, 1) := by decide +kernel
theorem dX6_mean_16 : decode cX6_mean 16 = .ok (.iload_n 1, 1) := by decide +kernel
theorem dX6_mean_17 : decode cX6_mean 17 = .ok (.iconst 0, 1) := by decide +kernel
theorem dX6_mean_18 : decode cX6_mean 18 = .ok (.invokevirtual 123, 3) := by decide +kernel
theorem dX6_mean_21 : decode cX6_mean 21 = .ok (.istore_n 3, 1) := by decide +kernel
theorem dX6_mean_22 : decode cX6_mean 22 = .ok (.lconst 0, 1) := by decide +kernel
theorem dX6_mean_23 : decode cX6_mean 23 = .ok (.lstore 4, 2) := by decide +kernel
theorem dX6_mean_25 : decode cX6_mean 25 = .ok (.iconst 0, 1) := by decide +kernel
theorem dX6_mean_26 : decode cX6_mean 26 = .ok (.istore 6, 2) := by decide +kernel
theorem dX6_mean_28 : decode cX6_mean 28 = .ok (.iload 6, 2) := by decide +kernel
theorem dX6_mean_30 : decode cX6_mean 30 = .ok (.iload_n 3, 1) := by decide +kernel
theorem dX6_mean_31 : decode cX6_mean 31 = .ok (.if_icmp .gt 41, 3) := by decide +kernel
theorem dX6_mean_34 : decode cX6_mean 34 = .ok (.iload 6, 2) := by decide +kernel
theorem dX6_mean_36 : decode cX6_mean 36 = .ok (.iload_n 3, 1) := by decide +kernel
theorem dX6_mean_37 : decode cX6_mean 37 = .ok (.invokestatic 172, 3) := by decide +kernel
theorem dX6_mean_40 : decode cX6_mean 40 = .ok (.ifCond .eq 26, 3) := by decide +kernel
theorem dX6_mean_43 : decode cX6_mean 43 = .ok (.lload 4, 2) := by decide +kernel
theorem dX6_mean_45 : decode cX6_mean 45 = .ok (.aload_n 0, 1) := by decide +kernel
theorem dX6_mean_46 : decode cX6_mean 46 = .ok (.iload 6, 2) := by decide +kernel
theorem dX6_mean_48 : decode cX6_mean 48 = .ok (.iload_n 3, 1) := by decide +kernel
theorem dX6_mean_49 : decode cX6_mean 49 = .ok (.invokevirtual 253, 3) := by decide +kernel
theorem dX6_mean_52 : decode cX6_mean 52 = .ok (.aload_n 0, 1) := by decide +kernel
theorem dX6_mean_53 : decode cX6_mean 53 = .ok (.iload 6, 2) := by decide +kernel
theorem dX6_mean_55 : decode cX6_mean 55 = .ok (.invokevirtual 133, 3) := by decide +kernel
theorem dX6_mean_58 : decode cX6_mean 58 = .ok (.invokestatic 144, 3) := by decide +kernel
theorem dX6_mean_61 : decode cX6_mean 61 = .ok (.i2l, 1) := by decide +kernel
theorem dX6_mean_62 : decode cX6_mean 62 = .ok (.lmul, 1) := by decide +kernel
theorem dX6_mean_63 : decode cX6_mean 63 = .ok (.ladd, 1) := by decide +kernel
theorem dX6_mean_64 : decode cX6_mean 64 = .ok (.lstore 4, 2) := by decide +kernel
theorem dX6_mean_66 : decode cX6_mean 66 = .ok (.iinc 6 1, 3) := by decide +kernel
theorem dX6_mean_69 : decode cX6_mean 69 = .ok (.goto (-41), 3) := by decide +kernel
theorem dX6_mean_72 : decode cX6_mean 72 = .ok (.aload_n 0, 1) := by decide +kernel
theorem dX6_mean_73 : decode cX6_mean 73 = .ok (.iconst 0, 1) := by decide +kernel
theorem dX6_mean_74 : decode cX6_mean 74 = .ok (.putfield 57, 3) := by decide +kernel
theorem dX6_mean_77 : decode cX6_mean 77 = .ok (.lload 4, 2) := by decide +kernel
theorem dX6_mean_79 : decode cX6_mean 79 = .ok (.bipush 100, 2) := by decide +kernel
theorem dX6_mean_81 : decode cX6_mean 81 = .ok (.iload_n 3, 1) := by decide +kernel
theorem dX6_mean_82 : decode cX6_mean 82 = .ok (.invokestatic 164, 3) := by decide +kernel
theorem dX6_mean_85 : decode cX6_mean 85 = .ok (.invokestatic 249, 3) := by decide +kernel
theorem dX6_mean_88 : decode cX6_mean 88 = .ok (.iload_n 2, 1) := by decide +kernel
theorem dX6_mean_89 : decode cX6_mean 89 = .ok (.invokestatic 210, 3) := by decide +kernel
theorem dX6_mean_92 : decode cX6_mean 92 = .ok (.lreturn, 1) := by decide +kernel
theorem dX6_rained_0 : decode cX6_rained 0 = .ok (.aload_n 0, 1) := by decide +kernel
theorem dX6_rained_1 : decode cX6_rained 1 = .ok (.invokevirtual 168, 3) := by decide +kernel
theorem dX6_rained_4 : decode cX6_rained 4 = .ok (.ifCond .eq 9, 3) := by decide +kernel
theorem dX6_rained_7 : decode cX6_rained 7 = .ok (.aload_n 0, 1) := by decide +kernel
theorem dX6_rained_8 : decode cX6_rained 8 = .ok (.iconst 1, 1) := by decide +kernel
theorem dX6_rained_9 : decode cX6_rained 9 = .ok (.invokevirtual 74, 3) := by decide +kernel
theorem dX6_rained_12 : decode cX6_rained 12 = .ok (.ireturn, 1) := by decide +kernel
theorem dX6_rained_13 : decode cX6_rained 13 = .ok (.iload_n 1, 1) := by decide +kernel
theorem dX6_rained_14 : decode cX6_rained 14 = .ok (.invokestatic 256, 3) := by decide +kernel
theorem dX6_rained_17 : decode cX6_rained 17 = .ok (.ifCond .eq 10, 3) := by decide +kernel
theorem dX6_rained_20 : decode cX6_rained 20 = .ok (.iload_n 2, 1) := by decide +kernel
theorem dX6_rained_21 : decode cX6_rained 21 = .ok (.invokestatic 192, 3) := by decide +kernel
theorem dX6_rained_24 : decode cX6_rained 24 = .ok (.ifCond .ne 9, 3) := by decide +kernel
theorem dX6_rained_27 : decode cX6_rained 27 = .ok (.aload_n 0, 1) := by decide +kernel
theorem dX6_rained_28 : decode cX6_rained 28 = .ok (.iconst 2, 1) := by decide +kernel
theorem dX6_rained_29 : decode cX6_rained 29 = .ok (.invokevirtual 74, 3) := by decide +kernel
theorem dX6_rained_32 : decode cX6_rained 32 = .ok (.ireturn, 1) := by decide +kernel
theorem dX6_rained_33 : decode cX6_rained 33 = .ok (.aload_n 0, 1) := by decide +kernel
theorem dX6_rained_34 : decode cX6_rained 34 = .ok (.getfield 33, 3) := by decide +kernel
theorem dX6_rained_37 : decode cX6_rained 37 = .ok (.aload_n 0, 1) := by decide +kernel
theorem dX6_rained_38 : decode cX6_rained 38 = .ok (.getfield 30, 3) := by decide +kernel
theorem dX6_rained_41 : decode cX6_rained 41 = .ok (.invokevirtual 259, 3) := by decide +kernel
theorem dX6_rained_44 : decode cX6_rained 44 = .ok (.iload_n 1, 1) := by decide +kernel
theorem dX6_rained_45 : decode cX6_rained 45 = .ok (.istore_n 3, 1) := by decide +kernel
theorem dX6_rained_46 : decode cX6_rained 46 = .ok (.iconst 0, 1) := by decide +kernel
theorem dX6_rained_47 : decode cX6_rained 47 = .ok (.istore 4, 2) := by decide +kernel
theorem dX6_rained_49 : decode cX6_rained 49 = .ok (.iload 4, 2) := by decide +kernel
theorem dX6_rained_51 : decode cX6_rained 51 = .ok (.iload_n 2, 1) := by decide +kernel
theorem dX6_rained_52 : decode cX6_rained 52 = .ok (.if_icmp .ge 25, 3) := by decide +kernel
theorem dX6_rained_55 : decode cX6_rained 55 = .ok (.aload_n 0, 1) := by decide +kernel
theorem dX6_rained_56 : decode cX6_rained 56 = .ok (.getfield 33, 3) := by decide +kernel
theorem dX6_rained_59 : decode cX6_rained 59 = .ok (.aload_n 0, 1) := by decide +kernel
theorem dX6_rained_60 : decode cX6_rained 60 = .ok (.getfield 19, 3) := by decide +kernel
theorem dX6_rained_63 : decode cX6_rained 63 = .ok (.getfield 246, 3) := by decide +kernel
theorem dX6_rained_66 : decode cX6_rained 66 = .ok (.iload_n 3, 1) := by decide +kernel
theorem dX6_rained_67 : decode cX6_rained 67 = .ok (.invokevirtual 263, 3) := by decide +kernel
theorem dX6_rained_70 : decode cX6_rained 70 = .ok (.istore_n 3, 1) := by decide +kernel
theorem dX6_rained_71 : decode cX6_rained 71 = .ok (.iinc 4 1, 3) := by decide +kernel
theorem dX6_rained_74 : decode cX6_rained 74 = .ok (.goto (-25), 3) := by decide +kernel
theorem dX6_rained_77 : decode cX6_rained 77 = .ok (.aload_n 0, 1) := by decide +kernel
theorem dX6_rained_78 : decode cX6_rained 78 = .ok (.aload_n 0, 1) := by decide +kernel
theorem dX6_rained_79 : decode cX6_rained 79 = .ok (.getfield 33, 3) := by decide +kernel
theorem dX6_rained_82 : decode cX6_rained 82 = .ok (.iconst 0, 1) := by decide +kernel
theorem dX6_rained_83 : decode cX6_rained 83 = .ok (.invokevirtual 182, 3) := by decide +kernel
theorem dX6_rained_86 : decode cX6_rained 86 = .ok (.invokevirtual 92, 3) := by decide +kernel
theorem dX6_rained_89 : decode cX6_rained 89 = .ok (.ireturn, 1) := by decide +kernel
theorem dX6_freeBy_0 : decode cX6_freeBy 0 = .ok (.aload_n 0, 1) := by decide +kernel
theorem dX6_freeBy_1 : decode cX6_freeBy 1 = .ok (.iload_n 1, 1) := by decide +kernel
theorem dX6_freeBy_2 : decode cX6_freeBy 2 = .ok (.invokevirtual 117, 3) := by decide +kernel
theorem dX6_freeBy_5 : decode cX6_freeBy 5 = .ok (.ifCond .ne 9, 3) := by decide +kernel
theorem dX6_freeBy_8 : decode cX6_freeBy 8 = .ok (.aload_n 0, 1) := by decide +kernel
theorem dX6_freeBy_9 : decode cX6_freeBy 9 = .ok (.iconst 1, 1) := by decide +kernel
theorem dX6_freeBy_10 : decode cX6_freeBy 10 = .ok (.invokevirtual 74, 3) := by decide +kernel
theorem dX6_freeBy_13 : decode cX6_freeBy 13 = .ok (.ireturn, 1) := by decide +kernel
theorem dX6_freeBy_14 : decode cX6_freeBy 14 = .ok (.iload_n 2, 1) := by decide +kernel
theorem dX6_freeBy_15 : decode cX6_freeBy 15 = .ok (.invokestatic 256, 3) := by decide +kernel
theorem dX6_freeBy_18 : decode cX6_freeBy 18 = .ok (.ifCond .eq 10, 3) := by decide +kernel
theorem dX6_freeBy_21 : decode cX6_freeBy 21 = .ok (.iload_n 3, 1) := by decide +kernel
theorem dX6_freeBy_22 : decode cX6_freeBy 22 = .ok (.invokestatic 192, 3) := by decide +kernel
theorem dX6_freeBy_25 : decode cX6_freeBy 25 = .ok (.ifCond .ne 9, 3) := by decide +kernel
theorem dX6_freeBy_28 : decode cX6_freeBy 28 = .ok (.aload_n 0, 1) := by decide +kernel
theorem dX6_freeBy_29 : decode cX6_freeBy 29 = .ok (.iconst 2, 1) := by decide +kernel
theorem dX6_freeBy_30 : decode cX6_freeBy 30 = .ok (.invokevirtual 74, 3) := by decide +kernel
theorem dX6_freeBy_33 : decode cX6_freeBy 33 = .ok (.ireturn, 1) := by decide +kernel
theorem dX6_freeBy_34 : decode cX6_freeBy 34 = .ok (.aload_n 0, 1) := by decide +kernel
theorem dX6_freeBy_35 : decode cX6_freeBy 35 = .ok (.getfield 33, 3) := by decide +kernel
theorem dX6_freeBy_38 : decode cX6_freeBy 38 = .ok (.aload_n 0, 1) := by decide +kernel
theorem dX6_freeBy_39 : decode cX6_freeBy 39 = .ok (.getfield 30, 3) := by decide +kernel
theorem dX6_freeBy_42 : decode cX6_freeBy 42 = .ok (.invokevirtual 259, 3) := by decide +kernel
theorem dX6_freeBy_45 : decode cX6_freeBy 45 = .ok (.iload_n 2, 1) := by decide +kernel
theorem dX6_freeBy_46 : decode cX6_freeBy 46 = .ok (.istore 4, 2) := by decide +kernel
theorem dX6_freeBy_48 : decode cX6_freeBy 48 = .ok (.iconst 0, 1) := by decide +kernel
theorem dX6_freeBy_49 : decode cX6_freeBy 49 = .ok (.istore 5, 2) := by decide +kernel
theorem dX6_freeBy_51 : decode cX6_freeBy 51 = .ok (.iload 5, 2) := by decide +kernel
theorem dX6_freeBy_53 : decode cX6_freeBy 53 = .ok (.iload_n 3, 1) := by decide +kernel
theorem dX6_freeBy_54 : decode cX6_freeBy 54 = .ok (.if_icmp .gt 60, 3) := by decide +kernel
theorem dX6_freeBy_57 : decode cX6_freeBy 57 = .ok (.aload_n 0, 1) := by decide +kernel
theorem dX6_freeBy_58 : decode cX6_freeBy 58 = .ok (.aload_n 0, 1) := by decide +kernel
theorem dX6_freeBy_59 : decode cX6_freeBy 59 = .ok (.getfield 33, 3) := by decide +kernel
theorem dX6_freeBy_62 : decode cX6_freeBy 62 = .ok (.iconst 0, 1) := by decide +kernel
theorem dX6_freeBy_63 : decode cX6_freeBy 63 = .ok (.invokevirtual 182, 3) := by decide +kernel
theorem dX6_freeBy_66 : decode cX6_freeBy 66 = .ok (.aload_n 0, 1) := by decide +kernel
theorem dX6_freeBy_67 : decode cX6_freeBy 67 = .ok (.getfield 33, 3) := by decide +kernel
theorem dX6_freeBy_70 : decode cX6_freeBy 70 = .ok (.iload_n 1, 1) := by decide +kernel
theorem dX6_freeBy_71 : decode cX6_freeBy 71 = .ok (.invokevirtual 120, 3) := by decide +kernel
theorem dX6_freeBy_74 : decode cX6_freeBy 74 = .ok (.iand, 1) := by decide +kernel
theorem dX6_freeBy_75 : decode cX6_freeBy 75 = .ok (.invokevirtual 133, 3) := by decide +kernel
theorem dX6_freeBy_78 : decode cX6_freeBy 78 = .ok (.lconst 0, 1) := by decide +kernel
theorem dX6_freeBy_79 : decode cX6_freeBy 79 = .ok (.lcmp, 1) := by decide +kernel
theorem dX6_freeBy_80 : decode cX6_freeBy 80 = .ok (.ifCond .eq 10, 3) := by decide +kernel
theorem dX6_freeBy_83 : decode cX6_freeBy 83 = .ok (.aload_n 0, 1) := by decide +kernel
theorem dX6_freeBy_84 : decode cX6_freeBy 84 = .ok (.iload 5, 2) := by decide +kernel
theorem dX6_freeBy_86 : decode cX6_freeBy 86 = .ok (.invokevirtual 92, 3) := by decide +kernel
theorem dX6_freeBy_89 : decode cX6_freeBy 89 = .ok (.ireturn, 1) := by decide +kernel
theorem dX6_freeBy_90 : decode cX6_freeBy 90 = .ok (.aload_n 0, 1) := by decide +kernel
theorem dX6_freeBy_91 : decode cX6_freeBy 91 = .ok (.getfield 33, 3) := by decide +kernel
theorem dX6_freeBy_94 : decode cX6_freeBy 94 = .ok (.aload_n 0, 1) := by decide +kernel
theorem dX6_freeBy_95 : decode cX6_freeBy 95 = .ok (.getfield 19, 3) := by decide +kernel
theorem dX6_freeBy_98 : decode cX6_freeBy 98 = .ok (.getfield 246, 3) := by decide +kernel
theorem dX6_freeBy_101 : decode cX6_freeBy 101 = .ok (.iload 4, 2) := by decide +kernel
theorem dX6_freeBy_103 : decode cX6_freeBy 103 = .ok (.invokevirtual 263, 3) := by decide +kernel
theorem dX6_freeBy_106 : decode cX6_freeBy 106 = .ok (.istore 4, 2) := by decide +kernel
theorem dX6_freeBy_108 : decode cX6_freeBy 108 = .ok (.iinc 5 1, 3) := by decide +kernel
theorem dX6_freeBy_111 : decode cX6_freeBy 111 = .ok (.goto (-60), 3) := by decide +kernel
theorem dX6_freeBy_114 : decode cX6_freeBy 114 = .ok (.aload_n 0, 1) := by decide +kernel
theorem dX6_freeBy_115 : decode cX6_freeBy 115 = .ok (.bipush (-2), 2) := by decide +kernel
theorem dX6_freeBy_117 : decode cX6_freeBy 117 = .ok (.invokevirtual 92, 3) := by decide +kernel
theorem dX6_freeBy_120 : decode cX6_freeBy 120 = .ok (.ireturn, 1) := by decide +kernel
theorem dX6_day_0 : decode cX6_day 0 = .ok (.aload_n 0, 1) := by decide +kernel
theorem dX6_day_1 : decode cX6_day 1 = .ok (.invokevirtual 168, 3) := by decide +kernel
theorem dX6_day_4 : decode cX6_day 4 = .ok (.ifCond .eq 9, 3) := by decide +kernel
theorem dX6_day_7 : decode cX6_day 7 = .ok (.aload_n 0, 1) := by decide +kernel
theorem dX6_day_8 : decode cX6_day 8 = .ok (.iconst 1, 1) := by decide +kernel
theorem dX6_day_9 : decode cX6_day 9 = .ok (.invokevirtual 74, 3) := by decide +kernel
theorem dX6_day_12 : decode cX6_day 12 = .ok (.ireturn, 1) := by decide +kernel
theorem dX6_day_13 : decode cX6_day 13 = .ok (.aload_n 0, 1) := by decide +kernel
theorem dX6_day_14 : decode cX6_day 14 = .ok (.getfield 30, 3) := by decide +kernel
theorem dX6_day_17 : decode cX6_day 17 = .ok (.getfield 266, 3) := by decide +kernel
theorem dX6_day_20 : decode cX6_day 20 = .ok (.sipush 999, 3) := by decide +kernel
theorem dX6_day_23 : decode cX6_day 23 = .ok (.if_icmp .lt 9, 3) := by decide +kernel
theorem dX6_day_26 : decode cX6_day 26 = .ok (.aload_n 0, 1) := by decide +kernel
theorem dX6_day_27 : decode cX6_day 27 = .ok (.iconst 3, 1) := by decide +kernel
theorem dX6_day_28 : decode cX6_day 28 = .ok (.invokevirtual 74, 3) := by decide +kernel
theorem dX6_day_31 : decode cX6_day 31 = .ok (.ireturn, 1) := by decide +kernel
theorem dX6_day_32 : decode cX6_day 32 = .ok (.aload_n 0, 1) := by decide +kernel
theorem dX6_day_33 : decode cX6_day 33 = .ok (.getfield 39, 3) := by decide +kernel
theorem dX6_day_36 : decode cX6_day 36 = .ok (.aload_n 0, 1) := by decide +kernel
theorem dX6_day_37 : decode cX6_day 37 = .ok (.getfield 30, 3) := by decide +kernel
theorem dX6_day_40 : decode cX6_day 40 = .ok (.invokevirtual 269, 3) := by decide +kernel
theorem dX6_day_43 : decode cX6_day 43 = .ok (.aload_n 0, 1) := by decide +kernel
theorem dX6_day_44 : decode cX6_day 44 = .ok (.aload_n 0, 1) := by decide +kernel
theorem dX6_day_45 : decode cX6_day 45 = .ok (.getfield 30, 3) := by decide +kernel
theorem dX6_day_48 : decode cX6_day 48 = .ok (.invokevirtual 272, 3) := by decide +kernel
theorem dX6_day_51 : decode cX6_day 51 = .ok (.invokevirtual 92, 3) := by decide +kernel
theorem dX6_day_54 : decode cX6_day 54 = .ok (.ireturn, 1) := by decide +kernel
theorem dX6_press_0 : decode cX6_press 0 = .ok (.aload_n 0, 1) := by decide +kernel
theorem dX6_press_1 : decode cX6_press 1 = .ok (.iload_n 1, 1) := by decide +kernel
theorem dX6_press_2 : decode cX6_press 2 = .ok (.invokevirtual 95, 3) := by decide +kernel
theorem dX6_press_5 : decode cX6_press 5 = .ok (.ifCond .eq 11, 3) := by decide +kernel
theorem dX6_press_8 : decode cX6_press 8 = .ok (.aload_n 0, 1) := by decide +kernel
theorem dX6_press_9 : decode cX6_press 9 = .ok (.iload_n 2, 1) := by decide +kernel
theorem dX6_press_10 : decode cX6_press 10 = .ok (.invokevirtual 117, 3) := by decide +kernel
theorem dX6_press_13 : decode cX6_press 13 = .ok (.ifCond .ne 9, 3) := by decide +kernel
theorem dX6_press_16 : decode cX6_press 16 = .ok (.aload_n 0, 1) := by decide +kernel
theorem dX6_press_17 : decode cX6_press 17 = .ok (.iconst 1, 1) := by decide +kernel
theorem dX6_press_18 : decode cX6_press 18 = .ok (.invokevirtual 74, 3) := by decide +kernel
theorem dX6_press_21 : decode cX6_press 21 = .ok (.ireturn, 1) := by decide +kernel
theorem dX6_press_22 : decode cX6_press 22 = .ok (.aload_n 0, 1) := by decide +kernel
theorem dX6_press_23 : decode cX6_press 23 = .ok (.getfield 39, 3) := by decide +kernel
theorem dX6_press_26 : decode cX6_press 26 = .ok (.aload_n 0, 1) := by decide +kernel
theorem dX6_press_27 : decode cX6_press 27 = .ok (.getfield 30, 3) := by decide +kernel
theorem dX6_press_30 : decode cX6_press 30 = .ok (.invokevirtual 269, 3) := by decide +kernel
theorem dX6_press_33 : decode cX6_press 33 = .ok (.aload_n 0, 1) := by decide +kernel
theorem dX6_press_34 : decode cX6_press 34 = .ok (.aload_n 0, 1) := by decide +kernel
theorem dX6_press_35 : decode cX6_press 35 = .ok (.getfield 30, 3) := by decide +kernel
theorem dX6_press_38 : decode cX6_press 38 = .ok (.iload_n 1, 1) := by decide +kernel
theorem dX6_press_39 : decode cX6_press 39 = .ok (.iload_n 2, 1) := by decide +kernel
theorem dX6_press_40 : decode cX6_press 40 = .ok (.aload_n 0, 1) := by decide +kernel
theorem dX6_press_41 : decode cX6_press 41 = .ok (.getfield 19, 3) := by decide +kernel
theorem dX6_press_44 : decode cX6_press 44 = .ok (.getfield 116, 3) := by decide +kernel
theorem dX6_press_47 : decode cX6_press 47 = .ok (.iload_n 1, 1) := by decide +kernel
theorem dX6_press_48 : decode cX6_press 48 = .ok (.iaload, 1) := by decide +kernel
theorem dX6_press_49 : decode cX6_press 49 = .ok (.aload_n 0, 1) := by decide +kernel
theorem dX6_press_50 : decode cX6_press 50 = .ok (.getfield 19, 3) := by decide +kernel
theorem dX6_press_53 : decode cX6_press 53 = .ok (.getfield 275, 3) := by decide +kernel
theorem dX6_press_56 : decode cX6_press 56 = .ok (.invokevirtual 278, 3) := by decide +kernel
theorem dX6_press_59 : decode cX6_press 59 = .ok (.invokevirtual 92, 3) := by decide +kernel
theorem dX6_press_62 : decode cX6_press 62 = .ok (.ireturn, 1) := by decide +kernel
theorem dX6_wash_0 : decode cX6_wash 0 = .ok (.aload_n 0, 1) := by decide +kernel
theorem dX6_wash_1 : decode cX6_wash 1 = .ok (.iload_n 1, 1) := by decide +kernel
theorem dX6_wash_2 : decode cX6_wash 2 = .ok (.invokevirtual 95, 3) := by decide +kernel
theorem dX6_wash_5 : decode cX6_wash 5 = .ok (.ifCond .ne 11, 3) := by decide +kernel
theorem dX6_wash_8 : decode cX6_wash 8 = .ok (.aload_n 0, 1) := by decide +kernel
theorem dX6_wash_9 : decode cX6_wash 9 = .ok (.iconst 1, 1) := by decide +kernel
theorem dX6_wash_10 : decode cX6_wash 10 = .ok (.invokevirtual 74, 3) := by decide +kernel
theorem dX6_wash_13 : decode cX6_wash 13 = .ok (.pop, 1) := by decide +kernel
theorem dX6_wash_14 : decode cX6_wash 14 = .ok (.iconst 0, 1) := by decide +kernel
theorem dX6_wash_15 : decode cX6_wash 15 = .ok (.ireturn, 1) := by decide +kernel
theorem dX6_wash_16 : decode cX6_wash 16 = .ok (.aload_n 0, 1) := by decide +kernel
theorem dX6_wash_17 : decode cX6_wash 17 = .ok (.getfield 30, 3) := by decide +kernel
theorem dX6_wash_20 : decode cX6_wash 20 = .ok (.getfield 110, 3) := by decide +kernel
theorem dX6_wash_23 : decode cX6_wash 23 = .ok (.iload_n 1, 1) := by decide +kernel
theorem dX6_wash_24 : decode cX6_wash 24 = .ok (.iaload, 1) := by decide +kernel
theorem dX6_wash_25 : decode cX6_wash 25 = .ok (.ifCond .ne 11, 3) := by decide +kernel
theorem dX6_wash_28 : decode cX6_wash 28 = .ok (.aload_n 0, 1) := by decide +kernel
theorem dX6_wash_29 : decode cX6_wash 29 = .ok (.iconst 5, 1) := by decide +kernel
theorem dX6_wash_30 : decode cX6_wash 30 = .ok (.invokevirtual 74, 3) := by decide +kernel
theorem dX6_wash_33 : decode cX6_wash 33 = .ok (.pop, 1) := by decide +kernel
theorem dX6_wash_34 : decode cX6_wash 34 = .ok (.iconst 0, 1) := by decide +kernel
theorem dX6_wash_35 : decode cX6_wash 35 = .ok (.ireturn, 1) := by decide +kernel
theorem dX6_wash_36 : decode cX6_wash 36 = .ok (.aload_n 0, 1) := by decide +kernel
theorem dX6_wash_37 : decode cX6_wash 37 = .ok (.getfield 39, 3) := by decide +kernel
theorem dX6_wash_40 : decode cX6_wash 40 = .ok (.aload_n 0, 1) := by decide +kernel
theorem dX6_wash_41 : decode cX6_wash 41 = .ok (.getfield 30, 3) := by decide +kernel
theorem dX6_wash_44 : decode cX6_wash 44 = .ok (.invokevirtual 269, 3) := by decide +kernel
theorem dX6_wash_47 : decode cX6_wash 47 = .ok (.aload_n 0, 1) := by decide +kernel
theorem dX6_wash_48 : decode cX6_wash 48 = .ok (.getfield 30, 3) := by decide +kernel
theorem dX6_wash_51 : decode cX6_wash 51 = .ok (.getfield 110, 3) := by decide +kernel
theorem dX6_wash_54 : decode cX6_wash 54 = .ok (.iload_n 1, 1) := by decide +kernel
theorem dX6_wash_55 : decode cX6_wash 55 = .ok (.iconst 0, 1) := by decide +kernel
theorem dX6_wash_56 : decode cX6_wash 56 = .ok (.iastore, 1) := by decide +kernel
theorem dX6_wash_57 : decode cX6_wash 57 = .ok (.aload_n 0, 1) := by decide +kernel
theorem dX6_wash_58 : decode cX6_wash 58 = .ok (.iconst 0, 1) := by decide +kernel
theorem dX6_wash_59 : decode cX6_wash 59 = .ok (.putfield 57, 3) := by decide +kernel
theorem dX6_wash_62 : decode cX6_wash 62 = .ok (.iconst 1, 1) := by decide +kernel
theorem dX6_wash_63 : decode cX6_wash 63 = .ok (.ireturn, 1) := by decide +kernel
theorem dX6_turn_0 : decode cX6_turn 0 = .ok (.aload_n 0, 1) := by decide +kernel
theorem dX6_turn_1 : decode cX6_turn 1 = .ok (.iload_n 1, 1) := by decide +kernel
theorem dX6_turn_2 : decode cX6_turn 2 = .ok (.invokevirtual 95, 3) := by decide +kernel
theorem dX6_turn_5 : decode cX6_turn 5 = .ok (.ifCond .ne 9, 3) := by decide +kernel
theorem dX6_turn_8 : decode cX6_turn 8 = .ok (.aload_n 0, 1) := by decide +kernel
theorem dX6_turn_9 : decode cX6_turn 9 = .ok (.iconst 1, 1) := by decide +kernel
theorem dX6_turn_10 : decode cX6_turn 10 = .ok (.invokevirtual 74, 3) := by decide +kernel
theorem dX6_turn_13 : decode cX6_turn 13 = .ok (.ireturn, 1) := by decide +kernel
theorem dX6_turn_14 : decode cX6_turn 14 = .ok (.aload_n 0, 1) := by decide +kernel
theorem dX6_turn_15 : decode cX6_turn 15 = .ok (.getfield 39, 3) := by decide +kernel
theorem dX6_turn_18 : decode cX6_turn 18 = .ok (.aload_n 0, 1) := by decide +kernel
theorem dX6_turn_19 : decode cX6_turn 19 = .ok (.getfield 30, 3) := by decide +kernel
theorem dX6_turn_22 : decode cX6_turn 22 = .ok (.invokevirtual 269, 3) := by decide +kernel
theorem dX6_turn_25 : decode cX6_turn 25 = .ok (.aload_n 0, 1) := by decide +kernel
theorem dX6_turn_26 : decode cX6_turn 26 = .ok (.getfield 30, 3) := by decide +kernel
theorem dX6_turn_29 : decode cX6_turn 29 = .ok (.dup, 1) := by decide +kernel
theorem dX6_turn_30 : decode cX6_turn 30 = .ok (.getfield 113, 3) := by decide +kernel
theorem dX6_turn_33 : decode cX6_turn 33 = .ok (.iconst 1, 1) := by decide +kernel
theorem dX6_turn_34 : decode cX6_turn 34 = .ok (.iload_n 1, 1) := by decide +kernel
theorem dX6_turn_35 : decode cX6_turn 35 = .ok (.ishl, 1) := by decide +kernel
theorem dX6_turn_36 : decode cX6_turn 36 = .ok (.ixor, 1) := by decide +kernel
theorem dX6_turn_37 : decode cX6_turn 37 = .ok (.putfield 113, 3) := by decide +kernel
theorem dX6_turn_40 : decode cX6_turn 40 = .ok (.aload_n 0, 1) := by decide +kernel
theorem dX6_turn_41 : decode cX6_turn 41 = .ok (.aload_n 0, 1) := by decide +kernel
theorem dX6_turn_42 : decode cX6_turn 42 = .ok (.getfield 30, 3) := by decide +kernel
theorem dX6_turn_45 : decode cX6_turn 45 = .ok (.getfield 113, 3) := by decide +kernel
theorem dX6_turn_48 : decode cX6_turn 48 = .ok (.iload_n 1, 1) := by decide +kernel
theorem dX6_turn_49 : decode cX6_turn 49 = .ok (.ishr, 1) := by decide +kernel
theorem dX6_turn_50 : decode cX6_turn 50 = .ok (.iconst 1, 1) := by decide +kernel
theorem dX6_turn_51 : decode cX6_turn 51 = .ok (.iand, 1) := by decide +kernel
theorem dX6_turn_52 : decode cX6_turn 52 = .ok (.invokevirtual 92, 3) := by decide +kernel
theorem dX6_turn_55 : decode cX6_turn 55 = .ok (.ireturn, 1) := by decide +kernel
theorem dX6_undo_0 : decode cX6_undo 0 = .ok (.aload_n 0, 1) := by decide +kernel
theorem dX6_undo_1 : decode cX6_undo 1 = .ok (.getfield 39, 3) := by decide +kernel
theorem dX6_undo_4 : decode cX6_undo 4 = .ok (.aload_n 0, 1) := by decide +kernel
theorem dX6_undo_5 : decode cX6_undo 5 = .ok (.getfield 30, 3) := by decide +kernel
theorem dX6_undo_8 : decode cX6_undo 8 = .ok (.invokevirtual 282, 3) := by decide +kernel
theorem dX6_undo_11 : decode cX6_undo 11 = .ok (.istore_n 1, 1) := by decide +kernel
theorem dX6_undo_12 : decode cX6_undo 12 = .ok (.aload_n 0, 1) := by decide +kernel
theorem dX6_undo_13 : decode cX6_undo 13 = .ok (.iload_n 1, 1) := by decide +kernel
theorem dX6_undo_14 : decode cX6_undo 14 = .ok (.ifCond .eq 7, 3) := by decide +kernel
theorem dX6_undo_17 : decode cX6_undo 17 = .ok (.iconst 0, 1) := by decide +kernel
theorem dX6_undo_18 : decode cX6_undo 18 = .ok (.goto 5, 3) := by decide +kernel
theorem dX6_undo_21 : decode cX6_undo 21 = .ok (.bipush 6, 2) := by decide +kernel
theorem dX6_undo_23 : decode cX6_undo 23 = .ok (.putfield 57, 3) := by decide +kernel
theorem dX6_undo_26 : decode cX6_undo 26 = .ok (.iload_n 1, 1) := by decide +kernel
theorem dX6_undo_27 : decode cX6_undo 27 = .ok (.ireturn, 1) := by decide +kernel
theorem dX6_image_0 : decode cX6_image 0 = .ok (.aload_n 0, 1) := by decide +kernel
theorem dX6_image_1 : decode cX6_image 1 = .ok (.invokevirtual 168, 3) := by decide +kernel
theorem dX6_image_4 : decode cX6_image 4 = .ok (.ifCond .eq 9, 3) := by decide +kernel
theorem dX6_image_7 : decode cX6_image 7 = .ok (.aload_n 0, 1) := by decide +kernel
theorem dX6_image_8 : decode cX6_image 8 = .ok (.iconst 1, 1) := by decide +kernel
theorem dX6_image_9 : decode cX6_image 9 = .ok (.invokevirtual 74, 3) := by decide +kernel
theorem dX6_image_12 : decode cX6_image 12 = .ok (.ireturn, 1) := by decide +kernel
theorem dX6_image_13 : decode cX6_image 13 = .ok (.aload_n 0, 1) := by decide +kernel
theorem dX6_image_14 : decode cX6_image 14 = .ok (.getfield 39, 3) := by decide +kernel
theorem dX6_image_17 : decode cX6_image 17 = .ok (.aload_n 0, 1) := by decide +kernel
theorem dX6_image_18 : decode cX6_image 18 = .ok (.getfield 30, 3) := by decide +kernel
theorem dX6_image_21 : decode cX6_image 21 = .ok (.invokevirtual 286, 3) := by decide +kernel
theorem dX6_image_24 : decode cX6_image 24 = .ok (.istore_n 1, 1) := by decide +kernel
theorem dX6_image_25 : decode cX6_image 25 = .ok (.iload_n 1, 1) := by decide +kernel
theorem dX6_image_26 : decode cX6_image 26 = .ok (.iconst (-1), 1) := by decide +kernel
theorem dX6_image_27 : decode cX6_image 27 = .ok (.if_icmp .ne 11, 3) := by decide +kernel
theorem dX6_image_30 : decode cX6_image 30 = .ok (.aload_n 0, 1) := by decide +kernel
theorem dX6_image_31 : decode cX6_image 31 = .ok (.iconst 3, 1) := by decide +kernel
theorem dX6_image_32 : decode cX6_image 32 = .ok (.invokevirtual 74, 3) := by decide +kernel
theorem dX6_image_35 : decode cX6_image 35 = .ok (.goto 8, 3) := by decide +kernel
theorem dX6_image_38 : decode cX6_image 38 = .ok (.aload_n 0, 1) := by decide +kernel
theorem dX6_image_39 : decode cX6_image 39 = .ok (.iload_n 1, 1) := by decide +kernel
theorem dX6_image_40 : decode cX6_image 40 = .ok (.invokevirtual 92, 3) := by decide +kernel
theorem dX6_image_43 : decode cX6_image 43 = .ok (.ireturn, 1) := by decide +kernel
theorem dX6_back_0 : decode cX6_back 0 = .ok (.aload_n 0, 1) := by decide +kernel
theorem dX6_back_1 : decode cX6_back 1 = .ok (.getfield 39, 3) := by decide +kernel
theorem dX6_back_4 : decode cX6_back 4 = .ok (.aload_n 0, 1) := by decide +kernel
theorem dX6_back_5 : decode cX6_back 5 = .ok (.getfield 30, 3) := by decide +kernel
theorem dX6_back_8 : decode cX6_back 8 = .ok (.iload_n 1, 1) := by decide +kernel
theorem dX6_back_9 : decode cX6_back 9 = .ok (.invokevirtual 290, 3) := by decide +kernel
theorem dX6_back_12 : decode cX6_back 12 = .ok (.istore_n 2, 1) := by decide +kernel
theorem dX6_back_13 : decode cX6_back 13 = .ok (.aload_n 0, 1) := by decide +kernel
theorem dX6_back_14 : decode cX6_back 14 = .ok (.iload_n 2, 1) := by decide +kernel
theorem dX6_back_15 : decode cX6_back 15 = .ok (.ifCond .eq 7, 3) := by decide +kernel
theorem dX6_back_18 : decode cX6_back 18 = .ok (.iconst 0, 1) := by decide +kernel
theorem dX6_back_19 : decode cX6_back 19 = .ok (.goto 4, 3) := by decide +kernel
theorem dX6_back_22 : decode cX6_back 22 = .ok (.iconst 1, 1) := by decide +kernel
theorem dX6_back_23 : decode cX6_back 23 = .ok (.putfield 57, 3) := by decide +kernel
theorem dX6_back_26 : decode cX6_back 26 = .ok (.iload_n 2, 1) := by decide +kernel
theorem dX6_back_27 : decode cX6_back 27 = .ok (.ireturn, 1) := by decide +kernel
theorem dX6_led_0 : decode cX6_led 0 = .ok (.iconst 1, 1) := by decide +kernel
theorem dX6_led_1 : decode cX6_led 1 = .ok (.aload_n 0, 1) := by decide +kernel
theorem dX6_led_2 : decode cX6_led 2 = .ok (.getfield 19, 3) := by decide +kernel
theorem dX6_led_5 : decode cX6_led 5 = .ok (.getfield 179, 3) := by decide +kernel
theorem dX6_led_8 : decode cX6_led 8 = .ok (.ishl, 1) := by decide +kernel
theorem dX6_led_9 : decode cX6_led 9 = .ok (.iconst 1, 1) := by decide +kernel
theorem dX6_led_10 : decode cX6_led 10 = .ok (.isub, 1) := by decide +kernel
theorem dX6_led_11 : decode cX6_led 11 = .ok (.aload_n 0, 1) := by decide +kernel
theorem dX6_led_12 : decode cX6_led 12 = .ok (.getfield 30, 3) := by decide +kernel
theorem dX6_led_15 : decode cX6_led 15 = .ok (.iconst 0, 1) := by decide +kernel
theorem dX6_led_16 : decode cX6_led 16 = .ok (.invokevirtual 182, 3) := by decide +kernel
theorem dX6_led_19 : decode cX6_led 19 = .ok (.iconst (-1), 1) := by decide +kernel
theorem dX6_led_20 : decode cX6_led 20 = .ok (.ixor, 1) := by decide +kernel
theorem dX6_led_21 : decode cX6_led 21 = .ok (.iand, 1) := by decide +kernel
theorem dX6_led_22 : decode cX6_led 22 = .ok (.istore_n 2, 1) := by decide +kernel
theorem dX6_led_23 : decode cX6_led 23 = .ok (.iload_n 2, 1) := by decide +kernel
theorem dX6_led_24 : decode cX6_led 24 = .ok (.i2l, 1) := by decide +kernel
theorem dX6_led_25 : decode cX6_led 25 = .ok (.iload_n 1, 1) := by decide +kernel
theorem dX6_led_26 : decode cX6_led 26 = .ok (.invokestatic 150, 3) := by decide +kernel
theorem dX6_led_29 : decode cX6_led 29 = .ok (.istore_n 3, 1) := by decide +kernel
theorem dX6_led_30 : decode cX6_led 30 = .ok (.iload_n 3, 1) := by decide +kernel
theorem dX6_led_31 : decode cX6_led 31 = .ok (.iconst (-1), 1) := by decide +kernel
theorem dX6_led_32 : decode cX6_led 32 = .ok (.if_icmp .ne 14, 3) := by decide +kernel
theorem dX6_led_35 : decode cX6_led 35 = .ok (.new 294, 3) := by decide +kernel
theorem dX6_led_38 : decode cX6_led 38 = .ok (.dup, 1) := by decide +kernel
theorem dX6_led_39 : decode cX6_led 39 = .ok (.ldc_w 296, 3) := by decide +kernel
theorem dX6_led_42 : decode cX6_led 42 = .ok (.invokespecial 298, 3) := by decide +kernel
theorem dX6_led_45 : decode cX6_led 45 = .ok (.athrow, 1) := by decide +kernel
theorem dX6_led_46 : decode cX6_led 46 = .ok (.iload_n 3, 1) := by decide +kernel
theorem dX6_led_47 : decode cX6_led 47 = .ok (.ireturn, 1) := by decide +kernel
theorem dX6_size_0 : decode cX6_size 0 = .ok (.iload_n 1, 1) := by decide +kernel
theorem dX6_size_1 : decode cX6_size 1 = .ok (.tableswitch 159 0 11 #[63, 71, 79, 87, 95, 103, 111, 119, 127, 135, 143, 151], 63) := by decide +kernel
theorem dX6_size_64 : decode cX6_size 64 = .ok (.aload_n 0, 1) := by decide +kernel
theorem dX6_size_65 : decode cX6_size 65 = .ok (.getfield 19, 3) := by decide +kernel
theorem dX6_size_68 : decode cX6_size 68 = .ok (.getfield 275, 3) := by decide +kernel
theorem dX6_size_71 : decode cX6_size 71 = .ok (.ireturn, 1) := by decide +kernel
theorem dX6_size_72 : decode cX6_size 72 = .ok (.aload_n 0, 1) := by decide +kernel
theorem dX6_size_73 : decode cX6_size 73 = .ok (.getfield 19, 3) := by decide +kernel
theorem dX6_size_76 : decode cX6_size 76 = .ok (.getfield 301, 3) := by decide +kernel
theorem dX6_size_79 : decode cX6_size 79 = .ok (.ireturn, 1) := by decide +kernel
theorem dX6_size_80 : decode cX6_size 80 = .ok (.aload_n 0, 1) := by decide +kernel
theorem dX6_size_81 : decode cX6_size 81 = .ok (.getfield 19, 3) := by decide +kernel
theorem dX6_size_84 : decode cX6_size 84 = .ok (.getfield 246, 3) := by decide +kernel
theorem dX6_size_87 : decode cX6_size 87 = .ok (.ireturn, 1) := by decide +kernel
theorem dX6_size_88 : decode cX6_size 88 = .ok (.aload_n 0, 1) := by decide +kernel
theorem dX6_size_89 : decode cX6_size 89 = .ok (.getfield 19, 3) := by decide +kernel
theorem dX6_size_92 : decode cX6_size 92 = .ok (.getfield 89, 3) := by decide +kernel
theorem dX6_size_95 : decode cX6_size 95 = .ok (.ireturn, 1) := by decide +kernel
theorem dX6_size_96 : decode cX6_size 96 = .ok (.aload_n 0, 1) := by decide +kernel
theorem dX6_size_97 : decode cX6_size 97 = .ok (.getfield 19, 3) := by decide +kernel
theorem dX6_size_100 : decode cX6_size 100 = .ok (.getfield 304, 3) := by decide +kernel
theorem dX6_size_103 : decode cX6_size 103 = .ok (.ireturn, 1) := by decide +kernel
theorem dX6_size_104 : decode cX6_size 104 = .ok (.aload_n 0, 1) := by decide +kernel
theorem dX6_size_105 : decode cX6_size 105 = .ok (.getfield 19, 3) := by decide +kernel
theorem dX6_size_108 : decode cX6_size 108 = .ok (.getfield 179, 3) := by decide +kernel
theorem dX6_size_111 : decode cX6_size 111 = .ok (.ireturn, 1) := by decide +kernel
theorem dX6_size_112 : decode cX6_size 112 = .ok (.aload_n 0, 1) := by decide +kernel
theorem dX6_size_113 : decode cX6_size 113 = .ok (.getfield 19, 3) := by decide +kernel
theorem dX6_size_116 : decode cX6_size 116 = .ok (.getfield 204, 3) := by decide +kernel
theorem dX6_size_119 : decode cX6_size 119 = .ok (.ireturn, 1) := by decide +kernel
theorem dX6_size_120 : decode cX6_size 120 = .ok (.aload_n 0, 1) := by decide +kernel
theorem dX6_size_121 : decode cX6_size 121 = .ok (.getfield 19, 3) := by decide +kernel
theorem dX6_size_124 : decode cX6_size 124 = .ok (.getfield 223, 3) := by decide +kernel
theorem dX6_size_127 : decode cX6_size 127 = .ok (.ireturn, 1) := by decide +kernel
theorem dX6_size_128 : decode cX6_size 128 = .ok (.aload_n 0, 1) := by decide +kernel
theorem dX6_size_129 : decode cX6_size 129 = .ok (.getfield 30, 3) := by decide +kernel
theorem dX6_size_132 : decode cX6_size 132 = .ok (.getfield 266, 3) := by decide +kernel
theorem dX6_size_135 : decode cX6_size 135 = .ok (.ireturn, 1) := by decide +kernel
theorem dX6_size_136 : decode cX6_size 136 = .ok (.aload_n 0, 1) := by decide +kernel
theorem dX6_size_137 : decode cX6_size 137 = .ok (.getfield 39, 3) := by decide +kernel
theorem dX6_size_140 : decode cX6_size 140 = .ok (.getfield 307, 3) := by decide +kernel
theorem dX6_size_143 : decode cX6_size 143 = .ok (.ireturn, 1) := by decide +kernel
theorem dX6_size_144 : decode cX6_size 144 = .ok (.aload_n 0, 1) := by decide +kernel
theorem dX6_size_145 : decode cX6_size 145 = .ok (.getfield 39, 3) := by decide +kernel
theorem dX6_size_148 : decode cX6_size 148 = .ok (.getfield 310, 3) := by decide +kernel
theorem dX6_size_151 : decode cX6_size 151 = .ok (.ireturn, 1) := by decide +kernel
theorem dX6_size_152 : decode cX6_size 152 = .ok (.aload_n 0, 1) := by decide +kernel
theorem dX6_size_153 : decode cX6_size 153 = .ok (.getfield 12, 3) := by decide +kernel
theorem dX6_size_156 : decode cX6_size 156 = .ok (.getfield 67, 3) := by decide +kernel
theorem dX6_size_159 : decode cX6_size 159 = .ok (.ireturn, 1) := by decide +kernel
theorem dX6_size_160 : decode cX6_size 160 = .ok (.iconst (-1), 1) := by decide +kernel
theorem dX6_size_161 : decode cX6_size 161 = .ok (.ireturn, 1) := by decide +kernel
theorem dX6_trouble_0 : decode cX6_trouble 0 = .ok (.aload_n 0, 1) := by decide +kernel
theorem dX6_trouble_1 : decode cX6_trouble 1 = .ok (.getfield 57, 3) := by decide +kernel
theorem dX6_trouble_4 : decode cX6_trouble 4 = .ok (.ireturn, 1) := by decide +kernel
theorem dX6_refused_0 : decode cX6_refused 0 = .ok (.aload_n 0, 1) := by decide +kernel
theorem dX6_refused_1 : decode cX6_refused 1 = .ok (.iload_n 1, 1) := by decide +kernel
theorem dX6_refused_2 : decode cX6_refused 2 = .ok (.putfield 57, 3) := by decide +kernel
theorem dX6_refused_5 : decode cX6_refused 5 = .ok (.iconst (-1), 1) := by decide +kernel
theorem dX6_refused_6 : decode cX6_refused 6 = .ok (.ireturn, 1) := by decide +kernel
theorem dX6_answered_0 : decode cX6_answered 0 = .ok (.aload_n 0, 1) := by decide +kernel
theorem dX6_answered_1 : decode cX6_answered 1 = .ok (.iconst 0, 1) := by decide +kernel
theorem dX6_answered_2 : decode cX6_answered 2 = .ok (.putfield 57, 3) := by decide +kernel
theorem dX6_answered_5 : decode cX6_answered 5 = .ok (.iload_n 1, 1) := by decide +kernel
theorem dX6_answered_6 : decode cX6_answered 6 = .ok (.ireturn, 1) := by decide +kernel
theorem dX6_noCity_0 : decode cX6_noCity 0 = .ok (.aload_n 0, 1) := by decide +kernel
theorem dX6_noCity_1 : decode cX6_noCity 1 = .ok (.getfield 19, 3) := by decide +kernel
theorem dX6_noCity_4 : decode cX6_noCity 4 = .ok (.getfield 89, 3) := by decide +kernel
theorem dX6_noCity_7 : decode cX6_noCity 7 = .ok (.ifCond .ne 7, 3) := by decide +kernel
theorem dX6_noCity_10 : decode cX6_noCity 10 = .ok (.iconst 1, 1) := by decide +kernel
theorem dX6_noCity_11 : decode cX6_noCity 11 = .ok (.goto 4, 3) := by decide +kernel
theorem dX6_noCity_14 : decode cX6_noCity 14 = .ok (.iconst 0, 1) := by decide +kernel
theorem dX6_noCity_15 : decode cX6_noCity 15 = .ok (.ireturn, 1) := by decide +kernel
theorem dX6_isMan_0 : decode cX6_isMan 0 = .ok (.iload_n 1, 1) := by decide +kernel
theorem dX6_isMan_1 : decode cX6_isMan 1 = .ok (.ifCond .lt 18, 3) := by decide +kernel
theorem dX6_isMan_4 : decode cX6_isMan 4 = .ok (.iload_n 1, 1) := by decide +kernel
theorem dX6_isMan_5 : decode cX6_isMan 5 = .ok (.aload_n 0, 1) := by decide +kernel
theorem dX6_isMan_6 : decode cX6_isMan 6 = .ok (.getfield 19, 3) := by decide +kernel
theorem dX6_isMan_9 : decode cX6_isMan 9 = .ok (.getfield 89, 3) := by decide +kernel
theorem dX6_isMan_12 : decode cX6_isMan 12 = .ok (.if_icmp .ge 7, 3) := by decide +kernel
theorem dX6_isMan_15 : decode cX6_isMan 15 = .ok (.iconst 1, 1) := by decide +kernel
theorem dX6_isMan_16 : decode cX6_isMan 16 = .ok (.goto 4, 3) := by decide +kernel
theorem dX6_isMan_19 : decode cX6_isMan 19 = .ok (.iconst 0, 1) := by decide +kernel
theorem dX6_isMan_20 : decode cX6_isMan 20 = .ok (.ireturn, 1) := by decide +kernel
theorem dX6_isClause_0 : decode cX6_isClause 0 = .ok (.iload_n 1, 1) := by decide +kernel
theorem dX6_isClause_1 : decode cX6_isClause 1 = .ok (.ifCond .lt 18, 3) := by decide +kernel
theorem dX6_isClause_4 : decode cX6_isClause 4 = .ok (.iload_n 1, 1) := by decide +kernel
theorem dX6_isClause_5 : decode cX6_isClause 5 = .ok (.aload_n 0, 1) := by decide +kernel
theorem dX6_isClause_6 : decode cX6_isClause 6 = .ok (.getfield 19, 3) := by decide +kernel
theorem dX6_isClause_9 : decode cX6_isClause 9 = .ok (.getfield 179, 3) := by decide +kernel
theorem dX6_isClause_12 : decode cX6_isClause 12 = .ok (.if_icmp .ge 7, 3) := by decide +kernel
theorem dX6_isClause_15 : decode cX6_isClause 15 = .ok (.iconst 1, 1) := by decide +kernel
theorem dX6_isClause_16 : decode cX6_isClause 16 = .ok (.goto 4, 3) := by decide +kernel
theorem dX6_isClause_19 : decode cX6_isClause 19 = .ok (.iconst 0, 1) := by decide +kernel
theorem dX6_isClause_20 : decode cX6_isClause 20 = .ok (.ireturn, 1) := by decide +kernel
theorem dX6_isSet_0 : decode cX6_isSet 0 = .ok (.iload_n 1, 1) := by decide +kernel
theorem dX6_isSet_1 : decode cX6_isSet 1 = .ok (.ifCond .lt 15, 3) := by decide +kernel
theorem dX6_isSet_4 : decode cX6_isSet 4 = .ok (.iload_n 1, 1) := by decide +kernel
theorem dX6_isSet_5 : decode cX6_isSet 5 = .ok (.aload_n 0, 1) := by decide +kernel
theorem dX6_isSet_6 : decode cX6_isSet 6 = .ok (.invokevirtual 160, 3) := by decide +kernel
theorem dX6_isSet_9 : decode cX6_isSet 9 = .ok (.if_icmp .ge 7, 3) := by decide +kernel
theorem dX6_isSet_12 : decode cX6_isSet 12 = .ok (.iconst 1, 1) := by decide +kernel
theorem dX6_isSet_13 : decode cX6_isSet 13 = .ok (.goto 4, 3) := by decide +kernel
theorem dX6_isSet_16 : decode cX6_isSet 16 = .ok (.iconst 0, 1) := by decide +kernel
theorem dX6_isSet_17 : decode cX6_isSet 17 = .ok (.ireturn, 1) := by decide +kernel
theorem dX6_isAhead_0 : decode cX6_isAhead 0 = .ok (.iload_n 0, 1) := by decide +kernel
theorem dX6_isAhead_1 : decode cX6_isAhead 1 = .ok (.ifCond .lt 13, 3) := by decide +kernel
theorem dX6_isAhead_4 : decode cX6_isAhead 4 = .ok (.iload_n 0, 1) := by decide +kernel
theorem dX6_isAhead_5 : decode cX6_isAhead 5 = .ok (.bipush 60, 2) := by decide +kernel
theorem dX6_isAhead_7 : decode cX6_isAhead 7 = .ok (.if_icmp .gt 7, 3) := by decide +kernel
theorem dX6_isAhead_10 : decode cX6_isAhead 10 = .ok (.iconst 1, 1) := by decide +kernel
theorem dX6_isAhead_11 : decode cX6_isAhead 11 = .ok (.goto 4, 3) := by decide +kernel
theorem dX6_isAhead_14 : decode cX6_isAhead 14 = .ok (.iconst 0, 1) := by decide +kernel
theorem dX6_isAhead_15 : decode cX6_isAhead 15 = .ok (.ireturn, 1) := by decide +kernel
theorem dX6_isSeed_0 : decode cX6_isSeed 0 = .ok (.iload_n 0, 1) := by decide +kernel
theorem dX6_isSeed_1 : decode cX6_isSeed 1 = .ok (.ifCond .lt 14, 3) := by decide +kernel
theorem dX6_isSeed_4 : decode cX6_isSeed 4 = .ok (.iload_n 0, 1) := by decide +kernel
theorem dX6_isSeed_5 : decode cX6_isSeed 5 = .ok (.ldc_w 313, 3) := by decide +kernel
theorem dX6_isSeed_8 : decode cX6_isSeed 8 = .ok (.if_icmp .ge 7, 3) := by decide +kernel
theorem dX6_isSeed_11 : decode cX6_isSeed 11 = .ok (.iconst 1, 1) := by decide +kernel
theorem dX6_isSeed_12 : decode cX6_isSeed 12 = .ok (.goto 4, 3) := by decide +kernel
theorem dX6_isSeed_15 : decode cX6_isSeed 15 = .ok (.iconst 0, 1) := by decide +kernel
theorem dX6_isSeed_16 : decode cX6_isSeed 16 = .ok (.ireturn, 1) := by decide +kernel
theorem dX6_chainTrouble_0 : decode cX6_chainTrouble 0 = .ok (.aload_n 0, 1) := by decide +kernel
theorem dX6_chainTrouble_1 : decode cX6_chainTrouble 1 = .ok (.invokevirtual 168, 3) := by decide +kernel
theorem dX6_chainTrouble_4 : decode cX6_chainTrouble 4 = .ok (.ifCond .eq 5, 3) := by decide +kernel
theorem dX6_chainTrouble_7 : decode cX6_chainTrouble 7 = .ok (.iconst 1, 1) := by decide +kernel
theorem dX6_chainTrouble_8 : decode cX6_chainTrouble 8 = .ok (.ireturn, 1) := by decide +kernel
theorem dX6_chainTrouble_9 : decode cX6_chainTrouble 9 = .ok (.iload_n 1, 1) := by decide +kernel
theorem dX6_chainTrouble_10 : decode cX6_chainTrouble 10 = .ok (.ifCond .lt 9, 3) := by decide +kernel
theorem dX6_chainTrouble_13 : decode cX6_chainTrouble 13 = .ok (.iload_n 1, 1) := by decide +kernel
theorem dX6_chainTrouble_14 : decode cX6_chainTrouble 14 = .ok (.bipush 9, 2) := by decide +kernel
theorem dX6_chainTrouble_16 : decode cX6_chainTrouble 16 = .ok (.if_icmp .le 7, 3) := by decide +kernel
theorem dX6_chainTrouble_19 : decode cX6_chainTrouble 19 = .ok (.iconst 2, 1) := by decide +kernel
theorem dX6_chainTrouble_20 : decode cX6_chainTrouble 20 = .ok (.goto 4, 3) := by decide +kernel
theorem dX6_chainTrouble_23 : decode cX6_chainTrouble 23 = .ok (.iconst 0, 1) := by decide +kernel
theorem dX6_chainTrouble_24 : decode cX6_chainTrouble 24 = .ok (.ireturn, 1) := by decide +kernel
theorem dX6_settle_0 : decode cX6_settle 0 = .ok (.aload_n 0, 1) := by decide +kernel
theorem dX6_settle_1 : decode cX6_settle 1 = .ok (.aload_n 0, 1) := by decide +kernel
theorem dX6_settle_2 : decode cX6_settle 2 = .ok (.getfield 12, 3) := by decide +kernel
theorem dX6_settle_5 : decode cX6_settle 5 = .ok (.aload_n 0, 1) := by decide +kernel
theorem dX6_settle_6 : decode cX6_settle 6 = .ok (.getfield 19, 3) := by decide +kernel
theorem dX6_settle_9 : decode cX6_settle 9 = .ok (.invokevirtual 314, 3) := by decide +kernel
theorem dX6_settle_12 : decode cX6_settle 12 = .ok (.putfield 19, 3) := by decide +kernel
theorem dX6_settle_15 : decode cX6_settle 15 = .ok (.aload_n 0, 1) := by decide +kernel
theorem dX6_settle_16 : decode cX6_settle 16 = .ok (.getfield 26, 3) := by decide +kernel
theorem dX6_settle_19 : decode cX6_settle 19 = .ok (.invokevirtual 318, 3) := by decide +kernel
theorem dX6_settle_22 : decode cX6_settle 22 = .ok (.iconst 0, 1) := by decide +kernel
theorem dX6_settle_23 : decode cX6_settle 23 = .ok (.istore_n 1, 1) := by decide +kernel
theorem dX6_settle_24 : decode cX6_settle 24 = .ok (.iload_n 1, 1) := by decide +kernel
theorem dX6_settle_25 : decode cX6_settle 25 = .ok (.aload_n 0, 1) := by decide +kernel
theorem dX6_settle_26 : decode cX6_settle 26 = .ok (.getfield 19, 3) := by decide +kernel
theorem dX6_settle_29 : decode cX6_settle 29 = .ok (.getfield 179, 3) := by decide +kernel
theorem dX6_settle_32 : decode cX6_settle 32 = .ok (.if_icmp .ge 43, 3) := by decide +kernel
theorem dX6_settle_35 : decode cX6_settle 35 = .ok (.aload_n 0, 1) := by decide +kernel
theorem dX6_settle_36 : decode cX6_settle 36 = .ok (.getfield 26, 3) := by decide +kernel
theorem dX6_settle_39 : decode cX6_settle 39 = .ok (.iload_n 1, 1) := by decide +kernel
theorem dX6_settle_40 : decode cX6_settle 40 = .ok (.aload_n 0, 1) := by decide +kernel
theorem dX6_settle_41 : decode cX6_settle 41 = .ok (.getfield 19, 3) := by decide +kernel
theorem dX6_settle_44 : decode cX6_settle 44 = .ok (.getfield 321, 3) := by decide +kernel
theorem dX6_settle_47 : decode cX6_settle 47 = .ok (.iload_n 1, 1) := by decide +kernel
theorem dX6_settle_48 : decode cX6_settle 48 = .ok (.iaload, 1) := by decide +kernel
theorem dX6_settle_49 : decode cX6_settle 49 = .ok (.aload_n 0, 1) := by decide +kernel
theorem dX6_settle_50 : decode cX6_settle 50 = .ok (.getfield 19, 3) := by decide +kernel
theorem dX6_settle_53 : decode cX6_settle 53 = .ok (.getfield 116, 3) := by decide +kernel
theorem dX6_settle_56 : decode cX6_settle 56 = .ok (.iload_n 1, 1) := by decide +kernel
theorem dX6_settle_57 : decode cX6_settle 57 = .ok (.iaload, 1) := by decide +kernel
theorem dX6_settle_58 : decode cX6_settle 58 = .ok (.aload_n 0, 1) := by decide +kernel
theorem dX6_settle_59 : decode cX6_settle 59 = .ok (.getfield 19, 3) := by decide +kernel
theorem dX6_settle_62 : decode cX6_settle 62 = .ok (.getfield 275, 3) := by decide +kernel
theorem dX6_settle_65 : decode cX6_settle 65 = .ok (.invokevirtual 278, 3) := by decide +kernel
theorem dX6_settle_68 : decode cX6_settle 68 = .ok (.pop, 1) := by decide +kernel
theorem dX6_settle_69 : decode cX6_settle 69 = .ok (.iinc 1 1, 3) := by decide +kernel
theorem dX6_settle_72 : decode cX6_settle 72 = .ok (.goto (-48), 3) := by decide +kernel
theorem dX6_settle_75 : decode cX6_settle 75 = .ok (.aload_n 0, 1) := by decide +kernel
theorem dX6_settle_76 : decode cX6_settle 76 = .ok (.getfield 30, 3) := by decide +kernel
theorem dX6_settle_79 : decode cX6_settle 79 = .ok (.aload_n 0, 1) := by decide +kernel
theorem dX6_settle_80 : decode cX6_settle 80 = .ok (.getfield 26, 3) := by decide +kernel
theorem dX6_settle_83 : decode cX6_settle 83 = .ok (.invokevirtual 259, 3) := by decide +kernel
theorem dX6_settle_86 : decode cX6_settle 86 = .ok (.aload_n 0, 1) := by decide +kernel
theorem dX6_settle_87 : decode cX6_settle 87 = .ok (.getfield 39, 3) := by decide +kernel
theorem dX6_settle_90 : decode cX6_settle 90 = .ok (.invokevirtual 322, 3) := by decide +kernel
theorem dX6_settle_93 : decode cX6_settle 93 = .ok (.aload_n 0, 1) := by decide +kernel
theorem dX6_settle_94 : decode cX6_settle 94 = .ok (.getfield 46, 3) := by decide +kernel
theorem dX6_settle_97 : decode cX6_settle 97 = .ok (.aload_n 0, 1) := by decide +kernel
theorem dX6_settle_98 : decode cX6_settle 98 = .ok (.getfield 19, 3) := by decide +kernel
theorem dX6_settle_101 : decode cX6_settle 101 = .ok (.aload_n 0, 1) := by decide +kernel
theorem dX6_settle_102 : decode cX6_settle 102 = .ok (.getfield 26, 3) := by decide +kernel
theorem dX6_settle_105 : decode cX6_settle 105 = .ok (.invokevirtual 325, 3) := by decide +kernel
theorem dX6_settle_108 : decode cX6_settle 108 = .ok (.return_, 1) := by decide +kernel
theorem dX6_isIn_0 : decode cX6_isIn 0 = .ok (.lload_n 0, 1) := by decide +kernel
theorem dX6_isIn_1 : decode cX6_isIn 1 = .ok (.iload_n 2, 1) := by decide +kernel
theorem dX6_isIn_2 : decode cX6_isIn 2 = .ok (.lushr, 1) := by decide +kernel
theorem dX6_isIn_3 : decode cX6_isIn 3 = .ok (.lconst 1, 1) := by decide +kernel
theorem dX6_isIn_4 : decode cX6_isIn 4 = .ok (.land, 1) := by decide +kernel
theorem dX6_isIn_5 : decode cX6_isIn 5 = .ok (.lconst 0, 1) := by decide +kernel
theorem dX6_isIn_6 : decode cX6_isIn 6 = .ok (.lcmp, 1) := by decide +kernel
theorem dX6_isIn_7 : decode cX6_isIn 7 = .ok (.ifCond .eq 7, 3) := by decide +kernel
theorem dX6_isIn_10 : decode cX6_isIn 10 = .ok (.iconst 1, 1) := by decide +kernel
theorem dX6_isIn_11 : decode cX6_isIn 11 = .ok (.goto 4, 3) := by decide +kernel
theorem dX6_isIn_14 : decode cX6_isIn 14 = .ok (.iconst 0, 1) := by decide +kernel
theorem dX6_isIn_15 : decode cX6_isIn 15 = .ok (.ireturn, 1) := by decide +kernel
theorem dX6_isPart_0 : decode cX6_isPart 0 = .ok (.iload_n 0, 1) := by decide +kernel
theorem dX6_isPart_1 : decode cX6_isPart 1 = .ok (.iload_n 1, 1) := by decide +kernel
theorem dX6_isPart_2 : decode cX6_isPart 2 = .ok (.iconst (-1), 1) := by decide +kernel
theorem dX6_isPart_3 : decode cX6_isPart 3 = .ok (.ixor, 1) := by decide +kernel
theorem dX6_isPart_4 : decode cX6_isPart 4 = .ok (.iand, 1) := by decide +kernel
theorem dX6_isPart_5 : decode cX6_isPart 5 = .ok (.ifCond .ne 7, 3) := by decide +kernel
theorem dX6_isPart_8 : decode cX6_isPart 8 = .ok (.iconst 1, 1) := by decide +kernel
theorem dX6_isPart_9 : decode cX6_isPart 9 = .ok (.goto 4, 3) := by decide +kernel
theorem dX6_isPart_12 : decode cX6_isPart 12 = .ok (.iconst 0, 1) := by decide +kernel
theorem dX6_isPart_13 : decode cX6_isPart 13 = .ok (.ireturn, 1) := by decide +kernel
theorem dX6_bitAt_0 : decode cX6_bitAt 0 = .ok (.iconst 0, 1) := by decide +kernel
theorem dX6_bitAt_1 : decode cX6_bitAt 1 = .ok (.istore_n 3, 1) := by decide +kernel
theorem dX6_bitAt_2 : decode cX6_bitAt 2 = .ok (.iconst 0, 1) := by decide +kernel
theorem dX6_bitAt_3 : decode cX6_bitAt 3 = .ok (.istore 4, 2) := by decide +kernel
theorem dX6_bitAt_5 : decode cX6_bitAt 5 = .ok (.iload 4, 2) := by decide +kernel
theorem dX6_bitAt_7 : decode cX6_bitAt 7 = .ok (.bipush 64, 2) := by decide +kernel
theorem dX6_bitAt_9 : decode cX6_bitAt 9 = .ok (.if_icmp .ge 29, 3) := by decide +kernel
theorem dX6_bitAt_12 : decode cX6_bitAt 12 = .ok (.lload_n 0, 1) := by decide +kernel
theorem dX6_bitAt_13 : decode cX6_bitAt 13 = .ok (.iload 4, 2) := by decide +kernel
theorem dX6_bitAt_15 : decode cX6_bitAt 15 = .ok (.invokestatic 137, 3) := by decide +kernel
theorem dX6_bitAt_18 : decode cX6_bitAt 18 = .ok (.ifCond .eq 14, 3) := by decide +kernel
theorem dX6_bitAt_21 : decode cX6_bitAt 21 = .ok (.iload_n 3, 1) := by decide +kernel
theorem dX6_bitAt_22 : decode cX6_bitAt 22 = .ok (.iload_n 2, 1) := by decide +kernel
theorem dX6_bitAt_23 : decode cX6_bitAt 23 = .ok (.if_icmp .ne 6, 3) := by decide +kernel
theorem dX6_bitAt_26 : decode cX6_bitAt 26 = .ok (.iload 4, 2) := by decide +kernel
theorem dX6_bitAt_28 : decode cX6_bitAt 28 = .ok (.ireturn, 1) := by decide +kernel
theorem dX6_bitAt_29 : decode cX6_bitAt 29 = .ok (.iinc 3 1, 3) := by decide +kernel
theorem dX6_bitAt_32 : decode cX6_bitAt 32 = .ok (.iinc 4 1, 3) := by decide +kernel
theorem dX6_bitAt_35 : decode cX6_bitAt 35 = .ok (.goto (-30), 3) := by decide +kernel
theorem dX6_bitAt_38 : decode cX6_bitAt 38 = .ok (.iconst (-1), 1) := by decide +kernel
theorem dX6_bitAt_39 : decode cX6_bitAt 39 = .ok (.ireturn, 1) := by decide +kernel
theorem dX6_setCount_0 : decode cX6_setCount 0 = .ok (.iconst 1, 1) := by decide +kernel
theorem dX6_setCount_1 : decode cX6_setCount 1 = .ok (.aload_n 0, 1) := by decide +kernel
theorem dX6_setCount_2 : decode cX6_setCount 2 = .ok (.getfield 19, 3) := by decide +kernel
theorem dX6_setCount_5 : decode cX6_setCount 5 = .ok (.getfield 304, 3) := by decide +kernel
theorem dX6_setCount_8 : decode cX6_setCount 8 = .ok (.ishl, 1) := by decide +kernel
theorem dX6_setCount_9 : decode cX6_setCount 9 = .ok (.ireturn, 1) := by decide +kernel
theorem dX6_bound_0 : decode cX6_bound 0 = .ok (.aload_n 0, 1) := by decide +kernel
theorem dX6_bound_1 : decode cX6_bound 1 = .ok (.getfield 30, 3) := by decide +kernel
theorem dX6_bound_4 : decode cX6_bound 4 = .ok (.iload_n 2, 1) := by decide +kernel
theorem dX6_bound_5 : decode cX6_bound 5 = .ok (.invokevirtual 182, 3) := by decide +kernel
theorem dX6_bound_8 : decode cX6_bound 8 = .ok (.aload_n 0, 1) := by decide +kernel
theorem dX6_bound_9 : decode cX6_bound 9 = .ok (.getfield 30, 3) := by decide +kernel
theorem dX6_bound_12 : decode cX6_bound 12 = .ok (.iload_n 1, 1) := by decide +kernel
theorem dX6_bound_13 : decode cX6_bound 13 = .ok (.invokevirtual 120, 3) := by decide +kernel
theorem dX6_bound_16 : decode cX6_bound 16 = .ok (.iand, 1) := by decide +kernel
theorem dX6_bound_17 : decode cX6_bound 17 = .ok (.ireturn, 1) := by decide +kernel
theorem dX6_setsUnder_0 : decode cX6_setsUnder 0 = .ok (.aload_n 0, 1) := by decide +kernel
theorem dX6_setsUnder_1 : decode cX6_setsUnder 1 = .ok (.getfield 19, 3) := by decide +kernel
theorem dX6_setsUnder_4 : decode cX6_setsUnder 4 = .ok (.iload_n 1, 1) := by decide +kernel
theorem dX6_setsUnder_5 : decode cX6_setsUnder 5 = .ok (.aload_n 0, 1) := by decide +kernel
theorem dX6_setsUnder_6 : decode cX6_setsUnder 6 = .ok (.getfield 30, 3) := by decide +kernel
theorem dX6_setsUnder_9 : decode cX6_setsUnder 9 = .ok (.getfield 113, 3) := by decide +kernel
theorem dX6_setsUnder_12 : decode cX6_setsUnder 12 = .ok (.invokevirtual 329, 3) := by decide +kernel
theorem dX6_setsUnder_15 : decode cX6_setsUnder 15 = .ok (.lreturn, 1) := by decide +kernel
theorem dX6_waysOf_0 : decode cX6_waysOf 0 = .ok (.aload_n 0, 1) := by decide +kernel
theorem dX6_waysOf_1 : decode cX6_waysOf 1 = .ok (.aload_n 0, 1) := by decide +kernel
theorem dX6_waysOf_2 : decode cX6_waysOf 2 = .ok (.iload_n 1, 1) := by decide +kernel
theorem dX6_waysOf_3 : decode cX6_waysOf 3 = .ok (.iconst 0, 1) := by decide +kernel
theorem dX6_waysOf_4 : decode cX6_waysOf 4 = .ok (.invokevirtual 123, 3) := by decide +kernel
theorem dX6_waysOf_7 : decode cX6_waysOf 7 = .ok (.invokevirtual 133, 3) := by decide +kernel
theorem dX6_waysOf_10 : decode cX6_waysOf 10 = .ok (.lreturn, 1) := by decide +kernel
theorem dX6_deedsInSome_0 : decode cX6_deedsInSome 0 = .ok (.iconst 0, 1) := by decide +kernel
theorem dX6_deedsInSome_1 : decode cX6_deedsInSome 1 = .ok (.istore_n 3, 1) := by decide +kernel
theorem dX6_deedsInSome_2 : decode cX6_deedsInSome 2 = .ok (.iconst 0, 1) := by decide +kernel
theorem dX6_deedsInSome_3 : decode cX6_deedsInSome 3 = .ok (.istore 4, 2) := by decide +kernel
theorem dX6_deedsInSome_5 : decode cX6_deedsInSome 5 = .ok (.iload 4, 2) := by decide +kernel
theorem dX6_deedsInSome_7 : decode cX6_deedsInSome 7 = .ok (.aload_n 0, 1) := by decide +kernel
theorem dX6_deedsInSome_8 : decode cX6_deedsInSome 8 = .ok (.getfield 19, 3) := by decide +kernel
theorem dX6_deedsInSome_11 : decode cX6_deedsInSome 11 = .ok (.getfield 304, 3) := by decide +kernel
theorem dX6_deedsInSome_14 : decode cX6_deedsInSome 14 = .ok (.if_icmp .ge 28, 3) := by decide +kernel
theorem dX6_deedsInSome_17 : decode cX6_deedsInSome 17 = .ok (.lload_n 1, 1) := by decide +kernel
theorem dX6_deedsInSome_18 : decode cX6_deedsInSome 18 = .ok (.iload 4, 2) := by decide +kernel
theorem dX6_deedsInSome_20 : decode cX6_deedsInSome 20 = .ok (.invokestatic 332, 3) := by decide +kernel
theorem dX6_deedsInSome_23 : decode cX6_deedsInSome 23 = .ok (.land, 1) := by decide +kernel
theorem dX6_deedsInSome_24 : decode cX6_deedsInSome 24 = .ok (.lconst 0, 1) := by decide +kernel
theorem dX6_deedsInSome_25 : decode cX6_deedsInSome 25 = .ok (.lcmp, 1) := by decide +kernel
theorem dX6_deedsInSome_26 : decode cX6_deedsInSome 26 = .ok (.ifCond .eq 10, 3) := by decide +kernel
theorem dX6_deedsInSome_29 : decode cX6_deedsInSome 29 = .ok (.iload_n 3, 1) := by decide +kernel
theorem dX6_deedsInSome_30 : decode cX6_deedsInSome 30 = .ok (.iconst 1, 1) := by decide +kernel
theorem dX6_deedsInSome_31 : decode cX6_deedsInSome 31 = .ok (.iload 4, 2) := by decide +kernel
theorem dX6_deedsInSome_33 : decode cX6_deedsInSome 33 = .ok (.ishl, 1) := by decide +kernel
theorem dX6_deedsInSome_34 : decode cX6_deedsInSome 34 = .ok (.ior, 1) := by decide +kernel
theorem dX6_deedsInSome_35 : decode cX6_deedsInSome 35 = .ok (.istore_n 3, 1) := by decide +kernel
theorem dX6_deedsInSome_36 : decode cX6_deedsInSome 36 = .ok (.iinc 4 1, 3) := by decide +kernel
theorem dX6_deedsInSome_39 : decode cX6_deedsInSome 39 = .ok (.goto (-34), 3) := by decide +kernel
theorem dX6_deedsInSome_42 : decode cX6_deedsInSome 42 = .ok (.iload_n 3, 1) := by decide +kernel
theorem dX6_deedsInSome_43 : decode cX6_deedsInSome 43 = .ok (.ireturn, 1) := by decide +kernel
theorem dX6_deedsInAll_0 : decode cX6_deedsInAll 0 = .ok (.iconst 0, 1) := by decide +kernel
theorem dX6_deedsInAll_1 : decode cX6_deedsInAll 1 = .ok (.istore_n 3, 1) := by decide +kernel
theorem dX6_deedsInAll_2 : decode cX6_deedsInAll 2 = .ok (.iconst 0, 1) := by decide +kernel
theorem dX6_deedsInAll_3 : decode cX6_deedsInAll 3 = .ok (.istore 4, 2) := by decide +kernel
theorem dX6_deedsInAll_5 : decode cX6_deedsInAll 5 = .ok (.iload 4, 2) := by decide +kernel
theorem dX6_deedsInAll_7 : decode cX6_deedsInAll 7 = .ok (.aload_n 0, 1) := by decide +kernel
theorem dX6_deedsInAll_8 : decode cX6_deedsInAll 8 = .ok (.getfield 19, 3) := by decide +kernel
theorem dX6_deedsInAll_11 : decode cX6_deedsInAll 11 = .ok (.getfield 304, 3) := by decide +kernel
theorem dX6_deedsInAll_14 : decode cX6_deedsInAll 14 = .ok (.if_icmp .ge 38, 3) := by decide +kernel
theorem dX6_deedsInAll_17 : decode cX6_deedsInAll 17 = .ok (.lload_n 1, 1) := by decide +kernel
theorem dX6_deedsInAll_18 : decode cX6_deedsInAll 18 = .ok (.lconst 0, 1) := by decide +kernel
theorem dX6_deedsInAll_19 : decode cX6_deedsInAll 19 = .ok (.lcmp, 1) := by decide +kernel
theorem dX6_deedsInAll_20 : decode cX6_deedsInAll 20 = .ok (.ifCond .eq 26, 3) := by decide +kernel
theorem dX6_deedsInAll_23 : decode cX6_deedsInAll 23 = .ok (.lload_n 1, 1) := by decide +kernel
theorem dX6_deedsInAll_24 : decode cX6_deedsInAll 24 = .ok (.iload 4, 2) := by decide +kernel
theorem dX6_deedsInAll_26 : decode cX6_deedsInAll 26 = .ok (.invokestatic 332, 3) := by decide +kernel
theorem dX6_deedsInAll_29 : decode cX6_deedsInAll 29 = .ok (.ldc2_w 335, 3) := by decide +kernel
theorem dX6_deedsInAll_32 : decode cX6_deedsInAll 32 = .ok (.lxor, 1) := by decide +kernel
theorem dX6_deedsInAll_33 : decode cX6_deedsInAll 33 = .ok (.land, 1) := by decide +kernel
theorem dX6_deedsInAll_34 : decode cX6_deedsInAll 34 = .ok (.lconst 0, 1) := by decide +kernel
theorem dX6_deedsInAll_35 : decode cX6_deedsInAll 35 = .ok (.lcmp, 1) := by decide +kernel
theorem dX6_deedsInAll_36 : decode cX6_deedsInAll 36 = .ok (.ifCond .ne 10, 3) := by decide +kernel
theorem dX6_deedsInAll_39 : decode cX6_deedsInAll 39 = .ok (.iload_n 3, 1) := by decide +kernel
theorem dX6_deedsInAll_40 : decode cX6_deedsInAll 40 = .ok (.iconst 1, 1) := by decide +kernel
theorem dX6_deedsInAll_41 : decode cX6_deedsInAll 41 = .ok (.iload 4, 2) := by decide +kernel
theorem dX6_deedsInAll_43 : decode cX6_deedsInAll 43 = .ok (.ishl, 1) := by decide +kernel
theorem dX6_deedsInAll_44 : decode cX6_deedsInAll 44 = .ok (.ior, 1) := by decide +kernel
theorem dX6_deedsInAll_45 : decode cX6_deedsInAll 45 = .ok (.istore_n 3, 1) := by decide +kernel
theorem dX6_deedsInAll_46 : decode cX6_deedsInAll 46 = .ok (.iinc 4 1, 3) := by decide +kernel
theorem dX6_deedsInAll_49 : decode cX6_deedsInAll 49 = .ok (.goto (-44), 3) := by decide +kernel
theorem dX6_deedsInAll_52 : decode cX6_deedsInAll 52 = .ok (.iload_n 3, 1) := by decide +kernel
theorem dX6_deedsInAll_53 : decode cX6_deedsInAll 53 = .ok (.ireturn, 1) := by decide +kernel
theorem dX6_cheapest_0 : decode cX6_cheapest 0 = .ok (.aload_n 0, 1) := by decide +kernel
theorem dX6_cheapest_1 : decode cX6_cheapest 1 = .ok (.iload_n 1, 1) := by decide +kernel
theorem dX6_cheapest_2 : decode cX6_cheapest 2 = .ok (.iconst 0, 1) := by decide +kernel
theorem dX6_cheapest_3 : decode cX6_cheapest 3 = .ok (.invokevirtual 123, 3) := by decide +kernel
theorem dX6_cheapest_6 : decode cX6_cheapest 6 = .ok (.istore_n 2, 1) := by decide +kernel
theorem dX6_cheapest_7 : decode cX6_cheapest 7 = .ok (.iload_n 2, 1) := by decide +kernel
theorem dX6_cheapest_8 : decode cX6_cheapest 8 = .ok (.istore_n 3, 1) := by decide +kernel
theorem dX6_cheapest_9 : decode cX6_cheapest 9 = .ok (.iconst 0, 1) := by decide +kernel
theorem dX6_cheapest_10 : decode cX6_cheapest 10 = .ok (.istore 4, 2) := by decide +kernel
theorem dX6_cheapest_12 : decode cX6_cheapest 12 = .ok (.iload 4, 2) := by decide +kernel
theorem dX6_cheapest_14 : decode cX6_cheapest 14 = .ok (.iload_n 2, 1) := by decide +kernel
theorem dX6_cheapest_15 : decode cX6_cheapest 15 = .ok (.if_icmp .gt 56, 3) := by decide +kernel
theorem dX6_cheapest_18 : decode cX6_cheapest 18 = .ok (.iload 4, 2) := by decide +kernel
theorem dX6_cheapest_20 : decode cX6_cheapest 20 = .ok (.iload_n 2, 1) := by decide +kernel
theorem dX6_cheapest_21 : decode cX6_cheapest 21 = .ok (.invokestatic 172, 3) := by decide +kernel
theorem dX6_cheapest_24 : decode cX6_cheapest 24 = .ok (.ifCond .eq 41, 3) := by decide +kernel
theorem dX6_cheapest_27 : decode cX6_cheapest 27 = .ok (.aload_n 0, 1) := by decide +kernel
theorem dX6_cheapest_28 : decode cX6_cheapest 28 = .ok (.iload_n 2, 1) := by decide +kernel
theorem dX6_cheapest_29 : decode cX6_cheapest 29 = .ok (.iload 4, 2) := by decide +kernel
theorem dX6_cheapest_31 : decode cX6_cheapest 31 = .ok (.iconst (-1), 1) := by decide +kernel
theorem dX6_cheapest_32 : decode cX6_cheapest 32 = .ok (.ixor, 1) := by decide +kernel
theorem dX6_cheapest_33 : decode cX6_cheapest 33 = .ok (.iand, 1) := by decide +kernel
theorem dX6_cheapest_34 : decode cX6_cheapest 34 = .ok (.invokevirtual 133, 3) := by decide +kernel
theorem dX6_cheapest_37 : decode cX6_cheapest 37 = .ok (.lconst 0, 1) := by decide +kernel
theorem dX6_cheapest_38 : decode cX6_cheapest 38 = .ok (.lcmp, 1) := by decide +kernel
theorem dX6_cheapest_39 : decode cX6_cheapest 39 = .ok (.ifCond .eq 26, 3) := by decide +kernel
theorem dX6_cheapest_42 : decode cX6_cheapest 42 = .ok (.aload_n 0, 1) := by decide +kernel
theorem dX6_cheapest_43 : decode cX6_cheapest 43 = .ok (.getfield 30, 3) := by decide +kernel
theorem dX6_cheapest_46 : decode cX6_cheapest 46 = .ok (.iload 4, 2) := by decide +kernel
theorem dX6_cheapest_48 : decode cX6_cheapest 48 = .ok (.invokevirtual 127, 3) := by decide +kernel
theorem dX6_cheapest_51 : decode cX6_cheapest 51 = .ok (.aload_n 0, 1) := by decide +kernel
theorem dX6_cheapest_52 : decode cX6_cheapest 52 = .ok (.getfield 30, 3) := by decide +kernel
theorem dX6_cheapest_55 : decode cX6_cheapest 55 = .ok (.iload_n 3, 1) := by decide +kernel
theorem dX6_cheapest_56 : decode cX6_cheapest 56 = .ok (.invokevirtual 127, 3) := by decide +kernel
theorem dX6_cheapest_59 : decode cX6_cheapest 59 = .ok (.if_icmp .ge 6, 3) := by decide +kernel
theorem dX6_cheapest_62 : decode cX6_cheapest 62 = .ok (.iload 4, 2) := by decide +kernel
theorem dX6_cheapest_64 : decode cX6_cheapest 64 = .ok (.istore_n 3, 1) := by decide +kernel
theorem dX6_cheapest_65 : decode cX6_cheapest 65 = .ok (.iinc 4 1, 3) := by decide +kernel
theorem dX6_cheapest_68 : decode cX6_cheapest 68 = .ok (.goto (-56), 3) := by decide +kernel
theorem dX6_cheapest_71 : decode cX6_cheapest 71 = .ok (.iload_n 3, 1) := by decide +kernel
theorem dX6_cheapest_72 : decode cX6_cheapest 72 = .ok (.ireturn, 1) := by decide +kernel
theorem dX6_askedOne_0 : decode cX6_askedOne 0 = .ok (.bipush (-2), 2) := by decide +kernel
theorem dX6_askedOne_2 : decode cX6_askedOne 2 = .ok (.istore_n 1, 1) := by decide +kernel
theorem dX6_askedOne_3 : decode cX6_askedOne 3 = .ok (.iconst 0, 1) := by decide +kernel
theorem dX6_askedOne_4 : decode cX6_askedOne 4 = .ok (.istore_n 2, 1) := by decide +kernel
theorem dX6_askedOne_5 : decode cX6_askedOne 5 = .ok (.iload_n 2, 1) := by decide +kernel
theorem dX6_askedOne_6 : decode cX6_askedOne 6 = .ok (.aload_n 0, 1) := by decide +kernel
theorem dX6_askedOne_7 : decode cX6_askedOne 7 = .ok (.getfield 19, 3) := by decide +kernel
theorem dX6_askedOne_10 : decode cX6_askedOne 10 = .ok (.getfield 204, 3) := by decide +kernel
theorem dX6_askedOne_13 : decode cX6_askedOne 13 = .ok (.if_icmp .ge 48, 3) := by decide +kernel
theorem dX6_askedOne_16 : decode cX6_askedOne 16 = .ok (.aload_n 0, 1) := by decide +kernel
theorem dX6_askedOne_17 : decode cX6_askedOne 17 = .ok (.getfield 46, 3) := by decide +kernel
theorem dX6_askedOne_20 : decode cX6_askedOne 20 = .ok (.invokevirtual 200, 3) := by decide +kernel
theorem dX6_askedOne_23 : decode cX6_askedOne 23 = .ok (.lconst 0, 1) := by decide +kernel
theorem dX6_askedOne_24 : decode cX6_askedOne 24 = .ok (.lcmp, 1) := by decide +kernel
theorem dX6_askedOne_25 : decode cX6_askedOne 25 = .ok (.ifCond .eq 30, 3) := by decide +kernel
theorem dX6_askedOne_28 : decode cX6_askedOne 28 = .ok (.iload_n 1, 1) := by decide +kernel
theorem dX6_askedOne_29 : decode cX6_askedOne 29 = .ok (.bipush (-2), 2) := by decide +kernel
theorem dX6_askedOne_31 : decode cX6_askedOne 31 = .ok (.if_icmp .eq 22, 3) := by decide +kernel
theorem dX6_askedOne_34 : decode cX6_askedOne 34 = .ok (.aload_n 0, 1) := by decide +kernel
theorem dX6_askedOne_35 : decode cX6_askedOne 35 = .ok (.getfield 46, 3) := by decide +kernel
theorem dX6_askedOne_38 : decode cX6_askedOne 38 = .ok (.iload_n 2, 1) := by decide +kernel
theorem dX6_askedOne_39 : decode cX6_askedOne 39 = .ok (.invokevirtual 220, 3) := by decide +kernel
theorem dX6_askedOne_42 : decode cX6_askedOne 42 = .ok (.aload_n 0, 1) := by decide +kernel
theorem dX6_askedOne_43 : decode cX6_askedOne 43 = .ok (.getfield 46, 3) := by decide +kernel
theorem dX6_askedOne_46 : decode cX6_askedOne 46 = .ok (.iload_n 1, 1) := by decide +kernel
theorem dX6_askedOne_47 : decode cX6_askedOne 47 = .ok (.invokevirtual 220, 3) := by decide +kernel
theorem dX6_askedOne_50 : decode cX6_askedOne 50 = .ok (.if_icmp .ge 5, 3) := by decide +kernel
theorem dX6_askedOne_53 : decode cX6_askedOne 53 = .ok (.iload_n 2, 1) := by decide +kernel
theorem dX6_askedOne_54 : decode cX6_askedOne 54 = .ok (.istore_n 1, 1) := by decide +kernel
theorem dX6_askedOne_55 : decode cX6_askedOne 55 = .ok (.iinc 2 1, 3) := by decide +kernel
theorem dX6_askedOne_58 : decode cX6_askedOne 58 = .ok (.goto (-53), 3) := by decide +kernel
theorem dX6_askedOne_61 : decode cX6_askedOne 61 = .ok (.iload_n 1, 1) := by decide +kernel
theorem dX6_askedOne_62 : decode cX6_askedOne 62 = .ok (.ireturn, 1) := by decide +kernel
theorem dX6_rainWeight_0 : decode cX6_rainWeight 0 = .ok (.iload_n 1, 1) := by decide +kernel
theorem dX6_rainWeight_1 : decode cX6_rainWeight 1 = .ok (.invokestatic 164, 3) := by decide +kernel
theorem dX6_rainWeight_4 : decode cX6_rainWeight 4 = .ok (.istore_n 3, 1) := by decide +kernel
theorem dX6_rainWeight_5 : decode cX6_rainWeight 5 = .ok (.bipush 100, 2) := by decide +kernel
theorem dX6_rainWeight_7 : decode cX6_rainWeight 7 = .ok (.aload_n 0, 1) := by decide +kernel
theorem dX6_rainWeight_8 : decode cX6_rainWeight 8 = .ok (.getfield 19, 3) := by decide +kernel
theorem dX6_rainWeight_11 : decode cX6_rainWeight 11 = .ok (.getfield 246, 3) := by decide +kernel
theorem dX6_rainWeight_14 : decode cX6_rainWeight 14 = .ok (.isub, 1) := by decide +kernel
theorem dX6_rainWeight_15 : decode cX6_rainWeight 15 = .ok (.iload_n 3, 1) := by decide +kernel
theorem dX6_rainWeight_16 : decode cX6_rainWeight 16 = .ok (.invokestatic 249, 3) := by decide +kernel
theorem dX6_rainWeight_19 : decode cX6_rainWeight 19 = .ok (.aload_n 0, 1) := by decide +kernel
theorem dX6_rainWeight_20 : decode cX6_rainWeight 20 = .ok (.getfield 19, 3) := by decide +kernel
theorem dX6_rainWeight_23 : decode cX6_rainWeight 23 = .ok (.getfield 246, 3) := by decide +kernel
theorem dX6_rainWeight_26 : decode cX6_rainWeight 26 = .ok (.iload_n 2, 1) := by decide +kernel
theorem dX6_rainWeight_27 : decode cX6_rainWeight 27 = .ok (.invokestatic 164, 3) := by decide +kernel
theorem dX6_rainWeight_30 : decode cX6_rainWeight 30 = .ok (.iload_n 3, 1) := by decide +kernel
theorem dX6_rainWeight_31 : decode cX6_rainWeight 31 = .ok (.isub, 1) := by decide +kernel
theorem dX6_rainWeight_32 : decode cX6_rainWeight 32 = .ok (.invokestatic 249, 3) := by decide +kernel
theorem dX6_rainWeight_35 : decode cX6_rainWeight 35 = .ok (.lmul, 1) := by decide +kernel
theorem dX6_rainWeight_36 : decode cX6_rainWeight 36 = .ok (.lreturn, 1) := by decide +kernel
theorem dX6_power_0 : decode cX6_power 0 = .ok (.lconst 1, 1) := by decide +kernel
theorem dX6_power_1 : decode cX6_power 1 = .ok (.lstore_n 2, 1) := by decide +kernel
theorem dX6_power_2 : decode cX6_power 2 = .ok (.iconst 0, 1) := by decide +kernel
theorem dX6_power_3 : decode cX6_power 3 = .ok (.istore 4, 2) := by decide +kernel
theorem dX6_power_5 : decode cX6_power 5 = .ok (.iload 4, 2) := by decide +kernel
theorem dX6_power_7 : decode cX6_power 7 = .ok (.iload_n 1, 1) := by decide +kernel
theorem dX6_power_8 : decode cX6_power 8 = .ok (.if_icmp .ge 14, 3) := by decide +kernel
theorem dX6_power_11 : decode cX6_power 11 = .ok (.lload_n 2, 1) := by decide +kernel
theorem dX6_power_12 : decode cX6_power 12 = .ok (.iload_n 0, 1) := by decide +kernel
theorem dX6_power_13 : decode cX6_power 13 = .ok (.i2l, 1) := by decide +kernel
theorem dX6_power_14 : decode cX6_power 14 = .ok (.lmul, 1) := by decide +kernel
theorem dX6_power_15 : decode cX6_power 15 = .ok (.lstore_n 2, 1) := by decide +kernel
theorem dX6_power_16 : decode cX6_power 16 = .ok (.iinc 4 1, 3) := by decide +kernel
theorem dX6_power_19 : decode cX6_power 19 = .ok (.goto (-14), 3) := by decide +kernel
theorem dX6_power_22 : decode cX6_power 22 = .ok (.lload_n 2, 1) := by decide +kernel
theorem dX6_power_23 : decode cX6_power 23 = .ok (.lreturn, 1) := by decide +kernel
theorem dX6_lowestTerms_0 : decode cX6_lowestTerms 0 = .ok (.lload_n 2, 1) := by decide +kernel
theorem dX6_lowestTerms_1 : decode cX6_lowestTerms 1 = .ok (.lstore 5, 2) := by decide +kernel
theorem dX6_lowestTerms_3 : decode cX6_lowestTerms 3 = .ok (.lload_n 0, 1) := by decide +kernel
theorem dX6_lowestTerms_4 : decode cX6_lowestTerms 4 = .ok (.lstore 7, 2) := by decide +kernel
theorem dX6_lowestTerms_6 : decode cX6_lowestTerms 6 = .ok (.iconst 0, 1) := by decide +kernel
theorem dX6_lowestTerms_7 : decode cX6_lowestTerms 7 = .ok (.istore 9, 2) := by decide +kernel
theorem dX6_lowestTerms_9 : decode cX6_lowestTerms 9 = .ok (.iload 9, 2) := by decide +kernel
theorem dX6_lowestTerms_11 : decode cX6_lowestTerms 11 = .ok (.bipush 100, 2) := by decide +kernel
theorem dX6_lowestTerms_13 : decode cX6_lowestTerms 13 = .ok (.if_icmp .ge 31, 3) := by decide +kernel
theorem dX6_lowestTerms_16 : decode cX6_lowestTerms 16 = .ok (.lload 7, 2) := by decide +kernel
theorem dX6_lowestTerms_18 : decode cX6_lowestTerms 18 = .ok (.lconst 0, 1) := by decide +kernel
theorem dX6_lowestTerms_19 : decode cX6_lowestTerms 19 = .ok (.lcmp, 1) := by decide +kernel
theorem dX6_lowestTerms_20 : decode cX6_lowestTerms 20 = .ok (.ifCond .eq 24, 3) := by decide +kernel
theorem dX6_lowestTerms_23 : decode cX6_lowestTerms 23 = .ok (.lload 5, 2) := by decide +kernel
theorem dX6_lowestTerms_25 : decode cX6_lowestTerms 25 = .ok (.lload 7, 2) := by decide +kernel
theorem dX6_lowestTerms_27 : decode cX6_lowestTerms 27 = .ok (.lrem, 1) := by decide +kernel
theorem dX6_lowestTerms_28 : decode cX6_lowestTerms 28 = .ok (.lstore 10, 2) := by decide +kernel
theorem dX6_lowestTerms_30 : decode cX6_lowestTerms 30 = .ok (.lload 7, 2) := by decide +kernel
theorem dX6_lowestTerms_32 : decode cX6_lowestTerms 32 = .ok (.lstore 5, 2) := by decide +kernel
theorem dX6_lowestTerms_34 : decode cX6_lowestTerms 34 = .ok (.lload 10, 2) := by decide +kernel
theorem dX6_lowestTerms_36 : decode cX6_lowestTerms 36 = .ok (.lstore 7, 2) := by decide +kernel
theorem dX6_lowestTerms_38 : decode cX6_lowestTerms 38 = .ok (.iinc 9 1, 3) := by decide +kernel
theorem dX6_lowestTerms_41 : decode cX6_lowestTerms 41 = .ok (.goto (-32), 3) := by decide +kernel
theorem dX6_lowestTerms_44 : decode cX6_lowestTerms 44 = .ok (.lload 5, 2) := by decide +kernel
theorem dX6_lowestTerms_46 : decode cX6_lowestTerms 46 = .ok (.lconst 0, 1) := by decide +kernel
theorem dX6_lowestTerms_47 : decode cX6_lowestTerms 47 = .ok (.lcmp, 1) := by decide +kernel
theorem dX6_lowestTerms_48 : decode cX6_lowestTerms 48 = .ok (.ifCond .ne 14, 3) := by decide +kernel
theorem dX6_lowestTerms_51 : decode cX6_lowestTerms 51 = .ok (.iload 4, 2) := by decide +kernel
theorem dX6_lowestTerms_53 : decode cX6_lowestTerms 53 = .ok (.ifCond .eq 7, 3) := by decide +kernel
theorem dX6_lowestTerms_56 : decode cX6_lowestTerms 56 = .ok (.lconst 1, 1) := by decide +kernel
theorem dX6_lowestTerms_57 : decode cX6_lowestTerms 57 = .ok (.goto 4, 3) := by decide +kernel
theorem dX6_lowestTerms_60 : decode cX6_lowestTerms 60 = .ok (.lconst 0, 1) := by decide +kernel
theorem dX6_lowestTerms_61 : decode cX6_lowestTerms 61 = .ok (.lreturn, 1) := by decide +kernel
theorem dX6_lowestTerms_62 : decode cX6_lowestTerms 62 = .ok (.iload 4, 2) := by decide +kernel
theorem dX6_lowestTerms_64 : decode cX6_lowestTerms 64 = .ok (.ifCond .eq 10, 3) := by decide +kernel
theorem dX6_lowestTerms_67 : decode cX6_lowestTerms 67 = .ok (.lload_n 2, 1) := by decide +kernel
theorem dX6_lowestTerms_68 : decode cX6_lowestTerms 68 = .ok (.lload 5, 2) := by decide +kernel
theorem dX6_lowestTerms_70 : decode cX6_lowestTerms 70 = .ok (.ldiv, 1) := by decide +kernel
theorem dX6_lowestTerms_71 : decode cX6_lowestTerms 71 = .ok (.goto 7, 3) := by decide +kernel
theorem dX6_lowestTerms_74 : decode cX6_lowestTerms 74 = .ok (.lload_n 0, 1) := by decide +kernel
theorem dX6_lowestTerms_75 : decode cX6_lowestTerms 75 = .ok (.lload 5, 2) := by decide +kernel
theorem dX6_lowestTerms_77 : decode cX6_lowestTerms 77 = .ok (.ldiv, 1) := by decide +kernel
theorem dX6_lowestTerms_78 : decode cX6_lowestTerms 78 = .ok (.lreturn, 1) := by decide +kernel
theorem dX6_gain_0 : decode cX6_gain 0 = .ok (.iload_n 1, 1) := by decide +kernel
theorem dX6_gain_1 : decode cX6_gain 1 = .ok (.ifCond .eq 18, 3) := by decide +kernel
theorem dX6_gain_4 : decode cX6_gain 4 = .ok (.iload_n 2, 1) := by decide +kernel
theorem dX6_gain_5 : decode cX6_gain 5 = .ok (.ifCond .eq 14, 3) := by decide +kernel
theorem dX6_gain_8 : decode cX6_gain 8 = .ok (.iload_n 3, 1) := by decide +kernel
theorem dX6_gain_9 : decode cX6_gain 9 = .ok (.ifCond .eq 7, 3) := by decide +kernel
theorem dX6_gain_12 : decode cX6_gain 12 = .ok (.iconst 3, 1) := by decide +kernel
theorem dX6_gain_13 : decode cX6_gain 13 = .ok (.goto 5, 3) := by decide +kernel
theorem dX6_gain_16 : decode cX6_gain 16 = .ok (.iload_n 0, 1) := by decide +kernel
theorem dX6_gain_17 : decode cX6_gain 17 = .ok (.ineg, 1) := by decide +kernel
theorem dX6_gain_18 : decode cX6_gain 18 = .ok (.ireturn, 1) := by decide +kernel
theorem dX6_gain_19 : decode cX6_gain 19 = .ok (.iload_n 1, 1) := by decide +kernel
theorem dX6_gain_20 : decode cX6_gain 20 = .ok (.ifCond .eq 13, 3) := by decide +kernel
theorem dX6_gain_23 : decode cX6_gain 23 = .ok (.iload_n 3, 1) := by decide +kernel
theorem dX6_gain_24 : decode cX6_gain 24 = .ok (.ifCond .eq 7, 3) := by decide +kernel
theorem dX6_gain_27 : decode cX6_gain 27 = .ok (.iconst 0, 1) := by decide +kernel
theorem dX6_gain_28 : decode cX6_gain 28 = .ok (.goto 4, 3) := by decide +kernel
theorem dX6_gain_31 : decode cX6_gain 31 = .ok (.iconst 4, 1) := by decide +kernel
theorem dX6_gain_32 : decode cX6_gain 32 = .ok (.ireturn, 1) := by decide +kernel
theorem dX6_gain_33 : decode cX6_gain 33 = .ok (.iload_n 2, 1) := by decide +kernel
theorem dX6_gain_34 : decode cX6_gain 34 = .ok (.ifCond .eq 7, 3) := by decide +kernel
theorem dX6_gain_37 : decode cX6_gain 37 = .ok (.iconst 1, 1) := by decide +kernel
theorem dX6_gain_38 : decode cX6_gain 38 = .ok (.goto 4, 3) := by decide +kernel
theorem dX6_gain_41 : decode cX6_gain 41 = .ok (.iconst 2, 1) := by decide +kernel
theorem dX6_gain_42 : decode cX6_gain 42 = .ok (.ireturn, 1) := by decide +kernel
theorem dX6_shavesIn_0 : decode cX6_shavesIn 0 = .ok (.iload_n 0, 1) := by decide +kernel
theorem dX6_shavesIn_1 : decode cX6_shavesIn 1 = .ok (.iconst 2, 1) := by decide +kernel
theorem dX6_shavesIn_2 : decode cX6_shavesIn 2 = .ok (.if_icmp .lt 7, 3) := by decide +kernel
theorem dX6_shavesIn_5 : decode cX6_shavesIn 5 = .ok (.iconst 1, 1) := by decide +kernel
theorem dX6_shavesIn_6 : decode cX6_shavesIn 6 = .ok (.goto 4, 3) := by decide +kernel
theorem dX6_shavesIn_9 : decode cX6_shavesIn 9 = .ok (.iconst 0, 1) := by decide +kernel
theorem dX6_shavesIn_10 : decode cX6_shavesIn 10 = .ok (.ireturn, 1) := by decide +kernel
theorem dX6_readIn_0 : decode cX6_readIn 0 = .ok (.iload_n 0, 1) := by decide +kernel
theorem dX6_readIn_1 : decode cX6_readIn 1 = .ok (.iconst 1, 1) := by decide +kernel
theorem dX6_readIn_2 : decode cX6_readIn 2 = .ok (.iand, 1) := by decide +kernel
theorem dX6_readIn_3 : decode cX6_readIn 3 = .ok (.ifCond .eq 7, 3) := by decide +kernel
theorem dX6_readIn_6 : decode cX6_readIn 6 = .ok (.iconst 1, 1) := by decide +kernel
theorem dX6_readIn_7 : decode cX6_readIn 7 = .ok (.goto 4, 3) := by decide +kernel
theorem dX6_readIn_10 : decode cX6_readIn 10 = .ok (.iconst 0, 1) := by decide +kernel
theorem dX6_readIn_11 : decode cX6_readIn 11 = .ok (.ireturn, 1) := by decide +kernel
theorem dX6_isRest_0 : decode cX6_isRest 0 = .ok (.iload_n 1, 1) := by decide +kernel
theorem dX6_isRest_1 : decode cX6_isRest 1 = .ok (.invokestatic 240, 3) := by decide +kernel
theorem dX6_isRest_4 : decode cX6_isRest 4 = .ok (.istore_n 2, 1) := by decide +kernel
theorem dX6_isRest_5 : decode cX6_isRest 5 = .ok (.iload_n 1, 1) := by decide +kernel
theorem dX6_isRest_6 : decode cX6_isRest 6 = .ok (.invokestatic 243, 3) := by decide +kernel
theorem dX6_isRest_9 : decode cX6_isRest 9 = .ok (.istore_n 3, 1) := by decide +kernel
theorem dX6_isRest_10 : decode cX6_isRest 10 = .ok (.iload_n 0, 1) := by decide +kernel
theorem dX6_isRest_11 : decode cX6_isRest 11 = .ok (.iload_n 2, 1) := by decide +kernel
theorem dX6_isRest_12 : decode cX6_isRest 12 = .ok (.iload_n 3, 1) := by decide +kernel
theorem dX6_isRest_13 : decode cX6_isRest 13 = .ok (.iconst 0, 1) := by decide +kernel
theorem dX6_isRest_14 : decode cX6_isRest 14 = .ok (.invokestatic 233, 3) := by decide +kernel
theorem dX6_isRest_17 : decode cX6_isRest 17 = .ok (.iload_n 0, 1) := by decide +kernel
theorem dX6_isRest_18 : decode cX6_isRest 18 = .ok (.iload_n 2, 1) := by decide +kernel
theorem dX6_isRest_19 : decode cX6_isRest 19 = .ok (.ifCond .ne 7, 3) := by decide +kernel
theorem dX6_isRest_22 : decode cX6_isRest 22 = .ok (.iconst 1, 1) := by decide +kernel
theorem dX6_isRest_23 : decode cX6_isRest 23 = .ok (.goto 4, 3) := by decide +kernel
theorem dX6_isRest_26 : decode cX6_isRest 26 = .ok (.iconst 0, 1) := by decide +kernel
theorem dX6_isRest_27 : decode cX6_isRest 27 = .ok (.iload_n 3, 1) := by decide +kernel
theorem dX6_isRest_28 : decode cX6_isRest 28 = .ok (.iconst 0, 1) := by decide +kernel
theorem dX6_isRest_29 : decode cX6_isRest 29 = .ok (.invokestatic 233, 3) := by decide +kernel
theorem dX6_isRest_32 : decode cX6_isRest 32 = .ok (.if_icmp .lt 32, 3) := by decide +kernel
theorem dX6_isRest_35 : decode cX6_isRest 35 = .ok (.iload_n 0, 1) := by decide +kernel
theorem dX6_isRest_36 : decode cX6_isRest 36 = .ok (.iload_n 2, 1) := by decide +kernel
theorem dX6_isRest_37 : decode cX6_isRest 37 = .ok (.iload_n 3, 1) := by decide +kernel
theorem dX6_isRest_38 : decode cX6_isRest 38 = .ok (.iconst 1, 1) := by decide +kernel
theorem dX6_isRest_39 : decode cX6_isRest 39 = .ok (.invokestatic 233, 3) := by decide +kernel
theorem dX6_isRest_42 : decode cX6_isRest 42 = .ok (.iload_n 0, 1) := by decide +kernel
theorem dX6_isRest_43 : decode cX6_isRest 43 = .ok (.iload_n 2, 1) := by decide +kernel
theorem dX6_isRest_44 : decode cX6_isRest 44 = .ok (.iload_n 3, 1) := by decide +kernel
theorem dX6_isRest_45 : decode cX6_isRest 45 = .ok (.ifCond .ne 7, 3) := by decide +kernel
theorem dX6_isRest_48 : decode cX6_isRest 48 = .ok (.iconst 1, 1) := by decide +kernel
theorem dX6_isRest_49 : decode cX6_isRest 49 = .ok (.goto 4, 3) := by decide +kernel
theorem dX6_isRest_52 : decode cX6_isRest 52 = .ok (.iconst 0, 1) := by decide +kernel
theorem dX6_isRest_53 : decode cX6_isRest 53 = .ok (.iconst 1, 1) := by decide +kernel
theorem dX6_isRest_54 : decode cX6_isRest 54 = .ok (.invokestatic 233, 3) := by decide +kernel
theorem dX6_isRest_57 : decode cX6_isRest 57 = .ok (.if_icmp .lt 7, 3) := by decide +kernel
theorem dX6_isRest_60 : decode cX6_isRest 60 = .ok (.iconst 1, 1) := by decide +kernel
theorem dX6_isRest_61 : decode cX6_isRest 61 = .ok (.goto 4, 3) := by decide +kernel
theorem dX6_isRest_64 : decode cX6_isRest 64 = .ok (.iconst 0, 1) := by decide +kernel
theorem dX6_isRest_65 : decode cX6_isRest 65 = .ok (.ireturn, 1) := by decide +kernel
theorem dX7_init_0 : decode cX7_init 0 = .ok (.aload_n 0, 1) := by decide +kernel
theorem dX7_init_1 : decode cX7_init 1 = .ok (.invokespecial 3, 3) := by decide +kernel
theorem dX7_init_4 : decode cX7_init 4 = .ok (.aload_n 0, 1) := by decide +kernel
theorem dX7_init_5 : decode cX7_init 5 = .ok (.iconst (-1), 1) := by decide +kernel
theorem dX7_init_6 : decode cX7_init 6 = .ok (.putfield 9, 3) := by decide +kernel
theorem dX7_init_9 : decode cX7_init 9 = .ok (.aload_n 0, 1) := by decide +kernel
theorem dX7_init_10 : decode cX7_init 10 = .ok (.bipush 8, 2) := by decide +kernel
theorem dX7_init_12 : decode cX7_init 12 = .ok (.newarray .int, 2) := by decide +kernel
theorem dX7_init_14 : decode cX7_init 14 = .ok (.putfield 15, 3) := by decide +kernel
theorem dX7_init_17 : decode cX7_init 17 = .ok (.aload_n 0, 1) := by decide +kernel
theorem dX7_init_18 : decode cX7_init 18 = .ok (.bipush 8, 2) := by decide +kernel
theorem dX7_init_20 : decode cX7_init 20 = .ok (.newarray .int, 2) := by decide +kernel
theorem dX7_init_22 : decode cX7_init 22 = .ok (.putfield 19, 3) := by decide +kernel
theorem dX7_init_25 : decode cX7_init 25 = .ok (.aload_n 0, 1) := by decide +kernel
theorem dX7_init_26 : decode cX7_init 26 = .ok (.bipush 8, 2) := by decide +kernel
theorem dX7_init_28 : decode cX7_init 28 = .ok (.newarray .int, 2) := by decide +kernel
theorem dX7_init_30 : decode cX7_init 30 = .ok (.putfield 22, 3) := by decide +kernel
theorem dX7_init_33 : decode cX7_init 33 = .ok (.aload_n 0, 1) := by decide +kernel
theorem dX7_init_34 : decode cX7_init 34 = .ok (.bipush 8, 2) := by decide +kernel
theorem dX7_init_36 : decode cX7_init 36 = .ok (.newarray .int, 2) := by decide +kernel
theorem dX7_init_38 : decode cX7_init 38 = .ok (.putfield 25, 3) := by decide +kernel
theorem dX7_init_41 : decode cX7_init 41 = .ok (.aload_n 0, 1) := by decide +kernel
theorem dX7_init_42 : decode cX7_init 42 = .ok (.bipush 8, 2) := by decide +kernel
theorem dX7_init_44 : decode cX7_init 44 = .ok (.newarray .int, 2) := by decide +kernel
theorem dX7_init_46 : decode cX7_init 46 = .ok (.putfield 28, 3) := by decide +kernel
theorem dX7_init_49 : decode cX7_init 49 = .ok (.aload_n 0, 1) := by decide +kernel
theorem dX7_init_50 : decode cX7_init 50 = .ok (.iconst 5, 1) := by decide +kernel
theorem dX7_init_51 : decode cX7_init 51 = .ok (.newarray .int, 2) := by decide +kernel
theorem dX7_init_53 : decode cX7_init 53 = .ok (.putfield 31, 3) := by decide +kernel
theorem dX7_init_56 : decode cX7_init 56 = .ok (.aload_n 0, 1) := by decide +kernel
theorem dX7_init_57 : decode cX7_init 57 = .ok (.bipush 6, 2) := by decide +kernel
theorem dX7_init_59 : decode cX7_init 59 = .ok (.newarray .int, 2) := by decide +kernel
theorem dX7_init_61 : decode cX7_init 61 = .ok (.putfield 34, 3) := by decide +kernel
theorem dX7_init_64 : decode cX7_init 64 = .ok (.aload_n 0, 1) := by decide +kernel
theorem dX7_init_65 : decode cX7_init 65 = .ok (.bipush 6, 2) := by decide +kernel
theorem dX7_init_67 : decode cX7_init 67 = .ok (.newarray .int, 2) := by decide +kernel
theorem dX7_init_69 : decode cX7_init 69 = .ok (.putfield 37, 3) := by decide +kernel
theorem dX7_init_72 : decode cX7_init 72 = .ok (.aload_n 0, 1) := by decide +kernel
theorem dX7_init_73 : decode cX7_init 73 = .ok (.bipush 6, 2) := by decide +kernel
theorem dX7_init_75 : decode cX7_init 75 = .ok (.newarray .int, 2) := by decide +kernel
theorem dX7_init_77 : decode cX7_init 77 = .ok (.putfield 40, 3) := by decide +kernel
theorem dX7_init_80 : decode cX7_init 80 = .ok (.aload_n 0, 1) := by decide +kernel
theorem dX7_init_81 : decode cX7_init 81 = .ok (.bipush 18, 2) := by decide +kernel
theorem dX7_init_83 : decode cX7_init 83 = .ok (.newarray .long, 2) := by decide +kernel
theorem dX7_init_85 : decode cX7_init 85 = .ok (.putfield 43, 3) := by decide +kernel
theorem dX7_init_88 : decode cX7_init 88 = .ok (.aload_n 0, 1) := by decide +kernel
theorem dX7_init_89 : decode cX7_init 89 = .ok (.bipush 18, 2) := by decide +kernel
theorem dX7_init_91 : decode cX7_init 91 = .ok (.newarray .int, 2) := by decide +kernel
theorem dX7_init_93 : decode cX7_init 93 = .ok (.putfield 47, 3) := by decide +kernel
theorem dX7_init_96 : decode cX7_init 96 = .ok (.aload_n 0, 1) := by decide +kernel
theorem dX7_init_97 : decode cX7_init 97 = .ok (.bipush 18, 2) := by decide +kernel
theorem dX7_init_99 : decode cX7_init 99 = .ok (.newarray .int, 2) := by decide +kernel
theorem dX7_init_101 : decode cX7_init 101 = .ok (.putfield 50, 3) := by decide +kernel
theorem dX7_init_104 : decode cX7_init 104 = .ok (.return_, 1) := by decide +kernel
theorem dX7_find_0 : decode cX7_find 0 = .ok (.iconst 0, 1) := by decide +kernel
theorem dX7_find_1 : decode cX7_find 1 = .ok (.istore_n 3, 1) := by decide +kernel
theorem dX7_find_2 : decode cX7_find 2 = .ok (.iload_n 3, 1) := by decide +kernel
theorem dX7_find_3 : decode cX7_find 3 = .ok (.aload_n 0, 1) := by decide +kernel
theorem dX7_find_4 : decode cX7_find 4 = .ok (.getfield 53, 3) := by decide +kernel
theorem dX7_find_7 : decode cX7_find 7 = .ok (.if_icmp .ge 22, 3) := by decide +kernel
theorem dX7_find_10 : decode cX7_find 10 = .ok (.aload_n 0, 1) := by decide +kernel
theorem dX7_find_11 : decode cX7_find 11 = .ok (.getfield 43, 3) := by decide +kernel
theorem dX7_find_14 : decode cX7_find 14 = .ok (.iload_n 3, 1) := by decide +kernel
theorem dX7_find_15 : decode cX7_find 15 = .ok (.laload, 1) := by decide +kernel
theorem dX7_find_16 : decode cX7_find 16 = .ok (.lload_n 1, 1) := by decide +kernel
theorem dX7_find_17 : decode cX7_find 17 = .ok (.lcmp, 1) := by decide +kernel
theorem dX7_find_18 : decode cX7_find 18 = .ok (.ifCond .ne 5, 3) := by decide +kernel
theorem dX7_find_21 : decode cX7_find 21 = .ok (.iload_n 3, 1) := by decide +kernel
theorem dX7_find_22 : decode cX7_find 22 = .ok (.ireturn, 1) := by decide +kernel
theorem dX7_find_23 : decode cX7_find 23 = .ok (.iinc 3 1, 3) := by decide +kernel
theorem dX7_find_26 : decode cX7_find 26 = .ok (.goto (-24), 3) := by decide +kernel
theorem dX7_find_29 : decode cX7_find 29 = .ok (.iconst (-1), 1) := by decide +kernel
theorem dX7_find_30 : decode cX7_find 30 = .ok (.ireturn, 1) := by decide +kernel
theorem dX7_isUnsure_0 : decode cX7_isUnsure 0 = .ok (.iconst 0, 1) := by decide +kernel
theorem dX7_isUnsure_1 : decode cX7_isUnsure 1 = .ok (.istore_n 2, 1) := by decide +kernel
theorem dX7_isUnsure_2 : decode cX7_isUnsure 2 = .ok (.iload_n 2, 1) := by decide +kernel
theorem dX7_isUnsure_3 : decode cX7_isUnsure 3 = .ok (.aload_n 0, 1) := by decide +kernel
theorem dX7_isUnsure_4 : decode cX7_isUnsure 4 = .ok (.getfield 56, 3) := by decide +kernel
theorem dX7_isUnsure_7 : decode cX7_isUnsure 7 = .ok (.if_icmp .ge 21, 3) := by decide +kernel
theorem dX7_isUnsure_10 : decode cX7_isUnsure 10 = .ok (.aload_n 0, 1) := by decide +kernel
theorem dX7_isUnsure_11 : decode cX7_isUnsure 11 = .ok (.getfield 31, 3) := by decide +kernel
theorem dX7_isUnsure_14 : decode cX7_isUnsure 14 = .ok (.iload_n 2, 1) := by decide +kernel
theorem dX7_isUnsure_15 : decode cX7_isUnsure 15 = .ok (.iaload, 1) := by decide +kernel
theorem dX7_isUnsure_16 : decode cX7_isUnsure 16 = .ok (.iload_n 1, 1) := by decide +kernel
theorem dX7_isUnsure_17 : decode cX7_isUnsure 17 = .ok (.if_icmp .ne 5, 3) := by decide +kernel
theorem dX7_isUnsure_20 : decode cX7_isUnsure 20 = .ok (.iconst 1, 1) := by decide +kernel
theorem dX7_isUnsure_21 : decode cX7_isUnsure 21 = .ok (.ireturn, 1) := by decide +kernel
theorem dX7_isUnsure_22 : decode cX7_isUnsure 22 = .ok (.iinc 2 1, 3) := by decide +kernel
theorem dX7_isUnsure_25 : decode cX7_isUnsure 25 = .ok (.goto (-23), 3) := by decide +kernel
theorem dX7_isUnsure_28 : decode cX7_isUnsure 28 = .ok (.iconst 0, 1) := by decide +kernel
theorem dX7_isUnsure_29 : decode cX7_isUnsure 29 = .ok (.ireturn, 1) := by decide +kernel
