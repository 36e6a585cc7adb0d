theorem dX0_init_53 : decode cX0_init 53 = .ok (.putfield 35, 3) := by decide +kernel
theorem dX0_init_56 : decode cX0_init 56 = .ok (.aload_n 0, 1) := by decide +kernel
theorem dX0_init_57 : decode cX0_init 57 = .ok (.bipush 25, 2) := by decide +kernel
theorem dX0_init_59 : decode cX0_init 59 = .ok (.newarray .int, 2) := by decide +kernel
theorem dX0_init_61 : decode cX0_init 61 = .ok (.putfield 38, 3) := by decide +kernel
theorem dX0_init_64 : decode cX0_init 64 = .ok (.return_, 1) := by decide +kernel
theorem dX0_begin_0 : decode cX0_begin 0 = .ok (.aload_n 0, 1) := by decide +kernel
theorem dX0_begin_1 : decode cX0_begin 1 = .ok (.iload_n 1, 1) := by decide +kernel
theorem dX0_begin_2 : decode cX0_begin 2 = .ok (.putfield 41, 3) := by decide +kernel
theorem dX0_begin_5 : decode cX0_begin 5 = .ok (.aload_n 0, 1) := by decide +kernel
theorem dX0_begin_6 : decode cX0_begin 6 = .ok (.iconst 0, 1) := by decide +kernel
theorem dX0_begin_7 : decode cX0_begin 7 = .ok (.putfield 45, 3) := by decide +kernel
theorem dX0_begin_10 : decode cX0_begin 10 = .ok (.aload_n 0, 1) := by decide +kernel
theorem dX0_begin_11 : decode cX0_begin 11 = .ok (.ldc 48, 2) := by decide +kernel
theorem dX0_begin_13 : decode cX0_begin 13 = .ok (.putfield 49, 3) := by decide +kernel
theorem dX0_begin_16 : decode cX0_begin 16 = .ok (.aload_n 0, 1) := by decide +kernel
theorem dX0_begin_17 : decode cX0_begin 17 = .ok (.invokevirtual 52, 3) := by decide +kernel
theorem dX0_begin_20 : decode cX0_begin 20 = .ok (.return_, 1) := by decide +kernel
theorem dX0_settle_0 : decode cX0_settle 0 = .ok (.aload_n 0, 1) := by decide +kernel
theorem dX0_settle_1 : decode cX0_settle 1 = .ok (.getfield 49, 3) := by decide +kernel
theorem dX0_settle_4 : decode cX0_settle 4 = .ok (.ldc 48, 2) := by decide +kernel
theorem dX0_settle_6 : decode cX0_settle 6 = .ok (.if_icmp .ne 5, 3) := by decide +kernel
theorem dX0_settle_9 : decode cX0_settle 9 = .ok (.iconst 0, 1) := by decide +kernel
theorem dX0_settle_10 : decode cX0_settle 10 = .ok (.ireturn, 1) := by decide +kernel
theorem dX0_settle_11 : decode cX0_settle 11 = .ok (.iconst 0, 1) := by decide +kernel
theorem dX0_settle_12 : decode cX0_settle 12 = .ok (.istore_n 1, 1) := by decide +kernel
theorem dX0_settle_13 : decode cX0_settle 13 = .ok (.iload_n 1, 1) := by decide +kernel
theorem dX0_settle_14 : decode cX0_settle 14 = .ok (.aload_n 0, 1) := by decide +kernel
theorem dX0_settle_15 : decode cX0_settle 15 = .ok (.getfield 55, 3) := by decide +kernel
theorem dX0_settle_18 : decode cX0_settle 18 = .ok (.if_icmp .ge 28, 3) := by decide +kernel
theorem dX0_settle_21 : decode cX0_settle 21 = .ok (.aload_n 0, 1) := by decide +kernel
theorem dX0_settle_22 : decode cX0_settle 22 = .ok (.getfield 9, 3) := by decide +kernel
theorem dX0_settle_25 : decode cX0_settle 25 = .ok (.aload_n 0, 1) := by decide +kernel
theorem dX0_settle_26 : decode cX0_settle 26 = .ok (.getfield 23, 3) := by decide +kernel
theorem dX0_settle_29 : decode cX0_settle 29 = .ok (.iload_n 1, 1) := by decide +kernel
theorem dX0_settle_30 : decode cX0_settle 30 = .ok (.iaload, 1) := by decide +kernel
theorem dX0_settle_31 : decode cX0_settle 31 = .ok (.aload_n 0, 1) := by decide +kernel
theorem dX0_settle_32 : decode cX0_settle 32 = .ok (.getfield 29, 3) := by decide +kernel
theorem dX0_settle_35 : decode cX0_settle 35 = .ok (.iload_n 1, 1) := by decide +kernel
theorem dX0_settle_36 : decode cX0_settle 36 = .ok (.iaload, 1) := by decide +kernel
theorem dX0_settle_37 : decode cX0_settle 37 = .ok (.invokevirtual 58, 3) := by decide +kernel
theorem dX0_settle_40 : decode cX0_settle 40 = .ok (.iinc 1 1, 3) := by decide +kernel
theorem dX0_settle_43 : decode cX0_settle 43 = .ok (.goto (-30), 3) := by decide +kernel
theorem dX0_settle_46 : decode cX0_settle 46 = .ok (.iconst 1, 1) := by decide +kernel
theorem dX0_settle_47 : decode cX0_settle 47 = .ok (.ireturn, 1) := by decide +kernel
theorem dX0_listFreePipes_0 : decode cX0_listFreePipes 0 = .ok (.aload_n 0, 1) := by decide +kernel
theorem dX0_listFreePipes_1 : decode cX0_listFreePipes 1 = .ok (.getfield 9, 3) := by decide +kernel
theorem dX0_listFreePipes_4 : decode cX0_listFreePipes 4 = .ok (.getfield 64, 3) := by decide +kernel
theorem dX0_listFreePipes_7 : decode cX0_listFreePipes 7 = .ok (.iconst 0, 1) := by decide +kernel
theorem dX0_listFreePipes_8 : decode cX0_listFreePipes 8 = .ok (.aload_n 0, 1) := by decide +kernel
theorem dX0_listFreePipes_9 : decode cX0_listFreePipes 9 = .ok (.getfield 35, 3) := by decide +kernel
theorem dX0_listFreePipes_12 : decode cX0_listFreePipes 12 = .ok (.iconst 0, 1) := by decide +kernel
theorem dX0_listFreePipes_13 : decode cX0_listFreePipes 13 = .ok (.bipush 25, 2) := by decide +kernel
theorem dX0_listFreePipes_15 : decode cX0_listFreePipes 15 = .ok (.invokestatic 67, 3) := by decide +kernel
theorem dX0_listFreePipes_18 : decode cX0_listFreePipes 18 = .ok (.aload_n 0, 1) := by decide +kernel
theorem dX0_listFreePipes_19 : decode cX0_listFreePipes 19 = .ok (.getfield 9, 3) := by decide +kernel
theorem dX0_listFreePipes_22 : decode cX0_listFreePipes 22 = .ok (.getfield 64, 3) := by decide +kernel
theorem dX0_listFreePipes_25 : decode cX0_listFreePipes 25 = .ok (.iconst 0, 1) := by decide +kernel
theorem dX0_listFreePipes_26 : decode cX0_listFreePipes 26 = .ok (.aload_n 0, 1) := by decide +kernel
theorem dX0_listFreePipes_27 : decode cX0_listFreePipes 27 = .ok (.getfield 38, 3) := by decide +kernel
theorem dX0_listFreePipes_30 : decode cX0_listFreePipes 30 = .ok (.iconst 0, 1) := by decide +kernel
theorem dX0_listFreePipes_31 : decode cX0_listFreePipes 31 = .ok (.bipush 25, 2) := by decide +kernel
theorem dX0_listFreePipes_33 : decode cX0_listFreePipes 33 = .ok (.invokestatic 67, 3) := by decide +kernel
theorem dX0_listFreePipes_36 : decode cX0_listFreePipes 36 = .ok (.aload_n 0, 1) := by decide +kernel
theorem dX0_listFreePipes_37 : decode cX0_listFreePipes 37 = .ok (.iconst 0, 1) := by decide +kernel
theorem dX0_listFreePipes_38 : decode cX0_listFreePipes 38 = .ok (.putfield 55, 3) := by decide +kernel
theorem dX0_listFreePipes_41 : decode cX0_listFreePipes 41 = .ok (.iconst 0, 1) := by decide +kernel
theorem dX0_listFreePipes_42 : decode cX0_listFreePipes 42 = .ok (.istore_n 1, 1) := by decide +kernel
theorem dX0_listFreePipes_43 : decode cX0_listFreePipes 43 = .ok (.iload_n 1, 1) := by decide +kernel
theorem dX0_listFreePipes_44 : decode cX0_listFreePipes 44 = .ok (.aload_n 0, 1) := by decide +kernel
theorem dX0_listFreePipes_45 : decode cX0_listFreePipes 45 = .ok (.getfield 9, 3) := by decide +kernel
theorem dX0_listFreePipes_48 : decode cX0_listFreePipes 48 = .ok (.getfield 73, 3) := by decide +kernel
theorem dX0_listFreePipes_51 : decode cX0_listFreePipes 51 = .ok (.if_icmp .ge 60, 3) := by decide +kernel
theorem dX0_listFreePipes_54 : decode cX0_listFreePipes 54 = .ok (.aload_n 0, 1) := by decide +kernel
theorem dX0_listFreePipes_55 : decode cX0_listFreePipes 55 = .ok (.getfield 55, 3) := by decide +kernel
theorem dX0_listFreePipes_58 : decode cX0_listFreePipes 58 = .ok (.iconst 5, 1) := by decide +kernel
theorem dX0_listFreePipes_59 : decode cX0_listFreePipes 59 = .ok (.if_icmp .ge 52, 3) := by decide +kernel
theorem dX0_listFreePipes_62 : decode cX0_listFreePipes 62 = .ok (.aload_n 0, 1) := by decide +kernel
theorem dX0_listFreePipes_63 : decode cX0_listFreePipes 63 = .ok (.getfield 9, 3) := by decide +kernel
theorem dX0_listFreePipes_66 : decode cX0_listFreePipes 66 = .ok (.getfield 75, 3) := by decide +kernel
theorem dX0_listFreePipes_69 : decode cX0_listFreePipes 69 = .ok (.iload_n 1, 1) := by decide +kernel
theorem dX0_listFreePipes_70 : decode cX0_listFreePipes 70 = .ok (.invokestatic 78, 3) := by decide +kernel
theorem dX0_listFreePipes_73 : decode cX0_listFreePipes 73 = .ok (.iconst 1, 1) := by decide +kernel
theorem dX0_listFreePipes_74 : decode cX0_listFreePipes 74 = .ok (.if_icmp .ne 31, 3) := by decide +kernel
theorem dX0_listFreePipes_77 : decode cX0_listFreePipes 77 = .ok (.aload_n 0, 1) := by decide +kernel
theorem dX0_listFreePipes_78 : decode cX0_listFreePipes 78 = .ok (.getfield 23, 3) := by decide +kernel
theorem dX0_listFreePipes_81 : decode cX0_listFreePipes 81 = .ok (.aload_n 0, 1) := by decide +kernel
theorem dX0_listFreePipes_82 : decode cX0_listFreePipes 82 = .ok (.getfield 55, 3) := by decide +kernel
theorem dX0_listFreePipes_85 : decode cX0_listFreePipes 85 = .ok (.iload_n 1, 1) := by decide +kernel
theorem dX0_listFreePipes_86 : decode cX0_listFreePipes 86 = .ok (.iastore, 1) := by decide +kernel
theorem dX0_listFreePipes_87 : decode cX0_listFreePipes 87 = .ok (.aload_n 0, 1) := by decide +kernel
theorem dX0_listFreePipes_88 : decode cX0_listFreePipes 88 = .ok (.aload_n 0, 1) := by decide +kernel
theorem dX0_listFreePipes_89 : decode cX0_listFreePipes 89 = .ok (.getfield 55, 3) := by decide +kernel
theorem dX0_listFreePipes_92 : decode cX0_listFreePipes 92 = .ok (.invokevirtual 82, 3) := by decide +kernel
theorem dX0_listFreePipes_95 : decode cX0_listFreePipes 95 = .ok (.aload_n 0, 1) := by decide +kernel
theorem dX0_listFreePipes_96 : decode cX0_listFreePipes 96 = .ok (.dup, 1) := by decide +kernel
theorem dX0_listFreePipes_97 : decode cX0_listFreePipes 97 = .ok (.getfield 55, 3) := by decide +kernel
theorem dX0_listFreePipes_100 : decode cX0_listFreePipes 100 = .ok (.iconst 1, 1) := by decide +kernel
theorem dX0_listFreePipes_101 : decode cX0_listFreePipes 101 = .ok (.iadd, 1) := by decide +kernel
theorem dX0_listFreePipes_102 : decode cX0_listFreePipes 102 = .ok (.putfield 55, 3) := by decide +kernel
theorem dX0_listFreePipes_105 : decode cX0_listFreePipes 105 = .ok (.iinc 1 1, 3) := by decide +kernel
theorem dX0_listFreePipes_108 : decode cX0_listFreePipes 108 = .ok (.goto (-65), 3) := by decide +kernel
theorem dX0_listFreePipes_111 : decode cX0_listFreePipes 111 = .ok (.aload_n 0, 1) := by decide +kernel
theorem dX0_listFreePipes_112 : decode cX0_listFreePipes 112 = .ok (.getfield 32, 3) := by decide +kernel
theorem dX0_listFreePipes_115 : decode cX0_listFreePipes 115 = .ok (.aload_n 0, 1) := by decide +kernel
theorem dX0_listFreePipes_116 : decode cX0_listFreePipes 116 = .ok (.getfield 55, 3) := by decide +kernel
theorem dX0_listFreePipes_119 : decode cX0_listFreePipes 119 = .ok (.iconst 0, 1) := by decide +kernel
theorem dX0_listFreePipes_120 : decode cX0_listFreePipes 120 = .ok (.iastore, 1) := by decide +kernel
theorem dX0_listFreePipes_121 : decode cX0_listFreePipes 121 = .ok (.aload_n 0, 1) := by decide +kernel
theorem dX0_listFreePipes_122 : decode cX0_listFreePipes 122 = .ok (.getfield 55, 3) := by decide +kernel
theorem dX0_listFreePipes_125 : decode cX0_listFreePipes 125 = .ok (.iconst 1, 1) := by decide +kernel
theorem dX0_listFreePipes_126 : decode cX0_listFreePipes 126 = .ok (.isub, 1) := by decide +kernel
theorem dX0_listFreePipes_127 : decode cX0_listFreePipes 127 = .ok (.istore_n 1, 1) := by decide +kernel
theorem dX0_listFreePipes_128 : decode cX0_listFreePipes 128 = .ok (.iload_n 1, 1) := by decide +kernel
theorem dX0_listFreePipes_129 : decode cX0_listFreePipes 129 = .ok (.ifCond .lt 34, 3) := by decide +kernel
theorem dX0_listFreePipes_132 : decode cX0_listFreePipes 132 = .ok (.aload_n 0, 1) := by decide +kernel
theorem dX0_listFreePipes_133 : decode cX0_listFreePipes 133 = .ok (.getfield 32, 3) := by decide +kernel
theorem dX0_listFreePipes_136 : decode cX0_listFreePipes 136 = .ok (.iload_n 1, 1) := by decide +kernel
theorem dX0_listFreePipes_137 : decode cX0_listFreePipes 137 = .ok (.aload_n 0, 1) := by decide +kernel
theorem dX0_listFreePipes_138 : decode cX0_listFreePipes 138 = .ok (.getfield 32, 3) := by decide +kernel
theorem dX0_listFreePipes_141 : decode cX0_listFreePipes 141 = .ok (.iload_n 1, 1) := by decide +kernel
theorem dX0_listFreePipes_142 : decode cX0_listFreePipes 142 = .ok (.iconst 1, 1) := by decide +kernel
theorem dX0_listFreePipes_143 : decode cX0_listFreePipes 143 = .ok (.iadd, 1) := by decide +kernel
theorem dX0_listFreePipes_144 : decode cX0_listFreePipes 144 = .ok (.iaload, 1) := by decide +kernel
theorem dX0_listFreePipes_145 : decode cX0_listFreePipes 145 = .ok (.aload_n 0, 1) := by decide +kernel
theorem dX0_listFreePipes_146 : decode cX0_listFreePipes 146 = .ok (.aload_n 0, 1) := by decide +kernel
theorem dX0_listFreePipes_147 : decode cX0_listFreePipes 147 = .ok (.getfield 23, 3) := by decide +kernel
theorem dX0_listFreePipes_150 : decode cX0_listFreePipes 150 = .ok (.iload_n 1, 1) := by decide +kernel
theorem dX0_listFreePipes_151 : decode cX0_listFreePipes 151 = .ok (.iaload, 1) := by decide +kernel
theorem dX0_listFreePipes_152 : decode cX0_listFreePipes 152 = .ok (.invokevirtual 86, 3) := by decide +kernel
theorem dX0_listFreePipes_155 : decode cX0_listFreePipes 155 = .ok (.iadd, 1) := by decide +kernel
theorem dX0_listFreePipes_156 : decode cX0_listFreePipes 156 = .ok (.iastore, 1) := by decide +kernel
theorem dX0_listFreePipes_157 : decode cX0_listFreePipes 157 = .ok (.iinc 1 (-1), 3) := by decide +kernel
theorem dX0_listFreePipes_160 : decode cX0_listFreePipes 160 = .ok (.goto (-32), 3) := by decide +kernel
theorem dX0_listFreePipes_163 : decode cX0_listFreePipes 163 = .ok (.return_, 1) := by decide +kernel
theorem dX0_leastPrice_0 : decode cX0_leastPrice 0 = .ok (.ldc 48, 2) := by decide +kernel
theorem dX0_leastPrice_2 : decode cX0_leastPrice 2 = .ok (.istore_n 2, 1) := by decide +kernel
theorem dX0_leastPrice_3 : decode cX0_leastPrice 3 = .ok (.iconst 0, 1) := by decide +kernel
theorem dX0_leastPrice_4 : decode cX0_leastPrice 4 = .ok (.istore_n 3, 1) := by decide +kernel
theorem dX0_leastPrice_5 : decode cX0_leastPrice 5 = .ok (.iload_n 3, 1) := by decide +kernel
theorem dX0_leastPrice_6 : decode cX0_leastPrice 6 = .ok (.aload_n 0, 1) := by decide +kernel
theorem dX0_leastPrice_7 : decode cX0_leastPrice 7 = .ok (.getfield 9, 3) := by decide +kernel
theorem dX0_leastPrice_10 : decode cX0_leastPrice 10 = .ok (.getfield 90, 3) := by decide +kernel
theorem dX0_leastPrice_13 : decode cX0_leastPrice 13 = .ok (.if_icmp .ge 23, 3) := by decide +kernel
theorem dX0_leastPrice_16 : decode cX0_leastPrice 16 = .ok (.iload_n 2, 1) := by decide +kernel
theorem dX0_leastPrice_17 : decode cX0_leastPrice 17 = .ok (.aload_n 0, 1) := by decide +kernel
theorem dX0_leastPrice_18 : decode cX0_leastPrice 18 = .ok (.getfield 9, 3) := by decide +kernel
theorem dX0_leastPrice_21 : decode cX0_leastPrice 21 = .ok (.iload_n 1, 1) := by decide +kernel
theorem dX0_leastPrice_22 : decode cX0_leastPrice 22 = .ok (.iload_n 3, 1) := by decide +kernel
theorem dX0_leastPrice_23 : decode cX0_leastPrice 23 = .ok (.invokevirtual 93, 3) := by decide +kernel
theorem dX0_leastPrice_26 : decode cX0_leastPrice 26 = .ok (.invokestatic 96, 3) := by decide +kernel
theorem dX0_leastPrice_29 : decode cX0_leastPrice 29 = .ok (.istore_n 2, 1) := by decide +kernel
theorem dX0_leastPrice_30 : decode cX0_leastPrice 30 = .ok (.iinc 3 1, 3) := by decide +kernel
theorem dX0_leastPrice_33 : decode cX0_leastPrice 33 = .ok (.goto (-28), 3) := by decide +kernel
theorem dX0_leastPrice_36 : decode cX0_leastPrice 36 = .ok (.iload_n 2, 1) := by decide +kernel
theorem dX0_leastPrice_37 : decode cX0_leastPrice 37 = .ok (.ireturn, 1) := by decide +kernel
theorem dX0_search_0 : decode cX0_search 0 = .ok (.iload_n 1, 1) := by decide +kernel
theorem dX0_search_1 : decode cX0_search 1 = .ok (.aload_n 0, 1) := by decide +kernel
theorem dX0_search_2 : decode cX0_search 2 = .ok (.getfield 55, 3) := by decide +kernel
theorem dX0_search_5 : decode cX0_search 5 = .ok (.if_icmp .gt 18, 3) := by decide +kernel
theorem dX0_search_8 : decode cX0_search 8 = .ok (.iload_n 2, 1) := by decide +kernel
theorem dX0_search_9 : decode cX0_search 9 = .ok (.aload_n 0, 1) := by decide +kernel
theorem dX0_search_10 : decode cX0_search 10 = .ok (.getfield 32, 3) := by decide +kernel
theorem dX0_search_13 : decode cX0_search 13 = .ok (.iload_n 1, 1) := by decide +kernel
theorem dX0_search_14 : decode cX0_search 14 = .ok (.iaload, 1) := by decide +kernel
theorem dX0_search_15 : decode cX0_search 15 = .ok (.iadd, 1) := by decide +kernel
theorem dX0_search_16 : decode cX0_search 16 = .ok (.aload_n 0, 1) := by decide +kernel
theorem dX0_search_17 : decode cX0_search 17 = .ok (.getfield 49, 3) := by decide +kernel
theorem dX0_search_20 : decode cX0_search 20 = .ok (.if_icmp .lt 4, 3) := by decide +kernel
theorem dX0_search_23 : decode cX0_search 23 = .ok (.return_, 1) := by decide +kernel
theorem dX0_search_24 : decode cX0_search 24 = .ok (.iload_n 1, 1) := by decide +kernel
theorem dX0_search_25 : decode cX0_search 25 = .ok (.aload_n 0, 1) := by decide +kernel
theorem dX0_search_26 : decode cX0_search 26 = .ok (.getfield 55, 3) := by decide +kernel
theorem dX0_search_29 : decode cX0_search 29 = .ok (.if_icmp .ne 31, 3) := by decide +kernel
theorem dX0_search_32 : decode cX0_search 32 = .ok (.aload_n 0, 1) := by decide +kernel
theorem dX0_search_33 : decode cX0_search 33 = .ok (.iconst 1, 1) := by decide +kernel
theorem dX0_search_34 : decode cX0_search 34 = .ok (.invokevirtual 101, 3) := by decide +kernel
theorem dX0_search_37 : decode cX0_search 37 = .ok (.ifCond .eq 22, 3) := by decide +kernel
theorem dX0_search_40 : decode cX0_search 40 = .ok (.aload_n 0, 1) := by decide +kernel
theorem dX0_search_41 : decode cX0_search 41 = .ok (.iload_n 2, 1) := by decide +kernel
theorem dX0_search_42 : decode cX0_search 42 = .ok (.putfield 49, 3) := by decide +kernel
theorem dX0_search_45 : decode cX0_search 45 = .ok (.aload_n 0, 1) := by decide +kernel
theorem dX0_search_46 : decode cX0_search 46 = .ok (.getfield 26, 3) := by decide +kernel
theorem dX0_search_49 : decode cX0_search 49 = .ok (.iconst 0, 1) := by decide +kernel
theorem dX0_search_50 : decode cX0_search 50 = .ok (.aload_n 0, 1) := by decide +kernel
theorem dX0_search_51 : decode cX0_search 51 = .ok (.getfield 29, 3) := by decide +kernel
theorem dX0_search_54 : decode cX0_search 54 = .ok (.iconst 0, 1) := by decide +kernel
theorem dX0_search_55 : decode cX0_search 55 = .ok (.iconst 5, 1) := by decide +kernel
theorem dX0_search_56 : decode cX0_search 56 = .ok (.invokestatic 67, 3) := by decide +kernel
theorem dX0_search_59 : decode cX0_search 59 = .ok (.return_, 1) := by decide +kernel
theorem dX0_search_60 : decode cX0_search 60 = .ok (.iload_n 1, 1) := by decide +kernel
theorem dX0_search_61 : decode cX0_search 61 = .ok (.aload_n 0, 1) := by decide +kernel
theorem dX0_search_62 : decode cX0_search 62 = .ok (.getfield 55, 3) := by decide +kernel
theorem dX0_search_65 : decode cX0_search 65 = .ok (.iconst 1, 1) := by decide +kernel
theorem dX0_search_66 : decode cX0_search 66 = .ok (.isub, 1) := by decide +kernel
theorem dX0_search_67 : decode cX0_search 67 = .ok (.if_icmp .ge 12, 3) := by decide +kernel
theorem dX0_search_70 : decode cX0_search 70 = .ok (.aload_n 0, 1) := by decide +kernel
theorem dX0_search_71 : decode cX0_search 71 = .ok (.iconst 0, 1) := by decide +kernel
theorem dX0_search_72 : decode cX0_search 72 = .ok (.invokevirtual 101, 3) := by decide +kernel
theorem dX0_search_75 : decode cX0_search 75 = .ok (.ifCond .ne 4, 3) := by decide +kernel
theorem dX0_search_78 : decode cX0_search 78 = .ok (.return_, 1) := by decide +kernel
theorem dX0_search_79 : decode cX0_search 79 = .ok (.iconst 0, 1) := by decide +kernel
theorem dX0_search_80 : decode cX0_search 80 = .ok (.istore_n 3, 1) := by decide +kernel
theorem dX0_search_81 : decode cX0_search 81 = .ok (.iload_n 3, 1) := by decide +kernel
theorem dX0_search_82 : decode cX0_search 82 = .ok (.aload_n 0, 1) := by decide +kernel
theorem dX0_search_83 : decode cX0_search 83 = .ok (.getfield 9, 3) := by decide +kernel
theorem dX0_search_86 : decode cX0_search 86 = .ok (.getfield 90, 3) := by decide +kernel
theorem dX0_search_89 : decode cX0_search 89 = .ok (.if_icmp .ge 38, 3) := by decide +kernel
theorem dX0_search_92 : decode cX0_search 92 = .ok (.aload_n 0, 1) := by decide +kernel
theorem dX0_search_93 : decode cX0_search 93 = .ok (.iload_n 1, 1) := by decide +kernel
theorem dX0_search_94 : decode cX0_search 94 = .ok (.iload_n 3, 1) := by decide +kernel
theorem dX0_search_95 : decode cX0_search 95 = .ok (.invokevirtual 105, 3) := by decide +kernel
theorem dX0_search_98 : decode cX0_search 98 = .ok (.aload_n 0, 1) := by decide +kernel
theorem dX0_search_99 : decode cX0_search 99 = .ok (.iload_n 1, 1) := by decide +kernel
theorem dX0_search_100 : decode cX0_search 100 = .ok (.iconst 1, 1) := by decide +kernel
theorem dX0_search_101 : decode cX0_search 101 = .ok (.iadd, 1) := by decide +kernel
theorem dX0_search_102 : decode cX0_search 102 = .ok (.iload_n 2, 1) := by decide +kernel
theorem dX0_search_103 : decode cX0_search 103 = .ok (.aload_n 0, 1) := by decide +kernel
theorem dX0_search_104 : decode cX0_search 104 = .ok (.getfield 9, 3) := by decide +kernel
theorem dX0_search_107 : decode cX0_search 107 = .ok (.aload_n 0, 1) := by decide +kernel
theorem dX0_search_108 : decode cX0_search 108 = .ok (.getfield 23, 3) := by decide +kernel
theorem dX0_search_111 : decode cX0_search 111 = .ok (.iload_n 1, 1) := by decide +kernel
theorem dX0_search_112 : decode cX0_search 112 = .ok (.iaload, 1) := by decide +kernel
theorem dX0_search_113 : decode cX0_search 113 = .ok (.iload_n 3, 1) := by decide +kernel
theorem dX0_search_114 : decode cX0_search 114 = .ok (.invokevirtual 93, 3) := by decide +kernel
theorem dX0_search_117 : decode cX0_search 117 = .ok (.iadd, 1) := by decide +kernel
theorem dX0_search_118 : decode cX0_search 118 = .ok (.invokestatic 108, 3) := by decide +kernel
theorem dX0_search_121 : decode cX0_search 121 = .ok (.iinc 3 1, 3) := by decide +kernel
theorem dX0_search_124 : decode cX0_search 124 = .ok (.goto (-43), 3) := by decide +kernel
theorem dX0_search_127 : decode cX0_search 127 = .ok (.aload_n 0, 1) := by decide +kernel
theorem dX0_search_128 : decode cX0_search 128 = .ok (.iload_n 1, 1) := by decide +kernel
theorem dX0_search_129 : decode cX0_search 129 = .ok (.invokevirtual 82, 3) := by decide +kernel
theorem dX0_search_132 : decode cX0_search 132 = .ok (.return_, 1) := by decide +kernel
theorem dX0_fix_0 : decode cX0_fix 0 = .ok (.aload_n 0, 1) := by decide +kernel
theorem dX0_fix_1 : decode cX0_fix 1 = .ok (.getfield 9, 3) := by decide +kernel
theorem dX0_fix_4 : decode cX0_fix 4 = .ok (.aload_n 0, 1) := by decide +kernel
theorem dX0_fix_5 : decode cX0_fix 5 = .ok (.getfield 23, 3) := by decide +kernel
theorem dX0_fix_8 : decode cX0_fix 8 = .ok (.iload_n 1, 1) := by decide +kernel
theorem dX0_fix_9 : decode cX0_fix 9 = .ok (.iaload, 1) := by decide +kernel
theorem dX0_fix_10 : decode cX0_fix 10 = .ok (.iload_n 2, 1) := by decide +kernel
theorem dX0_fix_11 : decode cX0_fix 11 = .ok (.invokevirtual 112, 3) := by decide +kernel
theorem dX0_fix_14 : decode cX0_fix 14 = .ok (.istore_n 3, 1) := by decide +kernel
theorem dX0_fix_15 : decode cX0_fix 15 = .ok (.aload_n 0, 1) := by decide +kernel
theorem dX0_fix_16 : decode cX0_fix 16 = .ok (.getfield 26, 3) := by decide +kernel
theorem dX0_fix_19 : decode cX0_fix 19 = .ok (.iload_n 1, 1) := by decide +kernel
theorem dX0_fix_20 : decode cX0_fix 20 = .ok (.iload_n 2, 1) := by decide +kernel
theorem dX0_fix_21 : decode cX0_fix 21 = .ok (.iastore, 1) := by decide +kernel
theorem dX0_fix_22 : decode cX0_fix 22 = .ok (.aload_n 0, 1) := by decide +kernel
theorem dX0_fix_23 : decode cX0_fix 23 = .ok (.getfield 35, 3) := by decide +kernel
theorem dX0_fix_26 : decode cX0_fix 26 = .ok (.aload_n 0, 1) := by decide +kernel
theorem dX0_fix_27 : decode cX0_fix 27 = .ok (.getfield 23, 3) := by decide +kernel
theorem dX0_fix_30 : decode cX0_fix 30 = .ok (.iload_n 1, 1) := by decide +kernel
theorem dX0_fix_31 : decode cX0_fix 31 = .ok (.iaload, 1) := by decide +kernel
theorem dX0_fix_32 : decode cX0_fix 32 = .ok (.iconst 1, 1) := by decide +kernel
theorem dX0_fix_33 : decode cX0_fix 33 = .ok (.iadd, 1) := by decide +kernel
theorem dX0_fix_34 : decode cX0_fix 34 = .ok (.iload_n 3, 1) := by decide +kernel
theorem dX0_fix_35 : decode cX0_fix 35 = .ok (.iastore, 1) := by decide +kernel
theorem dX0_fix_36 : decode cX0_fix 36 = .ok (.aload_n 0, 1) := by decide +kernel
theorem dX0_fix_37 : decode cX0_fix 37 = .ok (.getfield 38, 3) := by decide +kernel
theorem dX0_fix_40 : decode cX0_fix 40 = .ok (.aload_n 0, 1) := by decide +kernel
theorem dX0_fix_41 : decode cX0_fix 41 = .ok (.getfield 23, 3) := by decide +kernel
theorem dX0_fix_44 : decode cX0_fix 44 = .ok (.iload_n 1, 1) := by decide +kernel
theorem dX0_fix_45 : decode cX0_fix 45 = .ok (.iaload, 1) := by decide +kernel
theorem dX0_fix_46 : decode cX0_fix 46 = .ok (.iconst 1, 1) := by decide +kernel
theorem dX0_fix_47 : decode cX0_fix 47 = .ok (.iadd, 1) := by decide +kernel
theorem dX0_fix_48 : decode cX0_fix 48 = .ok (.iload_n 3, 1) := by decide +kernel
theorem dX0_fix_49 : decode cX0_fix 49 = .ok (.iastore, 1) := by decide +kernel
theorem dX0_fix_50 : decode cX0_fix 50 = .ok (.return_, 1) := by decide +kernel
theorem dX0_widen_0 : decode cX0_widen 0 = .ok (.ldc 48, 2) := by decide +kernel
theorem dX0_widen_2 : decode cX0_widen 2 = .ok (.istore_n 2, 1) := by decide +kernel
theorem dX0_widen_3 : decode cX0_widen 3 = .ok (.iconst 0, 1) := by decide +kernel
theorem dX0_widen_4 : decode cX0_widen 4 = .ok (.istore_n 3, 1) := by decide +kernel
theorem dX0_widen_5 : decode cX0_widen 5 = .ok (.iconst 0, 1) := by decide +kernel
theorem dX0_widen_6 : decode cX0_widen 6 = .ok (.istore 4, 2) := by decide +kernel
theorem dX0_widen_8 : decode cX0_widen 8 = .ok (.iload 4, 2) := by decide +kernel
theorem dX0_widen_10 : decode cX0_widen 10 = .ok (.aload_n 0, 1) := by decide +kernel
theorem dX0_widen_11 : decode cX0_widen 11 = .ok (.getfield 9, 3) := by decide +kernel
theorem dX0_widen_14 : decode cX0_widen 14 = .ok (.getfield 90, 3) := by decide +kernel
theorem dX0_widen_17 : decode cX0_widen 17 = .ok (.if_icmp .ge 40, 3) := by decide +kernel
theorem dX0_widen_20 : decode cX0_widen 20 = .ok (.aload_n 0, 1) := by decide +kernel
theorem dX0_widen_21 : decode cX0_widen 21 = .ok (.getfield 9, 3) := by decide +kernel
theorem dX0_widen_24 : decode cX0_widen 24 = .ok (.aload_n 0, 1) := by decide +kernel
theorem dX0_widen_25 : decode cX0_widen 25 = .ok (.getfield 23, 3) := by decide +kernel
theorem dX0_widen_28 : decode cX0_widen 28 = .ok (.iload_n 1, 1) := by decide +kernel
theorem dX0_widen_29 : decode cX0_widen 29 = .ok (.iaload, 1) := by decide +kernel
theorem dX0_widen_30 : decode cX0_widen 30 = .ok (.iload 4, 2) := by decide +kernel
theorem dX0_widen_32 : decode cX0_widen 32 = .ok (.invokevirtual 112, 3) := by decide +kernel
theorem dX0_widen_35 : decode cX0_widen 35 = .ok (.istore 5, 2) := by decide +kernel
theorem dX0_widen_37 : decode cX0_widen 37 = .ok (.iload_n 2, 1) := by decide +kernel
theorem dX0_widen_38 : decode cX0_widen 38 = .ok (.iload 5, 2) := by decide +kernel
theorem dX0_widen_40 : decode cX0_widen 40 = .ok (.invokestatic 96, 3) := by decide +kernel
theorem dX0_widen_43 : decode cX0_widen 43 = .ok (.istore_n 2, 1) := by decide +kernel
theorem dX0_widen_44 : decode cX0_widen 44 = .ok (.iload_n 3, 1) := by decide +kernel
theorem dX0_widen_45 : decode cX0_widen 45 = .ok (.iload 5, 2) := by decide +kernel
theorem dX0_widen_47 : decode cX0_widen 47 = .ok (.invokestatic 115, 3) := by decide +kernel
theorem dX0_widen_50 : decode cX0_widen 50 = .ok (.istore_n 3, 1) := by decide +kernel
theorem dX0_widen_51 : decode cX0_widen 51 = .ok (.iinc 4 1, 3) := by decide +kernel
theorem dX0_widen_54 : decode cX0_widen 54 = .ok (.goto (-46), 3) := by decide +kernel
theorem dX0_widen_57 : decode cX0_widen 57 = .ok (.aload_n 0, 1) := by decide +kernel
theorem dX0_widen_58 : decode cX0_widen 58 = .ok (.getfield 35, 3) := by decide +kernel
theorem dX0_widen_61 : decode cX0_widen 61 = .ok (.aload_n 0, 1) := by decide +kernel
theorem dX0_widen_62 : decode cX0_widen 62 = .ok (.getfield 23, 3) := by decide +kernel
theorem dX0_widen_65 : decode cX0_widen 65 = .ok (.iload_n 1, 1) := by decide +kernel
theorem dX0_widen_66 : decode cX0_widen 66 = .ok (.iaload, 1) := by decide +kernel
theorem dX0_widen_67 : decode cX0_widen 67 = .ok (.iconst 1, 1) := by decide +kernel
theorem dX0_widen_68 : decode cX0_widen 68 = .ok (.iadd, 1) := by decide +kernel
theorem dX0_widen_69 : decode cX0_widen 69 = .ok (.iload_n 2, 1) := by decide +kernel
theorem dX0_widen_70 : decode cX0_widen 70 = .ok (.iastore, 1) := by decide +kernel
theorem dX0_widen_71 : decode cX0_widen 71 = .ok (.aload_n 0, 1) := by decide +kernel
theorem dX0_widen_72 : decode cX0_widen 72 = .ok (.getfield 38, 3) := by decide +kernel
theorem dX0_widen_75 : decode cX0_widen 75 = .ok (.aload_n 0, 1) := by decide +kernel
theorem dX0_widen_76 : decode cX0_widen 76 = .ok (.getfield 23, 3) := by decide +kernel
theorem dX0_widen_79 : decode cX0_widen 79 = .ok (.iload_n 1, 1) := by decide +kernel
theorem dX0_widen_80 : decode cX0_widen 80 = .ok (.iaload, 1) := by decide +kernel
theorem dX0_widen_81 : decode cX0_widen 81 = .ok (.iconst 1, 1) := by decide +kernel
theorem dX0_widen_82 : decode cX0_widen 82 = .ok (.iadd, 1) := by decide +kernel
theorem dX0_widen_83 : decode cX0_widen 83 = .ok (.iload_n 3, 1) := by decide +kernel
theorem dX0_widen_84 : decode cX0_widen 84 = .ok (.iastore, 1) := by decide +kernel
theorem dX0_widen_85 : decode cX0_widen 85 = .ok (.return_, 1) := by decide +kernel
theorem dX0_areAllMet_0 : decode cX0_areAllMet 0 = .ok (.aload_n 0, 1) := by decide +kernel
theorem dX0_areAllMet_1 : decode cX0_areAllMet 1 = .ok (.getfield 45, 3) := by decide +kernel
theorem dX0_areAllMet_4 : decode cX0_areAllMet 4 = .ok (.istore_n 2, 1) := by decide +kernel
theorem dX0_areAllMet_5 : decode cX0_areAllMet 5 = .ok (.iconst 0, 1) := by decide +kernel
theorem dX0_areAllMet_6 : decode cX0_areAllMet 6 = .ok (.istore_n 3, 1) := by decide +kernel
theorem dX0_areAllMet_7 : decode cX0_areAllMet 7 = .ok (.iload_n 3, 1) := by decide +kernel
theorem dX0_areAllMet_8 : decode cX0_areAllMet 8 = .ok (.aload_n 0, 1) := by decide +kernel
theorem dX0_areAllMet_9 : decode cX0_areAllMet 9 = .ok (.getfield 41, 3) := by decide +kernel
theorem dX0_areAllMet_12 : decode cX0_areAllMet 12 = .ok (.if_icmp .ge 84, 3) := by decide +kernel
theorem dX0_areAllMet_15 : decode cX0_areAllMet 15 = .ok (.iload_n 2, 1) := by decide +kernel
theorem dX0_areAllMet_16 : decode cX0_areAllMet 16 = .ok (.aload_n 0, 1) := by decide +kernel
theorem dX0_areAllMet_17 : decode cX0_areAllMet 17 = .ok (.getfield 41, 3) := by decide +kernel
theorem dX0_areAllMet_20 : decode cX0_areAllMet 20 = .ok (.if_icmp .lt 5, 3) := by decide +kernel
theorem dX0_areAllMet_23 : decode cX0_areAllMet 23 = .ok (.iconst 0, 1) := by decide +kernel
theorem dX0_areAllMet_24 : decode cX0_areAllMet 24 = .ok (.istore_n 2, 1) := by decide +kernel
theorem dX0_areAllMet_25 : decode cX0_areAllMet 25 = .ok (.aload_n 0, 1) := by decide +kernel
theorem dX0_areAllMet_26 : decode cX0_areAllMet 26 = .ok (.getfield 15, 3) := by decide +kernel
theorem dX0_areAllMet_29 : decode cX0_areAllMet 29 = .ok (.iload_n 1, 1) := by decide +kernel
theorem dX0_areAllMet_30 : decode cX0_areAllMet 30 = .ok (.aload_n 0, 1) := by decide +kernel
theorem dX0_areAllMet_31 : decode cX0_areAllMet 31 = .ok (.getfield 38, 3) := by decide +kernel
theorem dX0_areAllMet_34 : decode cX0_areAllMet 34 = .ok (.aload_n 0, 1) := by decide +kernel
theorem dX0_areAllMet_35 : decode cX0_areAllMet 35 = .ok (.getfield 19, 3) := by decide +kernel
theorem dX0_areAllMet_38 : decode cX0_areAllMet 38 = .ok (.iload_n 2, 1) := by decide +kernel
theorem dX0_areAllMet_39 : decode cX0_areAllMet 39 = .ok (.iaload, 1) := by decide +kernel
theorem dX0_areAllMet_40 : decode cX0_areAllMet 40 = .ok (.invokevirtual 118, 3) := by decide +kernel
theorem dX0_areAllMet_43 : decode cX0_areAllMet 43 = .ok (.aload_n 0, 1) := by decide +kernel
theorem dX0_areAllMet_44 : decode cX0_areAllMet 44 = .ok (.getfield 15, 3) := by decide +kernel
theorem dX0_areAllMet_47 : decode cX0_areAllMet 47 = .ok (.iconst 0, 1) := by decide +kernel
theorem dX0_areAllMet_48 : decode cX0_areAllMet 48 = .ok (.aload_n 0, 1) := by decide +kernel
theorem dX0_areAllMet_49 : decode cX0_areAllMet 49 = .ok (.getfield 35, 3) := by decide +kernel
theorem dX0_areAllMet_52 : decode cX0_areAllMet 52 = .ok (.aload_n 0, 1) := by decide +kernel
theorem dX0_areAllMet_53 : decode cX0_areAllMet 53 = .ok (.getfield 9, 3) := by decide +kernel
theorem dX0_areAllMet_56 : decode cX0_areAllMet 56 = .ok (.getfield 124, 3) := by decide +kernel
theorem dX0_areAllMet_59 : decode cX0_areAllMet 59 = .ok (.invokevirtual 127, 3) := by decide +kernel
theorem dX0_areAllMet_62 : decode cX0_areAllMet 62 = .ok (.aload_n 0, 1) := by decide +kernel
theorem dX0_areAllMet_63 : decode cX0_areAllMet 63 = .ok (.getfield 15, 3) := by decide +kernel
theorem dX0_areAllMet_66 : decode cX0_areAllMet 66 = .ok (.aload_n 0, 1) := by decide +kernel
theorem dX0_areAllMet_67 : decode cX0_areAllMet 67 = .ok (.getfield 19, 3) := by decide +kernel
theorem dX0_areAllMet_70 : decode cX0_areAllMet 70 = .ok (.iload_n 2, 1) := by decide +kernel
theorem dX0_areAllMet_71 : decode cX0_areAllMet 71 = .ok (.iaload, 1) := by decide +kernel
theorem dX0_areAllMet_72 : decode cX0_areAllMet 72 = .ok (.invokevirtual 130, 3) := by decide +kernel
theorem dX0_areAllMet_75 : decode cX0_areAllMet 75 = .ok (.lconst 0, 1) := by decide +kernel
theorem dX0_areAllMet_76 : decode cX0_areAllMet 76 = .ok (.lcmp, 1) := by decide +kernel
theorem dX0_areAllMet_77 : decode cX0_areAllMet 77 = .ok (.ifCond .ge 10, 3) := by decide +kernel
theorem dX0_areAllMet_80 : decode cX0_areAllMet 80 = .ok (.aload_n 0, 1) := by decide +kernel
theorem dX0_areAllMet_81 : decode cX0_areAllMet 81 = .ok (.iload_n 2, 1) := by decide +kernel
theorem dX0_areAllMet_82 : decode cX0_areAllMet 82 = .ok (.putfield 45, 3) := by decide +kernel
theorem dX0_areAllMet_85 : decode cX0_areAllMet 85 = .ok (.iconst 0, 1) := by decide +kernel
theorem dX0_areAllMet_86 : decode cX0_areAllMet 86 = .ok (.ireturn, 1) := by decide +kernel
theorem dX0_areAllMet_87 : decode cX0_areAllMet 87 = .ok (.iinc 2 1, 3) := by decide +kernel
theorem dX0_areAllMet_90 : decode cX0_areAllMet 90 = .ok (.iinc 3 1, 3) := by decide +kernel
theorem dX0_areAllMet_93 : decode cX0_areAllMet 93 = .ok (.goto (-86), 3) := by decide +kernel
theorem dX0_areAllMet_96 : decode cX0_areAllMet 96 = .ok (.iconst 1, 1) := by decide +kernel
theorem dX0_areAllMet_97 : decode cX0_areAllMet 97 = .ok (.ireturn, 1) := by decide +kernel
theorem dX1_init_0 : decode cX1_init 0 = .ok (.aload_n 0, 1) := by decide +kernel
theorem dX1_init_1 : decode cX1_init 1 = .ok (.invokespecial 3, 3) := by decide +kernel
theorem dX1_init_4 : decode cX1_init 4 = .ok (.aload_n 0, 1) := by decide +kernel
theorem dX1_init_5 : decode cX1_init 5 = .ok (.sipush 1000, 3) := by decide +kernel
theorem dX1_init_8 : decode cX1_init 8 = .ok (.putfield 9, 3) := by decide +kernel
theorem dX1_init_11 : decode cX1_init 11 = .ok (.aload_n 0, 1) := by decide +kernel
theorem dX1_init_12 : decode cX1_init 12 = .ok (.bipush 6, 2) := by decide +kernel
theorem dX1_init_14 : decode cX1_init 14 = .ok (.newarray .int, 2) := by decide +kernel
theorem dX1_init_16 : decode cX1_init 16 = .ok (.putfield 15, 3) := by decide +kernel
theorem dX1_init_19 : decode cX1_init 19 = .ok (.aload_n 0, 1) := by decide +kernel
theorem dX1_init_20 : decode cX1_init 20 = .ok (.bipush 6, 2) := by decide +kernel
theorem dX1_init_22 : decode cX1_init 22 = .ok (.newarray .int, 2) := by decide +kernel
theorem dX1_init_24 : decode cX1_init 24 = .ok (.putfield 19, 3) := by decide +kernel
theorem dX1_init_27 : decode cX1_init 27 = .ok (.aload_n 0, 1) := by decide +kernel
theorem dX1_init_28 : decode cX1_init 28 = .ok (.bipush 24, 2) := by decide +kernel
theorem dX1_init_30 : decode cX1_init 30 = .ok (.newarray .int, 2) := by decide +kernel
theorem dX1_init_32 : decode cX1_init 32 = .ok (.putfield 22, 3) := by decide +kernel
theorem dX1_init_35 : decode cX1_init 35 = .ok (.aload_n 0, 1) := by decide +kernel
theorem dX1_init_36 : decode cX1_init 36 = .ok (.bipush 24, 2) := by decide +kernel
theorem dX1_init_38 : decode cX1_init 38 = .ok (.newarray .int, 2) := by decide +kernel
theorem dX1_init_40 : decode cX1_init 40 = .ok (.putfield 25, 3) := by decide +kernel
theorem dX1_init_43 : decode cX1_init 43 = .ok (.aload_n 0, 1) := by decide +kernel
theorem dX1_init_44 : decode cX1_init 44 = .ok (.bipush 24, 2) := by decide +kernel
theorem dX1_init_46 : decode cX1_init 46 = .ok (.newarray .int, 2) := by decide +kernel
theorem dX1_init_48 : decode cX1_init 48 = .ok (.putfield 28, 3) := by decide +kernel
theorem dX1_init_51 : decode cX1_init 51 = .ok (.aload_n 0, 1) := by decide +kernel
theorem dX1_init_52 : decode cX1_init 52 = .ok (.bipush 25, 2) := by decide +kernel
theorem dX1_init_54 : decode cX1_init 54 = .ok (.newarray .int, 2) := by decide +kernel
theorem dX1_init_56 : decode cX1_init 56 = .ok (.putfield 31, 3) := by decide +kernel
theorem dX1_init_59 : decode cX1_init 59 = .ok (.aload_n 0, 1) := by decide +kernel
theorem dX1_init_60 : decode cX1_init 60 = .ok (.bipush 25, 2) := by decide +kernel
theorem dX1_init_62 : decode cX1_init 62 = .ok (.newarray .int, 2) := by decide +kernel
theorem dX1_init_64 : decode cX1_init 64 = .ok (.putfield 34, 3) := by decide +kernel
theorem dX1_init_67 : decode cX1_init 67 = .ok (.aload_n 0, 1) := by decide +kernel
theorem dX1_init_68 : decode cX1_init 68 = .ok (.bipush 24, 2) := by decide +kernel
theorem dX1_init_70 : decode cX1_init 70 = .ok (.newarray .int, 2) := by decide +kernel
theorem dX1_init_72 : decode cX1_init 72 = .ok (.putfield 37, 3) := by decide +kernel
theorem dX1_init_75 : decode cX1_init 75 = .ok (.aload_n 0, 1) := by decide +kernel
theorem dX1_init_76 : decode cX1_init 76 = .ok (.bipush 24, 2) := by decide +kernel
theorem dX1_init_78 : decode cX1_init 78 = .ok (.newarray .int, 2) := by decide +kernel
theorem dX1_init_80 : decode cX1_init 80 = .ok (.putfield 40, 3) := by decide +kernel
theorem dX1_init_83 : decode cX1_init 83 = .ok (.aload_n 0, 1) := by decide +kernel
theorem dX1_init_84 : decode cX1_init 84 = .ok (.bipush 24, 2) := by decide +kernel
theorem dX1_init_86 : decode cX1_init 86 = .ok (.newarray .int, 2) := by decide +kernel
theorem dX1_init_88 : decode cX1_init 88 = .ok (.putfield 43, 3) := by decide +kernel
theorem dX1_init_91 : decode cX1_init 91 = .ok (.return_, 1) := by decide +kernel
theorem dX1_addSize_0 : decode cX1_addSize 0 = .ok (.aload_n 0, 1) := by decide +kernel
theorem dX1_addSize_1 : decode cX1_addSize 1 = .ok (.getfield 15, 3) := by decide +kernel
theorem dX1_addSize_4 : decode cX1_addSize 4 = .ok (.aload_n 0, 1) := by decide +kernel
theorem dX1_addSize_5 : decode cX1_addSize 5 = .ok (.getfield 46, 3) := by decide +kernel
theorem dX1_addSize_8 : decode cX1_addSize 8 = .ok (.iload_n 1, 1) := by decide +kernel
theorem dX1_addSize_9 : decode cX1_addSize 9 = .ok (.iastore, 1) := by decide +kernel
theorem dX1_addSize_10 : decode cX1_addSize 10 = .ok (.aload_n 0, 1) := by decide +kernel
theorem dX1_addSize_11 : decode cX1_addSize 11 = .ok (.getfield 19, 3) := by decide +kernel
theorem dX1_addSize_14 : decode cX1_addSize 14 = .ok (.aload_n 0, 1) := by decide +kernel
theorem dX1_addSize_15 : decode cX1_addSize 15 = .ok (.getfield 46, 3) := by decide +kernel
theorem dX1_addSize_18 : decode cX1_addSize 18 = .ok (.iload_n 2, 1) := by decide +kernel
theorem dX1_addSize_19 : decode cX1_addSize 19 = .ok (.iastore, 1) := by decide +kernel
theorem dX1_addSize_20 : decode cX1_addSize 20 = .ok (.aload_n 0, 1) := by decide +kernel
theorem dX1_addSize_21 : decode cX1_addSize 21 = .ok (.dup, 1) := by decide +kernel
theorem dX1_addSize_22 : decode cX1_addSize 22 = .ok (.getfield 46, 3) := by decide +kernel
theorem dX1_addSize_25 : decode cX1_addSize 25 = .ok (.dup_x1, 1) := by decide +kernel
theorem dX1_addSize_26 : decode cX1_addSize 26 = .ok (.iconst 1, 1) := by decide +kernel
theorem dX1_addSize_27 : decode cX1_addSize 27 = .ok (.iadd, 1) := by decide +kernel
theorem dX1_addSize_28 : decode cX1_addSize 28 = .ok (.putfield 46, 3) := by decide +kernel
theorem dX1_addSize_31 : decode cX1_addSize 31 = .ok (.ireturn, 1) := by decide +kernel
theorem dX1_addPipe_0 : decode cX1_addPipe 0 = .ok (.aload_n 0, 1) := by decide +kernel
theorem dX1_addPipe_1 : decode cX1_addPipe 1 = .ok (.getfield 22, 3) := by decide +kernel
theorem dX1_addPipe_4 : decode cX1_addPipe 4 = .ok (.aload_n 0, 1) := by decide +kernel
theorem dX1_addPipe_5 : decode cX1_addPipe 5 = .ok (.getfield 49, 3) := by decide +kernel
theorem dX1_addPipe_8 : decode cX1_addPipe 8 = .ok (.iload_n 1, 1) := by decide +kernel
theorem dX1_addPipe_9 : decode cX1_addPipe 9 = .ok (.iastore, 1) := by decide +kernel
theorem dX1_addPipe_10 : decode cX1_addPipe 10 = .ok (.aload_n 0, 1) := by decide +kernel
theorem dX1_addPipe_11 : decode cX1_addPipe 11 = .ok (.getfield 25, 3) := by decide +kernel
theorem dX1_addPipe_14 : decode cX1_addPipe 14 = .ok (.aload_n 0, 1) := by decide +kernel
theorem dX1_addPipe_15 : decode cX1_addPipe 15 = .ok (.getfield 49, 3) := by decide +kernel
theorem dX1_addPipe_18 : decode cX1_addPipe 18 = .ok (.iload_n 2, 1) := by decide +kernel
theorem dX1_addPipe_19 : decode cX1_addPipe 19 = .ok (.iastore, 1) := by decide +kernel
theorem dX1_addPipe_20 : decode cX1_addPipe 20 = .ok (.aload_n 0, 1) := by decide +kernel
theorem dX1_addPipe_21 : decode cX1_addPipe 21 = .ok (.getfield 31, 3) := by decide +kernel
theorem dX1_addPipe_24 : decode cX1_addPipe 24 = .ok (.aload_n 0, 1) := by decide +kernel
theorem dX1_addPipe_25 : decode cX1_addPipe 25 = .ok (.getfield 49, 3) := by decide +kernel
theorem dX1_addPipe_28 : decode cX1_addPipe 28 = .ok (.iconst 1, 1) := by decide +kernel
theorem dX1_addPipe_29 : decode cX1_addPipe 29 = .ok (.iadd, 1) := by decide +kernel
theorem dX1_addPipe_30 : decode cX1_addPipe 30 = .ok (.aload_n 0, 1) := by decide +kernel
theorem dX1_addPipe_31 : decode cX1_addPipe 31 = .ok (.getfield 31, 3) := by decide +kernel
theorem dX1_addPipe_34 : decode cX1_addPipe 34 = .ok (.iload_n 1, 1) := by decide +kernel
theorem dX1_addPipe_35 : decode cX1_addPipe 35 = .ok (.iconst 1, 1) := by decide +kernel
theorem dX1_addPipe_36 : decode cX1_addPipe 36 = .ok (.iadd, 1) := by decide +kernel
theorem dX1_addPipe_37 : decode cX1_addPipe 37 = .ok (.iaload, 1) := by decide +kernel
theorem dX1_addPipe_38 : decode cX1_addPipe 38 = .ok (.iconst 1, 1) := by decide +kernel
theorem dX1_addPipe_39 : decode cX1_addPipe 39 = .ok (.iadd, 1) := by decide +kernel
theorem dX1_addPipe_40 : decode cX1_addPipe 40 = .ok (.iastore, 1) := by decide +kernel
theorem dX1_addPipe_41 : decode cX1_addPipe 41 = .ok (.aload_n 0, 1) := by decide +kernel
theorem dX1_addPipe_42 : decode cX1_addPipe 42 = .ok (.aload_n 0, 1) := by decide +kernel
theorem dX1_addPipe_43 : decode cX1_addPipe 43 = .ok (.getfield 49, 3) := by decide +kernel
theorem dX1_addPipe_46 : decode cX1_addPipe 46 = .ok (.iload_n 3, 1) := by decide +kernel
theorem dX1_addPipe_47 : decode cX1_addPipe 47 = .ok (.invokevirtual 52, 3) := by decide +kernel
theorem dX1_addPipe_50 : decode cX1_addPipe 50 = .ok (.aload_n 0, 1) := by decide +kernel
theorem dX1_addPipe_51 : decode cX1_addPipe 51 = .ok (.dup, 1) := by decide +kernel
theorem dX1_addPipe_52 : decode cX1_addPipe 52 = .ok (.getfield 49, 3) := by decide +kernel
theorem dX1_addPipe_55 : decode cX1_addPipe 55 = .ok (.dup_x1, 1) := by decide +kernel
theorem dX1_addPipe_56 : decode cX1_addPipe 56 = .ok (.iconst 1, 1) := by decide +kernel
theorem dX1_addPipe_57 : decode cX1_addPipe 57 = .ok (.iadd, 1) := by decide +kernel
theorem dX1_addPipe_58 : decode cX1_addPipe 58 = .ok (.putfield 49, 3) := by decide +kernel
theorem dX1_addPipe_61 : decode cX1_addPipe 61 = .ok (.ireturn, 1) := by decide +kernel
theorem dX1_setSize_0 : decode cX1_setSize 0 = .ok (.aload_n 0, 1) := by decide +kernel
theorem dX1_setSize_1 : decode cX1_setSize 1 = .ok (.getfield 28, 3) := by decide +kernel
theorem dX1_setSize_4 : decode cX1_setSize 4 = .ok (.iload_n 1, 1) := by decide +kernel
theorem dX1_setSize_5 : decode cX1_setSize 5 = .ok (.iload_n 2, 1) := by decide +kernel
theorem dX1_setSize_6 : decode cX1_setSize 6 = .ok (.iastore, 1) := by decide +kernel
theorem dX1_setSize_7 : decode cX1_setSize 7 = .ok (.aload_n 0, 1) := by decide +kernel
theorem dX1_setSize_8 : decode cX1_setSize 8 = .ok (.getfield 34, 3) := by decide +kernel
theorem dX1_setSize_11 : decode cX1_setSize 11 = .ok (.iload_n 1, 1) := by decide +kernel
theorem dX1_setSize_12 : decode cX1_setSize 12 = .ok (.iconst 1, 1) := by decide +kernel
theorem dX1_setSize_13 : decode cX1_setSize 13 = .ok (.iadd, 1) := by decide +kernel
theorem dX1_setSize_14 : decode cX1_setSize 14 = .ok (.aload_n 0, 1) := by decide +kernel
theorem dX1_setSize_15 : decode cX1_setSize 15 = .ok (.iload_n 1, 1) := by decide +kernel
theorem dX1_setSize_16 : decode cX1_setSize 16 = .ok (.iload_n 2, 1) := by decide +kernel
theorem dX1_setSize_17 : decode cX1_setSize 17 = .ok (.invokevirtual 56, 3) := by decide +kernel
theorem dX1_setSize_20 : decode cX1_setSize 20 = .ok (.iastore, 1) := by decide +kernel
theorem dX1_setSize_21 : decode cX1_setSize 21 = .ok (.return_, 1) := by decide +kernel
theorem dX1_setHead_0 : decode cX1_setHead 0 = .ok (.aload_n 0, 1) := by decide +kernel
theorem dX1_setHead_1 : decode cX1_setHead 1 = .ok (.aload_n 0, 1) := by decide +kernel
theorem dX1_setHead_2 : decode cX1_setHead 2 = .ok (.getfield 60, 3) := by decide +kernel
theorem dX1_setHead_5 : decode cX1_setHead 5 = .ok (.iload_n 1, 1) := by decide +kernel
theorem dX1_setHead_6 : decode cX1_setHead 6 = .ok (.iconst 1, 1) := by decide +kernel
theorem dX1_setHead_7 : decode cX1_setHead 7 = .ok (.invokestatic 63, 3) := by decide +kernel
theorem dX1_setHead_10 : decode cX1_setHead 10 = .ok (.putfield 60, 3) := by decide +kernel
theorem dX1_setHead_13 : decode cX1_setHead 13 = .ok (.aload_n 0, 1) := by decide +kernel
theorem dX1_setHead_14 : decode cX1_setHead 14 = .ok (.aload_n 0, 1) := by decide +kernel
theorem dX1_setHead_15 : decode cX1_setHead 15 = .ok (.getfield 67, 3) := by decide +kernel
theorem dX1_setHead_18 : decode cX1_setHead 18 = .ok (.iload_n 1, 1) := by decide +kernel
theorem dX1_setHead_19 : decode cX1_setHead 19 = .ok (.iconst 0, 1) := by decide +kernel
theorem dX1_setHead_20 : decode cX1_setHead 20 = .ok (.invokestatic 63, 3) := by decide +kernel
theorem dX1_setHead_23 : decode cX1_setHead 23 = .ok (.putfield 67, 3) := by decide +kernel
theorem dX1_setHead_26 : decode cX1_setHead 26 = .ok (.aload_n 0, 1) := by decide +kernel
theorem dX1_setHead_27 : decode cX1_setHead 27 = .ok (.getfield 37, 3) := by decide +kernel
theorem dX1_setHead_30 : decode cX1_setHead 30 = .ok (.iload_n 1, 1) := by decide +kernel
theorem dX1_setHead_31 : decode cX1_setHead 31 = .ok (.iload_n 2, 1) := by decide +kernel
theorem dX1_setHead_32 : decode cX1_setHead 32 = .ok (.iastore, 1) := by decide +kernel
theorem dX1_setHead_33 : decode cX1_setHead 33 = .ok (.aload_n 0, 1) := by decide +kernel
theorem dX1_setHead_34 : decode cX1_setHead 34 = .ok (.getfield 40, 3) := by decide +kernel
theorem dX1_setHead_37 : decode cX1_setHead 37 = .ok (.iload_n 1, 1) := by decide +kernel
theorem dX1_setHead_38 : decode cX1_setHead 38 = .ok (.iload_n 3, 1) := by decide +kernel
theorem dX1_setHead_39 : decode cX1_setHead 39 = .ok (.iastore, 1) := by decide +kernel
theorem dX1_setHead_40 : decode cX1_setHead 40 = .ok (.aload_n 0, 1) := by decide +kernel
theorem dX1_setHead_41 : decode cX1_setHead 41 = .ok (.getfield 43, 3) := by decide +kernel
theorem dX1_setHead_44 : decode cX1_setHead 44 = .ok (.iload_n 1, 1) := by decide +kernel
theorem dX1_setHead_45 : decode cX1_setHead 45 = .ok (.iconst 0, 1) := by decide +kernel
theorem dX1_setHead_46 : decode cX1_setHead 46 = .ok (.iastore, 1) := by decide +kernel
theorem dX1_setHead_47 : decode cX1_setHead 47 = .ok (.return_, 1) := by decide +kernel
theorem dX1_dragWith_0 : decode cX1_dragWith 0 = .ok (.aload_n 0, 1) := by decide +kernel
theorem dX1_dragWith_1 : decode cX1_dragWith 1 = .ok (.getfield 25, 3) := by decide +kernel
theorem dX1_dragWith_4 : decode cX1_dragWith 4 = .ok (.iload_n 1, 1) := by decide +kernel
theorem dX1_dragWith_5 : decode cX1_dragWith 5 = .ok (.iaload, 1) := by decide +kernel
theorem dX1_dragWith_6 : decode cX1_dragWith 6 = .ok (.aload_n 0, 1) := by decide +kernel
theorem dX1_dragWith_7 : decode cX1_dragWith 7 = .ok (.getfield 15, 3) := by decide +kernel
theorem dX1_dragWith_10 : decode cX1_dragWith 10 = .ok (.iload_n 2, 1) := by decide +kernel
theorem dX1_dragWith_11 : decode cX1_dragWith 11 = .ok (.iaload, 1) := by decide +kernel
theorem dX1_dragWith_12 : decode cX1_dragWith 12 = .ok (.imul, 1) := by decide +kernel
theorem dX1_dragWith_13 : decode cX1_dragWith 13 = .ok (.ireturn, 1) := by decide +kernel
theorem dX1_priceWith_0 : decode cX1_priceWith 0 = .ok (.aload_n 0, 1) := by decide +kernel
theorem dX1_priceWith_1 : decode cX1_priceWith 1 = .ok (.getfield 25, 3) := by decide +kernel
theorem dX1_priceWith_4 : decode cX1_priceWith 4 = .ok (.iload_n 1, 1) := by decide +kernel
theorem dX1_priceWith_5 : decode cX1_priceWith 5 = .ok (.iaload, 1) := by decide +kernel
theorem dX1_priceWith_6 : decode cX1_priceWith 6 = .ok (.aload_n 0, 1) := by decide +kernel
theorem dX1_priceWith_7 : decode cX1_priceWith 7 = .ok (.getfield 19, 3) := by decide +kernel
theorem dX1_priceWith_10 : decode cX1_priceWith 10 = .ok (.iload_n 2, 1) := by decide +kernel
theorem dX1_priceWith_11 : decode cX1_priceWith 11 = .ok (.iaload, 1) := by decide +kernel
theorem dX1_priceWith_12 : decode cX1_priceWith 12 = .ok (.imul, 1) := by decide +kernel
theorem dX1_priceWith_13 : decode cX1_priceWith 13 = .ok (.ireturn, 1) := by decide +kernel
theorem dX1_priceOfAll_0 : decode cX1_priceOfAll 0 = .ok (.iconst 0, 1) := by decide +kernel
theorem dX1_priceOfAll_1 : decode cX1_priceOfAll 1 = .ok (.istore_n 1, 1) := by decide +kernel
theorem dX1_priceOfAll_2 : decode cX1_priceOfAll 2 = .ok (.iconst 0, 1) := by decide +kernel
theorem dX1_priceOfAll_3 : decode cX1_priceOfAll 3 = .ok (.istore_n 2, 1) := by decide +kernel
theorem dX1_priceOfAll_4 : decode cX1_priceOfAll 4 = .ok (.iload_n 2, 1) := by decide +kernel
theorem dX1_priceOfAll_5 : decode cX1_priceOfAll 5 = .ok (.aload_n 0, 1) := by decide +kernel
theorem dX1_priceOfAll_6 : decode cX1_priceOfAll 6 = .ok (.getfield 49, 3) := by decide +kernel
theorem dX1_priceOfAll_9 : decode cX1_priceOfAll 9 = .ok (.if_icmp .ge 23, 3) := by decide +kernel
theorem dX1_priceOfAll_12 : decode cX1_priceOfAll 12 = .ok (.iload_n 1, 1) := by decide +kernel
theorem dX1_priceOfAll_13 : decode cX1_priceOfAll 13 = .ok (.aload_n 0, 1) := by decide +kernel
theorem dX1_priceOfAll_14 : decode cX1_priceOfAll 14 = .ok (.iload_n 2, 1) := by decide +kernel
theorem dX1_priceOfAll_15 : decode cX1_priceOfAll 15 = .ok (.aload_n 0, 1) := by decide +kernel
theorem dX1_priceOfAll_16 : decode cX1_priceOfAll 16 = .ok (.getfield 28, 3) := by decide +kernel
theorem dX1_priceOfAll_19 : decode cX1_priceOfAll 19 = .ok (.iload_n 2, 1) := by decide +kernel
theorem dX1_priceOfAll_20 : decode cX1_priceOfAll 20 = .ok (.iaload, 1) := by decide +kernel
theorem dX1_priceOfAll_21 : decode cX1_priceOfAll 21 = .ok (.invokevirtual 70, 3) := by decide +kernel
theorem dX1_priceOfAll_24 : decode cX1_priceOfAll 24 = .ok (.iadd, 1) := by decide +kernel
theorem dX1_priceOfAll_25 : decode cX1_priceOfAll 25 = .ok (.istore_n 1, 1) := by decide +kernel
theorem dX1_priceOfAll_26 : decode cX1_priceOfAll 26 = .ok (.iinc 2 1, 3) := by decide +kernel
theorem dX1_priceOfAll_29 : decode cX1_priceOfAll 29 = .ok (.goto (-25), 3) := by decide +kernel
theorem dX1_priceOfAll_32 : decode cX1_priceOfAll 32 = .ok (.iload_n 1, 1) := by decide +kernel
theorem dX1_priceOfAll_33 : decode cX1_priceOfAll 33 = .ok (.ireturn, 1) := by decide +kernel
theorem dX1_factorNow_0 : decode cX1_factorNow 0 = .ok (.aload_n 0, 1) := by decide +kernel
theorem dX1_factorNow_1 : decode cX1_factorNow 1 = .ok (.getfield 37, 3) := by decide +kernel
theorem dX1_factorNow_4 : decode cX1_factorNow 4 = .ok (.iload_n 1, 1) := by decide +kernel
theorem dX1_factorNow_5 : decode cX1_factorNow 5 = .ok (.iaload, 1) := by decide +kernel
theorem dX1_factorNow_6 : decode cX1_factorNow 6 = .ok (.bipush 100, 2) := by decide +kernel
theorem dX1_factorNow_8 : decode cX1_factorNow 8 = .ok (.aload_n 0, 1) := by decide +kernel
theorem dX1_factorNow_9 : decode cX1_factorNow 9 = .ok (.getfield 43, 3) := by decide +kernel
theorem dX1_factorNow_12 : decode cX1_factorNow 12 = .ok (.iload_n 1, 1) := by decide +kernel
theorem dX1_factorNow_13 : decode cX1_factorNow 13 = .ok (.iaload, 1) := by decide +kernel
theorem dX1_factorNow_14 : decode cX1_factorNow 14 = .ok (.isub, 1) := by decide +kernel
theorem dX1_factorNow_15 : decode cX1_factorNow 15 = .ok (.imul, 1) := by decide +kernel
theorem dX1_factorNow_16 : decode cX1_factorNow 16 = .ok (.bipush 100, 2) := by decide +kernel
theorem dX1_factorNow_18 : decode cX1_factorNow 18 = .ok (.idiv, 1) := by decide +kernel
theorem dX1_factorNow_19 : decode cX1_factorNow 19 = .ok (.ireturn, 1) := by decide +kernel
theorem dX1_countFrom_0 : decode cX1_countFrom 0 = .ok (.iconst 0, 1) := by decide +kernel
theorem dX1_countFrom_1 : decode cX1_countFrom 1 = .ok (.istore_n 2, 1) := by decide +kernel
theorem dX1_countFrom_2 : decode cX1_countFrom 2 = .ok (.iload_n 1, 1) := by decide +kernel
theorem dX1_countFrom_3 : decode cX1_countFrom 3 = .ok (.iconst 1, 1) := by decide +kernel
theorem dX1_countFrom_4 : decode cX1_countFrom 4 = .ok (.iadd, 1) := by decide +kernel
theorem dX1_countFrom_5 : decode cX1_countFrom 5 = .ok (.istore_n 3, 1) := by decide +kernel
theorem dX1_countFrom_6 : decode cX1_countFrom 6 = .ok (.iload_n 3, 1) := by decide +kernel
theorem dX1_countFrom_7 : decode cX1_countFrom 7 = .ok (.aload_n 0, 1) := by decide +kernel
theorem dX1_countFrom_8 : decode cX1_countFrom 8 = .ok (.getfield 49, 3) := by decide +kernel
theorem dX1_countFrom_11 : decode cX1_countFrom 11 = .ok (.if_icmp .ge 22, 3) := by decide +kernel
theorem dX1_countFrom_14 : decode cX1_countFrom 14 = .ok (.aload_n 0, 1) := by decide +kernel
theorem dX1_countFrom_15 : decode cX1_countFrom 15 = .ok (.getfield 22, 3) := by decide +kernel
theorem dX1_countFrom_18 : decode cX1_countFrom 18 = .ok (.iload_n 3, 1) := by decide +kernel
theorem dX1_countFrom_19 : decode cX1_countFrom 19 = .ok (.iaload, 1) := by decide +kernel
theorem dX1_countFrom_20 : decode cX1_countFrom 20 = .ok (.iload_n 1, 1) := by decide +kernel
theorem dX1_countFrom_21 : decode cX1_countFrom 21 = .ok (.if_icmp .ne 6, 3) := by decide +kernel
theorem dX1_countFrom_24 : decode cX1_countFrom 24 = .ok (.iinc 2 1, 3) := by decide +kernel
theorem dX1_countFrom_27 : decode cX1_countFrom 27 = .ok (.iinc 3 1, 3) := by decide +kernel
theorem dX1_countFrom_30 : decode cX1_countFrom 30 = .ok (.goto (-24), 3) := by decide +kernel
theorem dX1_countFrom_33 : decode cX1_countFrom 33 = .ok (.iload_n 2, 1) := by decide +kernel
theorem dX1_countFrom_34 : decode cX1_countFrom 34 = .ok (.ireturn, 1) := by decide +kernel
theorem dX2_init_0 : decode cX2_init 0 = .ok (.aload_n 0, 1) := by decide +kernel
theorem dX2_init_1 : decode cX2_init 1 = .ok (.invokespecial 3, 3) := by decide +kernel
theorem dX2_init_4 : decode cX2_init 4 = .ok (.aload_n 0, 1) := by decide +kernel
theorem dX2_init_5 : decode cX2_init 5 = .ok (.iconst 2, 1) := by decide +kernel
theorem dX2_init_6 : decode cX2_init 6 = .ok (.putfield 9, 3) := by decide +kernel
theorem dX2_init_9 : decode cX2_init 9 = .ok (.aload_n 0, 1) := by decide +kernel
theorem dX2_init_10 : decode cX2_init 10 = .ok (.iconst 2, 1) := by decide +kernel
theorem dX2_init_11 : decode cX2_init 11 = .ok (.putfield 15, 3) := by decide +kernel
theorem dX2_init_14 : decode cX2_init 14 = .ok (.aload_n 0, 1) := by decide +kernel
theorem dX2_init_15 : decode cX2_init 15 = .ok (.sipush 256, 3) := by decide +kernel
theorem dX2_init_18 : decode cX2_init 18 = .ok (.newarray .int, 2) := by decide +kernel
theorem dX2_init_20 : decode cX2_init 20 = .ok (.putfield 18, 3) := by decide +kernel
theorem dX2_init_23 : decode cX2_init 23 = .ok (.aload_n 0, 1) := by decide +kernel
theorem dX2_init_24 : decode cX2_init 24 = .ok (.bipush 24, 2) := by decide +kernel
theorem dX2_init_26 : decode cX2_init 26 = .ok (.newarray .int, 2) := by decide +kernel
theorem dX2_init_28 : decode cX2_init 28 = .ok (.putfield 22, 3) := by decide +kernel
theorem dX2_init_31 : decode cX2_init 31 = .ok (.aload_n 0, 1) := by decide +kernel
theorem dX2_init_32 : decode cX2_init 32 = .ok (.bipush 24, 2) := by decide +kernel
theorem dX2_init_34 : decode cX2_init 34 = .ok (.newarray .int, 2) := by decide +kernel
theorem dX2_init_36 : decode cX2_init 36 = .ok (.putfield 25, 3) := by decide +kernel
theorem dX2_init_39 : decode cX2_init 39 = .ok (.aload_n 0, 1) := by decide +kernel
theorem dX2_init_40 : decode cX2_init 40 = .ok (.bipush 24, 2) := by decide +kernel
theorem dX2_init_42 : decode cX2_init 42 = .ok (.newarray .int, 2) := by decide +kernel
theorem dX2_init_44 : decode cX2_init 44 = .ok (.putfield 28, 3) := by decide +kernel
theorem dX2_init_47 : decode cX2_init 47 = .ok (.return_, 1) := by decide +kernel
theorem dX2_lay_0 : decode cX2_lay 0 = .ok (.aload_n 0, 1) := by decide +kernel
theorem dX2_lay_1 : decode cX2_lay 1 = .ok (.iload_n 1, 1) := by decide +kernel
theorem dX2_lay_2 : decode cX2_lay 2 = .ok (.putfield 9, 3) := by decide +kernel
theorem dX2_lay_5 : decode cX2_lay 5 = .ok (.aload_n 0, 1) := by decide +kernel
theorem dX2_lay_6 : decode cX2_lay 6 = .ok (.iload_n 2, 1) := by decide +kernel
theorem dX2_lay_7 : decode cX2_lay 7 = .ok (.putfield 15, 3) := by decide +kernel
theorem dX2_lay_10 : decode cX2_lay 10 = .ok (.aload_n 0, 1) := by decide +kernel
theorem dX2_lay_11 : decode cX2_lay 11 = .ok (.iconst 0, 1) := by decide +kernel
theorem dX2_lay_12 : decode cX2_lay 12 = .ok (.putfield 31, 3) := by decide +kernel
theorem dX2_lay_15 : decode cX2_lay 15 = .ok (.aload_n 0, 1) := by decide +kernel
theorem dX2_lay_16 : decode cX2_lay 16 = .ok (.getfield 18, 3) := by decide +kernel
theorem dX2_lay_19 : decode cX2_lay 19 = .ok (.iconst 0, 1) := by decide +kernel
theorem dX2_lay_20 : decode cX2_lay 20 = .ok (.invokestatic 34, 3) := by decide +kernel
theorem dX2_lay_23 : decode cX2_lay 23 = .ok (.return_, 1) := by decide +kernel
theorem dX2_isCell_0 : decode cX2_isCell 0 = .ok (.iload_n 1, 1) := by decide +kernel
theorem dX2_isCell_1 : decode cX2_isCell 1 = .ok (.ifCond .lt 27, 3) := by decide +kernel
theorem dX2_isCell_4 : decode cX2_isCell 4 = .ok (.iload_n 1, 1) := by decide +kernel
theorem dX2_isCell_5 : decode cX2_isCell 5 = .ok (.aload_n 0, 1) := by decide +kernel
theorem dX2_isCell_6 : decode cX2_isCell 6 = .ok (.getfield 9, 3) := by decide +kernel
theorem dX2_isCell_9 : decode cX2_isCell 9 = .ok (.if_icmp .ge 19, 3) := by decide +kernel
theorem dX2_isCell_12 : decode cX2_isCell 12 = .ok (.iload_n 2, 1) := by decide +kernel
theorem dX2_isCell_13 : decode cX2_isCell 13 = .ok (.ifCond .lt 15, 3) := by decide +kernel
theorem dX2_isCell_16 : decode cX2_isCell 16 = .ok (.iload_n 2, 1) := by decide +kernel
theorem dX2_isCell_17 : decode cX2_isCell 17 = .ok (.aload_n 0, 1) := by decide +kernel
theorem dX2_isCell_18 : decode cX2_isCell 18 = .ok (.getfield 15, 3) := by decide +kernel
theorem dX2_isCell_21 : decode cX2_isCell 21 = .ok (.if_icmp .ge 7, 3) := by decide +kernel
theorem dX2_isCell_24 : decode cX2_isCell 24 = .ok (.iconst 1, 1) := by decide +kernel
theorem dX2_isCell_25 : decode cX2_isCell 25 = .ok (.goto 4, 3) := by decide +kernel
theorem dX2_isCell_28 : decode cX2_isCell 28 = .ok (.iconst 0, 1) := by decide +kernel
theorem dX2_isCell_29 : decode cX2_isCell 29 = .ok (.ireturn, 1) := by decide +kernel
theorem dX2_kindOf_0 : decode cX2_kindOf 0 = .ok (.aload_n 0, 1) := by decide +kernel
theorem dX2_kindOf_1 : decode cX2_kindOf 1 = .ok (.getfield 18, 3) := by decide +kernel
theorem dX2_kindOf_4 : decode cX2_kindOf 4 = .ok (.iload_n 1, 1) := by decide +kernel
theorem dX2_kindOf_5 : decode cX2_kindOf 5 = .ok (.bipush 16, 2) := by decide +kernel
theorem dX2_kindOf_7 : decode cX2_kindOf 7 = .ok (.imul, 1) := by decide +kernel
theorem dX2_kindOf_8 : decode cX2_kindOf 8 = .ok (.iload_n 2, 1) := by decide +kernel
theorem dX2_kindOf_9 : decode cX2_kindOf 9 = .ok (.iadd, 1) := by decide +kernel
theorem dX2_kindOf_10 : decode cX2_kindOf 10 = .ok (.iaload, 1) := by decide +kernel
theorem dX2_kindOf_11 : decode cX2_kindOf 11 = .ok (.ireturn, 1) := by decide +kernel
theorem dX2_countOpenCells_0 : decode cX2_countOpenCells 0 = .ok (.iconst 0, 1) := by decide +kernel
theorem dX2_countOpenCells_1 : decode cX2_countOpenCells 1 = .ok (.istore_n 1, 1) := by decide +kernel
theorem dX2_countOpenCells_2 : decode cX2_countOpenCells 2 = .ok (.iconst 0, 1) := by decide +kernel
theorem dX2_countOpenCells_3 : decode cX2_countOpenCells 3 = .ok (.istore_n 2, 1) := by decide +kernel
theorem dX2_countOpenCells_4 : decode cX2_countOpenCells 4 = .ok (.iload_n 2, 1) := by decide +kernel
theorem dX2_countOpenCells_5 : decode cX2_countOpenCells 5 = .ok (.aload_n 0, 1) := by decide +kernel
theorem dX2_countOpenCells_6 : decode cX2_countOpenCells 6 = .ok (.getfield 9, 3) := by decide +kernel
theorem dX2_countOpenCells_9 : decode cX2_countOpenCells 9 = .ok (.if_icmp .ge 37, 3) := by decide +kernel
theorem dX2_countOpenCells_12 : decode cX2_countOpenCells 12 = .ok (.iconst 0, 1) := by decide +kernel
theorem dX2_countOpenCells_13 : decode cX2_countOpenCells 13 = .ok (.istore_n 3, 1) := by decide +kernel
theorem dX2_countOpenCells_14 : decode cX2_countOpenCells 14 = .ok (.iload_n 3, 1) := by decide +kernel
theorem dX2_countOpenCells_15 : decode cX2_countOpenCells 15 = .ok (.aload_n 0, 1) := by decide +kernel
theorem dX2_countOpenCells_16 : decode cX2_countOpenCells 16 = .ok (.getfield 15, 3) := by decide +kernel
theorem dX2_countOpenCells_19 : decode cX2_countOpenCells 19 = .ok (.if_icmp .ge 21, 3) := by decide +kernel
theorem dX2_countOpenCells_22 : decode cX2_countOpenCells 22 = .ok (.aload_n 0, 1) := by decide +kernel
theorem dX2_countOpenCells_23 : decode cX2_countOpenCells 23 = .ok (.iload_n 2, 1) := by decide +kernel
theorem dX2_countOpenCells_24 : decode cX2_countOpenCells 24 = .ok (.iload_n 3, 1) := by decide +kernel
theorem dX2_countOpenCells_25 : decode cX2_countOpenCells 25 = .ok (.invokevirtual 40, 3) := by decide +kernel
theorem dX2_countOpenCells_28 : decode cX2_countOpenCells 28 = .ok (.ifCond .ne 6, 3) := by decide +kernel
theorem dX2_countOpenCells_31 : decode cX2_countOpenCells 31 = .ok (.iinc 1 1, 3) := by decide +kernel
theorem dX2_countOpenCells_34 : decode cX2_countOpenCells 34 = .ok (.iinc 3 1, 3) := by decide +kernel
theorem dX2_countOpenCells_37 : decode cX2_countOpenCells 37 = .ok (.goto (-23), 3) := by decide +kernel
theorem dX2_countOpenCells_40 : decode cX2_countOpenCells 40 = .ok (.iinc 2 1, 3) := by decide +kernel
theorem dX2_countOpenCells_43 : decode cX2_countOpenCells 43 = .ok (.goto (-39), 3) := by decide +kernel
theorem dX2_countOpenCells_46 : decode cX2_countOpenCells 46 = .ok (.iload_n 1, 1) := by decide +kernel
theorem dX2_countOpenCells_47 : decode cX2_countOpenCells 47 = .ok (.ireturn, 1) := by decide +kernel
theorem dX2_whoStandsIn_0 : decode cX2_whoStandsIn 0 = .ok (.iconst 0, 1) := by decide +kernel
theorem dX2_whoStandsIn_1 : decode cX2_whoStandsIn 1 = .ok (.istore_n 3, 1) := by decide +kernel
theorem dX2_whoStandsIn_2 : decode cX2_whoStandsIn 2 = .ok (.iload_n 3, 1) := by decide +kernel
theorem dX2_whoStandsIn_3 : decode cX2_whoStandsIn 3 = .ok (.bipush 24, 2) := by decide +kernel
theorem dX2_whoStandsIn_5 : decode cX2_whoStandsIn 5 = .ok (.if_icmp .ge 43, 3) := by decide +kernel
theorem dX2_whoStandsIn_8 : decode cX2_whoStandsIn 8 = .ok (.aload_n 0, 1) := by decide +kernel
theorem dX2_whoStandsIn_9 : decode cX2_whoStandsIn 9 = .ok (.getfield 31, 3) := by decide +kernel
theorem dX2_whoStandsIn_12 : decode cX2_whoStandsIn 12 = .ok (.iload_n 3, 1) := by decide +kernel
theorem dX2_whoStandsIn_13 : decode cX2_whoStandsIn 13 = .ok (.invokestatic 44, 3) := by decide +kernel
theorem dX2_whoStandsIn_16 : decode cX2_whoStandsIn 16 = .ok (.iconst 1, 1) := by decide +kernel
theorem dX2_whoStandsIn_17 : decode cX2_whoStandsIn 17 = .ok (.if_icmp .ne 25, 3) := by decide +kernel
theorem dX2_whoStandsIn_20 : decode cX2_whoStandsIn 20 = .ok (.aload_n 0, 1) := by decide +kernel
theorem dX2_whoStandsIn_21 : decode cX2_whoStandsIn 21 = .ok (.getfield 22, 3) := by decide +kernel
theorem dX2_whoStandsIn_24 : decode cX2_whoStandsIn 24 = .ok (.iload_n 3, 1) := by decide +kernel
theorem dX2_whoStandsIn_25 : decode cX2_whoStandsIn 25 = .ok (.iaload, 1) := by decide +kernel
theorem dX2_whoStandsIn_26 : decode cX2_whoStandsIn 26 = .ok (.iload_n 1, 1) := by decide +kernel
theorem dX2_whoStandsIn_27 : decode cX2_whoStandsIn 27 = .ok (.if_icmp .ne 15, 3) := by decide +kernel
theorem dX2_whoStandsIn_30 : decode cX2_whoStandsIn 30 = .ok (.aload_n 0, 1) := by decide +kernel
theorem dX2_whoStandsIn_31 : decode cX2_whoStandsIn 31 = .ok (.getfield 25, 3) := by decide +kernel
theorem dX2_whoStandsIn_34 : decode cX2_whoStandsIn 34 = .ok (.iload_n 3, 1) := by decide +kernel
theorem dX2_whoStandsIn_35 : decode cX2_whoStandsIn 35 = .ok (.iaload, 1) := by decide +kernel
theorem dX2_whoStandsIn_36 : decode cX2_whoStandsIn 36 = .ok (.iload_n 2, 1) := by decide +kernel
theorem dX2_whoStandsIn_37 : decode cX2_whoStandsIn 37 = .ok (.if_icmp .ne 5, 3) := by decide +kernel
theorem dX2_whoStandsIn_40 : decode cX2_whoStandsIn 40 = .ok (.iload_n 3, 1) := by decide +kernel
theorem dX2_whoStandsIn_41 : decode cX2_whoStandsIn 41 = .ok (.ireturn, 1) := by decide +kernel
theorem dX2_whoStandsIn_42 : decode cX2_whoStandsIn 42 = .ok (.iinc 3 1, 3) := by decide +kernel
theorem dX2_whoStandsIn_45 : decode cX2_whoStandsIn 45 = .ok (.goto (-43), 3) := by decide +kernel
theorem dX2_whoStandsIn_48 : decode cX2_whoStandsIn 48 = .ok (.bipush (-6), 2) := by decide +kernel
theorem dX2_whoStandsIn_50 : decode cX2_whoStandsIn 50 = .ok (.ireturn, 1) := by decide +kernel
theorem dX2_place_0 : decode cX2_place 0 = .ok (.aload_n 0, 1) := by decide +kernel
theorem dX2_place_1 : decode cX2_place 1 = .ok (.aload_n 0, 1) := by decide +kernel
theorem dX2_place_2 : decode cX2_place 2 = .ok (.getfield 31, 3) := by decide +kernel
theorem dX2_place_5 : decode cX2_place 5 = .ok (.iload_n 1, 1) := by decide +kernel
theorem dX2_place_6 : decode cX2_place 6 = .ok (.iconst 1, 1) := by decide +kernel
theorem dX2_place_7 : decode cX2_place 7 = .ok (.invokestatic 47, 3) := by decide +kernel
theorem dX2_place_10 : decode cX2_place 10 = .ok (.putfield 31, 3) := by decide +kernel
theorem dX2_place_13 : decode cX2_place 13 = .ok (.aload_n 0, 1) := by decide +kernel
theorem dX2_place_14 : decode cX2_place 14 = .ok (.getfield 22, 3) := by decide +kernel
theorem dX2_place_17 : decode cX2_place 17 = .ok (.iload_n 1, 1) := by decide +kernel
theorem dX2_place_18 : decode cX2_place 18 = .ok (.iload_n 2, 1) := by decide +kernel
theorem dX2_place_19 : decode cX2_place 19 = .ok (.iastore, 1) := by decide +kernel
theorem dX2_place_20 : decode cX2_place 20 = .ok (.aload_n 0, 1) := by decide +kernel
theorem dX2_place_21 : decode cX2_place 21 = .ok (.getfield 25, 3) := by decide +kernel
theorem dX2_place_24 : decode cX2_place 24 = .ok (.iload_n 1, 1) := by decide +kernel
theorem dX2_place_25 : decode cX2_place 25 = .ok (.iload_n 3, 1) := by decide +kernel
theorem dX2_place_26 : decode cX2_place 26 = .ok (.iastore, 1) := by decide +kernel
theorem dX2_place_27 : decode cX2_place 27 = .ok (.aload_n 0, 1) := by decide +kernel
theorem dX2_place_28 : decode cX2_place 28 = .ok (.getfield 28, 3) := by decide +kernel
theorem dX2_place_31 : decode cX2_place 31 = .ok (.iload_n 1, 1) := by decide +kernel
theorem dX2_place_32 : decode cX2_place 32 = .ok (.iload 4, 2) := by decide +kernel
theorem dX2_place_34 : decode cX2_place 34 = .ok (.iastore, 1) := by decide +kernel
theorem dX2_place_35 : decode cX2_place 35 = .ok (.return_, 1) := by decide +kernel
theorem dX2_isDry_0 : decode cX2_isDry 0 = .ok (.aload_n 0, 1) := by decide +kernel
theorem dX2_isDry_1 : decode cX2_isDry 1 = .ok (.iload_n 1, 1) := by decide +kernel
theorem dX2_isDry_2 : decode cX2_isDry 2 = .ok (.iload_n 2, 1) := by decide +kernel
theorem dX2_isDry_3 : decode cX2_isDry 3 = .ok (.invokevirtual 40, 3) := by decide +kernel
theorem dX2_isDry_6 : decode cX2_isDry 6 = .ok (.ifCond .eq 5, 3) := by decide +kernel
theorem dX2_isDry_9 : decode cX2_isDry 9 = .ok (.iconst 0, 1) := by decide +kernel
theorem dX2_isDry_10 : decode cX2_isDry 10 = .ok (.ireturn, 1) := by decide +kernel
theorem dX2_isDry_11 : decode cX2_isDry 11 = .ok (.iconst 0, 1) := by decide +kernel
theorem dX2_isDry_12 : decode cX2_isDry 12 = .ok (.istore_n 3, 1) := by decide +kernel
theorem dX2_isDry_13 : decode cX2_isDry 13 = .ok (.iload_n 3, 1) := by decide +kernel
theorem dX2_isDry_14 : decode cX2_isDry 14 = .ok (.bipush 24, 2) := by decide +kernel
theorem dX2_isDry_16 : decode cX2_isDry 16 = .ok (.if_icmp .ge 33, 3) := by decide +kernel
theorem dX2_isDry_19 : decode cX2_isDry 19 = .ok (.aload_n 0, 1) := by decide +kernel
theorem dX2_isDry_20 : decode cX2_isDry 20 = .ok (.getfield 31, 3) := by decide +kernel
theorem dX2_isDry_23 : decode cX2_isDry 23 = .ok (.iload_n 3, 1) := by decide +kernel
theorem dX2_isDry_24 : decode cX2_isDry 24 = .ok (.invokestatic 44, 3) := by decide +kernel
theorem dX2_isDry_27 : decode cX2_isDry 27 = .ok (.iconst 1, 1) := by decide +kernel
theorem dX2_isDry_28 : decode cX2_isDry 28 = .ok (.if_icmp .ne 15, 3) := by decide +kernel
theorem dX2_isDry_31 : decode cX2_isDry 31 = .ok (.aload_n 0, 1) := by decide +kernel
theorem dX2_isDry_32 : decode cX2_isDry 32 = .ok (.iload_n 3, 1) := by decide +kernel
theorem dX2_isDry_33 : decode cX2_isDry 33 = .ok (.iload_n 1, 1) := by decide +kernel
theorem dX2_isDry_34 : decode cX2_isDry 34 = .ok (.iload_n 2, 1) := by decide +kernel
theorem dX2_isDry_35 : decode cX2_isDry 35 = .ok (.invokevirtual 51, 3) := by decide +kernel
theorem dX2_isDry_38 : decode cX2_isDry 38 = .ok (.ifCond .eq 5, 3) := by decide +kernel
theorem dX2_isDry_41 : decode cX2_isDry 41 = .ok (.iconst 0, 1) := by decide +kernel
theorem dX2_isDry_42 : decode cX2_isDry 42 = .ok (.ireturn, 1) := by decide +kernel
theorem dX2_isDry_43 : decode cX2_isDry 43 = .ok (.iinc 3 1, 3) := by decide +kernel
theorem dX2_isDry_46 : decode cX2_isDry 46 = .ok (.goto (-33), 3) := by decide +kernel
theorem dX2_isDry_49 : decode cX2_isDry 49 = .ok (.iconst 1, 1) := by decide +kernel
theorem dX2_isDry_50 : decode cX2_isDry 50 = .ok (.ireturn, 1) := by decide +kernel
theorem dX2_isWetBy_0 : decode cX2_isWetBy 0 = .ok (.aload_n 0, 1) := by decide +kernel
theorem dX2_isWetBy_1 : decode cX2_isWetBy 1 = .ok (.iload_n 2, 1) := by decide +kernel
theorem dX2_isWetBy_2 : decode cX2_isWetBy 2 = .ok (.iload_n 3, 1) := by decide +kernel
theorem dX2_isWetBy_3 : decode cX2_isWetBy 3 = .ok (.invokevirtual 40, 3) := by decide +kernel
theorem dX2_isWetBy_6 : decode cX2_isWetBy 6 = .ok (.ifCond .ne 40, 3) := by decide +kernel
theorem dX2_isWetBy_9 : decode cX2_isWetBy 9 = .ok (.aload_n 0, 1) := by decide +kernel
theorem dX2_isWetBy_10 : decode cX2_isWetBy 10 = .ok (.iload_n 1, 1) := by decide +kernel
theorem dX2_isWetBy_11 : decode cX2_isWetBy 11 = .ok (.iload_n 2, 1) := by decide +kernel
theorem dX2_isWetBy_12 : decode cX2_isWetBy 12 = .ok (.iload_n 3, 1) := by decide +kernel
theorem dX2_isWetBy_13 : decode cX2_isWetBy 13 = .ok (.invokevirtual 55, 3) := by decide +kernel
theorem dX2_isWetBy_16 : decode cX2_isWetBy 16 = .ok (.aload_n 0, 1) := by decide +kernel
theorem dX2_isWetBy_17 : decode cX2_isWetBy 17 = .ok (.getfield 28, 3) := by decide +kernel
theorem dX2_isWetBy_20 : decode cX2_isWetBy 20 = .ok (.iload_n 1, 1) := by decide +kernel
theorem dX2_isWetBy_21 : decode cX2_isWetBy 21 = .ok (.iaload, 1) := by decide +kernel
theorem dX2_isWetBy_22 : decode cX2_isWetBy 22 = .ok (.aload_n 0, 1) := by decide +kernel
theorem dX2_isWetBy_23 : decode cX2_isWetBy 23 = .ok (.getfield 28, 3) := by decide +kernel
theorem dX2_isWetBy_26 : decode cX2_isWetBy 26 = .ok (.iload_n 1, 1) := by decide +kernel
theorem dX2_isWetBy_27 : decode cX2_isWetBy 27 = .ok (.iaload, 1) := by decide +kernel
theorem dX2_isWetBy_28 : decode cX2_isWetBy 28 = .ok (.imul, 1) := by decide +kernel
theorem dX2_isWetBy_29 : decode cX2_isWetBy 29 = .ok (.if_icmp .gt 17, 3) := by decide +kernel
theorem dX2_isWetBy_32 : decode cX2_isWetBy 32 = .ok (.aload_n 0, 1) := by decide +kernel
theorem dX2_isWetBy_33 : decode cX2_isWetBy 33 = .ok (.iload_n 1, 1) := by decide +kernel
theorem dX2_isWetBy_34 : decode cX2_isWetBy 34 = .ok (.iload_n 2, 1) := by decide +kernel
theorem dX2_isWetBy_35 : decode cX2_isWetBy 35 = .ok (.iload_n 3, 1) := by decide +kernel
theorem dX2_isWetBy_36 : decode cX2_isWetBy 36 = .ok (.invokevirtual 59, 3) := by decide +kernel
theorem dX2_isWetBy_39 : decode cX2_isWetBy 39 = .ok (.ifCond .ne 7, 3) := by decide +kernel
theorem dX2_isWetBy_42 : decode cX2_isWetBy 42 = .ok (.iconst 1, 1) := by decide +kernel
theorem dX2_isWetBy_43 : decode cX2_isWetBy 43 = .ok (.goto 4, 3) := by decide +kernel
theorem dX2_isWetBy_46 : decode cX2_isWetBy 46 = .ok (.iconst 0, 1) := by decide +kernel
theorem dX2_isWetBy_47 : decode cX2_isWetBy 47 = .ok (.ireturn, 1) := by decide +kernel
theorem dX2_isBehindWall_0 : decode cX2_isBehindWall 0 = .ok (.aload_n 0, 1) := by decide +kernel
theorem dX2_isBehindWall_1 : decode cX2_isBehindWall 1 = .ok (.getfield 22, 3) := by decide +kernel
theorem dX2_isBehindWall_4 : decode cX2_isBehindWall 4 = .ok (.iload_n 1, 1) := by decide +kernel
theorem dX2_isBehindWall_5 : decode cX2_isBehindWall 5 = .ok (.iaload, 1) := by decide +kernel
theorem dX2_isBehindWall_6 : decode cX2_isBehindWall 6 = .ok (.iload_n 2, 1) := by decide +kernel
theorem dX2_isBehindWall_7 : decode cX2_isBehindWall 7 = .ok (.invokestatic 62, 3) := by decide +kernel
theorem dX2_isBehindWall_10 : decode cX2_isBehindWall 10 = .ok (.istore 4, 2) := by decide +kernel
theorem dX2_isBehindWall_12 : decode cX2_isBehindWall 12 = .ok (.aload_n 0, 1) := by decide +kernel
theorem dX2_isBehindWall_13 : decode cX2_isBehindWall 13 = .ok (.getfield 25, 3) := by decide +kernel
theorem dX2_isBehindWall_16 : decode cX2_isBehindWall 16 = .ok (.iload_n 1, 1) := by decide +kernel
theorem dX2_isBehindWall_17 : decode cX2_isBehindWall 17 = .ok (.iaload, 1) := by decide +kernel
theorem dX2_isBehindWall_18 : decode cX2_isBehindWall 18 = .ok (.iload_n 3, 1) := by decide +kernel
theorem dX2_isBehindWall_19 : decode cX2_isBehindWall 19 = .ok (.invokestatic 62, 3) := by decide +kernel
theorem dX2_isBehindWall_22 : decode cX2_isBehindWall 22 = .ok (.istore 5, 2) := by decide +kernel
theorem dX2_isBehindWall_24 : decode cX2_isBehindWall 24 = .ok (.aload_n 0, 1) := by decide +kernel
theorem dX2_isBehindWall_25 : decode cX2_isBehindWall 25 = .ok (.getfield 22, 3) := by decide +kernel
theorem dX2_isBehindWall_28 : decode cX2_isBehindWall 28 = .ok (.iload_n 1, 1) := by decide +kernel
theorem dX2_isBehindWall_29 : decode cX2_isBehindWall 29 = .ok (.iaload, 1) := by decide +kernel
theorem dX2_isBehindWall_30 : decode cX2_isBehindWall 30 = .ok (.iload_n 2, 1) := by decide +kernel
theorem dX2_isBehindWall_31 : decode cX2_isBehindWall 31 = .ok (.invokestatic 67, 3) := by decide +kernel
theorem dX2_isBehindWall_34 : decode cX2_isBehindWall 34 = .ok (.istore 6, 2) := by decide +kernel
theorem dX2_isBehindWall_36 : decode cX2_isBehindWall 36 = .ok (.iload 6, 2) := by decide +kernel
theorem dX2_isBehindWall_38 : decode cX2_isBehindWall 38 = .ok (.iload 4, 2) := by decide +kernel
theorem dX2_isBehindWall_40 : decode cX2_isBehindWall 40 = .ok (.if_icmp .gt 88, 3) := by decide +kernel
theorem dX2_isBehindWall_43 : decode cX2_isBehindWall 43 = .ok (.aload_n 0, 1) := by decide +kernel
theorem dX2_isBehindWall_44 : decode cX2_isBehindWall 44 = .ok (.getfield 25, 3) := by decide +kernel
theorem dX2_isBehindWall_47 : decode cX2_isBehindWall 47 = .ok (.iload_n 1, 1) := by decide +kernel
theorem dX2_isBehindWall_48 : decode cX2_isBehindWall 48 = .ok (.iaload, 1) := by decide +kernel
theorem dX2_isBehindWall_49 : decode cX2_isBehindWall 49 = .ok (.iload_n 3, 1) := by decide +kernel
theorem dX2_isBehindWall_50 : decode cX2_isBehindWall 50 = .ok (.invokestatic 67, 3) := by decide +kernel
theorem dX2_isBehindWall_53 : decode cX2_isBehindWall 53 = .ok (.istore 7, 2) := by decide +kernel
theorem dX2_isBehindWall_55 : decode cX2_isBehindWall 55 = .ok (.iload 7, 2) := by decide +kernel
theorem dX2_isBehindWall_57 : decode cX2_isBehindWall 57 = .ok (.iload 5, 2) := by decide +kernel
theorem dX2_isBehindWall_59 : decode cX2_isBehindWall 59 = .ok (.if_icmp .gt 63, 3) := by decide +kernel
theorem dX2_isBehindWall_62 : decode cX2_isBehindWall 62 = .ok (.aload_n 0, 1) := by decide +kernel
theorem dX2_isBehindWall_63 : decode cX2_isBehindWall 63 = .ok (.iload 6, 2) := by decide +kernel
theorem dX2_isBehindWall_65 : decode cX2_isBehindWall 65 = .ok (.iload 7, 2) := by decide +kernel
theorem dX2_isBehindWall_67 : decode cX2_isBehindWall 67 = .ok (.invokevirtual 40, 3) := by decide +kernel
theorem dX2_isBehindWall_70 : decode cX2_isBehindWall 70 = .ok (.iconst 1, 1) := by decide +kernel
theorem dX2_isBehindWall_71 : decode cX2_isBehindWall 71 = .ok (.if_icmp .ne 45, 3) := by decide +kernel
theorem dX2_isBehindWall_74 : decode cX2_isBehindWall 74 = .ok (.iload 6, 2) := by decide +kernel
theorem dX2_isBehindWall_76 : decode cX2_isBehindWall 76 = .ok (.aload_n 0, 1) := by decide +kernel
theorem dX2_isBehindWall_77 : decode cX2_isBehindWall 77 = .ok (.getfield 22, 3) := by decide +kernel
theorem dX2_isBehindWall_80 : decode cX2_isBehindWall 80 = .ok (.iload_n 1, 1) := by decide +kernel
theorem dX2_isBehindWall_81 : decode cX2_isBehindWall 81 = .ok (.iaload, 1) := by decide +kernel
theorem dX2_isBehindWall_82 : decode cX2_isBehindWall 82 = .ok (.isub, 1) := by decide +kernel
theorem dX2_isBehindWall_83 : decode cX2_isBehindWall 83 = .ok (.iload 7, 2) := by decide +kernel
theorem dX2_isBehindWall_85 : decode cX2_isBehindWall 85 = .ok (.aload_n 0, 1) := by decide +kernel
theorem dX2_isBehindWall_86 : decode cX2_isBehindWall 86 = .ok (.getfield 25, 3) := by decide +kernel
theorem dX2_isBehindWall_89 : decode cX2_isBehindWall 89 = .ok (.iload_n 1, 1) := by decide +kernel
theorem dX2_isBehindWall_90 : decode cX2_isBehindWall 90 = .ok (.iaload, 1) := by decide +kernel
theorem dX2_isBehindWall_91 : decode cX2_isBehindWall 91 = .ok (.isub, 1) := by decide +kernel
theorem dX2_isBehindWall_92 : decode cX2_isBehindWall 92 = .ok (.iload_n 2, 1) := by decide +kernel
theorem dX2_isBehindWall_93 : decode cX2_isBehindWall 93 = .ok (.aload_n 0, 1) := by decide +kernel
theorem dX2_isBehindWall_94 : decode cX2_isBehindWall 94 = .ok (.getfield 22, 3) := by decide +kernel
theorem dX2_isBehindWall_97 : decode cX2_isBehindWall 97 = .ok (.iload_n 1, 1) := by decide +kernel
theorem dX2_isBehindWall_98 : decode cX2_isBehindWall 98 = .ok (.iaload, 1) := by decide +kernel
theorem dX2_isBehindWall_99 : decode cX2_isBehindWall 99 = .ok (.isub, 1) := by decide +kernel
theorem dX2_isBehindWall_100 : decode cX2_isBehindWall 100 = .ok (.iload_n 3, 1) := by decide +kernel
theorem dX2_isBehindWall_101 : decode cX2_isBehindWall 101 = .ok (.aload_n 0, 1) := by decide +kernel
theorem dX2_isBehindWall_102 : decode cX2_isBehindWall 102 = .ok (.getfield 25, 3) := by decide +kernel
theorem dX2_isBehindWall_105 : decode cX2_isBehindWall 105 = .ok (.iload_n 1, 1) := by decide +kernel
theorem dX2_isBehindWall_106 : decode cX2_isBehindWall 106 = .ok (.iaload, 1) := by decide +kernel
theorem dX2_isBehindWall_107 : decode cX2_isBehindWall 107 = .ok (.isub, 1) := by decide +kernel
theorem dX2_isBehindWall_108 : decode cX2_isBehindWall 108 = .ok (.invokestatic 70, 3) := by decide +kernel
theorem dX2_isBehindWall_111 : decode cX2_isBehindWall 111 = .ok (.ifCond .eq 5, 3) := by decide +kernel
theorem dX2_isBehindWall_114 : decode cX2_isBehindWall 114 = .ok (.iconst 1, 1) := by decide +kernel
theorem dX2_isBehindWall_115 : decode cX2_isBehindWall 115 = .ok (.ireturn, 1) := by decide +kernel
theorem dX2_isBehindWall_116 : decode cX2_isBehindWall 116 = .ok (.iinc 7 1, 3) := by decide +kernel
theorem dX2_isBehindWall_119 : decode cX2_isBehindWall 119 = .ok (.goto (-64), 3) := by decide +kernel
theorem dX2_isBehindWall_122 : decode cX2_isBehindWall 122 = .ok (.iinc 6 1, 3) := by decide +kernel
theorem dX2_isBehindWall_125 : decode cX2_isBehindWall 125 = .ok (.goto (-89), 3) := by decide +kernel
theorem dX2_isBehindWall_128 : decode cX2_isBehindWall 128 = .ok (.iconst 0, 1) := by decide +kernel
theorem dX2_isBehindWall_129 : decode cX2_isBehindWall 129 = .ok (.ireturn, 1) := by decide +kernel
theorem dX2_isCut_0 : decode cX2_isCut 0 = .ok (.iload_n 2, 1) := by decide +kernel
theorem dX2_isCut_1 : decode cX2_isCut 1 = .ok (.iload_n 1, 1) := by decide +kernel
theorem dX2_isCut_2 : decode cX2_isCut 2 = .ok (.imul, 1) := by decide +kernel
theorem dX2_isCut_3 : decode cX2_isCut 3 = .ok (.iload_n 3, 1) := by decide +kernel
theorem dX2_isCut_4 : decode cX2_isCut 4 = .ok (.iload_n 0, 1) := by decide +kernel
theorem dX2_isCut_5 : decode cX2_isCut 5 = .ok (.imul, 1) := by decide +kernel
theorem dX2_isCut_6 : decode cX2_isCut 6 = .ok (.isub, 1) := by decide +kernel
theorem dX2_isCut_7 : decode cX2_isCut 7 = .ok (.istore 4, 2) := by decide +kernel
theorem dX2_isCut_9 : decode cX2_isCut 9 = .ok (.iconst 2, 1) := by decide +kernel
theorem dX2_isCut_10 : decode cX2_isCut 10 = .ok (.iload 4, 2) := by decide +kernel
theorem dX2_isCut_12 : decode cX2_isCut 12 = .ok (.invokestatic 74, 3) := by decide +kernel
theorem dX2_isCut_15 : decode cX2_isCut 15 = .ok (.imul, 1) := by decide +kernel
theorem dX2_isCut_16 : decode cX2_isCut 16 = .ok (.iload_n 2, 1) := by decide +kernel
theorem dX2_isCut_17 : decode cX2_isCut 17 = .ok (.invokestatic 74, 3) := by decide +kernel
theorem dX2_isCut_20 : decode cX2_isCut 20 = .ok (.iload_n 3, 1) := by decide +kernel
theorem dX2_isCut_21 : decode cX2_isCut 21 = .ok (.invokestatic 74, 3) := by decide +kernel
theorem dX2_isCut_24 : decode cX2_isCut 24 = .ok (.iadd, 1) := by decide +kernel
theorem dX2_isCut_25 : decode cX2_isCut 25 = .ok (.if_icmp .ge 7, 3) := by decide +kernel
theorem dX2_isCut_28 : decode cX2_isCut 28 = .ok (.iconst 1, 1) := by decide +kernel
theorem dX2_isCut_29 : decode cX2_isCut 29 = .ok (.goto 4, 3) := by decide +kernel
theorem dX2_isCut_32 : decode cX2_isCut 32 = .ok (.iconst 0, 1) := by decide +kernel
theorem dX2_isCut_33 : decode cX2_isCut 33 = .ok (.ireturn, 1) := by decide +kernel
theorem dX2_squareTo_0 : decode cX2_squareTo 0 = .ok (.iload_n 2, 1) := by decide +kernel
theorem dX2_squareTo_1 : decode cX2_squareTo 1 = .ok (.aload_n 0, 1) := by decide +kernel
theorem dX2_squareTo_2 : decode cX2_squareTo 2 = .ok (.getfield 22, 3) := by decide +kernel
theorem dX2_squareTo_5 : decode cX2_squareTo 5 = .ok (.iload_n 1, 1) := by decide +kernel
theorem dX2_squareTo_6 : decode cX2_squareTo 6 = .ok (.iaload, 1) := by decide +kernel
theorem dX2_squareTo_7 : decode cX2_squareTo 7 = .ok (.isub, 1) := by decide +kernel
theorem dX2_squareTo_8 : decode cX2_squareTo 8 = .ok (.istore 4, 2) := by decide +kernel
theorem dX2_squareTo_10 : decode cX2_squareTo 10 = .ok (.iload_n 3, 1) := by decide +kernel
theorem dX2_squareTo_11 : decode cX2_squareTo 11 = .ok (.aload_n 0, 1) := by decide +kernel
theorem dX2_squareTo_12 : decode cX2_squareTo 12 = .ok (.getfield 25, 3) := by decide +kernel
theorem dX2_squareTo_15 : decode cX2_squareTo 15 = .ok (.iload_n 1, 1) := by decide +kernel
theorem dX2_squareTo_16 : decode cX2_squareTo 16 = .ok (.iaload, 1) := by decide +kernel
theorem dX2_squareTo_17 : decode cX2_squareTo 17 = .ok (.isub, 1) := by decide +kernel
theorem dX2_squareTo_18 : decode cX2_squareTo 18 = .ok (.istore 5, 2) := by decide +kernel
theorem dX2_squareTo_20 : decode cX2_squareTo 20 = .ok (.iload 4, 2) := by decide +kernel
theorem dX2_squareTo_22 : decode cX2_squareTo 22 = .ok (.iload 4, 2) := by decide +kernel
theorem dX2_squareTo_24 : decode cX2_squareTo 24 = .ok (.imul, 1) := by decide +kernel
theorem dX2_squareTo_25 : decode cX2_squareTo 25 = .ok (.iload 5, 2) := by decide +kernel
theorem dX2_squareTo_27 : decode cX2_squareTo 27 = .ok (.iload 5, 2) := by decide +kernel
theorem dX2_squareTo_29 : decode cX2_squareTo 29 = .ok (.imul, 1) := by decide +kernel
theorem dX2_squareTo_30 : decode cX2_squareTo 30 = .ok (.iadd, 1) := by decide +kernel
theorem dX2_squareTo_31 : decode cX2_squareTo 31 = .ok (.ireturn, 1) := by decide +kernel
theorem dX2_isNearAnother_0 : decode cX2_isNearAnother 0 = .ok (.aload_n 0, 1) := by decide +kernel
theorem dX2_isNearAnother_1 : decode cX2_isNearAnother 1 = .ok (.getfield 31, 3) := by decide +kernel
theorem dX2_isNearAnother_4 : decode cX2_isNearAnother 4 = .ok (.iload_n 1, 1) := by decide +kernel
theorem dX2_isNearAnother_5 : decode cX2_isNearAnother 5 = .ok (.invokestatic 44, 3) := by decide +kernel
theorem dX2_isNearAnother_8 : decode cX2_isNearAnother 8 = .ok (.ifCond .ne 5, 3) := by decide +kernel
theorem dX2_isNearAnother_11 : decode cX2_isNearAnother 11 = .ok (.iconst 0, 1) := by decide +kernel
theorem dX2_isNearAnother_12 : decode cX2_isNearAnother 12 = .ok (.ireturn, 1) := by decide +kernel
theorem dX2_isNearAnother_13 : decode cX2_isNearAnother 13 = .ok (.iconst 0, 1) := by decide +kernel
theorem dX2_isNearAnother_14 : decode cX2_isNearAnother 14 = .ok (.istore_n 3, 1) := by decide +kernel
theorem dX2_isNearAnother_15 : decode cX2_isNearAnother 15 = .ok (.iload_n 3, 1) := by decide +kernel
theorem dX2_isNearAnother_16 : decode cX2_isNearAnother 16 = .ok (.bipush 24, 2) := by decide +kernel
theorem dX2_isNearAnother_18 : decode cX2_isNearAnother 18 = .ok (.if_icmp .ge 49, 3) := by decide +kernel
theorem dX2_isNearAnother_21 : decode cX2_isNearAnother 21 = .ok (.iload_n 3, 1) := by decide +kernel
theorem dX2_isNearAnother_22 : decode cX2_isNearAnother 22 = .ok (.iload_n 1, 1) := by decide +kernel
theorem dX2_isNearAnother_23 : decode cX2_isNearAnother 23 = .ok (.if_icmp .eq 38, 3) := by decide +kernel
theorem dX2_isNearAnother_26 : decode cX2_isNearAnother 26 = .ok (.aload_n 0, 1) := by decide +kernel
theorem dX2_isNearAnother_27 : decode cX2_isNearAnother 27 = .ok (.getfield 31, 3) := by decide +kernel
theorem dX2_isNearAnother_30 : decode cX2_isNearAnother 30 = .ok (.iload_n 3, 1) := by decide +kernel
theorem dX2_isNearAnother_31 : decode cX2_isNearAnother 31 = .ok (.invokestatic 44, 3) := by decide +kernel
theorem dX2_isNearAnother_34 : decode cX2_isNearAnother 34 = .ok (.iconst 1, 1) := by decide +kernel
theorem dX2_isNearAnother_35 : decode cX2_isNearAnother 35 = .ok (.if_icmp .ne 26, 3) := by decide +kernel
theorem dX2_isNearAnother_38 : decode cX2_isNearAnother 38 = .ok (.aload_n 0, 1) := by decide +kernel
theorem dX2_isNearAnother_39 : decode cX2_isNearAnother 39 = .ok (.iload_n 1, 1) := by decide +kernel
theorem dX2_isNearAnother_40 : decode cX2_isNearAnother 40 = .ok (.aload_n 0, 1) := by decide +kernel
theorem dX2_isNearAnother_41 : decode cX2_isNearAnother 41 = .ok (.getfield 22, 3) := by decide +kernel
theorem dX2_isNearAnother_44 : decode cX2_isNearAnother 44 = .ok (.iload_n 3, 1) := by decide +kernel
theorem dX2_isNearAnother_45 : decode cX2_isNearAnother 45 = .ok (.iaload, 1) := by decide +kernel
theorem dX2_isNearAnother_46 : decode cX2_isNearAnother 46 = .ok (.aload_n 0, 1) := by decide +kernel
theorem dX2_isNearAnother_47 : decode cX2_isNearAnother 47 = .ok (.getfield 25, 3) := by decide +kernel
theorem dX2_isNearAnother_50 : decode cX2_isNearAnother 50 = .ok (.iload_n 3, 1) := by decide +kernel
theorem dX2_isNearAnother_51 : decode cX2_isNearAnother 51 = .ok (.iaload, 1) := by decide +kernel
theorem dX2_isNearAnother_52 : decode cX2_isNearAnother 52 = .ok (.invokevirtual 55, 3) := by decide +kernel
theorem dX2_isNearAnother_55 : decode cX2_isNearAnother 55 = .ok (.iload_n 2, 1) := by decide +kernel
theorem dX2_isNearAnother_56 : decode cX2_isNearAnother 56 = .ok (.if_icmp .ge 5, 3) := by decide +kernel
theorem dX2_isNearAnother_59 : decode cX2_isNearAnother 59 = .ok (.iconst 1, 1) := by decide +kernel
theorem dX2_isNearAnother_60 : decode cX2_isNearAnother 60 = .ok (.ireturn, 1) := by decide +kernel
theorem dX2_isNearAnother_61 : decode cX2_isNearAnother 61 = .ok (.iinc 3 1, 3) := by decide +kernel
theorem dX2_isNearAnother_64 : decode cX2_isNearAnother 64 = .ok (.goto (-49), 3) := by decide +kernel
theorem dX2_isNearAnother_67 : decode cX2_isNearAnother 67 = .ok (.iconst 0, 1) := by decide +kernel
theorem dX2_isNearAnother_68 : decode cX2_isNearAnother 68 = .ok (.ireturn, 1) := by decide +kernel
theorem dX3_quotient_0 : decode cX3_quotient 0 = .ok (.lload_n 2, 1) := by decide +kernel
theorem dX3_quotient_1 : decode cX3_quotient 1 = .ok (.lconst 1, 1) := by decide +kernel
theorem dX3_quotient_2 : decode cX3_quotient 2 = .ok (.lcmp, 1) := by decide +kernel
theorem dX3_quotient_3 : decode cX3_quotient 3 = .ok (.ifCond .ge 5, 3) := by decide +kernel
theorem dX3_quotient_6 : decode cX3_quotient 6 = .ok (.lconst 0, 1) := by decide +kernel
theorem dX3_quotient_7 : decode cX3_quotient 7 = .ok (.lreturn, 1) := by decide +kernel
theorem dX3_quotient_8 : decode cX3_quotient 8 = .ok (.iload 4, 2) := by decide +kernel
theorem dX3_quotient_10 : decode cX3_quotient 10 = .ok (.ifCond .eq 13, 3) := by decide +kernel
