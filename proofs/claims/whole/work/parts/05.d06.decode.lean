theorem dX5_hasApart_12 : decode cX5_hasApart 12 = .ok (.iload_n 3, 1) := by decide +kernel
theorem dX5_hasApart_13 : decode cX5_hasApart 13 = .ok (.iload_n 2, 1) := by decide +kernel
theorem dX5_hasApart_14 : decode cX5_hasApart 14 = .ok (.if_icmp .ge 42, 3) := by decide +kernel
theorem dX5_hasApart_17 : decode cX5_hasApart 17 = .ok (.iload_n 1, 1) := by decide +kernel
theorem dX5_hasApart_18 : decode cX5_hasApart 18 = .ok (.iload_n 2, 1) := by decide +kernel
theorem dX5_hasApart_19 : decode cX5_hasApart 19 = .ok (.invokestatic 73, 3) := by decide +kernel
theorem dX5_hasApart_22 : decode cX5_hasApart 22 = .ok (.ifCond .eq 28, 3) := by decide +kernel
theorem dX5_hasApart_25 : decode cX5_hasApart 25 = .ok (.iload_n 1, 1) := by decide +kernel
theorem dX5_hasApart_26 : decode cX5_hasApart 26 = .ok (.iload_n 3, 1) := by decide +kernel
theorem dX5_hasApart_27 : decode cX5_hasApart 27 = .ok (.invokestatic 73, 3) := by decide +kernel
theorem dX5_hasApart_30 : decode cX5_hasApart 30 = .ok (.ifCond .eq 20, 3) := by decide +kernel
theorem dX5_hasApart_33 : decode cX5_hasApart 33 = .ok (.aload_n 0, 1) := by decide +kernel
theorem dX5_hasApart_34 : decode cX5_hasApart 34 = .ok (.getfield 31, 3) := by decide +kernel
theorem dX5_hasApart_37 : decode cX5_hasApart 37 = .ok (.bipush 8, 2) := by decide +kernel
theorem dX5_hasApart_39 : decode cX5_hasApart 39 = .ok (.iload_n 2, 1) := by decide +kernel
theorem dX5_hasApart_40 : decode cX5_hasApart 40 = .ok (.imul, 1) := by decide +kernel
theorem dX5_hasApart_41 : decode cX5_hasApart 41 = .ok (.iload_n 3, 1) := by decide +kernel
theorem dX5_hasApart_42 : decode cX5_hasApart 42 = .ok (.iadd, 1) := by decide +kernel
theorem dX5_hasApart_43 : decode cX5_hasApart 43 = .ok (.iaload, 1) := by decide +kernel
theorem dX5_hasApart_44 : decode cX5_hasApart 44 = .ok (.iconst 1, 1) := by decide +kernel
theorem dX5_hasApart_45 : decode cX5_hasApart 45 = .ok (.if_icmp .ne 5, 3) := by decide +kernel
theorem dX5_hasApart_48 : decode cX5_hasApart 48 = .ok (.iconst 1, 1) := by decide +kernel
theorem dX5_hasApart_49 : decode cX5_hasApart 49 = .ok (.ireturn, 1) := by decide +kernel
theorem dX5_hasApart_50 : decode cX5_hasApart 50 = .ok (.iinc 3 1, 3) := by decide +kernel
theorem dX5_hasApart_53 : decode cX5_hasApart 53 = .ok (.goto (-41), 3) := by decide +kernel
theorem dX5_hasApart_56 : decode cX5_hasApart 56 = .ok (.iinc 2 1, 3) := by decide +kernel
theorem dX5_hasApart_59 : decode cX5_hasApart 59 = .ok (.goto (-57), 3) := by decide +kernel
theorem dX5_hasApart_62 : decode cX5_hasApart 62 = .ok (.iconst 0, 1) := by decide +kernel
theorem dX5_hasApart_63 : decode cX5_hasApart 63 = .ok (.ireturn, 1) := by decide +kernel
theorem dX5_isWhole_0 : decode cX5_isWhole 0 = .ok (.iconst 0, 1) := by decide +kernel
theorem dX5_isWhole_1 : decode cX5_isWhole 1 = .ok (.istore_n 2, 1) := by decide +kernel
theorem dX5_isWhole_2 : decode cX5_isWhole 2 = .ok (.iload_n 2, 1) := by decide +kernel
theorem dX5_isWhole_3 : decode cX5_isWhole 3 = .ok (.aload_n 0, 1) := by decide +kernel
theorem dX5_isWhole_4 : decode cX5_isWhole 4 = .ok (.getfield 63, 3) := by decide +kernel
theorem dX5_isWhole_7 : decode cX5_isWhole 7 = .ok (.if_icmp .ge 58, 3) := by decide +kernel
theorem dX5_isWhole_10 : decode cX5_isWhole 10 = .ok (.iconst 0, 1) := by decide +kernel
theorem dX5_isWhole_11 : decode cX5_isWhole 11 = .ok (.istore_n 3, 1) := by decide +kernel
theorem dX5_isWhole_12 : decode cX5_isWhole 12 = .ok (.iload_n 3, 1) := by decide +kernel
theorem dX5_isWhole_13 : decode cX5_isWhole 13 = .ok (.aload_n 0, 1) := by decide +kernel
theorem dX5_isWhole_14 : decode cX5_isWhole 14 = .ok (.getfield 63, 3) := by decide +kernel
theorem dX5_isWhole_17 : decode cX5_isWhole 17 = .ok (.if_icmp .ge 42, 3) := by decide +kernel
theorem dX5_isWhole_20 : decode cX5_isWhole 20 = .ok (.iload_n 1, 1) := by decide +kernel
theorem dX5_isWhole_21 : decode cX5_isWhole 21 = .ok (.iload_n 2, 1) := by decide +kernel
theorem dX5_isWhole_22 : decode cX5_isWhole 22 = .ok (.invokestatic 73, 3) := by decide +kernel
theorem dX5_isWhole_25 : decode cX5_isWhole 25 = .ok (.ifCond .eq 28, 3) := by decide +kernel
theorem dX5_isWhole_28 : decode cX5_isWhole 28 = .ok (.iload_n 1, 1) := by decide +kernel
theorem dX5_isWhole_29 : decode cX5_isWhole 29 = .ok (.iload_n 3, 1) := by decide +kernel
theorem dX5_isWhole_30 : decode cX5_isWhole 30 = .ok (.invokestatic 73, 3) := by decide +kernel
theorem dX5_isWhole_33 : decode cX5_isWhole 33 = .ok (.ifCond .ne 20, 3) := by decide +kernel
theorem dX5_isWhole_36 : decode cX5_isWhole 36 = .ok (.aload_n 0, 1) := by decide +kernel
theorem dX5_isWhole_37 : decode cX5_isWhole 37 = .ok (.getfield 31, 3) := by decide +kernel
theorem dX5_isWhole_40 : decode cX5_isWhole 40 = .ok (.bipush 8, 2) := by decide +kernel
theorem dX5_isWhole_42 : decode cX5_isWhole 42 = .ok (.iload_n 2, 1) := by decide +kernel
theorem dX5_isWhole_43 : decode cX5_isWhole 43 = .ok (.imul, 1) := by decide +kernel
theorem dX5_isWhole_44 : decode cX5_isWhole 44 = .ok (.iload_n 3, 1) := by decide +kernel
theorem dX5_isWhole_45 : decode cX5_isWhole 45 = .ok (.iadd, 1) := by decide +kernel
theorem dX5_isWhole_46 : decode cX5_isWhole 46 = .ok (.iaload, 1) := by decide +kernel
theorem dX5_isWhole_47 : decode cX5_isWhole 47 = .ok (.iconst 2, 1) := by decide +kernel
theorem dX5_isWhole_48 : decode cX5_isWhole 48 = .ok (.if_icmp .ne 5, 3) := by decide +kernel
theorem dX5_isWhole_51 : decode cX5_isWhole 51 = .ok (.iconst 0, 1) := by decide +kernel
theorem dX5_isWhole_52 : decode cX5_isWhole 52 = .ok (.ireturn, 1) := by decide +kernel
theorem dX5_isWhole_53 : decode cX5_isWhole 53 = .ok (.iinc 3 1, 3) := by decide +kernel
theorem dX5_isWhole_56 : decode cX5_isWhole 56 = .ok (.goto (-44), 3) := by decide +kernel
theorem dX5_isWhole_59 : decode cX5_isWhole 59 = .ok (.iinc 2 1, 3) := by decide +kernel
theorem dX5_isWhole_62 : decode cX5_isWhole 62 = .ok (.goto (-60), 3) := by decide +kernel
theorem dX5_isWhole_65 : decode cX5_isWhole 65 = .ok (.iconst 1, 1) := by decide +kernel
theorem dX5_isWhole_66 : decode cX5_isWhole 66 = .ok (.ireturn, 1) := by decide +kernel
theorem dX5_isBetter_0 : decode cX5_isBetter 0 = .ok (.aload_n 0, 1) := by decide +kernel
theorem dX5_isBetter_1 : decode cX5_isBetter 1 = .ok (.getfield 34, 3) := by decide +kernel
theorem dX5_isBetter_4 : decode cX5_isBetter 4 = .ok (.iconst (-1), 1) := by decide +kernel
theorem dX5_isBetter_5 : decode cX5_isBetter 5 = .ok (.if_icmp .ne 5, 3) := by decide +kernel
theorem dX5_isBetter_8 : decode cX5_isBetter 8 = .ok (.iconst 1, 1) := by decide +kernel
theorem dX5_isBetter_9 : decode cX5_isBetter 9 = .ok (.ireturn, 1) := by decide +kernel
theorem dX5_isBetter_10 : decode cX5_isBetter 10 = .ok (.aload_n 0, 1) := by decide +kernel
theorem dX5_isBetter_11 : decode cX5_isBetter 11 = .ok (.aload_n 0, 1) := by decide +kernel
theorem dX5_isBetter_12 : decode cX5_isBetter 12 = .ok (.getfield 44, 3) := by decide +kernel
theorem dX5_isBetter_15 : decode cX5_isBetter 15 = .ok (.aload_n 0, 1) := by decide +kernel
theorem dX5_isBetter_16 : decode cX5_isBetter 16 = .ok (.getfield 99, 3) := by decide +kernel
theorem dX5_isBetter_19 : decode cX5_isBetter 19 = .ok (.invokevirtual 102, 3) := by decide +kernel
theorem dX5_isBetter_22 : decode cX5_isBetter 22 = .ok (.istore_n 1, 1) := by decide +kernel
theorem dX5_isBetter_23 : decode cX5_isBetter 23 = .ok (.aload_n 0, 1) := by decide +kernel
theorem dX5_isBetter_24 : decode cX5_isBetter 24 = .ok (.aload_n 0, 1) := by decide +kernel
theorem dX5_isBetter_25 : decode cX5_isBetter 25 = .ok (.getfield 38, 3) := by decide +kernel
theorem dX5_isBetter_28 : decode cX5_isBetter 28 = .ok (.aload_n 0, 1) := by decide +kernel
theorem dX5_isBetter_29 : decode cX5_isBetter 29 = .ok (.getfield 34, 3) := by decide +kernel
theorem dX5_isBetter_32 : decode cX5_isBetter 32 = .ok (.invokevirtual 102, 3) := by decide +kernel
theorem dX5_isBetter_35 : decode cX5_isBetter 35 = .ok (.istore_n 2, 1) := by decide +kernel
theorem dX5_isBetter_36 : decode cX5_isBetter 36 = .ok (.iload_n 1, 1) := by decide +kernel
theorem dX5_isBetter_37 : decode cX5_isBetter 37 = .ok (.iload_n 2, 1) := by decide +kernel
theorem dX5_isBetter_38 : decode cX5_isBetter 38 = .ok (.if_icmp .eq 14, 3) := by decide +kernel
theorem dX5_isBetter_41 : decode cX5_isBetter 41 = .ok (.iload_n 1, 1) := by decide +kernel
theorem dX5_isBetter_42 : decode cX5_isBetter 42 = .ok (.iload_n 2, 1) := by decide +kernel
theorem dX5_isBetter_43 : decode cX5_isBetter 43 = .ok (.if_icmp .ge 7, 3) := by decide +kernel
theorem dX5_isBetter_46 : decode cX5_isBetter 46 = .ok (.iconst 1, 1) := by decide +kernel
theorem dX5_isBetter_47 : decode cX5_isBetter 47 = .ok (.goto 4, 3) := by decide +kernel
theorem dX5_isBetter_50 : decode cX5_isBetter 50 = .ok (.iconst 0, 1) := by decide +kernel
theorem dX5_isBetter_51 : decode cX5_isBetter 51 = .ok (.ireturn, 1) := by decide +kernel
theorem dX5_isBetter_52 : decode cX5_isBetter 52 = .ok (.aload_n 0, 1) := by decide +kernel
theorem dX5_isBetter_53 : decode cX5_isBetter 53 = .ok (.getfield 99, 3) := by decide +kernel
theorem dX5_isBetter_56 : decode cX5_isBetter 56 = .ok (.aload_n 0, 1) := by decide +kernel
theorem dX5_isBetter_57 : decode cX5_isBetter 57 = .ok (.getfield 34, 3) := by decide +kernel
theorem dX5_isBetter_60 : decode cX5_isBetter 60 = .ok (.if_icmp .eq 20, 3) := by decide +kernel
theorem dX5_isBetter_63 : decode cX5_isBetter 63 = .ok (.aload_n 0, 1) := by decide +kernel
theorem dX5_isBetter_64 : decode cX5_isBetter 64 = .ok (.getfield 99, 3) := by decide +kernel
theorem dX5_isBetter_67 : decode cX5_isBetter 67 = .ok (.aload_n 0, 1) := by decide +kernel
theorem dX5_isBetter_68 : decode cX5_isBetter 68 = .ok (.getfield 34, 3) := by decide +kernel
theorem dX5_isBetter_71 : decode cX5_isBetter 71 = .ok (.if_icmp .ge 7, 3) := by decide +kernel
theorem dX5_isBetter_74 : decode cX5_isBetter 74 = .ok (.iconst 1, 1) := by decide +kernel
theorem dX5_isBetter_75 : decode cX5_isBetter 75 = .ok (.goto 4, 3) := by decide +kernel
theorem dX5_isBetter_78 : decode cX5_isBetter 78 = .ok (.iconst 0, 1) := by decide +kernel
theorem dX5_isBetter_79 : decode cX5_isBetter 79 = .ok (.ireturn, 1) := by decide +kernel
theorem dX5_isBetter_80 : decode cX5_isBetter 80 = .ok (.iconst 0, 1) := by decide +kernel
theorem dX5_isBetter_81 : decode cX5_isBetter 81 = .ok (.istore_n 3, 1) := by decide +kernel
theorem dX5_isBetter_82 : decode cX5_isBetter 82 = .ok (.iload_n 3, 1) := by decide +kernel
theorem dX5_isBetter_83 : decode cX5_isBetter 83 = .ok (.aload_n 0, 1) := by decide +kernel
theorem dX5_isBetter_84 : decode cX5_isBetter 84 = .ok (.getfield 99, 3) := by decide +kernel
theorem dX5_isBetter_87 : decode cX5_isBetter 87 = .ok (.if_icmp .ge 81, 3) := by decide +kernel
theorem dX5_isBetter_90 : decode cX5_isBetter 90 = .ok (.aload_n 0, 1) := by decide +kernel
theorem dX5_isBetter_91 : decode cX5_isBetter 91 = .ok (.getfield 44, 3) := by decide +kernel
theorem dX5_isBetter_94 : decode cX5_isBetter 94 = .ok (.iload_n 3, 1) := by decide +kernel
theorem dX5_isBetter_95 : decode cX5_isBetter 95 = .ok (.iaload, 1) := by decide +kernel
theorem dX5_isBetter_96 : decode cX5_isBetter 96 = .ok (.aload_n 0, 1) := by decide +kernel
theorem dX5_isBetter_97 : decode cX5_isBetter 97 = .ok (.getfield 38, 3) := by decide +kernel
theorem dX5_isBetter_100 : decode cX5_isBetter 100 = .ok (.iload_n 3, 1) := by decide +kernel
theorem dX5_isBetter_101 : decode cX5_isBetter 101 = .ok (.iaload, 1) := by decide +kernel
theorem dX5_isBetter_102 : decode cX5_isBetter 102 = .ok (.if_icmp .eq 24, 3) := by decide +kernel
theorem dX5_isBetter_105 : decode cX5_isBetter 105 = .ok (.aload_n 0, 1) := by decide +kernel
theorem dX5_isBetter_106 : decode cX5_isBetter 106 = .ok (.getfield 44, 3) := by decide +kernel
theorem dX5_isBetter_109 : decode cX5_isBetter 109 = .ok (.iload_n 3, 1) := by decide +kernel
theorem dX5_isBetter_110 : decode cX5_isBetter 110 = .ok (.iaload, 1) := by decide +kernel
theorem dX5_isBetter_111 : decode cX5_isBetter 111 = .ok (.aload_n 0, 1) := by decide +kernel
theorem dX5_isBetter_112 : decode cX5_isBetter 112 = .ok (.getfield 38, 3) := by decide +kernel
theorem dX5_isBetter_115 : decode cX5_isBetter 115 = .ok (.iload_n 3, 1) := by decide +kernel
theorem dX5_isBetter_116 : decode cX5_isBetter 116 = .ok (.iaload, 1) := by decide +kernel
theorem dX5_isBetter_117 : decode cX5_isBetter 117 = .ok (.if_icmp .ge 7, 3) := by decide +kernel
theorem dX5_isBetter_120 : decode cX5_isBetter 120 = .ok (.iconst 1, 1) := by decide +kernel
theorem dX5_isBetter_121 : decode cX5_isBetter 121 = .ok (.goto 4, 3) := by decide +kernel
theorem dX5_isBetter_124 : decode cX5_isBetter 124 = .ok (.iconst 0, 1) := by decide +kernel
theorem dX5_isBetter_125 : decode cX5_isBetter 125 = .ok (.ireturn, 1) := by decide +kernel
theorem dX5_isBetter_126 : decode cX5_isBetter 126 = .ok (.aload_n 0, 1) := by decide +kernel
theorem dX5_isBetter_127 : decode cX5_isBetter 127 = .ok (.getfield 47, 3) := by decide +kernel
theorem dX5_isBetter_130 : decode cX5_isBetter 130 = .ok (.iload_n 3, 1) := by decide +kernel
theorem dX5_isBetter_131 : decode cX5_isBetter 131 = .ok (.iaload, 1) := by decide +kernel
theorem dX5_isBetter_132 : decode cX5_isBetter 132 = .ok (.aload_n 0, 1) := by decide +kernel
theorem dX5_isBetter_133 : decode cX5_isBetter 133 = .ok (.getfield 41, 3) := by decide +kernel
theorem dX5_isBetter_136 : decode cX5_isBetter 136 = .ok (.iload_n 3, 1) := by decide +kernel
theorem dX5_isBetter_137 : decode cX5_isBetter 137 = .ok (.iaload, 1) := by decide +kernel
theorem dX5_isBetter_138 : decode cX5_isBetter 138 = .ok (.if_icmp .eq 24, 3) := by decide +kernel
theorem dX5_isBetter_141 : decode cX5_isBetter 141 = .ok (.aload_n 0, 1) := by decide +kernel
theorem dX5_isBetter_142 : decode cX5_isBetter 142 = .ok (.getfield 47, 3) := by decide +kernel
theorem dX5_isBetter_145 : decode cX5_isBetter 145 = .ok (.iload_n 3, 1) := by decide +kernel
theorem dX5_isBetter_146 : decode cX5_isBetter 146 = .ok (.iaload, 1) := by decide +kernel
theorem dX5_isBetter_147 : decode cX5_isBetter 147 = .ok (.aload_n 0, 1) := by decide +kernel
theorem dX5_isBetter_148 : decode cX5_isBetter 148 = .ok (.getfield 41, 3) := by decide +kernel
theorem dX5_isBetter_151 : decode cX5_isBetter 151 = .ok (.iload_n 3, 1) := by decide +kernel
theorem dX5_isBetter_152 : decode cX5_isBetter 152 = .ok (.iaload, 1) := by decide +kernel
theorem dX5_isBetter_153 : decode cX5_isBetter 153 = .ok (.if_icmp .ge 7, 3) := by decide +kernel
theorem dX5_isBetter_156 : decode cX5_isBetter 156 = .ok (.iconst 1, 1) := by decide +kernel
theorem dX5_isBetter_157 : decode cX5_isBetter 157 = .ok (.goto 4, 3) := by decide +kernel
theorem dX5_isBetter_160 : decode cX5_isBetter 160 = .ok (.iconst 0, 1) := by decide +kernel
theorem dX5_isBetter_161 : decode cX5_isBetter 161 = .ok (.ireturn, 1) := by decide +kernel
theorem dX5_isBetter_162 : decode cX5_isBetter 162 = .ok (.iinc 3 1, 3) := by decide +kernel
theorem dX5_isBetter_165 : decode cX5_isBetter 165 = .ok (.goto (-83), 3) := by decide +kernel
theorem dX5_isBetter_168 : decode cX5_isBetter 168 = .ok (.iconst 0, 1) := by decide +kernel
theorem dX5_isBetter_169 : decode cX5_isBetter 169 = .ok (.ireturn, 1) := by decide +kernel
theorem dX5_costOf_0 : decode cX5_costOf 0 = .ok (.iconst 0, 1) := by decide +kernel
theorem dX5_costOf_1 : decode cX5_costOf 1 = .ok (.istore_n 3, 1) := by decide +kernel
theorem dX5_costOf_2 : decode cX5_costOf 2 = .ok (.iconst 0, 1) := by decide +kernel
theorem dX5_costOf_3 : decode cX5_costOf 3 = .ok (.istore 4, 2) := by decide +kernel
theorem dX5_costOf_5 : decode cX5_costOf 5 = .ok (.iload 4, 2) := by decide +kernel
theorem dX5_costOf_7 : decode cX5_costOf 7 = .ok (.iload_n 2, 1) := by decide +kernel
theorem dX5_costOf_8 : decode cX5_costOf 8 = .ok (.if_icmp .ge 21, 3) := by decide +kernel
theorem dX5_costOf_11 : decode cX5_costOf 11 = .ok (.iload_n 3, 1) := by decide +kernel
theorem dX5_costOf_12 : decode cX5_costOf 12 = .ok (.aload_n 0, 1) := by decide +kernel
theorem dX5_costOf_13 : decode cX5_costOf 13 = .ok (.getfield 16, 3) := by decide +kernel
theorem dX5_costOf_16 : decode cX5_costOf 16 = .ok (.aload_n 1, 1) := by decide +kernel
theorem dX5_costOf_17 : decode cX5_costOf 17 = .ok (.iload 4, 2) := by decide +kernel
theorem dX5_costOf_19 : decode cX5_costOf 19 = .ok (.iaload, 1) := by decide +kernel
theorem dX5_costOf_20 : decode cX5_costOf 20 = .ok (.iaload, 1) := by decide +kernel
theorem dX5_costOf_21 : decode cX5_costOf 21 = .ok (.iadd, 1) := by decide +kernel
theorem dX5_costOf_22 : decode cX5_costOf 22 = .ok (.istore_n 3, 1) := by decide +kernel
theorem dX5_costOf_23 : decode cX5_costOf 23 = .ok (.iinc 4 1, 3) := by decide +kernel
theorem dX5_costOf_26 : decode cX5_costOf 26 = .ok (.goto (-21), 3) := by decide +kernel
theorem dX5_costOf_29 : decode cX5_costOf 29 = .ok (.iload_n 3, 1) := by decide +kernel
theorem dX5_costOf_30 : decode cX5_costOf 30 = .ok (.ireturn, 1) := by decide +kernel
theorem dX5_keep_0 : decode cX5_keep 0 = .ok (.aload_n 0, 1) := by decide +kernel
theorem dX5_keep_1 : decode cX5_keep 1 = .ok (.aload_n 0, 1) := by decide +kernel
theorem dX5_keep_2 : decode cX5_keep 2 = .ok (.getfield 99, 3) := by decide +kernel
theorem dX5_keep_5 : decode cX5_keep 5 = .ok (.putfield 34, 3) := by decide +kernel
theorem dX5_keep_8 : decode cX5_keep 8 = .ok (.iconst 0, 1) := by decide +kernel
theorem dX5_keep_9 : decode cX5_keep 9 = .ok (.istore_n 1, 1) := by decide +kernel
theorem dX5_keep_10 : decode cX5_keep 10 = .ok (.iload_n 1, 1) := by decide +kernel
theorem dX5_keep_11 : decode cX5_keep 11 = .ok (.aload_n 0, 1) := by decide +kernel
theorem dX5_keep_12 : decode cX5_keep 12 = .ok (.getfield 99, 3) := by decide +kernel
theorem dX5_keep_15 : decode cX5_keep 15 = .ok (.if_icmp .ge 33, 3) := by decide +kernel
theorem dX5_keep_18 : decode cX5_keep 18 = .ok (.aload_n 0, 1) := by decide +kernel
theorem dX5_keep_19 : decode cX5_keep 19 = .ok (.getfield 38, 3) := by decide +kernel
theorem dX5_keep_22 : decode cX5_keep 22 = .ok (.iload_n 1, 1) := by decide +kernel
theorem dX5_keep_23 : decode cX5_keep 23 = .ok (.aload_n 0, 1) := by decide +kernel
theorem dX5_keep_24 : decode cX5_keep 24 = .ok (.getfield 44, 3) := by decide +kernel
theorem dX5_keep_27 : decode cX5_keep 27 = .ok (.iload_n 1, 1) := by decide +kernel
theorem dX5_keep_28 : decode cX5_keep 28 = .ok (.iaload, 1) := by decide +kernel
theorem dX5_keep_29 : decode cX5_keep 29 = .ok (.iastore, 1) := by decide +kernel
theorem dX5_keep_30 : decode cX5_keep 30 = .ok (.aload_n 0, 1) := by decide +kernel
theorem dX5_keep_31 : decode cX5_keep 31 = .ok (.getfield 41, 3) := by decide +kernel
theorem dX5_keep_34 : decode cX5_keep 34 = .ok (.iload_n 1, 1) := by decide +kernel
theorem dX5_keep_35 : decode cX5_keep 35 = .ok (.aload_n 0, 1) := by decide +kernel
theorem dX5_keep_36 : decode cX5_keep 36 = .ok (.getfield 47, 3) := by decide +kernel
theorem dX5_keep_39 : decode cX5_keep 39 = .ok (.iload_n 1, 1) := by decide +kernel
theorem dX5_keep_40 : decode cX5_keep 40 = .ok (.iaload, 1) := by decide +kernel
theorem dX5_keep_41 : decode cX5_keep 41 = .ok (.iastore, 1) := by decide +kernel
theorem dX5_keep_42 : decode cX5_keep 42 = .ok (.iinc 1 1, 3) := by decide +kernel
theorem dX5_keep_45 : decode cX5_keep 45 = .ok (.goto (-35), 3) := by decide +kernel
theorem dX5_keep_48 : decode cX5_keep 48 = .ok (.return_, 1) := by decide +kernel
theorem dX5_next_0 : decode cX5_next 0 = .ok (.aload_n 0, 1) := by decide +kernel
theorem dX5_next_1 : decode cX5_next 1 = .ok (.getfield 63, 3) := by decide +kernel
theorem dX5_next_4 : decode cX5_next 4 = .ok (.iconst 1, 1) := by decide +kernel
theorem dX5_next_5 : decode cX5_next 5 = .ok (.isub, 1) := by decide +kernel
theorem dX5_next_6 : decode cX5_next 6 = .ok (.istore_n 1, 1) := by decide +kernel
theorem dX5_next_7 : decode cX5_next 7 = .ok (.iload_n 1, 1) := by decide +kernel
theorem dX5_next_8 : decode cX5_next 8 = .ok (.ifCond .le 92, 3) := by decide +kernel
theorem dX5_next_11 : decode cX5_next 11 = .ok (.iconst 0, 1) := by decide +kernel
theorem dX5_next_12 : decode cX5_next 12 = .ok (.istore_n 2, 1) := by decide +kernel
theorem dX5_next_13 : decode cX5_next 13 = .ok (.iconst 0, 1) := by decide +kernel
theorem dX5_next_14 : decode cX5_next 14 = .ok (.istore_n 3, 1) := by decide +kernel
theorem dX5_next_15 : decode cX5_next 15 = .ok (.iload_n 3, 1) := by decide +kernel
theorem dX5_next_16 : decode cX5_next 16 = .ok (.iload_n 1, 1) := by decide +kernel
theorem dX5_next_17 : decode cX5_next 17 = .ok (.if_icmp .ge 30, 3) := by decide +kernel
theorem dX5_next_20 : decode cX5_next 20 = .ok (.aload_n 0, 1) := by decide +kernel
theorem dX5_next_21 : decode cX5_next 21 = .ok (.getfield 50, 3) := by decide +kernel
theorem dX5_next_24 : decode cX5_next 24 = .ok (.iload_n 3, 1) := by decide +kernel
theorem dX5_next_25 : decode cX5_next 25 = .ok (.iaload, 1) := by decide +kernel
theorem dX5_next_26 : decode cX5_next 26 = .ok (.iload_n 2, 1) := by decide +kernel
theorem dX5_next_27 : decode cX5_next 27 = .ok (.if_icmp .le 12, 3) := by decide +kernel
theorem dX5_next_30 : decode cX5_next 30 = .ok (.aload_n 0, 1) := by decide +kernel
theorem dX5_next_31 : decode cX5_next 31 = .ok (.getfield 50, 3) := by decide +kernel
theorem dX5_next_34 : decode cX5_next 34 = .ok (.iload_n 3, 1) := by decide +kernel
theorem dX5_next_35 : decode cX5_next 35 = .ok (.iaload, 1) := by decide +kernel
theorem dX5_next_36 : decode cX5_next 36 = .ok (.goto 4, 3) := by decide +kernel
theorem dX5_next_39 : decode cX5_next 39 = .ok (.iload_n 2, 1) := by decide +kernel
theorem dX5_next_40 : decode cX5_next 40 = .ok (.istore_n 2, 1) := by decide +kernel
theorem dX5_next_41 : decode cX5_next 41 = .ok (.iinc 3 1, 3) := by decide +kernel
theorem dX5_next_44 : decode cX5_next 44 = .ok (.goto (-29), 3) := by decide +kernel
theorem dX5_next_47 : decode cX5_next 47 = .ok (.aload_n 0, 1) := by decide +kernel
theorem dX5_next_48 : decode cX5_next 48 = .ok (.getfield 50, 3) := by decide +kernel
theorem dX5_next_51 : decode cX5_next 51 = .ok (.iload_n 1, 1) := by decide +kernel
theorem dX5_next_52 : decode cX5_next 52 = .ok (.iaload, 1) := by decide +kernel
theorem dX5_next_53 : decode cX5_next 53 = .ok (.iload_n 2, 1) := by decide +kernel
theorem dX5_next_54 : decode cX5_next 54 = .ok (.if_icmp .gt 40, 3) := by decide +kernel
theorem dX5_next_57 : decode cX5_next 57 = .ok (.aload_n 0, 1) := by decide +kernel
theorem dX5_next_58 : decode cX5_next 58 = .ok (.getfield 50, 3) := by decide +kernel
theorem dX5_next_61 : decode cX5_next 61 = .ok (.iload_n 1, 1) := by decide +kernel
theorem dX5_next_62 : decode cX5_next 62 = .ok (.dup2, 1) := by decide +kernel
theorem dX5_next_63 : decode cX5_next 63 = .ok (.iaload, 1) := by decide +kernel
theorem dX5_next_64 : decode cX5_next 64 = .ok (.iconst 1, 1) := by decide +kernel
theorem dX5_next_65 : decode cX5_next 65 = .ok (.iadd, 1) := by decide +kernel
theorem dX5_next_66 : decode cX5_next 66 = .ok (.iastore, 1) := by decide +kernel
theorem dX5_next_67 : decode cX5_next 67 = .ok (.iload_n 1, 1) := by decide +kernel
theorem dX5_next_68 : decode cX5_next 68 = .ok (.iconst 1, 1) := by decide +kernel
theorem dX5_next_69 : decode cX5_next 69 = .ok (.iadd, 1) := by decide +kernel
theorem dX5_next_70 : decode cX5_next 70 = .ok (.istore_n 3, 1) := by decide +kernel
theorem dX5_next_71 : decode cX5_next 71 = .ok (.iload_n 3, 1) := by decide +kernel
theorem dX5_next_72 : decode cX5_next 72 = .ok (.aload_n 0, 1) := by decide +kernel
theorem dX5_next_73 : decode cX5_next 73 = .ok (.getfield 63, 3) := by decide +kernel
theorem dX5_next_76 : decode cX5_next 76 = .ok (.if_icmp .ge 16, 3) := by decide +kernel
theorem dX5_next_79 : decode cX5_next 79 = .ok (.aload_n 0, 1) := by decide +kernel
theorem dX5_next_80 : decode cX5_next 80 = .ok (.getfield 50, 3) := by decide +kernel
theorem dX5_next_83 : decode cX5_next 83 = .ok (.iload_n 3, 1) := by decide +kernel
theorem dX5_next_84 : decode cX5_next 84 = .ok (.iconst 0, 1) := by decide +kernel
theorem dX5_next_85 : decode cX5_next 85 = .ok (.iastore, 1) := by decide +kernel
theorem dX5_next_86 : decode cX5_next 86 = .ok (.iinc 3 1, 3) := by decide +kernel
theorem dX5_next_89 : decode cX5_next 89 = .ok (.goto (-18), 3) := by decide +kernel
theorem dX5_next_92 : decode cX5_next 92 = .ok (.iconst 1, 1) := by decide +kernel
theorem dX5_next_93 : decode cX5_next 93 = .ok (.ireturn, 1) := by decide +kernel
theorem dX5_next_94 : decode cX5_next 94 = .ok (.iinc 1 (-1), 3) := by decide +kernel
theorem dX5_next_97 : decode cX5_next 97 = .ok (.goto (-90), 3) := by decide +kernel
theorem dX5_next_100 : decode cX5_next 100 = .ok (.iconst 0, 1) := by decide +kernel
theorem dX5_next_101 : decode cX5_next 101 = .ok (.ireturn, 1) := by decide +kernel
theorem dX5_byRule_0 : decode cX5_byRule 0 = .ok (.aload_n 0, 1) := by decide +kernel
theorem dX5_byRule_1 : decode cX5_byRule 1 = .ok (.iconst 0, 1) := by decide +kernel
theorem dX5_byRule_2 : decode cX5_byRule 2 = .ok (.putfield 99, 3) := by decide +kernel
theorem dX5_byRule_5 : decode cX5_byRule 5 = .ok (.iconst 0, 1) := by decide +kernel
theorem dX5_byRule_6 : decode cX5_byRule 6 = .ok (.istore_n 1, 1) := by decide +kernel
theorem dX5_byRule_7 : decode cX5_byRule 7 = .ok (.iconst 0, 1) := by decide +kernel
theorem dX5_byRule_8 : decode cX5_byRule 8 = .ok (.istore_n 2, 1) := by decide +kernel
theorem dX5_byRule_9 : decode cX5_byRule 9 = .ok (.iload_n 2, 1) := by decide +kernel
theorem dX5_byRule_10 : decode cX5_byRule 10 = .ok (.aload_n 0, 1) := by decide +kernel
theorem dX5_byRule_11 : decode cX5_byRule 11 = .ok (.getfield 63, 3) := by decide +kernel
theorem dX5_byRule_14 : decode cX5_byRule 14 = .ok (.if_icmp .ge 133, 3) := by decide +kernel
theorem dX5_byRule_17 : decode cX5_byRule 17 = .ok (.iload_n 1, 1) := by decide +kernel
theorem dX5_byRule_18 : decode cX5_byRule 18 = .ok (.iload_n 2, 1) := by decide +kernel
theorem dX5_byRule_19 : decode cX5_byRule 19 = .ok (.invokestatic 73, 3) := by decide +kernel
theorem dX5_byRule_22 : decode cX5_byRule 22 = .ok (.ifCond .eq 6, 3) := by decide +kernel
theorem dX5_byRule_25 : decode cX5_byRule 25 = .ok (.goto 116, 3) := by decide +kernel
theorem dX5_byRule_28 : decode cX5_byRule 28 = .ok (.aload_n 0, 1) := by decide +kernel
theorem dX5_byRule_29 : decode cX5_byRule 29 = .ok (.iload_n 2, 1) := by decide +kernel
theorem dX5_byRule_30 : decode cX5_byRule 30 = .ok (.invokevirtual 122, 3) := by decide +kernel
theorem dX5_byRule_33 : decode cX5_byRule 33 = .ok (.istore_n 3, 1) := by decide +kernel
theorem dX5_byRule_34 : decode cX5_byRule 34 = .ok (.iload_n 1, 1) := by decide +kernel
theorem dX5_byRule_35 : decode cX5_byRule 35 = .ok (.iload_n 3, 1) := by decide +kernel
theorem dX5_byRule_36 : decode cX5_byRule 36 = .ok (.ior, 1) := by decide +kernel
theorem dX5_byRule_37 : decode cX5_byRule 37 = .ok (.istore_n 1, 1) := by decide +kernel
theorem dX5_byRule_38 : decode cX5_byRule 38 = .ok (.iconst 0, 1) := by decide +kernel
theorem dX5_byRule_39 : decode cX5_byRule 39 = .ok (.istore 4, 2) := by decide +kernel
theorem dX5_byRule_41 : decode cX5_byRule 41 = .ok (.iload 4, 2) := by decide +kernel
theorem dX5_byRule_43 : decode cX5_byRule 43 = .ok (.aload_n 0, 1) := by decide +kernel
theorem dX5_byRule_44 : decode cX5_byRule 44 = .ok (.getfield 99, 3) := by decide +kernel
theorem dX5_byRule_47 : decode cX5_byRule 47 = .ok (.if_icmp .ge 32, 3) := by decide +kernel
theorem dX5_byRule_50 : decode cX5_byRule 50 = .ok (.aload_n 0, 1) := by decide +kernel
theorem dX5_byRule_51 : decode cX5_byRule 51 = .ok (.aload_n 0, 1) := by decide +kernel
theorem dX5_byRule_52 : decode cX5_byRule 52 = .ok (.getfield 44, 3) := by decide +kernel
theorem dX5_byRule_55 : decode cX5_byRule 55 = .ok (.iload 4, 2) := by decide +kernel
theorem dX5_byRule_57 : decode cX5_byRule 57 = .ok (.iaload, 1) := by decide +kernel
theorem dX5_byRule_58 : decode cX5_byRule 58 = .ok (.aload_n 0, 1) := by decide +kernel
theorem dX5_byRule_59 : decode cX5_byRule 59 = .ok (.getfield 47, 3) := by decide +kernel
theorem dX5_byRule_62 : decode cX5_byRule 62 = .ok (.iload 4, 2) := by decide +kernel
theorem dX5_byRule_64 : decode cX5_byRule 64 = .ok (.iaload, 1) := by decide +kernel
theorem dX5_byRule_65 : decode cX5_byRule 65 = .ok (.iload_n 3, 1) := by decide +kernel
theorem dX5_byRule_66 : decode cX5_byRule 66 = .ok (.ior, 1) := by decide +kernel
theorem dX5_byRule_67 : decode cX5_byRule 67 = .ok (.invokevirtual 96, 3) := by decide +kernel
theorem dX5_byRule_70 : decode cX5_byRule 70 = .ok (.ifCond .ne 9, 3) := by decide +kernel
theorem dX5_byRule_73 : decode cX5_byRule 73 = .ok (.iinc 4 1, 3) := by decide +kernel
theorem dX5_byRule_76 : decode cX5_byRule 76 = .ok (.goto (-35), 3) := by decide +kernel
theorem dX5_byRule_79 : decode cX5_byRule 79 = .ok (.iload 4, 2) := by decide +kernel
theorem dX5_byRule_81 : decode cX5_byRule 81 = .ok (.aload_n 0, 1) := by decide +kernel
theorem dX5_byRule_82 : decode cX5_byRule 82 = .ok (.getfield 99, 3) := by decide +kernel
theorem dX5_byRule_85 : decode cX5_byRule 85 = .ok (.if_icmp .ne 45, 3) := by decide +kernel
theorem dX5_byRule_88 : decode cX5_byRule 88 = .ok (.aload_n 0, 1) := by decide +kernel
theorem dX5_byRule_89 : decode cX5_byRule 89 = .ok (.getfield 44, 3) := by decide +kernel
theorem dX5_byRule_92 : decode cX5_byRule 92 = .ok (.iload 4, 2) := by decide +kernel
theorem dX5_byRule_94 : decode cX5_byRule 94 = .ok (.aload_n 0, 1) := by decide +kernel
theorem dX5_byRule_95 : decode cX5_byRule 95 = .ok (.iload_n 3, 1) := by decide +kernel
theorem dX5_byRule_96 : decode cX5_byRule 96 = .ok (.invokevirtual 106, 3) := by decide +kernel
theorem dX5_byRule_99 : decode cX5_byRule 99 = .ok (.iastore, 1) := by decide +kernel
theorem dX5_byRule_100 : decode cX5_byRule 100 = .ok (.aload_n 0, 1) := by decide +kernel
theorem dX5_byRule_101 : decode cX5_byRule 101 = .ok (.getfield 47, 3) := by decide +kernel
theorem dX5_byRule_104 : decode cX5_byRule 104 = .ok (.iload 4, 2) := by decide +kernel
theorem dX5_byRule_106 : decode cX5_byRule 106 = .ok (.iconst 0, 1) := by decide +kernel
theorem dX5_byRule_107 : decode cX5_byRule 107 = .ok (.iastore, 1) := by decide +kernel
theorem dX5_byRule_108 : decode cX5_byRule 108 = .ok (.aload_n 0, 1) := by decide +kernel
theorem dX5_byRule_109 : decode cX5_byRule 109 = .ok (.getfield 44, 3) := by decide +kernel
theorem dX5_byRule_112 : decode cX5_byRule 112 = .ok (.iload 4, 2) := by decide +kernel
theorem dX5_byRule_114 : decode cX5_byRule 114 = .ok (.iaload, 1) := by decide +kernel
theorem dX5_byRule_115 : decode cX5_byRule 115 = .ok (.iconst (-1), 1) := by decide +kernel
theorem dX5_byRule_116 : decode cX5_byRule 116 = .ok (.if_icmp .ne 4, 3) := by decide +kernel
theorem dX5_byRule_119 : decode cX5_byRule 119 = .ok (.return_, 1) := by decide +kernel
theorem dX5_byRule_120 : decode cX5_byRule 120 = .ok (.aload_n 0, 1) := by decide +kernel
theorem dX5_byRule_121 : decode cX5_byRule 121 = .ok (.dup, 1) := by decide +kernel
theorem dX5_byRule_122 : decode cX5_byRule 122 = .ok (.getfield 99, 3) := by decide +kernel
theorem dX5_byRule_125 : decode cX5_byRule 125 = .ok (.iconst 1, 1) := by decide +kernel
theorem dX5_byRule_126 : decode cX5_byRule 126 = .ok (.iadd, 1) := by decide +kernel
theorem dX5_byRule_127 : decode cX5_byRule 127 = .ok (.putfield 99, 3) := by decide +kernel
theorem dX5_byRule_130 : decode cX5_byRule 130 = .ok (.aload_n 0, 1) := by decide +kernel
theorem dX5_byRule_131 : decode cX5_byRule 131 = .ok (.getfield 47, 3) := by decide +kernel
theorem dX5_byRule_134 : decode cX5_byRule 134 = .ok (.iload 4, 2) := by decide +kernel
theorem dX5_byRule_136 : decode cX5_byRule 136 = .ok (.dup2, 1) := by decide +kernel
theorem dX5_byRule_137 : decode cX5_byRule 137 = .ok (.iaload, 1) := by decide +kernel
theorem dX5_byRule_138 : decode cX5_byRule 138 = .ok (.iload_n 3, 1) := by decide +kernel
theorem dX5_byRule_139 : decode cX5_byRule 139 = .ok (.ior, 1) := by decide +kernel
theorem dX5_byRule_140 : decode cX5_byRule 140 = .ok (.iastore, 1) := by decide +kernel
theorem dX5_byRule_141 : decode cX5_byRule 141 = .ok (.iinc 2 1, 3) := by decide +kernel
theorem dX5_byRule_144 : decode cX5_byRule 144 = .ok (.goto (-135), 3) := by decide +kernel
theorem dX5_byRule_147 : decode cX5_byRule 147 = .ok (.aload_n 0, 1) := by decide +kernel
theorem dX5_byRule_148 : decode cX5_byRule 148 = .ok (.invokevirtual 116, 3) := by decide +kernel
theorem dX5_byRule_151 : decode cX5_byRule 151 = .ok (.return_, 1) := by decide +kernel
theorem dX5_wholeOf_0 : decode cX5_wholeOf 0 = .ok (.iconst 1, 1) := by decide +kernel
theorem dX5_wholeOf_1 : decode cX5_wholeOf 1 = .ok (.iload_n 1, 1) := by decide +kernel
theorem dX5_wholeOf_2 : decode cX5_wholeOf 2 = .ok (.ishl, 1) := by decide +kernel
theorem dX5_wholeOf_3 : decode cX5_wholeOf 3 = .ok (.istore_n 2, 1) := by decide +kernel
theorem dX5_wholeOf_4 : decode cX5_wholeOf 4 = .ok (.iconst 0, 1) := by decide +kernel
theorem dX5_wholeOf_5 : decode cX5_wholeOf 5 = .ok (.istore_n 3, 1) := by decide +kernel
theorem dX5_wholeOf_6 : decode cX5_wholeOf 6 = .ok (.iload_n 3, 1) := by decide +kernel
theorem dX5_wholeOf_7 : decode cX5_wholeOf 7 = .ok (.bipush 8, 2) := by decide +kernel
theorem dX5_wholeOf_9 : decode cX5_wholeOf 9 = .ok (.if_icmp .ge 78, 3) := by decide +kernel
theorem dX5_wholeOf_12 : decode cX5_wholeOf 12 = .ok (.iconst 0, 1) := by decide +kernel
theorem dX5_wholeOf_13 : decode cX5_wholeOf 13 = .ok (.istore 4, 2) := by decide +kernel
theorem dX5_wholeOf_15 : decode cX5_wholeOf 15 = .ok (.iload 4, 2) := by decide +kernel
theorem dX5_wholeOf_17 : decode cX5_wholeOf 17 = .ok (.aload_n 0, 1) := by decide +kernel
theorem dX5_wholeOf_18 : decode cX5_wholeOf 18 = .ok (.getfield 63, 3) := by decide +kernel
theorem dX5_wholeOf_21 : decode cX5_wholeOf 21 = .ok (.if_icmp .ge 60, 3) := by decide +kernel
theorem dX5_wholeOf_24 : decode cX5_wholeOf 24 = .ok (.iconst 0, 1) := by decide +kernel
theorem dX5_wholeOf_25 : decode cX5_wholeOf 25 = .ok (.istore 5, 2) := by decide +kernel
theorem dX5_wholeOf_27 : decode cX5_wholeOf 27 = .ok (.iload 5, 2) := by decide +kernel
theorem dX5_wholeOf_29 : decode cX5_wholeOf 29 = .ok (.aload_n 0, 1) := by decide +kernel
theorem dX5_wholeOf_30 : decode cX5_wholeOf 30 = .ok (.getfield 63, 3) := by decide +kernel
theorem dX5_wholeOf_33 : decode cX5_wholeOf 33 = .ok (.if_icmp .ge 42, 3) := by decide +kernel
theorem dX5_wholeOf_36 : decode cX5_wholeOf 36 = .ok (.iload_n 2, 1) := by decide +kernel
theorem dX5_wholeOf_37 : decode cX5_wholeOf 37 = .ok (.iload 4, 2) := by decide +kernel
theorem dX5_wholeOf_39 : decode cX5_wholeOf 39 = .ok (.invokestatic 73, 3) := by decide +kernel
theorem dX5_wholeOf_42 : decode cX5_wholeOf 42 = .ok (.ifCond .eq 27, 3) := by decide +kernel
theorem dX5_wholeOf_45 : decode cX5_wholeOf 45 = .ok (.aload_n 0, 1) := by decide +kernel
theorem dX5_wholeOf_46 : decode cX5_wholeOf 46 = .ok (.getfield 31, 3) := by decide +kernel
theorem dX5_wholeOf_49 : decode cX5_wholeOf 49 = .ok (.bipush 8, 2) := by decide +kernel
theorem dX5_wholeOf_51 : decode cX5_wholeOf 51 = .ok (.iload 4, 2) := by decide +kernel
theorem dX5_wholeOf_53 : decode cX5_wholeOf 53 = .ok (.imul, 1) := by decide +kernel
theorem dX5_wholeOf_54 : decode cX5_wholeOf 54 = .ok (.iload 5, 2) := by decide +kernel
theorem dX5_wholeOf_56 : decode cX5_wholeOf 56 = .ok (.iadd, 1) := by decide +kernel
theorem dX5_wholeOf_57 : decode cX5_wholeOf 57 = .ok (.iaload, 1) := by decide +kernel
theorem dX5_wholeOf_58 : decode cX5_wholeOf 58 = .ok (.iconst 2, 1) := by decide +kernel
theorem dX5_wholeOf_59 : decode cX5_wholeOf 59 = .ok (.if_icmp .ne 10, 3) := by decide +kernel
theorem dX5_wholeOf_62 : decode cX5_wholeOf 62 = .ok (.iload_n 2, 1) := by decide +kernel
theorem dX5_wholeOf_63 : decode cX5_wholeOf 63 = .ok (.iconst 1, 1) := by decide +kernel
theorem dX5_wholeOf_64 : decode cX5_wholeOf 64 = .ok (.iload 5, 2) := by decide +kernel
theorem dX5_wholeOf_66 : decode cX5_wholeOf 66 = .ok (.ishl, 1) := by decide +kernel
theorem dX5_wholeOf_67 : decode cX5_wholeOf 67 = .ok (.ior, 1) := by decide +kernel
theorem dX5_wholeOf_68 : decode cX5_wholeOf 68 = .ok (.istore_n 2, 1) := by decide +kernel
theorem dX5_wholeOf_69 : decode cX5_wholeOf 69 = .ok (.iinc 5 1, 3) := by decide +kernel
theorem dX5_wholeOf_72 : decode cX5_wholeOf 72 = .ok (.goto (-45), 3) := by decide +kernel
theorem dX5_wholeOf_75 : decode cX5_wholeOf 75 = .ok (.iinc 4 1, 3) := by decide +kernel
theorem dX5_wholeOf_78 : decode cX5_wholeOf 78 = .ok (.goto (-63), 3) := by decide +kernel
theorem dX5_wholeOf_81 : decode cX5_wholeOf 81 = .ok (.iinc 3 1, 3) := by decide +kernel
theorem dX5_wholeOf_84 : decode cX5_wholeOf 84 = .ok (.goto (-78), 3) := by decide +kernel
theorem dX5_wholeOf_87 : decode cX5_wholeOf 87 = .ok (.iload_n 2, 1) := by decide +kernel
theorem dX5_wholeOf_88 : decode cX5_wholeOf 88 = .ok (.ireturn, 1) := by decide +kernel
theorem dX5_exact_0 : decode cX5_exact 0 = .ok (.aload_n 0, 1) := by decide +kernel
theorem dX5_exact_1 : decode cX5_exact 1 = .ok (.iconst 0, 1) := by decide +kernel
theorem dX5_exact_2 : decode cX5_exact 2 = .ok (.putfield 53, 3) := by decide +kernel
theorem dX5_exact_5 : decode cX5_exact 5 = .ok (.aload_n 0, 1) := by decide +kernel
theorem dX5_exact_6 : decode cX5_exact 6 = .ok (.getfield 131, 3) := by decide +kernel
theorem dX5_exact_9 : decode cX5_exact 9 = .ok (.ireturn, 1) := by decide +kernel
