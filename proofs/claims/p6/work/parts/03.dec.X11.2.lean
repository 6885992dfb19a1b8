theorem dX11_brings_35 : decode cX11_brings 35 = .ok (.iconst 0, 1) := by decide +kernel
theorem dX11_brings_36 : decode cX11_brings 36 = .ok (.ireturn, 1) := by decide +kernel
theorem dX11_quartersOf_0 : decode cX11_quartersOf 0 = .ok (.iconst 0, 1) := by decide +kernel
theorem dX11_quartersOf_1 : decode cX11_quartersOf 1 = .ok (.istore_n 3, 1) := by decide +kernel
theorem dX11_quartersOf_2 : decode cX11_quartersOf 2 = .ok (.iload_n 3, 1) := by decide +kernel
theorem dX11_quartersOf_3 : decode cX11_quartersOf 3 = .ok (.iload_n 1, 1) := by decide +kernel
theorem dX11_quartersOf_4 : decode cX11_quartersOf 4 = .ok (.if_icmp .gt 156, 3) := by decide +kernel
theorem dX11_quartersOf_7 : decode cX11_quartersOf 7 = .ok (.aload_n 0, 1) := by decide +kernel
theorem dX11_quartersOf_8 : decode cX11_quartersOf 8 = .ok (.getfield 99, 3) := by decide +kernel
theorem dX11_quartersOf_11 : decode cX11_quartersOf 11 = .ok (.iload_n 3, 1) := by decide +kernel
theorem dX11_quartersOf_12 : decode cX11_quartersOf 12 = .ok (.iconst 0, 1) := by decide +kernel
theorem dX11_quartersOf_13 : decode cX11_quartersOf 13 = .ok (.iastore, 1) := by decide +kernel
theorem dX11_quartersOf_14 : decode cX11_quartersOf 14 = .ok (.aload_n 0, 1) := by decide +kernel
theorem dX11_quartersOf_15 : decode cX11_quartersOf 15 = .ok (.getfield 45, 3) := by decide +kernel
theorem dX11_quartersOf_18 : decode cX11_quartersOf 18 = .ok (.iload_n 3, 1) := by decide +kernel
theorem dX11_quartersOf_19 : decode cX11_quartersOf 19 = .ok (.iaload, 1) := by decide +kernel
theorem dX11_quartersOf_20 : decode cX11_quartersOf 20 = .ok (.istore 4, 2) := by decide +kernel
theorem dX11_quartersOf_22 : decode cX11_quartersOf 22 = .ok (.iconst 0, 1) := by decide +kernel
theorem dX11_quartersOf_23 : decode cX11_quartersOf 23 = .ok (.istore 5, 2) := by decide +kernel
theorem dX11_quartersOf_25 : decode cX11_quartersOf 25 = .ok (.iload 4, 2) := by decide +kernel
theorem dX11_quartersOf_27 : decode cX11_quartersOf 27 = .ok (.iconst (-1), 1) := by decide +kernel
theorem dX11_quartersOf_28 : decode cX11_quartersOf 28 = .ok (.if_icmp .eq 39, 3) := by decide +kernel
theorem dX11_quartersOf_31 : decode cX11_quartersOf 31 = .ok (.iload 5, 2) := by decide +kernel
theorem dX11_quartersOf_33 : decode cX11_quartersOf 33 = .ok (.aload_n 0, 1) := by decide +kernel
theorem dX11_quartersOf_34 : decode cX11_quartersOf 34 = .ok (.getfield 99, 3) := by decide +kernel
theorem dX11_quartersOf_37 : decode cX11_quartersOf 37 = .ok (.iload 4, 2) := by decide +kernel
theorem dX11_quartersOf_39 : decode cX11_quartersOf 39 = .ok (.iaload, 1) := by decide +kernel
theorem dX11_quartersOf_40 : decode cX11_quartersOf 40 = .ok (.if_icmp .ge 27, 3) := by decide +kernel
theorem dX11_quartersOf_43 : decode cX11_quartersOf 43 = .ok (.aload_n 0, 1) := by decide +kernel
theorem dX11_quartersOf_44 : decode cX11_quartersOf 44 = .ok (.iload_n 3, 1) := by decide +kernel
theorem dX11_quartersOf_45 : decode cX11_quartersOf 45 = .ok (.aload_n 0, 1) := by decide +kernel
theorem dX11_quartersOf_46 : decode cX11_quartersOf 46 = .ok (.getfield 102, 3) := by decide +kernel
theorem dX11_quartersOf_49 : decode cX11_quartersOf 49 = .ok (.bipush 12, 2) := by decide +kernel
theorem dX11_quartersOf_51 : decode cX11_quartersOf 51 = .ok (.iload 4, 2) := by decide +kernel
theorem dX11_quartersOf_53 : decode cX11_quartersOf 53 = .ok (.imul, 1) := by decide +kernel
theorem dX11_quartersOf_54 : decode cX11_quartersOf 54 = .ok (.iload 5, 2) := by decide +kernel
theorem dX11_quartersOf_56 : decode cX11_quartersOf 56 = .ok (.iadd, 1) := by decide +kernel
theorem dX11_quartersOf_57 : decode cX11_quartersOf 57 = .ok (.iaload, 1) := by decide +kernel
theorem dX11_quartersOf_58 : decode cX11_quartersOf 58 = .ok (.invokevirtual 181, 3) := by decide +kernel
theorem dX11_quartersOf_61 : decode cX11_quartersOf 61 = .ok (.iinc 5 1, 3) := by decide +kernel
theorem dX11_quartersOf_64 : decode cX11_quartersOf 64 = .ok (.goto (-39), 3) := by decide +kernel
theorem dX11_quartersOf_67 : decode cX11_quartersOf 67 = .ok (.aload_n 0, 1) := by decide +kernel
theorem dX11_quartersOf_68 : decode cX11_quartersOf 68 = .ok (.iload_n 3, 1) := by decide +kernel
theorem dX11_quartersOf_69 : decode cX11_quartersOf 69 = .ok (.iload_n 2, 1) := by decide +kernel
theorem dX11_quartersOf_70 : decode cX11_quartersOf 70 = .ok (.invokevirtual 141, 3) := by decide +kernel
theorem dX11_quartersOf_73 : decode cX11_quartersOf 73 = .ok (.istore 5, 2) := by decide +kernel
theorem dX11_quartersOf_75 : decode cX11_quartersOf 75 = .ok (.iload 5, 2) := by decide +kernel
theorem dX11_quartersOf_77 : decode cX11_quartersOf 77 = .ok (.iconst (-1), 1) := by decide +kernel
theorem dX11_quartersOf_78 : decode cX11_quartersOf 78 = .ok (.if_icmp .eq 10, 3) := by decide +kernel
theorem dX11_quartersOf_81 : decode cX11_quartersOf 81 = .ok (.aload_n 0, 1) := by decide +kernel
theorem dX11_quartersOf_82 : decode cX11_quartersOf 82 = .ok (.iload_n 3, 1) := by decide +kernel
theorem dX11_quartersOf_83 : decode cX11_quartersOf 83 = .ok (.iload 5, 2) := by decide +kernel
theorem dX11_quartersOf_85 : decode cX11_quartersOf 85 = .ok (.invokevirtual 181, 3) := by decide +kernel
theorem dX11_quartersOf_88 : decode cX11_quartersOf 88 = .ok (.aload_n 0, 1) := by decide +kernel
theorem dX11_quartersOf_89 : decode cX11_quartersOf 89 = .ok (.getfield 48, 3) := by decide +kernel
theorem dX11_quartersOf_92 : decode cX11_quartersOf 92 = .ok (.iload_n 3, 1) := by decide +kernel
theorem dX11_quartersOf_93 : decode cX11_quartersOf 93 = .ok (.iaload, 1) := by decide +kernel
theorem dX11_quartersOf_94 : decode cX11_quartersOf 94 = .ok (.istore 6, 2) := by decide +kernel
theorem dX11_quartersOf_96 : decode cX11_quartersOf 96 = .ok (.iload 6, 2) := by decide +kernel
theorem dX11_quartersOf_98 : decode cX11_quartersOf 98 = .ok (.iconst (-1), 1) := by decide +kernel
theorem dX11_quartersOf_99 : decode cX11_quartersOf 99 = .ok (.if_icmp .eq 55, 3) := by decide +kernel
theorem dX11_quartersOf_102 : decode cX11_quartersOf 102 = .ok (.aload_n 0, 1) := by decide +kernel
theorem dX11_quartersOf_103 : decode cX11_quartersOf 103 = .ok (.iload 6, 2) := by decide +kernel
theorem dX11_quartersOf_105 : decode cX11_quartersOf 105 = .ok (.iload_n 2, 1) := by decide +kernel
theorem dX11_quartersOf_106 : decode cX11_quartersOf 106 = .ok (.invokevirtual 185, 3) := by decide +kernel
theorem dX11_quartersOf_109 : decode cX11_quartersOf 109 = .ok (.ifCond .ne 6, 3) := by decide +kernel
theorem dX11_quartersOf_112 : decode cX11_quartersOf 112 = .ok (.goto 42, 3) := by decide +kernel
theorem dX11_quartersOf_115 : decode cX11_quartersOf 115 = .ok (.iconst 0, 1) := by decide +kernel
theorem dX11_quartersOf_116 : decode cX11_quartersOf 116 = .ok (.istore 7, 2) := by decide +kernel
theorem dX11_quartersOf_118 : decode cX11_quartersOf 118 = .ok (.iload 7, 2) := by decide +kernel
theorem dX11_quartersOf_120 : decode cX11_quartersOf 120 = .ok (.aload_n 0, 1) := by decide +kernel
theorem dX11_quartersOf_121 : decode cX11_quartersOf 121 = .ok (.getfield 99, 3) := by decide +kernel
theorem dX11_quartersOf_124 : decode cX11_quartersOf 124 = .ok (.iload 6, 2) := by decide +kernel
theorem dX11_quartersOf_126 : decode cX11_quartersOf 126 = .ok (.iaload, 1) := by decide +kernel
theorem dX11_quartersOf_127 : decode cX11_quartersOf 127 = .ok (.if_icmp .ge 27, 3) := by decide +kernel
theorem dX11_quartersOf_130 : decode cX11_quartersOf 130 = .ok (.aload_n 0, 1) := by decide +kernel
theorem dX11_quartersOf_131 : decode cX11_quartersOf 131 = .ok (.iload_n 3, 1) := by decide +kernel
theorem dX11_quartersOf_132 : decode cX11_quartersOf 132 = .ok (.aload_n 0, 1) := by decide +kernel
theorem dX11_quartersOf_133 : decode cX11_quartersOf 133 = .ok (.getfield 102, 3) := by decide +kernel
theorem dX11_quartersOf_136 : decode cX11_quartersOf 136 = .ok (.bipush 12, 2) := by decide +kernel
theorem dX11_quartersOf_138 : decode cX11_quartersOf 138 = .ok (.iload 6, 2) := by decide +kernel
theorem dX11_quartersOf_140 : decode cX11_quartersOf 140 = .ok (.imul, 1) := by decide +kernel
theorem dX11_quartersOf_141 : decode cX11_quartersOf 141 = .ok (.iload 7, 2) := by decide +kernel
theorem dX11_quartersOf_143 : decode cX11_quartersOf 143 = .ok (.iadd, 1) := by decide +kernel
theorem dX11_quartersOf_144 : decode cX11_quartersOf 144 = .ok (.iaload, 1) := by decide +kernel
theorem dX11_quartersOf_145 : decode cX11_quartersOf 145 = .ok (.invokevirtual 181, 3) := by decide +kernel
theorem dX11_quartersOf_148 : decode cX11_quartersOf 148 = .ok (.iinc 7 1, 3) := by decide +kernel
theorem dX11_quartersOf_151 : decode cX11_quartersOf 151 = .ok (.goto (-33), 3) := by decide +kernel
theorem dX11_quartersOf_154 : decode cX11_quartersOf 154 = .ok (.iinc 3 1, 3) := by decide +kernel
theorem dX11_quartersOf_157 : decode cX11_quartersOf 157 = .ok (.goto (-155), 3) := by decide +kernel
theorem dX11_quartersOf_160 : decode cX11_quartersOf 160 = .ok (.aload_n 0, 1) := by decide +kernel
theorem dX11_quartersOf_161 : decode cX11_quartersOf 161 = .ok (.getfield 99, 3) := by decide +kernel
theorem dX11_quartersOf_164 : decode cX11_quartersOf 164 = .ok (.iload_n 1, 1) := by decide +kernel
theorem dX11_quartersOf_165 : decode cX11_quartersOf 165 = .ok (.iaload, 1) := by decide +kernel
theorem dX11_quartersOf_166 : decode cX11_quartersOf 166 = .ok (.ireturn, 1) := by decide +kernel
theorem dX11_quarter_0 : decode cX11_quarter 0 = .ok (.aload_n 0, 1) := by decide +kernel
theorem dX11_quarter_1 : decode cX11_quarter 1 = .ok (.iconst 0, 1) := by decide +kernel
theorem dX11_quarter_2 : decode cX11_quarter 2 = .ok (.putfield 110, 3) := by decide +kernel
theorem dX11_quarter_5 : decode cX11_quarter 5 = .ok (.aload_n 0, 1) := by decide +kernel
theorem dX11_quarter_6 : decode cX11_quarter 6 = .ok (.iload_n 1, 1) := by decide +kernel
theorem dX11_quarter_7 : decode cX11_quarter 7 = .ok (.invokevirtual 124, 3) := by decide +kernel
theorem dX11_quarter_10 : decode cX11_quarter 10 = .ok (.ifCond .ne 8, 3) := by decide +kernel
theorem dX11_quarter_13 : decode cX11_quarter 13 = .ok (.aload_n 0, 1) := by decide +kernel
theorem dX11_quarter_14 : decode cX11_quarter 14 = .ok (.invokevirtual 127, 3) := by decide +kernel
theorem dX11_quarter_17 : decode cX11_quarter 17 = .ok (.ireturn, 1) := by decide +kernel
theorem dX11_quarter_18 : decode cX11_quarter 18 = .ok (.aload_n 0, 1) := by decide +kernel
theorem dX11_quarter_19 : decode cX11_quarter 19 = .ok (.iload_n 1, 1) := by decide +kernel
theorem dX11_quarter_20 : decode cX11_quarter 20 = .ok (.iload_n 2, 1) := by decide +kernel
theorem dX11_quarter_21 : decode cX11_quarter 21 = .ok (.invokevirtual 188, 3) := by decide +kernel
theorem dX11_quarter_24 : decode cX11_quarter 24 = .ok (.istore 4, 2) := by decide +kernel
theorem dX11_quarter_26 : decode cX11_quarter 26 = .ok (.iload_n 3, 1) := by decide +kernel
theorem dX11_quarter_27 : decode cX11_quarter 27 = .ok (.iconst (-1), 1) := by decide +kernel
theorem dX11_quarter_28 : decode cX11_quarter 28 = .ok (.if_icmp .ne 8, 3) := by decide +kernel
theorem dX11_quarter_31 : decode cX11_quarter 31 = .ok (.iload 4, 2) := by decide +kernel
theorem dX11_quarter_33 : decode cX11_quarter 33 = .ok (.goto 31, 3) := by decide +kernel
theorem dX11_quarter_36 : decode cX11_quarter 36 = .ok (.iload_n 3, 1) := by decide +kernel
theorem dX11_quarter_37 : decode cX11_quarter 37 = .ok (.ifCond .lt 9, 3) := by decide +kernel
theorem dX11_quarter_40 : decode cX11_quarter 40 = .ok (.iload_n 3, 1) := by decide +kernel
theorem dX11_quarter_41 : decode cX11_quarter 41 = .ok (.iload 4, 2) := by decide +kernel
theorem dX11_quarter_43 : decode cX11_quarter 43 = .ok (.if_icmp .lt 10, 3) := by decide +kernel
theorem dX11_quarter_46 : decode cX11_quarter 46 = .ok (.aload_n 0, 1) := by decide +kernel
theorem dX11_quarter_47 : decode cX11_quarter 47 = .ok (.invokevirtual 127, 3) := by decide +kernel
theorem dX11_quarter_50 : decode cX11_quarter 50 = .ok (.goto 14, 3) := by decide +kernel
theorem dX11_quarter_53 : decode cX11_quarter 53 = .ok (.aload_n 0, 1) := by decide +kernel
theorem dX11_quarter_54 : decode cX11_quarter 54 = .ok (.getfield 102, 3) := by decide +kernel
theorem dX11_quarter_57 : decode cX11_quarter 57 = .ok (.bipush 12, 2) := by decide +kernel
theorem dX11_quarter_59 : decode cX11_quarter 59 = .ok (.iload_n 1, 1) := by decide +kernel
theorem dX11_quarter_60 : decode cX11_quarter 60 = .ok (.imul, 1) := by decide +kernel
theorem dX11_quarter_61 : decode cX11_quarter 61 = .ok (.iload_n 3, 1) := by decide +kernel
theorem dX11_quarter_62 : decode cX11_quarter 62 = .ok (.iadd, 1) := by decide +kernel
theorem dX11_quarter_63 : decode cX11_quarter 63 = .ok (.iaload, 1) := by decide +kernel
theorem dX11_quarter_64 : decode cX11_quarter 64 = .ok (.ireturn, 1) := by decide +kernel
theorem dX11_rivalsOf_0 : decode cX11_rivalsOf 0 = .ok (.aload_n 0, 1) := by decide +kernel
theorem dX11_rivalsOf_1 : decode cX11_rivalsOf 1 = .ok (.iload_n 1, 1) := by decide +kernel
theorem dX11_rivalsOf_2 : decode cX11_rivalsOf 2 = .ok (.iload_n 2, 1) := by decide +kernel
theorem dX11_rivalsOf_3 : decode cX11_rivalsOf 3 = .ok (.invokevirtual 145, 3) := by decide +kernel
theorem dX11_rivalsOf_6 : decode cX11_rivalsOf 6 = .ok (.istore_n 3, 1) := by decide +kernel
theorem dX11_rivalsOf_7 : decode cX11_rivalsOf 7 = .ok (.iconst 0, 1) := by decide +kernel
theorem dX11_rivalsOf_8 : decode cX11_rivalsOf 8 = .ok (.istore 4, 2) := by decide +kernel
theorem dX11_rivalsOf_10 : decode cX11_rivalsOf 10 = .ok (.iconst 0, 1) := by decide +kernel
theorem dX11_rivalsOf_11 : decode cX11_rivalsOf 11 = .ok (.istore 5, 2) := by decide +kernel
theorem dX11_rivalsOf_13 : decode cX11_rivalsOf 13 = .ok (.iload 5, 2) := by decide +kernel
theorem dX11_rivalsOf_15 : decode cX11_rivalsOf 15 = .ok (.aload_n 0, 1) := by decide +kernel
theorem dX11_rivalsOf_16 : decode cX11_rivalsOf 16 = .ok (.getfield 113, 3) := by decide +kernel
theorem dX11_rivalsOf_19 : decode cX11_rivalsOf 19 = .ok (.if_icmp .ge 46, 3) := by decide +kernel
theorem dX11_rivalsOf_22 : decode cX11_rivalsOf 22 = .ok (.iload_n 3, 1) := by decide +kernel
theorem dX11_rivalsOf_23 : decode cX11_rivalsOf 23 = .ok (.iconst (-1), 1) := by decide +kernel
theorem dX11_rivalsOf_24 : decode cX11_rivalsOf 24 = .ok (.if_icmp .eq 41, 3) := by decide +kernel
theorem dX11_rivalsOf_27 : decode cX11_rivalsOf 27 = .ok (.iload 4, 2) := by decide +kernel
theorem dX11_rivalsOf_29 : decode cX11_rivalsOf 29 = .ok (.iload 5, 2) := by decide +kernel
theorem dX11_rivalsOf_31 : decode cX11_rivalsOf 31 = .ok (.iload_n 3, 1) := by decide +kernel
theorem dX11_rivalsOf_32 : decode cX11_rivalsOf 32 = .ok (.if_icmp .eq 23, 3) := by decide +kernel
theorem dX11_rivalsOf_35 : decode cX11_rivalsOf 35 = .ok (.aload_n 0, 1) := by decide +kernel
theorem dX11_rivalsOf_36 : decode cX11_rivalsOf 36 = .ok (.iload 5, 2) := by decide +kernel
theorem dX11_rivalsOf_38 : decode cX11_rivalsOf 38 = .ok (.iload_n 2, 1) := by decide +kernel
theorem dX11_rivalsOf_39 : decode cX11_rivalsOf 39 = .ok (.invokevirtual 141, 3) := by decide +kernel
theorem dX11_rivalsOf_42 : decode cX11_rivalsOf 42 = .ok (.aload_n 0, 1) := by decide +kernel
theorem dX11_rivalsOf_43 : decode cX11_rivalsOf 43 = .ok (.iload_n 3, 1) := by decide +kernel
theorem dX11_rivalsOf_44 : decode cX11_rivalsOf 44 = .ok (.iload_n 2, 1) := by decide +kernel
theorem dX11_rivalsOf_45 : decode cX11_rivalsOf 45 = .ok (.invokevirtual 141, 3) := by decide +kernel
theorem dX11_rivalsOf_48 : decode cX11_rivalsOf 48 = .ok (.if_icmp .ne 7, 3) := by decide +kernel
theorem dX11_rivalsOf_51 : decode cX11_rivalsOf 51 = .ok (.iconst 1, 1) := by decide +kernel
theorem dX11_rivalsOf_52 : decode cX11_rivalsOf 52 = .ok (.goto 4, 3) := by decide +kernel
theorem dX11_rivalsOf_55 : decode cX11_rivalsOf 55 = .ok (.iconst 0, 1) := by decide +kernel
theorem dX11_rivalsOf_56 : decode cX11_rivalsOf 56 = .ok (.iadd, 1) := by decide +kernel
theorem dX11_rivalsOf_57 : decode cX11_rivalsOf 57 = .ok (.istore 4, 2) := by decide +kernel
theorem dX11_rivalsOf_59 : decode cX11_rivalsOf 59 = .ok (.iinc 5 1, 3) := by decide +kernel
theorem dX11_rivalsOf_62 : decode cX11_rivalsOf 62 = .ok (.goto (-49), 3) := by decide +kernel
theorem dX11_rivalsOf_65 : decode cX11_rivalsOf 65 = .ok (.iload 4, 2) := by decide +kernel
theorem dX11_rivalsOf_67 : decode cX11_rivalsOf 67 = .ok (.ireturn, 1) := by decide +kernel
theorem dX11_rivals_0 : decode cX11_rivals 0 = .ok (.aload_n 0, 1) := by decide +kernel
theorem dX11_rivals_1 : decode cX11_rivals 1 = .ok (.iconst 0, 1) := by decide +kernel
theorem dX11_rivals_2 : decode cX11_rivals 2 = .ok (.putfield 110, 3) := by decide +kernel
theorem dX11_rivals_5 : decode cX11_rivals 5 = .ok (.aload_n 0, 1) := by decide +kernel
theorem dX11_rivals_6 : decode cX11_rivals 6 = .ok (.iload_n 1, 1) := by decide +kernel
theorem dX11_rivals_7 : decode cX11_rivals 7 = .ok (.invokevirtual 124, 3) := by decide +kernel
theorem dX11_rivals_10 : decode cX11_rivals 10 = .ok (.ifCond .eq 12, 3) := by decide +kernel
theorem dX11_rivals_13 : decode cX11_rivals 13 = .ok (.aload_n 0, 1) := by decide +kernel
theorem dX11_rivals_14 : decode cX11_rivals 14 = .ok (.iload_n 1, 1) := by decide +kernel
theorem dX11_rivals_15 : decode cX11_rivals 15 = .ok (.iload_n 2, 1) := by decide +kernel
theorem dX11_rivals_16 : decode cX11_rivals 16 = .ok (.invokevirtual 191, 3) := by decide +kernel
theorem dX11_rivals_19 : decode cX11_rivals 19 = .ok (.goto 7, 3) := by decide +kernel
theorem dX11_rivals_22 : decode cX11_rivals 22 = .ok (.aload_n 0, 1) := by decide +kernel
theorem dX11_rivals_23 : decode cX11_rivals 23 = .ok (.invokevirtual 127, 3) := by decide +kernel
theorem dX11_rivals_26 : decode cX11_rivals 26 = .ok (.ireturn, 1) := by decide +kernel
theorem dX11_up_0 : decode cX11_up 0 = .ok (.iconst 0, 1) := by decide +kernel
theorem dX11_up_1 : decode cX11_up 1 = .ok (.istore_n 2, 1) := by decide +kernel
theorem dX11_up_2 : decode cX11_up 2 = .ok (.iload_n 2, 1) := by decide +kernel
theorem dX11_up_3 : decode cX11_up 3 = .ok (.bipush 60, 2) := by decide +kernel
theorem dX11_up_5 : decode cX11_up 5 = .ok (.if_icmp .ge 25, 3) := by decide +kernel
theorem dX11_up_8 : decode cX11_up 8 = .ok (.aload_n 0, 1) := by decide +kernel
theorem dX11_up_9 : decode cX11_up 9 = .ok (.getfield 104, 3) := by decide +kernel
theorem dX11_up_12 : decode cX11_up 12 = .ok (.iload_n 2, 1) := by decide +kernel
theorem dX11_up_13 : decode cX11_up 13 = .ok (.iload_n 2, 1) := by decide +kernel
theorem dX11_up_14 : decode cX11_up 14 = .ok (.iload_n 1, 1) := by decide +kernel
theorem dX11_up_15 : decode cX11_up 15 = .ok (.if_icmp .ne 7, 3) := by decide +kernel
theorem dX11_up_18 : decode cX11_up 18 = .ok (.iconst 1, 1) := by decide +kernel
theorem dX11_up_19 : decode cX11_up 19 = .ok (.goto 4, 3) := by decide +kernel
theorem dX11_up_22 : decode cX11_up 22 = .ok (.iconst 0, 1) := by decide +kernel
theorem dX11_up_23 : decode cX11_up 23 = .ok (.bastore, 1) := by decide +kernel
theorem dX11_up_24 : decode cX11_up 24 = .ok (.iinc 2 1, 3) := by decide +kernel
theorem dX11_up_27 : decode cX11_up 27 = .ok (.goto (-25), 3) := by decide +kernel
theorem dX11_up_30 : decode cX11_up 30 = .ok (.iload_n 1, 1) := by decide +kernel
theorem dX11_up_31 : decode cX11_up 31 = .ok (.istore_n 2, 1) := by decide +kernel
theorem dX11_up_32 : decode cX11_up 32 = .ok (.iload_n 2, 1) := by decide +kernel
theorem dX11_up_33 : decode cX11_up 33 = .ok (.ifCond .lt 65, 3) := by decide +kernel
theorem dX11_up_36 : decode cX11_up 36 = .ok (.aload_n 0, 1) := by decide +kernel
theorem dX11_up_37 : decode cX11_up 37 = .ok (.getfield 104, 3) := by decide +kernel
theorem dX11_up_40 : decode cX11_up 40 = .ok (.iload_n 2, 1) := by decide +kernel
theorem dX11_up_41 : decode cX11_up 41 = .ok (.baload, 1) := by decide +kernel
theorem dX11_up_42 : decode cX11_up 42 = .ok (.ifCond .ne 6, 3) := by decide +kernel
theorem dX11_up_45 : decode cX11_up 45 = .ok (.goto 47, 3) := by decide +kernel
theorem dX11_up_48 : decode cX11_up 48 = .ok (.aload_n 0, 1) := by decide +kernel
theorem dX11_up_49 : decode cX11_up 49 = .ok (.getfield 45, 3) := by decide +kernel
theorem dX11_up_52 : decode cX11_up 52 = .ok (.iload_n 2, 1) := by decide +kernel
theorem dX11_up_53 : decode cX11_up 53 = .ok (.iaload, 1) := by decide +kernel
theorem dX11_up_54 : decode cX11_up 54 = .ok (.iconst (-1), 1) := by decide +kernel
theorem dX11_up_55 : decode cX11_up 55 = .ok (.if_icmp .eq 15, 3) := by decide +kernel
theorem dX11_up_58 : decode cX11_up 58 = .ok (.aload_n 0, 1) := by decide +kernel
theorem dX11_up_59 : decode cX11_up 59 = .ok (.getfield 104, 3) := by decide +kernel
theorem dX11_up_62 : decode cX11_up 62 = .ok (.aload_n 0, 1) := by decide +kernel
theorem dX11_up_63 : decode cX11_up 63 = .ok (.getfield 45, 3) := by decide +kernel
theorem dX11_up_66 : decode cX11_up 66 = .ok (.iload_n 2, 1) := by decide +kernel
theorem dX11_up_67 : decode cX11_up 67 = .ok (.iaload, 1) := by decide +kernel
theorem dX11_up_68 : decode cX11_up 68 = .ok (.iconst 1, 1) := by decide +kernel
theorem dX11_up_69 : decode cX11_up 69 = .ok (.bastore, 1) := by decide +kernel
theorem dX11_up_70 : decode cX11_up 70 = .ok (.aload_n 0, 1) := by decide +kernel
theorem dX11_up_71 : decode cX11_up 71 = .ok (.getfield 48, 3) := by decide +kernel
theorem dX11_up_74 : decode cX11_up 74 = .ok (.iload_n 2, 1) := by decide +kernel
theorem dX11_up_75 : decode cX11_up 75 = .ok (.iaload, 1) := by decide +kernel
theorem dX11_up_76 : decode cX11_up 76 = .ok (.iconst (-1), 1) := by decide +kernel
theorem dX11_up_77 : decode cX11_up 77 = .ok (.if_icmp .eq 15, 3) := by decide +kernel
theorem dX11_up_80 : decode cX11_up 80 = .ok (.aload_n 0, 1) := by decide +kernel
theorem dX11_up_81 : decode cX11_up 81 = .ok (.getfield 104, 3) := by decide +kernel
theorem dX11_up_84 : decode cX11_up 84 = .ok (.aload_n 0, 1) := by decide +kernel
theorem dX11_up_85 : decode cX11_up 85 = .ok (.getfield 48, 3) := by decide +kernel
theorem dX11_up_88 : decode cX11_up 88 = .ok (.iload_n 2, 1) := by decide +kernel
theorem dX11_up_89 : decode cX11_up 89 = .ok (.iaload, 1) := by decide +kernel
theorem dX11_up_90 : decode cX11_up 90 = .ok (.iconst 1, 1) := by decide +kernel
theorem dX11_up_91 : decode cX11_up 91 = .ok (.bastore, 1) := by decide +kernel
theorem dX11_up_92 : decode cX11_up 92 = .ok (.iinc 2 (-1), 3) := by decide +kernel
theorem dX11_up_95 : decode cX11_up 95 = .ok (.goto (-63), 3) := by decide +kernel
theorem dX11_up_98 : decode cX11_up 98 = .ok (.return_, 1) := by decide +kernel
theorem dX11_common_0 : decode cX11_common 0 = .ok (.aload_n 0, 1) := by decide +kernel
theorem dX11_common_1 : decode cX11_common 1 = .ok (.iconst 0, 1) := by decide +kernel
theorem dX11_common_2 : decode cX11_common 2 = .ok (.putfield 110, 3) := by decide +kernel
theorem dX11_common_5 : decode cX11_common 5 = .ok (.aload_n 0, 1) := by decide +kernel
theorem dX11_common_6 : decode cX11_common 6 = .ok (.iload_n 1, 1) := by decide +kernel
theorem dX11_common_7 : decode cX11_common 7 = .ok (.invokevirtual 124, 3) := by decide +kernel
theorem dX11_common_10 : decode cX11_common 10 = .ok (.ifCond .eq 11, 3) := by decide +kernel
theorem dX11_common_13 : decode cX11_common 13 = .ok (.aload_n 0, 1) := by decide +kernel
theorem dX11_common_14 : decode cX11_common 14 = .ok (.iload_n 2, 1) := by decide +kernel
theorem dX11_common_15 : decode cX11_common 15 = .ok (.invokevirtual 124, 3) := by decide +kernel
theorem dX11_common_18 : decode cX11_common 18 = .ok (.ifCond .ne 8, 3) := by decide +kernel
theorem dX11_common_21 : decode cX11_common 21 = .ok (.aload_n 0, 1) := by decide +kernel
theorem dX11_common_22 : decode cX11_common 22 = .ok (.invokevirtual 127, 3) := by decide +kernel
theorem dX11_common_25 : decode cX11_common 25 = .ok (.ireturn, 1) := by decide +kernel
theorem dX11_common_26 : decode cX11_common 26 = .ok (.aload_n 0, 1) := by decide +kernel
theorem dX11_common_27 : decode cX11_common 27 = .ok (.iload_n 1, 1) := by decide +kernel
theorem dX11_common_28 : decode cX11_common 28 = .ok (.invokevirtual 194, 3) := by decide +kernel
theorem dX11_common_31 : decode cX11_common 31 = .ok (.iconst 0, 1) := by decide +kernel
theorem dX11_common_32 : decode cX11_common 32 = .ok (.istore_n 3, 1) := by decide +kernel
theorem dX11_common_33 : decode cX11_common 33 = .ok (.iload_n 3, 1) := by decide +kernel
theorem dX11_common_34 : decode cX11_common 34 = .ok (.bipush 60, 2) := by decide +kernel
theorem dX11_common_36 : decode cX11_common 36 = .ok (.if_icmp .ge 21, 3) := by decide +kernel
theorem dX11_common_39 : decode cX11_common 39 = .ok (.aload_n 0, 1) := by decide +kernel
theorem dX11_common_40 : decode cX11_common 40 = .ok (.getfield 107, 3) := by decide +kernel
theorem dX11_common_43 : decode cX11_common 43 = .ok (.iload_n 3, 1) := by decide +kernel
theorem dX11_common_44 : decode cX11_common 44 = .ok (.aload_n 0, 1) := by decide +kernel
theorem dX11_common_45 : decode cX11_common 45 = .ok (.getfield 104, 3) := by decide +kernel
theorem dX11_common_48 : decode cX11_common 48 = .ok (.iload_n 3, 1) := by decide +kernel
theorem dX11_common_49 : decode cX11_common 49 = .ok (.baload, 1) := by decide +kernel
theorem dX11_common_50 : decode cX11_common 50 = .ok (.bastore, 1) := by decide +kernel
theorem dX11_common_51 : decode cX11_common 51 = .ok (.iinc 3 1, 3) := by decide +kernel
theorem dX11_common_54 : decode cX11_common 54 = .ok (.goto (-21), 3) := by decide +kernel
theorem dX11_common_57 : decode cX11_common 57 = .ok (.aload_n 0, 1) := by decide +kernel
theorem dX11_common_58 : decode cX11_common 58 = .ok (.iload_n 2, 1) := by decide +kernel
theorem dX11_common_59 : decode cX11_common 59 = .ok (.invokevirtual 194, 3) := by decide +kernel
theorem dX11_common_62 : decode cX11_common 62 = .ok (.iconst (-1), 1) := by decide +kernel
theorem dX11_common_63 : decode cX11_common 63 = .ok (.istore_n 3, 1) := by decide +kernel
theorem dX11_common_64 : decode cX11_common 64 = .ok (.iconst 0, 1) := by decide +kernel
theorem dX11_common_65 : decode cX11_common 65 = .ok (.istore 4, 2) := by decide +kernel
theorem dX11_common_67 : decode cX11_common 67 = .ok (.iload 4, 2) := by decide +kernel
theorem dX11_common_69 : decode cX11_common 69 = .ok (.aload_n 0, 1) := by decide +kernel
theorem dX11_common_70 : decode cX11_common 70 = .ok (.getfield 113, 3) := by decide +kernel
theorem dX11_common_73 : decode cX11_common 73 = .ok (.if_icmp .ge 32, 3) := by decide +kernel
theorem dX11_common_76 : decode cX11_common 76 = .ok (.aload_n 0, 1) := by decide +kernel
theorem dX11_common_77 : decode cX11_common 77 = .ok (.getfield 104, 3) := by decide +kernel
theorem dX11_common_80 : decode cX11_common 80 = .ok (.iload 4, 2) := by decide +kernel
theorem dX11_common_82 : decode cX11_common 82 = .ok (.baload, 1) := by decide +kernel
theorem dX11_common_83 : decode cX11_common 83 = .ok (.ifCond .eq 16, 3) := by decide +kernel
theorem dX11_common_86 : decode cX11_common 86 = .ok (.aload_n 0, 1) := by decide +kernel
theorem dX11_common_87 : decode cX11_common 87 = .ok (.getfield 107, 3) := by decide +kernel
theorem dX11_common_90 : decode cX11_common 90 = .ok (.iload 4, 2) := by decide +kernel
theorem dX11_common_92 : decode cX11_common 92 = .ok (.baload, 1) := by decide +kernel
theorem dX11_common_93 : decode cX11_common 93 = .ok (.ifCond .eq 6, 3) := by decide +kernel
theorem dX11_common_96 : decode cX11_common 96 = .ok (.iload 4, 2) := by decide +kernel
theorem dX11_common_98 : decode cX11_common 98 = .ok (.istore_n 3, 1) := by decide +kernel
theorem dX11_common_99 : decode cX11_common 99 = .ok (.iinc 4 1, 3) := by decide +kernel
theorem dX11_common_102 : decode cX11_common 102 = .ok (.goto (-35), 3) := by decide +kernel
theorem dX11_common_105 : decode cX11_common 105 = .ok (.iload_n 3, 1) := by decide +kernel
theorem dX11_common_106 : decode cX11_common 106 = .ok (.ireturn, 1) := by decide +kernel
theorem dX11_feed_0 : decode cX11_feed 0 = .ok (.aload_n 0, 1) := by decide +kernel
theorem dX11_feed_1 : decode cX11_feed 1 = .ok (.iconst 0, 1) := by decide +kernel
theorem dX11_feed_2 : decode cX11_feed 2 = .ok (.putfield 110, 3) := by decide +kernel
theorem dX11_feed_5 : decode cX11_feed 5 = .ok (.aload_n 0, 1) := by decide +kernel
theorem dX11_feed_6 : decode cX11_feed 6 = .ok (.getfield 197, 3) := by decide +kernel
theorem dX11_feed_9 : decode cX11_feed 9 = .ok (.bipush 20, 2) := by decide +kernel
theorem dX11_feed_11 : decode cX11_feed 11 = .ok (.iadd, 1) := by decide +kernel
theorem dX11_feed_12 : decode cX11_feed 12 = .ok (.sipush 400, 3) := by decide +kernel
theorem dX11_feed_15 : decode cX11_feed 15 = .ok (.if_icmp .le 5, 3) := by decide +kernel
theorem dX11_feed_18 : decode cX11_feed 18 = .ok (.iconst (-1), 1) := by decide +kernel
theorem dX11_feed_19 : decode cX11_feed 19 = .ok (.ireturn, 1) := by decide +kernel
theorem dX11_feed_20 : decode cX11_feed 20 = .ok (.iconst 0, 1) := by decide +kernel
theorem dX11_feed_21 : decode cX11_feed 21 = .ok (.istore 6, 2) := by decide +kernel
theorem dX11_feed_23 : decode cX11_feed 23 = .ok (.iload 6, 2) := by decide +kernel
theorem dX11_feed_25 : decode cX11_feed 25 = .ok (.bipush 20, 2) := by decide +kernel
theorem dX11_feed_27 : decode cX11_feed 27 = .ok (.if_icmp .ge 93, 3) := by decide +kernel
theorem dX11_feed_30 : decode cX11_feed 30 = .ok (.iload 6, 2) := by decide +kernel
theorem dX11_feed_32 : decode cX11_feed 32 = .ok (.iconst 4, 1) := by decide +kernel
theorem dX11_feed_33 : decode cX11_feed 33 = .ok (.if_icmp .ge 7, 3) := by decide +kernel
theorem dX11_feed_36 : decode cX11_feed 36 = .ok (.iload_n 1, 1) := by decide +kernel
theorem dX11_feed_37 : decode cX11_feed 37 = .ok (.goto 39, 3) := by decide +kernel
theorem dX11_feed_40 : decode cX11_feed 40 = .ok (.iload 6, 2) := by decide +kernel
theorem dX11_feed_42 : decode cX11_feed 42 = .ok (.bipush 8, 2) := by decide +kernel
theorem dX11_feed_44 : decode cX11_feed 44 = .ok (.if_icmp .ge 7, 3) := by decide +kernel
theorem dX11_feed_47 : decode cX11_feed 47 = .ok (.iload_n 2, 1) := by decide +kernel
theorem dX11_feed_48 : decode cX11_feed 48 = .ok (.goto 28, 3) := by decide +kernel
theorem dX11_feed_51 : decode cX11_feed 51 = .ok (.iload 6, 2) := by decide +kernel
theorem dX11_feed_53 : decode cX11_feed 53 = .ok (.bipush 12, 2) := by decide +kernel
theorem dX11_feed_55 : decode cX11_feed 55 = .ok (.if_icmp .ge 7, 3) := by decide +kernel
theorem dX11_feed_58 : decode cX11_feed 58 = .ok (.iload_n 3, 1) := by decide +kernel
theorem dX11_feed_59 : decode cX11_feed 59 = .ok (.goto 17, 3) := by decide +kernel
theorem dX11_feed_62 : decode cX11_feed 62 = .ok (.iload 6, 2) := by decide +kernel
theorem dX11_feed_64 : decode cX11_feed 64 = .ok (.bipush 16, 2) := by decide +kernel
theorem dX11_feed_66 : decode cX11_feed 66 = .ok (.if_icmp .ge 8, 3) := by decide +kernel
theorem dX11_feed_69 : decode cX11_feed 69 = .ok (.iload 4, 2) := by decide +kernel
theorem dX11_feed_71 : decode cX11_feed 71 = .ok (.goto 5, 3) := by decide +kernel
theorem dX11_feed_74 : decode cX11_feed 74 = .ok (.iload 5, 2) := by decide +kernel
theorem dX11_feed_76 : decode cX11_feed 76 = .ok (.istore 7, 2) := by decide +kernel
theorem dX11_feed_78 : decode cX11_feed 78 = .ok (.aload_n 0, 1) := by decide +kernel
theorem dX11_feed_79 : decode cX11_feed 79 = .ok (.getfield 72, 3) := by decide +kernel
theorem dX11_feed_82 : decode cX11_feed 82 = .ok (.aload_n 0, 1) := by decide +kernel
theorem dX11_feed_83 : decode cX11_feed 83 = .ok (.getfield 197, 3) := by decide +kernel
theorem dX11_feed_86 : decode cX11_feed 86 = .ok (.iload 7, 2) := by decide +kernel
theorem dX11_feed_88 : decode cX11_feed 88 = .ok (.bipush 24, 2) := by decide +kernel
theorem dX11_feed_90 : decode cX11_feed 90 = .ok (.bipush 8, 2) := by decide +kernel
theorem dX11_feed_92 : decode cX11_feed 92 = .ok (.iload 6, 2) := by decide +kernel
theorem dX11_feed_94 : decode cX11_feed 94 = .ok (.iconst 4, 1) := by decide +kernel
theorem dX11_feed_95 : decode cX11_feed 95 = .ok (.irem, 1) := by decide +kernel
theorem dX11_feed_96 : decode cX11_feed 96 = .ok (.imul, 1) := by decide +kernel
theorem dX11_feed_97 : decode cX11_feed 97 = .ok (.isub, 1) := by decide +kernel
theorem dX11_feed_98 : decode cX11_feed 98 = .ok (.ishr, 1) := by decide +kernel
theorem dX11_feed_99 : decode cX11_feed 99 = .ok (.sipush 255, 3) := by decide +kernel
theorem dX11_feed_102 : decode cX11_feed 102 = .ok (.iand, 1) := by decide +kernel
theorem dX11_feed_103 : decode cX11_feed 103 = .ok (.iastore, 1) := by decide +kernel
theorem dX11_feed_104 : decode cX11_feed 104 = .ok (.aload_n 0, 1) := by decide +kernel
theorem dX11_feed_105 : decode cX11_feed 105 = .ok (.dup, 1) := by decide +kernel
theorem dX11_feed_106 : decode cX11_feed 106 = .ok (.getfield 197, 3) := by decide +kernel
theorem dX11_feed_109 : decode cX11_feed 109 = .ok (.iconst 1, 1) := by decide +kernel
theorem dX11_feed_110 : decode cX11_feed 110 = .ok (.iadd, 1) := by decide +kernel
theorem dX11_feed_111 : decode cX11_feed 111 = .ok (.putfield 197, 3) := by decide +kernel
theorem dX11_feed_114 : decode cX11_feed 114 = .ok (.iinc 6 1, 3) := by decide +kernel
theorem dX11_feed_117 : decode cX11_feed 117 = .ok (.goto (-94), 3) := by decide +kernel
theorem dX11_feed_120 : decode cX11_feed 120 = .ok (.aload_n 0, 1) := by decide +kernel
theorem dX11_feed_121 : decode cX11_feed 121 = .ok (.getfield 197, 3) := by decide +kernel
theorem dX11_feed_124 : decode cX11_feed 124 = .ok (.ireturn, 1) := by decide +kernel
theorem dX11_byteAt_0 : decode cX11_byteAt 0 = .ok (.iload_n 1, 1) := by decide +kernel
theorem dX11_byteAt_1 : decode cX11_byteAt 1 = .ok (.aload_n 0, 1) := by decide +kernel
theorem dX11_byteAt_2 : decode cX11_byteAt 2 = .ok (.getfield 200, 3) := by decide +kernel
theorem dX11_byteAt_5 : decode cX11_byteAt 5 = .ok (.if_icmp .ge 12, 3) := by decide +kernel
theorem dX11_byteAt_8 : decode cX11_byteAt 8 = .ok (.aload_n 0, 1) := by decide +kernel
theorem dX11_byteAt_9 : decode cX11_byteAt 9 = .ok (.getfield 72, 3) := by decide +kernel
theorem dX11_byteAt_12 : decode cX11_byteAt 12 = .ok (.iload_n 1, 1) := by decide +kernel
theorem dX11_byteAt_13 : decode cX11_byteAt 13 = .ok (.iaload, 1) := by decide +kernel
theorem dX11_byteAt_14 : decode cX11_byteAt 14 = .ok (.goto 4, 3) := by decide +kernel
theorem dX11_byteAt_17 : decode cX11_byteAt 17 = .ok (.iconst (-1), 1) := by decide +kernel
theorem dX11_byteAt_18 : decode cX11_byteAt 18 = .ok (.ireturn, 1) := by decide +kernel
theorem dX11_isLetter_0 : decode cX11_isLetter 0 = .ok (.iload_n 0, 1) := by decide +kernel
theorem dX11_isLetter_1 : decode cX11_isLetter 1 = .ok (.bipush 97, 2) := by decide +kernel
theorem dX11_isLetter_3 : decode cX11_isLetter 3 = .ok (.if_icmp .lt 13, 3) := by decide +kernel
theorem dX11_isLetter_6 : decode cX11_isLetter 6 = .ok (.iload_n 0, 1) := by decide +kernel
theorem dX11_isLetter_7 : decode cX11_isLetter 7 = .ok (.bipush 122, 2) := by decide +kernel
theorem dX11_isLetter_9 : decode cX11_isLetter 9 = .ok (.if_icmp .gt 7, 3) := by decide +kernel
theorem dX11_isLetter_12 : decode cX11_isLetter 12 = .ok (.iconst 1, 1) := by decide +kernel
theorem dX11_isLetter_13 : decode cX11_isLetter 13 = .ok (.goto 4, 3) := by decide +kernel
theorem dX11_isLetter_16 : decode cX11_isLetter 16 = .ok (.iconst 0, 1) := by decide +kernel
theorem dX11_isLetter_17 : decode cX11_isLetter 17 = .ok (.ireturn, 1) := by decide +kernel
theorem dX11_isDigit_0 : decode cX11_isDigit 0 = .ok (.iload_n 0, 1) := by decide +kernel
theorem dX11_isDigit_1 : decode cX11_isDigit 1 = .ok (.bipush 48, 2) := by decide +kernel
theorem dX11_isDigit_3 : decode cX11_isDigit 3 = .ok (.if_icmp .lt 13, 3) := by decide +kernel
theorem dX11_isDigit_6 : decode cX11_isDigit 6 = .ok (.iload_n 0, 1) := by decide +kernel
theorem dX11_isDigit_7 : decode cX11_isDigit 7 = .ok (.bipush 57, 2) := by decide +kernel
theorem dX11_isDigit_9 : decode cX11_isDigit 9 = .ok (.if_icmp .gt 7, 3) := by decide +kernel
theorem dX11_isDigit_12 : decode cX11_isDigit 12 = .ok (.iconst 1, 1) := by decide +kernel
theorem dX11_isDigit_13 : decode cX11_isDigit 13 = .ok (.goto 4, 3) := by decide +kernel
theorem dX11_isDigit_16 : decode cX11_isDigit 16 = .ok (.iconst 0, 1) := by decide +kernel
theorem dX11_isDigit_17 : decode cX11_isDigit 17 = .ok (.ireturn, 1) := by decide +kernel
theorem dX11_step_0 : decode cX11_step 0 = .ok (.aload_n 0, 1) := by decide +kernel
theorem dX11_step_1 : decode cX11_step 1 = .ok (.aload_n 0, 1) := by decide +kernel
theorem dX11_step_2 : decode cX11_step 2 = .ok (.getfield 203, 3) := by decide +kernel
theorem dX11_step_5 : decode cX11_step 5 = .ok (.invokevirtual 206, 3) := by decide +kernel
theorem dX11_step_8 : decode cX11_step 8 = .ok (.bipush 32, 2) := by decide +kernel
theorem dX11_step_10 : decode cX11_step 10 = .ok (.if_icmp .eq 16, 3) := by decide +kernel
theorem dX11_step_13 : decode cX11_step 13 = .ok (.aload_n 0, 1) := by decide +kernel
theorem dX11_step_14 : decode cX11_step 14 = .ok (.aload_n 0, 1) := by decide +kernel
theorem dX11_step_15 : decode cX11_step 15 = .ok (.getfield 203, 3) := by decide +kernel
theorem dX11_step_18 : decode cX11_step 18 = .ok (.invokevirtual 206, 3) := by decide +kernel
theorem dX11_step_21 : decode cX11_step 21 = .ok (.bipush 10, 2) := by decide +kernel
theorem dX11_step_23 : decode cX11_step 23 = .ok (.if_icmp .ne 16, 3) := by decide +kernel
theorem dX11_step_26 : decode cX11_step 26 = .ok (.aload_n 0, 1) := by decide +kernel
theorem dX11_step_27 : decode cX11_step 27 = .ok (.dup, 1) := by decide +kernel
theorem dX11_step_28 : decode cX11_step 28 = .ok (.getfield 203, 3) := by decide +kernel
theorem dX11_step_31 : decode cX11_step 31 = .ok (.iconst 1, 1) := by decide +kernel
theorem dX11_step_32 : decode cX11_step 32 = .ok (.iadd, 1) := by decide +kernel
theorem dX11_step_33 : decode cX11_step 33 = .ok (.putfield 203, 3) := by decide +kernel
theorem dX11_step_36 : decode cX11_step 36 = .ok (.goto (-36), 3) := by decide +kernel
theorem dX11_step_39 : decode cX11_step 39 = .ok (.aload_n 0, 1) := by decide +kernel
theorem dX11_step_40 : decode cX11_step 40 = .ok (.aload_n 0, 1) := by decide +kernel
theorem dX11_step_41 : decode cX11_step 41 = .ok (.getfield 203, 3) := by decide +kernel
theorem dX11_step_44 : decode cX11_step 44 = .ok (.putfield 209, 3) := by decide +kernel
theorem dX11_step_47 : decode cX11_step 47 = .ok (.aload_n 0, 1) := by decide +kernel
theorem dX11_step_48 : decode cX11_step 48 = .ok (.iconst 0, 1) := by decide +kernel
theorem dX11_step_49 : decode cX11_step 49 = .ok (.putfield 212, 3) := by decide +kernel
theorem dX11_step_52 : decode cX11_step 52 = .ok (.aload_n 0, 1) := by decide +kernel
theorem dX11_step_53 : decode cX11_step 53 = .ok (.aload_n 0, 1) := by decide +kernel
theorem dX11_step_54 : decode cX11_step 54 = .ok (.getfield 203, 3) := by decide +kernel
theorem dX11_step_57 : decode cX11_step 57 = .ok (.invokevirtual 206, 3) := by decide +kernel
theorem dX11_step_60 : decode cX11_step 60 = .ok (.istore_n 1, 1) := by decide +kernel
theorem dX11_step_61 : decode cX11_step 61 = .ok (.iload_n 1, 1) := by decide +kernel
theorem dX11_step_62 : decode cX11_step 62 = .ok (.iconst (-1), 1) := by decide +kernel
theorem dX11_step_63 : decode cX11_step 63 = .ok (.if_icmp .ne 11, 3) := by decide +kernel
theorem dX11_step_66 : decode cX11_step 66 = .ok (.aload_n 0, 1) := by decide +kernel
theorem dX11_step_67 : decode cX11_step 67 = .ok (.iconst 0, 1) := by decide +kernel
theorem dX11_step_68 : decode cX11_step 68 = .ok (.putfield 215, 3) := by decide +kernel
theorem dX11_step_71 : decode cX11_step 71 = .ok (.goto 163, 3) := by decide +kernel
theorem dX11_step_74 : decode cX11_step 74 = .ok (.iload_n 1, 1) := by decide +kernel
theorem dX11_step_75 : decode cX11_step 75 = .ok (.invokestatic 218, 3) := by decide +kernel
theorem dX11_step_78 : decode cX11_step 78 = .ok (.ifCond .eq 38, 3) := by decide +kernel
theorem dX11_step_81 : decode cX11_step 81 = .ok (.aload_n 0, 1) := by decide +kernel
theorem dX11_step_82 : decode cX11_step 82 = .ok (.aload_n 0, 1) := by decide +kernel
theorem dX11_step_83 : decode cX11_step 83 = .ok (.getfield 203, 3) := by decide +kernel
theorem dX11_step_86 : decode cX11_step 86 = .ok (.invokevirtual 206, 3) := by decide +kernel
theorem dX11_step_89 : decode cX11_step 89 = .ok (.invokestatic 218, 3) := by decide +kernel
theorem dX11_step_92 : decode cX11_step 92 = .ok (.ifCond .eq 16, 3) := by decide +kernel
theorem dX11_step_95 : decode cX11_step 95 = .ok (.aload_n 0, 1) := by decide +kernel
theorem dX11_step_96 : decode cX11_step 96 = .ok (.dup, 1) := by decide +kernel
theorem dX11_step_97 : decode cX11_step 97 = .ok (.getfield 203, 3) := by decide +kernel
theorem dX11_step_100 : decode cX11_step 100 = .ok (.iconst 1, 1) := by decide +kernel
theorem dX11_step_101 : decode cX11_step 101 = .ok (.iadd, 1) := by decide +kernel
theorem dX11_step_102 : decode cX11_step 102 = .ok (.putfield 203, 3) := by decide +kernel
theorem dX11_step_105 : decode cX11_step 105 = .ok (.goto (-24), 3) := by decide +kernel
theorem dX11_step_108 : decode cX11_step 108 = .ok (.aload_n 0, 1) := by decide +kernel
theorem dX11_step_109 : decode cX11_step 109 = .ok (.iconst 1, 1) := by decide +kernel
theorem dX11_step_110 : decode cX11_step 110 = .ok (.putfield 215, 3) := by decide +kernel
theorem dX11_step_113 : decode cX11_step 113 = .ok (.goto 121, 3) := by decide +kernel
theorem dX11_step_116 : decode cX11_step 116 = .ok (.iload_n 1, 1) := by decide +kernel
theorem dX11_step_117 : decode cX11_step 117 = .ok (.invokestatic 221, 3) := by decide +kernel
theorem dX11_step_120 : decode cX11_step 120 = .ok (.ifCond .eq 38, 3) := by decide +kernel
theorem dX11_step_123 : decode cX11_step 123 = .ok (.aload_n 0, 1) := by decide +kernel
theorem dX11_step_124 : decode cX11_step 124 = .ok (.aload_n 0, 1) := by decide +kernel
theorem dX11_step_125 : decode cX11_step 125 = .ok (.getfield 203, 3) := by decide +kernel
theorem dX11_step_128 : decode cX11_step 128 = .ok (.invokevirtual 206, 3) := by decide +kernel
theorem dX11_step_131 : decode cX11_step 131 = .ok (.invokestatic 221, 3) := by decide +kernel
theorem dX11_step_134 : decode cX11_step 134 = .ok (.ifCond .eq 16, 3) := by decide +kernel
theorem dX11_step_137 : decode cX11_step 137 = .ok (.aload_n 0, 1) := by decide +kernel
theorem dX11_step_138 : decode cX11_step 138 = .ok (.dup, 1) := by decide +kernel
theorem dX11_step_139 : decode cX11_step 139 = .ok (.getfield 203, 3) := by decide +kernel
theorem dX11_step_142 : decode cX11_step 142 = .ok (.iconst 1, 1) := by decide +kernel
theorem dX11_step_143 : decode cX11_step 143 = .ok (.iadd, 1) := by decide +kernel
theorem dX11_step_144 : decode cX11_step 144 = .ok (.putfield 203, 3) := by decide +kernel
theorem dX11_step_147 : decode cX11_step 147 = .ok (.goto (-24), 3) := by decide +kernel
theorem dX11_step_150 : decode cX11_step 150 = .ok (.aload_n 0, 1) := by decide +kernel
theorem dX11_step_151 : decode cX11_step 151 = .ok (.iconst 2, 1) := by decide +kernel
theorem dX11_step_152 : decode cX11_step 152 = .ok (.putfield 215, 3) := by decide +kernel
theorem dX11_step_155 : decode cX11_step 155 = .ok (.goto 79, 3) := by decide +kernel
theorem dX11_step_158 : decode cX11_step 158 = .ok (.aload_n 0, 1) := by decide +kernel
theorem dX11_step_159 : decode cX11_step 159 = .ok (.dup, 1) := by decide +kernel
theorem dX11_step_160 : decode cX11_step 160 = .ok (.getfield 203, 3) := by decide +kernel
theorem dX11_step_163 : decode cX11_step 163 = .ok (.iconst 1, 1) := by decide +kernel
theorem dX11_step_164 : decode cX11_step 164 = .ok (.iadd, 1) := by decide +kernel
theorem dX11_step_165 : decode cX11_step 165 = .ok (.putfield 203, 3) := by decide +kernel
theorem dX11_step_168 : decode cX11_step 168 = .ok (.iload_n 1, 1) := by decide +kernel
theorem dX11_step_169 : decode cX11_step 169 = .ok (.bipush 40, 2) := by decide +kernel
theorem dX11_step_171 : decode cX11_step 171 = .ok (.if_icmp .eq 39, 3) := by decide +kernel
theorem dX11_step_174 : decode cX11_step 174 = .ok (.iload_n 1, 1) := by decide +kernel
theorem dX11_step_175 : decode cX11_step 175 = .ok (.bipush 41, 2) := by decide +kernel
theorem dX11_step_177 : decode cX11_step 177 = .ok (.if_icmp .eq 33, 3) := by decide +kernel
theorem dX11_step_180 : decode cX11_step 180 = .ok (.iload_n 1, 1) := by decide +kernel
theorem dX11_step_181 : decode cX11_step 181 = .ok (.bipush 59, 2) := by decide +kernel
theorem dX11_step_183 : decode cX11_step 183 = .ok (.if_icmp .eq 27, 3) := by decide +kernel
theorem dX11_step_186 : decode cX11_step 186 = .ok (.iload_n 1, 1) := by decide +kernel
theorem dX11_step_187 : decode cX11_step 187 = .ok (.bipush 43, 2) := by decide +kernel
theorem dX11_step_189 : decode cX11_step 189 = .ok (.if_icmp .eq 21, 3) := by decide +kernel
theorem dX11_step_192 : decode cX11_step 192 = .ok (.iload_n 1, 1) := by decide +kernel
theorem dX11_step_193 : decode cX11_step 193 = .ok (.bipush 45, 2) := by decide +kernel
theorem dX11_step_195 : decode cX11_step 195 = .ok (.if_icmp .eq 15, 3) := by decide +kernel
theorem dX11_step_198 : decode cX11_step 198 = .ok (.iload_n 1, 1) := by decide +kernel
theorem dX11_step_199 : decode cX11_step 199 = .ok (.bipush 60, 2) := by decide +kernel
theorem dX11_step_201 : decode cX11_step 201 = .ok (.if_icmp .eq 9, 3) := by decide +kernel
theorem dX11_step_204 : decode cX11_step 204 = .ok (.iload_n 1, 1) := by decide +kernel
theorem dX11_step_205 : decode cX11_step 205 = .ok (.bipush 61, 2) := by decide +kernel
theorem dX11_step_207 : decode cX11_step 207 = .ok (.if_icmp .ne 7, 3) := by decide +kernel
theorem dX11_step_210 : decode cX11_step 210 = .ok (.iconst 1, 1) := by decide +kernel
theorem dX11_step_211 : decode cX11_step 211 = .ok (.goto 4, 3) := by decide +kernel
theorem dX11_step_214 : decode cX11_step 214 = .ok (.iconst 0, 1) := by decide +kernel
theorem dX11_step_215 : decode cX11_step 215 = .ok (.istore_n 2, 1) := by decide +kernel
theorem dX11_step_216 : decode cX11_step 216 = .ok (.aload_n 0, 1) := by decide +kernel
theorem dX11_step_217 : decode cX11_step 217 = .ok (.iload_n 2, 1) := by decide +kernel
theorem dX11_step_218 : decode cX11_step 218 = .ok (.ifCond .eq 7, 3) := by decide +kernel
theorem dX11_step_221 : decode cX11_step 221 = .ok (.iconst 3, 1) := by decide +kernel
theorem dX11_step_222 : decode cX11_step 222 = .ok (.goto 4, 3) := by decide +kernel
theorem dX11_step_225 : decode cX11_step 225 = .ok (.iconst 4, 1) := by decide +kernel
theorem dX11_step_226 : decode cX11_step 226 = .ok (.putfield 215, 3) := by decide +kernel
theorem dX11_step_229 : decode cX11_step 229 = .ok (.aload_n 0, 1) := by decide +kernel
theorem dX11_step_230 : decode cX11_step 230 = .ok (.iload_n 1, 1) := by decide +kernel
theorem dX11_step_231 : decode cX11_step 231 = .ok (.putfield 212, 3) := by decide +kernel
theorem dX11_step_234 : decode cX11_step 234 = .ok (.aload_n 0, 1) := by decide +kernel
theorem dX11_step_235 : decode cX11_step 235 = .ok (.aload_n 0, 1) := by decide +kernel
theorem dX11_step_236 : decode cX11_step 236 = .ok (.getfield 203, 3) := by decide +kernel
theorem dX11_step_239 : decode cX11_step 239 = .ok (.putfield 224, 3) := by decide +kernel
theorem dX11_step_242 : decode cX11_step 242 = .ok (.return_, 1) := by decide +kernel
theorem dX11_isWord_0 : decode cX11_isWord 0 = .ok (.aload_n 0, 1) := by decide +kernel
theorem dX11_isWord_1 : decode cX11_isWord 1 = .ok (.getfield 215, 3) := by decide +kernel
theorem dX11_isWord_4 : decode cX11_isWord 4 = .ok (.iconst 1, 1) := by decide +kernel
theorem dX11_isWord_5 : decode cX11_isWord 5 = .ok (.if_icmp .ne 23, 3) := by decide +kernel
theorem dX11_isWord_8 : decode cX11_isWord 8 = .ok (.aload_n 1, 1) := by decide +kernel
theorem dX11_isWord_9 : decode cX11_isWord 9 = .ok (.invokevirtual 227, 3) := by decide +kernel
theorem dX11_isWord_12 : decode cX11_isWord 12 = .ok (.aload_n 0, 1) := by decide +kernel
theorem dX11_isWord_13 : decode cX11_isWord 13 = .ok (.getfield 224, 3) := by decide +kernel
theorem dX11_isWord_16 : decode cX11_isWord 16 = .ok (.aload_n 0, 1) := by decide +kernel
theorem dX11_isWord_17 : decode cX11_isWord 17 = .ok (.getfield 209, 3) := by decide +kernel
theorem dX11_isWord_20 : decode cX11_isWord 20 = .ok (.isub, 1) := by decide +kernel
theorem dX11_isWord_21 : decode cX11_isWord 21 = .ok (.if_icmp .ne 7, 3) := by decide +kernel
theorem dX11_isWord_24 : decode cX11_isWord 24 = .ok (.iconst 1, 1) := by decide +kernel
theorem dX11_isWord_25 : decode cX11_isWord 25 = .ok (.goto 4, 3) := by decide +kernel
theorem dX11_isWord_28 : decode cX11_isWord 28 = .ok (.iconst 0, 1) := by decide +kernel
theorem dX11_isWord_29 : decode cX11_isWord 29 = .ok (.istore_n 2, 1) := by decide +kernel
theorem dX11_isWord_30 : decode cX11_isWord 30 = .ok (.iconst 0, 1) := by decide +kernel
theorem dX11_isWord_31 : decode cX11_isWord 31 = .ok (.istore_n 3, 1) := by decide +kernel
theorem dX11_isWord_32 : decode cX11_isWord 32 = .ok (.iload_n 2, 1) := by decide +kernel
theorem dX11_isWord_33 : decode cX11_isWord 33 = .ok (.ifCond .eq 42, 3) := by decide +kernel
theorem dX11_isWord_36 : decode cX11_isWord 36 = .ok (.iload_n 3, 1) := by decide +kernel
theorem dX11_isWord_37 : decode cX11_isWord 37 = .ok (.aload_n 1, 1) := by decide +kernel
theorem dX11_isWord_38 : decode cX11_isWord 38 = .ok (.invokevirtual 227, 3) := by decide +kernel
theorem dX11_isWord_41 : decode cX11_isWord 41 = .ok (.if_icmp .ge 34, 3) := by decide +kernel
theorem dX11_isWord_44 : decode cX11_isWord 44 = .ok (.aload_n 1, 1) := by decide +kernel
theorem dX11_isWord_45 : decode cX11_isWord 45 = .ok (.iload_n 3, 1) := by decide +kernel
theorem dX11_isWord_46 : decode cX11_isWord 46 = .ok (.invokevirtual 230, 3) := by decide +kernel
theorem dX11_isWord_49 : decode cX11_isWord 49 = .ok (.aload_n 0, 1) := by decide +kernel
theorem dX11_isWord_50 : decode cX11_isWord 50 = .ok (.getfield 72, 3) := by decide +kernel
theorem dX11_isWord_53 : decode cX11_isWord 53 = .ok (.aload_n 0, 1) := by decide +kernel
theorem dX11_isWord_54 : decode cX11_isWord 54 = .ok (.getfield 209, 3) := by decide +kernel
theorem dX11_isWord_57 : decode cX11_isWord 57 = .ok (.iload_n 3, 1) := by decide +kernel
theorem dX11_isWord_58 : decode cX11_isWord 58 = .ok (.iadd, 1) := by decide +kernel
theorem dX11_isWord_59 : decode cX11_isWord 59 = .ok (.iaload, 1) := by decide +kernel
theorem dX11_isWord_60 : decode cX11_isWord 60 = .ok (.if_icmp .ne 7, 3) := by decide +kernel
theorem dX11_isWord_63 : decode cX11_isWord 63 = .ok (.iconst 1, 1) := by decide +kernel
theorem dX11_isWord_64 : decode cX11_isWord 64 = .ok (.goto 4, 3) := by decide +kernel
theorem dX11_isWord_67 : decode cX11_isWord 67 = .ok (.iconst 0, 1) := by decide +kernel
theorem dX11_isWord_68 : decode cX11_isWord 68 = .ok (.istore_n 2, 1) := by decide +kernel
theorem dX11_isWord_69 : decode cX11_isWord 69 = .ok (.iinc 3 1, 3) := by decide +kernel
theorem dX11_isWord_72 : decode cX11_isWord 72 = .ok (.goto (-40), 3) := by decide +kernel
theorem dX11_isWord_75 : decode cX11_isWord 75 = .ok (.iload_n 2, 1) := by decide +kernel
theorem dX11_isWord_76 : decode cX11_isWord 76 = .ok (.ireturn, 1) := by decide +kernel
theorem dX11_isSign_0 : decode cX11_isSign 0 = .ok (.aload_n 0, 1) := by decide +kernel
theorem dX11_isSign_1 : decode cX11_isSign 1 = .ok (.getfield 215, 3) := by decide +kernel
theorem dX11_isSign_4 : decode cX11_isSign 4 = .ok (.iconst 3, 1) := by decide +kernel
theorem dX11_isSign_5 : decode cX11_isSign 5 = .ok (.if_icmp .ne 15, 3) := by decide +kernel
theorem dX11_isSign_8 : decode cX11_isSign 8 = .ok (.aload_n 0, 1) := by decide +kernel
theorem dX11_isSign_9 : decode cX11_isSign 9 = .ok (.getfield 212, 3) := by decide +kernel
theorem dX11_isSign_12 : decode cX11_isSign 12 = .ok (.iload_n 1, 1) := by decide +kernel
theorem dX11_isSign_13 : decode cX11_isSign 13 = .ok (.if_icmp .ne 7, 3) := by decide +kernel
theorem dX11_isSign_16 : decode cX11_isSign 16 = .ok (.iconst 1, 1) := by decide +kernel
theorem dX11_isSign_17 : decode cX11_isSign 17 = .ok (.goto 4, 3) := by decide +kernel
theorem dX11_isSign_20 : decode cX11_isSign 20 = .ok (.iconst 0, 1) := by decide +kernel
theorem dX11_isSign_21 : decode cX11_isSign 21 = .ok (.ireturn, 1) := by decide +kernel
theorem dX11_wrong_0 : decode cX11_wrong 0 = .ok (.aload_n 0, 1) := by decide +kernel
theorem dX11_wrong_1 : decode cX11_wrong 1 = .ok (.getfield 234, 3) := by decide +kernel
theorem dX11_wrong_4 : decode cX11_wrong 4 = .ok (.ifCond .eq 4, 3) := by decide +kernel
theorem dX11_wrong_7 : decode cX11_wrong 7 = .ok (.return_, 1) := by decide +kernel
theorem dX11_wrong_8 : decode cX11_wrong 8 = .ok (.aload_n 0, 1) := by decide +kernel
theorem dX11_wrong_9 : decode cX11_wrong 9 = .ok (.iload_n 1, 1) := by decide +kernel
theorem dX11_wrong_10 : decode cX11_wrong 10 = .ok (.putfield 234, 3) := by decide +kernel
theorem dX11_wrong_13 : decode cX11_wrong 13 = .ok (.aload_n 0, 1) := by decide +kernel
theorem dX11_wrong_14 : decode cX11_wrong 14 = .ok (.aload_n 0, 1) := by decide +kernel
theorem dX11_wrong_15 : decode cX11_wrong 15 = .ok (.getfield 209, 3) := by decide +kernel
theorem dX11_wrong_18 : decode cX11_wrong 18 = .ok (.putfield 237, 3) := by decide +kernel
theorem dX11_wrong_21 : decode cX11_wrong 21 = .ok (.return_, 1) := by decide +kernel
theorem dX11_emit_0 : decode cX11_emit 0 = .ok (.aload_n 0, 1) := by decide +kernel
theorem dX11_emit_1 : decode cX11_emit 1 = .ok (.getfield 234, 3) := by decide +kernel
theorem dX11_emit_4 : decode cX11_emit 4 = .ok (.ifCond .eq 4, 3) := by decide +kernel
theorem dX11_emit_7 : decode cX11_emit 7 = .ok (.return_, 1) := by decide +kernel
theorem dX11_emit_8 : decode cX11_emit 8 = .ok (.aload_n 0, 1) := by decide +kernel
theorem dX11_emit_9 : decode cX11_emit 9 = .ok (.getfield 84, 3) := by decide +kernel
theorem dX11_emit_12 : decode cX11_emit 12 = .ok (.sipush 700, 3) := by decide +kernel
theorem dX11_emit_15 : decode cX11_emit 15 = .ok (.aload_n 0, 1) := by decide +kernel
theorem dX11_emit_16 : decode cX11_emit 16 = .ok (.getfield 240, 3) := by decide +kernel
theorem dX11_emit_19 : decode cX11_emit 19 = .ok (.imul, 1) := by decide +kernel
theorem dX11_emit_20 : decode cX11_emit 20 = .ok (.aload_n 0, 1) := by decide +kernel
