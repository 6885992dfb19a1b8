theorem dX10_judge_17 : decode cX10_judge 17 = .ok (.aload_n 0, 1) := by decide +kernel
theorem dX10_judge_18 : decode cX10_judge 18 = .ok (.getfield 54, 3) := by decide +kernel
theorem dX10_judge_21 : decode cX10_judge 21 = .ok (.bipush 100, 2) := by decide +kernel
theorem dX10_judge_23 : decode cX10_judge 23 = .ok (.aload_n 0, 1) := by decide +kernel
theorem dX10_judge_24 : decode cX10_judge 24 = .ok (.getfield 26, 3) := by decide +kernel
theorem dX10_judge_27 : decode cX10_judge 27 = .ok (.getfield 181, 3) := by decide +kernel
theorem dX10_judge_30 : decode cX10_judge 30 = .ok (.invokevirtual 282, 3) := by decide +kernel
theorem dX10_judge_33 : decode cX10_judge 33 = .ok (.aload_n 0, 1) := by decide +kernel
theorem dX10_judge_34 : decode cX10_judge 34 = .ok (.getfield 54, 3) := by decide +kernel
theorem dX10_judge_37 : decode cX10_judge 37 = .ok (.bipush 101, 2) := by decide +kernel
theorem dX10_judge_39 : decode cX10_judge 39 = .ok (.aload_n 0, 1) := by decide +kernel
theorem dX10_judge_40 : decode cX10_judge 40 = .ok (.getfield 26, 3) := by decide +kernel
theorem dX10_judge_43 : decode cX10_judge 43 = .ok (.getfield 178, 3) := by decide +kernel
theorem dX10_judge_46 : decode cX10_judge 46 = .ok (.invokevirtual 282, 3) := by decide +kernel
theorem dX10_judge_49 : decode cX10_judge 49 = .ok (.aload_n 0, 1) := by decide +kernel
theorem dX10_judge_50 : decode cX10_judge 50 = .ok (.getfield 54, 3) := by decide +kernel
theorem dX10_judge_53 : decode cX10_judge 53 = .ok (.bipush 102, 2) := by decide +kernel
theorem dX10_judge_55 : decode cX10_judge 55 = .ok (.iload_n 2, 1) := by decide +kernel
theorem dX10_judge_56 : decode cX10_judge 56 = .ok (.invokevirtual 282, 3) := by decide +kernel
theorem dX10_judge_59 : decode cX10_judge 59 = .ok (.aload_n 0, 1) := by decide +kernel
theorem dX10_judge_60 : decode cX10_judge 60 = .ok (.getfield 54, 3) := by decide +kernel
theorem dX10_judge_63 : decode cX10_judge 63 = .ok (.bipush 103, 2) := by decide +kernel
theorem dX10_judge_65 : decode cX10_judge 65 = .ok (.aload_n 0, 1) := by decide +kernel
theorem dX10_judge_66 : decode cX10_judge 66 = .ok (.getfield 10, 3) := by decide +kernel
theorem dX10_judge_69 : decode cX10_judge 69 = .ok (.iload_n 1, 1) := by decide +kernel
theorem dX10_judge_70 : decode cX10_judge 70 = .ok (.invokevirtual 137, 3) := by decide +kernel
theorem dX10_judge_73 : decode cX10_judge 73 = .ok (.invokevirtual 282, 3) := by decide +kernel
theorem dX10_judge_76 : decode cX10_judge 76 = .ok (.aload_n 0, 1) := by decide +kernel
theorem dX10_judge_77 : decode cX10_judge 77 = .ok (.getfield 54, 3) := by decide +kernel
theorem dX10_judge_80 : decode cX10_judge 80 = .ok (.bipush 104, 2) := by decide +kernel
theorem dX10_judge_82 : decode cX10_judge 82 = .ok (.aload_n 0, 1) := by decide +kernel
theorem dX10_judge_83 : decode cX10_judge 83 = .ok (.getfield 10, 3) := by decide +kernel
theorem dX10_judge_86 : decode cX10_judge 86 = .ok (.iload_n 1, 1) := by decide +kernel
theorem dX10_judge_87 : decode cX10_judge 87 = .ok (.invokevirtual 156, 3) := by decide +kernel
theorem dX10_judge_90 : decode cX10_judge 90 = .ok (.invokestatic 159, 3) := by decide +kernel
theorem dX10_judge_93 : decode cX10_judge 93 = .ok (.invokevirtual 282, 3) := by decide +kernel
theorem dX10_judge_96 : decode cX10_judge 96 = .ok (.aload_n 0, 1) := by decide +kernel
theorem dX10_judge_97 : decode cX10_judge 97 = .ok (.getfield 54, 3) := by decide +kernel
theorem dX10_judge_100 : decode cX10_judge 100 = .ok (.bipush 105, 2) := by decide +kernel
theorem dX10_judge_102 : decode cX10_judge 102 = .ok (.aload_n 0, 1) := by decide +kernel
theorem dX10_judge_103 : decode cX10_judge 103 = .ok (.getfield 26, 3) := by decide +kernel
theorem dX10_judge_106 : decode cX10_judge 106 = .ok (.getfield 285, 3) := by decide +kernel
theorem dX10_judge_109 : decode cX10_judge 109 = .ok (.invokevirtual 282, 3) := by decide +kernel
theorem dX10_judge_112 : decode cX10_judge 112 = .ok (.aload_n 0, 1) := by decide +kernel
theorem dX10_judge_113 : decode cX10_judge 113 = .ok (.getfield 54, 3) := by decide +kernel
theorem dX10_judge_116 : decode cX10_judge 116 = .ok (.bipush 106, 2) := by decide +kernel
theorem dX10_judge_118 : decode cX10_judge 118 = .ok (.aload_n 0, 1) := by decide +kernel
theorem dX10_judge_119 : decode cX10_judge 119 = .ok (.iload_n 2, 1) := by decide +kernel
theorem dX10_judge_120 : decode cX10_judge 120 = .ok (.invokevirtual 239, 3) := by decide +kernel
theorem dX10_judge_123 : decode cX10_judge 123 = .ok (.invokevirtual 282, 3) := by decide +kernel
theorem dX10_judge_126 : decode cX10_judge 126 = .ok (.aload_n 0, 1) := by decide +kernel
theorem dX10_judge_127 : decode cX10_judge 127 = .ok (.getfield 54, 3) := by decide +kernel
theorem dX10_judge_130 : decode cX10_judge 130 = .ok (.bipush 107, 2) := by decide +kernel
theorem dX10_judge_132 : decode cX10_judge 132 = .ok (.aload_n 0, 1) := by decide +kernel
theorem dX10_judge_133 : decode cX10_judge 133 = .ok (.getfield 33, 3) := by decide +kernel
theorem dX10_judge_136 : decode cX10_judge 136 = .ok (.iload_n 1, 1) := by decide +kernel
theorem dX10_judge_137 : decode cX10_judge 137 = .ok (.invokevirtual 217, 3) := by decide +kernel
theorem dX10_judge_140 : decode cX10_judge 140 = .ok (.invokevirtual 282, 3) := by decide +kernel
theorem dX10_judge_143 : decode cX10_judge 143 = .ok (.aload_n 0, 1) := by decide +kernel
theorem dX10_judge_144 : decode cX10_judge 144 = .ok (.getfield 54, 3) := by decide +kernel
theorem dX10_judge_147 : decode cX10_judge 147 = .ok (.iload_n 2, 1) := by decide +kernel
theorem dX10_judge_148 : decode cX10_judge 148 = .ok (.invokevirtual 288, 3) := by decide +kernel
theorem dX10_judge_151 : decode cX10_judge 151 = .ok (.return_, 1) := by decide +kernel
theorem dX10_countRivals_0 : decode cX10_countRivals 0 = .ok (.aload_n 0, 1) := by decide +kernel
theorem dX10_countRivals_1 : decode cX10_countRivals 1 = .ok (.getfield 26, 3) := by decide +kernel
theorem dX10_countRivals_4 : decode cX10_countRivals 4 = .ok (.getfield 172, 3) := by decide +kernel
theorem dX10_countRivals_7 : decode cX10_countRivals 7 = .ok (.iconst (-1), 1) := by decide +kernel
theorem dX10_countRivals_8 : decode cX10_countRivals 8 = .ok (.if_icmp .ne 5, 3) := by decide +kernel
theorem dX10_countRivals_11 : decode cX10_countRivals 11 = .ok (.iconst 0, 1) := by decide +kernel
theorem dX10_countRivals_12 : decode cX10_countRivals 12 = .ok (.ireturn, 1) := by decide +kernel
theorem dX10_countRivals_13 : decode cX10_countRivals 13 = .ok (.iconst 0, 1) := by decide +kernel
theorem dX10_countRivals_14 : decode cX10_countRivals 14 = .ok (.istore_n 2, 1) := by decide +kernel
theorem dX10_countRivals_15 : decode cX10_countRivals 15 = .ok (.iconst 0, 1) := by decide +kernel
theorem dX10_countRivals_16 : decode cX10_countRivals 16 = .ok (.istore_n 3, 1) := by decide +kernel
theorem dX10_countRivals_17 : decode cX10_countRivals 17 = .ok (.iload_n 3, 1) := by decide +kernel
theorem dX10_countRivals_18 : decode cX10_countRivals 18 = .ok (.aload_n 0, 1) := by decide +kernel
theorem dX10_countRivals_19 : decode cX10_countRivals 19 = .ok (.getfield 10, 3) := by decide +kernel
theorem dX10_countRivals_22 : decode cX10_countRivals 22 = .ok (.getfield 245, 3) := by decide +kernel
theorem dX10_countRivals_25 : decode cX10_countRivals 25 = .ok (.if_icmp .ge 42, 3) := by decide +kernel
theorem dX10_countRivals_28 : decode cX10_countRivals 28 = .ok (.iload_n 3, 1) := by decide +kernel
theorem dX10_countRivals_29 : decode cX10_countRivals 29 = .ok (.aload_n 0, 1) := by decide +kernel
theorem dX10_countRivals_30 : decode cX10_countRivals 30 = .ok (.getfield 26, 3) := by decide +kernel
theorem dX10_countRivals_33 : decode cX10_countRivals 33 = .ok (.getfield 175, 3) := by decide +kernel
theorem dX10_countRivals_36 : decode cX10_countRivals 36 = .ok (.if_icmp .eq 25, 3) := by decide +kernel
theorem dX10_countRivals_39 : decode cX10_countRivals 39 = .ok (.aload_n 0, 1) := by decide +kernel
theorem dX10_countRivals_40 : decode cX10_countRivals 40 = .ok (.getfield 19, 3) := by decide +kernel
theorem dX10_countRivals_43 : decode cX10_countRivals 43 = .ok (.iload_n 3, 1) := by decide +kernel
theorem dX10_countRivals_44 : decode cX10_countRivals 44 = .ok (.iload_n 1, 1) := by decide +kernel
theorem dX10_countRivals_45 : decode cX10_countRivals 45 = .ok (.invokevirtual 290, 3) := by decide +kernel
theorem dX10_countRivals_48 : decode cX10_countRivals 48 = .ok (.aload_n 0, 1) := by decide +kernel
theorem dX10_countRivals_49 : decode cX10_countRivals 49 = .ok (.getfield 26, 3) := by decide +kernel
theorem dX10_countRivals_52 : decode cX10_countRivals 52 = .ok (.getfield 172, 3) := by decide +kernel
theorem dX10_countRivals_55 : decode cX10_countRivals 55 = .ok (.if_icmp .ne 6, 3) := by decide +kernel
theorem dX10_countRivals_58 : decode cX10_countRivals 58 = .ok (.iinc 2 1, 3) := by decide +kernel
theorem dX10_countRivals_61 : decode cX10_countRivals 61 = .ok (.iinc 3 1, 3) := by decide +kernel
theorem dX10_countRivals_64 : decode cX10_countRivals 64 = .ok (.goto (-47), 3) := by decide +kernel
theorem dX10_countRivals_67 : decode cX10_countRivals 67 = .ok (.iload_n 2, 1) := by decide +kernel
theorem dX10_countRivals_68 : decode cX10_countRivals 68 = .ok (.ireturn, 1) := by decide +kernel
theorem dX10_isYear_0 : decode cX10_isYear 0 = .ok (.iload_n 0, 1) := by decide +kernel
theorem dX10_isYear_1 : decode cX10_isYear 1 = .ok (.sipush 1000, 3) := by decide +kernel
theorem dX10_isYear_4 : decode cX10_isYear 4 = .ok (.if_icmp .lt 14, 3) := by decide +kernel
theorem dX10_isYear_7 : decode cX10_isYear 7 = .ok (.iload_n 0, 1) := by decide +kernel
theorem dX10_isYear_8 : decode cX10_isYear 8 = .ok (.sipush 2000, 3) := by decide +kernel
theorem dX10_isYear_11 : decode cX10_isYear 11 = .ok (.if_icmp .gt 7, 3) := by decide +kernel
theorem dX10_isYear_14 : decode cX10_isYear 14 = .ok (.iconst 1, 1) := by decide +kernel
theorem dX10_isYear_15 : decode cX10_isYear 15 = .ok (.goto 4, 3) := by decide +kernel
theorem dX10_isYear_18 : decode cX10_isYear 18 = .ok (.iconst 0, 1) := by decide +kernel
theorem dX10_isYear_19 : decode cX10_isYear 19 = .ok (.ireturn, 1) := by decide +kernel
theorem dX10_asInt_0 : decode cX10_asInt 0 = .ok (.iload_n 0, 1) := by decide +kernel
theorem dX10_asInt_1 : decode cX10_asInt 1 = .ok (.ifCond .eq 7, 3) := by decide +kernel
theorem dX10_asInt_4 : decode cX10_asInt 4 = .ok (.iconst 1, 1) := by decide +kernel
theorem dX10_asInt_5 : decode cX10_asInt 5 = .ok (.goto 4, 3) := by decide +kernel
theorem dX10_asInt_8 : decode cX10_asInt 8 = .ok (.iconst 0, 1) := by decide +kernel
theorem dX10_asInt_9 : decode cX10_asInt 9 = .ok (.ireturn, 1) := by decide +kernel
