theorem dX11_rootOf_0 : decode cX11_rootOf 0 = .ok (.iload_n 1, 1) := by decide +kernel
theorem dX11_rootOf_1 : decode cX11_rootOf 1 = .ok (.istore_n 3, 1) := by decide +kernel
theorem dX11_rootOf_2 : decode cX11_rootOf 2 = .ok (.iload_n 3, 1) := by decide +kernel
theorem dX11_rootOf_3 : decode cX11_rootOf 3 = .ok (.iconst (-1), 1) := by decide +kernel
theorem dX11_rootOf_4 : decode cX11_rootOf 4 = .ok (.if_icmp .eq 23, 3) := by decide +kernel
theorem dX11_rootOf_7 : decode cX11_rootOf 7 = .ok (.aload_n 0, 1) := by decide +kernel
theorem dX11_rootOf_8 : decode cX11_rootOf 8 = .ok (.iload_n 3, 1) := by decide +kernel
theorem dX11_rootOf_9 : decode cX11_rootOf 9 = .ok (.iload_n 2, 1) := by decide +kernel
theorem dX11_rootOf_10 : decode cX11_rootOf 10 = .ok (.invokevirtual 141, 3) := by decide +kernel
theorem dX11_rootOf_13 : decode cX11_rootOf 13 = .ok (.iconst (-1), 1) := by decide +kernel
theorem dX11_rootOf_14 : decode cX11_rootOf 14 = .ok (.if_icmp .ne 13, 3) := by decide +kernel
theorem dX11_rootOf_17 : decode cX11_rootOf 17 = .ok (.aload_n 0, 1) := by decide +kernel
theorem dX11_rootOf_18 : decode cX11_rootOf 18 = .ok (.getfield 45, 3) := by decide +kernel
theorem dX11_rootOf_21 : decode cX11_rootOf 21 = .ok (.iload_n 3, 1) := by decide +kernel
theorem dX11_rootOf_22 : decode cX11_rootOf 22 = .ok (.iaload, 1) := by decide +kernel
theorem dX11_rootOf_23 : decode cX11_rootOf 23 = .ok (.istore_n 3, 1) := by decide +kernel
theorem dX11_rootOf_24 : decode cX11_rootOf 24 = .ok (.goto (-22), 3) := by decide +kernel
theorem dX11_rootOf_27 : decode cX11_rootOf 27 = .ok (.iload_n 3, 1) := by decide +kernel
theorem dX11_rootOf_28 : decode cX11_rootOf 28 = .ok (.ireturn, 1) := by decide +kernel
theorem dX11_armsOf_0 : decode cX11_armsOf 0 = .ok (.aload_n 0, 1) := by decide +kernel
theorem dX11_armsOf_1 : decode cX11_armsOf 1 = .ok (.iload_n 1, 1) := by decide +kernel
theorem dX11_armsOf_2 : decode cX11_armsOf 2 = .ok (.iload_n 2, 1) := by decide +kernel
theorem dX11_armsOf_3 : decode cX11_armsOf 3 = .ok (.invokevirtual 145, 3) := by decide +kernel
theorem dX11_armsOf_6 : decode cX11_armsOf 6 = .ok (.istore_n 3, 1) := by decide +kernel
theorem dX11_armsOf_7 : decode cX11_armsOf 7 = .ok (.iload_n 3, 1) := by decide +kernel
theorem dX11_armsOf_8 : decode cX11_armsOf 8 = .ok (.iconst (-1), 1) := by decide +kernel
theorem dX11_armsOf_9 : decode cX11_armsOf 9 = .ok (.if_icmp .ne 7, 3) := by decide +kernel
theorem dX11_armsOf_12 : decode cX11_armsOf 12 = .ok (.iconst (-1), 1) := by decide +kernel
theorem dX11_armsOf_13 : decode cX11_armsOf 13 = .ok (.goto 9, 3) := by decide +kernel
theorem dX11_armsOf_16 : decode cX11_armsOf 16 = .ok (.aload_n 0, 1) := by decide +kernel
theorem dX11_armsOf_17 : decode cX11_armsOf 17 = .ok (.iload_n 3, 1) := by decide +kernel
theorem dX11_armsOf_18 : decode cX11_armsOf 18 = .ok (.iload_n 2, 1) := by decide +kernel
theorem dX11_armsOf_19 : decode cX11_armsOf 19 = .ok (.invokevirtual 141, 3) := by decide +kernel
theorem dX11_armsOf_22 : decode cX11_armsOf 22 = .ok (.ireturn, 1) := by decide +kernel
theorem dX11_stepsOf_0 : decode cX11_stepsOf 0 = .ok (.aload_n 0, 1) := by decide +kernel
theorem dX11_stepsOf_1 : decode cX11_stepsOf 1 = .ok (.iload_n 1, 1) := by decide +kernel
theorem dX11_stepsOf_2 : decode cX11_stepsOf 2 = .ok (.iload_n 2, 1) := by decide +kernel
theorem dX11_stepsOf_3 : decode cX11_stepsOf 3 = .ok (.invokevirtual 145, 3) := by decide +kernel
theorem dX11_stepsOf_6 : decode cX11_stepsOf 6 = .ok (.istore_n 3, 1) := by decide +kernel
theorem dX11_stepsOf_7 : decode cX11_stepsOf 7 = .ok (.iconst 0, 1) := by decide +kernel
theorem dX11_stepsOf_8 : decode cX11_stepsOf 8 = .ok (.istore 4, 2) := by decide +kernel
theorem dX11_stepsOf_10 : decode cX11_stepsOf 10 = .ok (.iload_n 1, 1) := by decide +kernel
theorem dX11_stepsOf_11 : decode cX11_stepsOf 11 = .ok (.istore 5, 2) := by decide +kernel
theorem dX11_stepsOf_13 : decode cX11_stepsOf 13 = .ok (.iload_n 3, 1) := by decide +kernel
theorem dX11_stepsOf_14 : decode cX11_stepsOf 14 = .ok (.iconst (-1), 1) := by decide +kernel
theorem dX11_stepsOf_15 : decode cX11_stepsOf 15 = .ok (.if_icmp .eq 24, 3) := by decide +kernel
theorem dX11_stepsOf_18 : decode cX11_stepsOf 18 = .ok (.iload 5, 2) := by decide +kernel
theorem dX11_stepsOf_20 : decode cX11_stepsOf 20 = .ok (.iload_n 3, 1) := by decide +kernel
theorem dX11_stepsOf_21 : decode cX11_stepsOf 21 = .ok (.if_icmp .eq 18, 3) := by decide +kernel
theorem dX11_stepsOf_24 : decode cX11_stepsOf 24 = .ok (.iinc 4 1, 3) := by decide +kernel
theorem dX11_stepsOf_27 : decode cX11_stepsOf 27 = .ok (.aload_n 0, 1) := by decide +kernel
theorem dX11_stepsOf_28 : decode cX11_stepsOf 28 = .ok (.getfield 45, 3) := by decide +kernel
theorem dX11_stepsOf_31 : decode cX11_stepsOf 31 = .ok (.iload 5, 2) := by decide +kernel
theorem dX11_stepsOf_33 : decode cX11_stepsOf 33 = .ok (.iaload, 1) := by decide +kernel
theorem dX11_stepsOf_34 : decode cX11_stepsOf 34 = .ok (.istore 5, 2) := by decide +kernel
theorem dX11_stepsOf_36 : decode cX11_stepsOf 36 = .ok (.goto (-23), 3) := by decide +kernel
theorem dX11_stepsOf_39 : decode cX11_stepsOf 39 = .ok (.iload 4, 2) := by decide +kernel
theorem dX11_stepsOf_41 : decode cX11_stepsOf 41 = .ok (.ireturn, 1) := by decide +kernel
theorem dX11_gradeOf_0 : decode cX11_gradeOf 0 = .ok (.aload_n 0, 1) := by decide +kernel
theorem dX11_gradeOf_1 : decode cX11_gradeOf 1 = .ok (.iload_n 1, 1) := by decide +kernel
theorem dX11_gradeOf_2 : decode cX11_gradeOf 2 = .ok (.iload_n 2, 1) := by decide +kernel
theorem dX11_gradeOf_3 : decode cX11_gradeOf 3 = .ok (.invokevirtual 145, 3) := by decide +kernel
theorem dX11_gradeOf_6 : decode cX11_gradeOf 6 = .ok (.istore_n 3, 1) := by decide +kernel
theorem dX11_gradeOf_7 : decode cX11_gradeOf 7 = .ok (.bipush 9, 2) := by decide +kernel
theorem dX11_gradeOf_9 : decode cX11_gradeOf 9 = .ok (.istore 4, 2) := by decide +kernel
theorem dX11_gradeOf_11 : decode cX11_gradeOf 11 = .ok (.iload_n 1, 1) := by decide +kernel
theorem dX11_gradeOf_12 : decode cX11_gradeOf 12 = .ok (.istore 5, 2) := by decide +kernel
theorem dX11_gradeOf_14 : decode cX11_gradeOf 14 = .ok (.iload_n 3, 1) := by decide +kernel
theorem dX11_gradeOf_15 : decode cX11_gradeOf 15 = .ok (.iconst (-1), 1) := by decide +kernel
theorem dX11_gradeOf_16 : decode cX11_gradeOf 16 = .ok (.if_icmp .eq 35, 3) := by decide +kernel
theorem dX11_gradeOf_19 : decode cX11_gradeOf 19 = .ok (.iload 5, 2) := by decide +kernel
theorem dX11_gradeOf_21 : decode cX11_gradeOf 21 = .ok (.iload_n 3, 1) := by decide +kernel
theorem dX11_gradeOf_22 : decode cX11_gradeOf 22 = .ok (.if_icmp .eq 29, 3) := by decide +kernel
theorem dX11_gradeOf_25 : decode cX11_gradeOf 25 = .ok (.iload 4, 2) := by decide +kernel
theorem dX11_gradeOf_27 : decode cX11_gradeOf 27 = .ok (.aload_n 0, 1) := by decide +kernel
theorem dX11_gradeOf_28 : decode cX11_gradeOf 28 = .ok (.getfield 51, 3) := by decide +kernel
theorem dX11_gradeOf_31 : decode cX11_gradeOf 31 = .ok (.iload 5, 2) := by decide +kernel
theorem dX11_gradeOf_33 : decode cX11_gradeOf 33 = .ok (.iaload, 1) := by decide +kernel
theorem dX11_gradeOf_34 : decode cX11_gradeOf 34 = .ok (.invokestatic 148, 3) := by decide +kernel
theorem dX11_gradeOf_37 : decode cX11_gradeOf 37 = .ok (.istore 4, 2) := by decide +kernel
theorem dX11_gradeOf_39 : decode cX11_gradeOf 39 = .ok (.aload_n 0, 1) := by decide +kernel
theorem dX11_gradeOf_40 : decode cX11_gradeOf 40 = .ok (.getfield 45, 3) := by decide +kernel
theorem dX11_gradeOf_43 : decode cX11_gradeOf 43 = .ok (.iload 5, 2) := by decide +kernel
theorem dX11_gradeOf_45 : decode cX11_gradeOf 45 = .ok (.iaload, 1) := by decide +kernel
theorem dX11_gradeOf_46 : decode cX11_gradeOf 46 = .ok (.istore 5, 2) := by decide +kernel
theorem dX11_gradeOf_48 : decode cX11_gradeOf 48 = .ok (.goto (-34), 3) := by decide +kernel
theorem dX11_gradeOf_51 : decode cX11_gradeOf 51 = .ok (.iload 4, 2) := by decide +kernel
theorem dX11_gradeOf_53 : decode cX11_gradeOf 53 = .ok (.ireturn, 1) := by decide +kernel
theorem dX11_lines_0 : decode cX11_lines 0 = .ok (.aload_n 0, 1) := by decide +kernel
theorem dX11_lines_1 : decode cX11_lines 1 = .ok (.getfield 113, 3) := by decide +kernel
theorem dX11_lines_4 : decode cX11_lines 4 = .ok (.iconst 1, 1) := by decide +kernel
theorem dX11_lines_5 : decode cX11_lines 5 = .ok (.isub, 1) := by decide +kernel
theorem dX11_lines_6 : decode cX11_lines 6 = .ok (.istore_n 2, 1) := by decide +kernel
theorem dX11_lines_7 : decode cX11_lines 7 = .ok (.iload_n 2, 1) := by decide +kernel
theorem dX11_lines_8 : decode cX11_lines 8 = .ok (.ifCond .lt 104, 3) := by decide +kernel
theorem dX11_lines_11 : decode cX11_lines 11 = .ok (.aload_n 0, 1) := by decide +kernel
theorem dX11_lines_12 : decode cX11_lines 12 = .ok (.iload_n 2, 1) := by decide +kernel
theorem dX11_lines_13 : decode cX11_lines 13 = .ok (.iload_n 1, 1) := by decide +kernel
theorem dX11_lines_14 : decode cX11_lines 14 = .ok (.invokevirtual 131, 3) := by decide +kernel
theorem dX11_lines_17 : decode cX11_lines 17 = .ok (.istore_n 3, 1) := by decide +kernel
theorem dX11_lines_18 : decode cX11_lines 18 = .ok (.iload_n 2, 1) := by decide +kernel
theorem dX11_lines_19 : decode cX11_lines 19 = .ok (.iconst 1, 1) := by decide +kernel
theorem dX11_lines_20 : decode cX11_lines 20 = .ok (.iadd, 1) := by decide +kernel
theorem dX11_lines_21 : decode cX11_lines 21 = .ok (.istore 4, 2) := by decide +kernel
theorem dX11_lines_23 : decode cX11_lines 23 = .ok (.iload 4, 2) := by decide +kernel
theorem dX11_lines_25 : decode cX11_lines 25 = .ok (.aload_n 0, 1) := by decide +kernel
theorem dX11_lines_26 : decode cX11_lines 26 = .ok (.getfield 113, 3) := by decide +kernel
theorem dX11_lines_29 : decode cX11_lines 29 = .ok (.if_icmp .ge 53, 3) := by decide +kernel
theorem dX11_lines_32 : decode cX11_lines 32 = .ok (.aload_n 0, 1) := by decide +kernel
theorem dX11_lines_33 : decode cX11_lines 33 = .ok (.getfield 45, 3) := by decide +kernel
theorem dX11_lines_36 : decode cX11_lines 36 = .ok (.iload 4, 2) := by decide +kernel
theorem dX11_lines_38 : decode cX11_lines 38 = .ok (.iaload, 1) := by decide +kernel
theorem dX11_lines_39 : decode cX11_lines 39 = .ok (.iload_n 2, 1) := by decide +kernel
theorem dX11_lines_40 : decode cX11_lines 40 = .ok (.if_icmp .ne 36, 3) := by decide +kernel
theorem dX11_lines_43 : decode cX11_lines 43 = .ok (.aload_n 0, 1) := by decide +kernel
theorem dX11_lines_44 : decode cX11_lines 44 = .ok (.getfield 35, 3) := by decide +kernel
theorem dX11_lines_47 : decode cX11_lines 47 = .ok (.iload 4, 2) := by decide +kernel
theorem dX11_lines_49 : decode cX11_lines 49 = .ok (.baload, 1) := by decide +kernel
theorem dX11_lines_50 : decode cX11_lines 50 = .ok (.ifCond .ne 26, 3) := by decide +kernel
theorem dX11_lines_53 : decode cX11_lines 53 = .ok (.aload_n 0, 1) := by decide +kernel
theorem dX11_lines_54 : decode cX11_lines 54 = .ok (.getfield 39, 3) := by decide +kernel
theorem dX11_lines_57 : decode cX11_lines 57 = .ok (.iload 4, 2) := by decide +kernel
theorem dX11_lines_59 : decode cX11_lines 59 = .ok (.iaload, 1) := by decide +kernel
theorem dX11_lines_60 : decode cX11_lines 60 = .ok (.iload_n 1, 1) := by decide +kernel
theorem dX11_lines_61 : decode cX11_lines 61 = .ok (.if_icmp .gt 15, 3) := by decide +kernel
theorem dX11_lines_64 : decode cX11_lines 64 = .ok (.aload_n 0, 1) := by decide +kernel
theorem dX11_lines_65 : decode cX11_lines 65 = .ok (.getfield 93, 3) := by decide +kernel
theorem dX11_lines_68 : decode cX11_lines 68 = .ok (.iload 4, 2) := by decide +kernel
theorem dX11_lines_70 : decode cX11_lines 70 = .ok (.baload, 1) := by decide +kernel
theorem dX11_lines_71 : decode cX11_lines 71 = .ok (.ifCond .eq 5, 3) := by decide +kernel
theorem dX11_lines_74 : decode cX11_lines 74 = .ok (.iconst 1, 1) := by decide +kernel
theorem dX11_lines_75 : decode cX11_lines 75 = .ok (.istore_n 3, 1) := by decide +kernel
theorem dX11_lines_76 : decode cX11_lines 76 = .ok (.iinc 4 1, 3) := by decide +kernel
theorem dX11_lines_79 : decode cX11_lines 79 = .ok (.goto (-56), 3) := by decide +kernel
theorem dX11_lines_82 : decode cX11_lines 82 = .ok (.aload_n 0, 1) := by decide +kernel
theorem dX11_lines_83 : decode cX11_lines 83 = .ok (.getfield 93, 3) := by decide +kernel
theorem dX11_lines_86 : decode cX11_lines 86 = .ok (.iload_n 2, 1) := by decide +kernel
theorem dX11_lines_87 : decode cX11_lines 87 = .ok (.iload_n 3, 1) := by decide +kernel
theorem dX11_lines_88 : decode cX11_lines 88 = .ok (.ifCond .eq 16, 3) := by decide +kernel
theorem dX11_lines_91 : decode cX11_lines 91 = .ok (.aload_n 0, 1) := by decide +kernel
theorem dX11_lines_92 : decode cX11_lines 92 = .ok (.getfield 35, 3) := by decide +kernel
theorem dX11_lines_95 : decode cX11_lines 95 = .ok (.iload_n 2, 1) := by decide +kernel
theorem dX11_lines_96 : decode cX11_lines 96 = .ok (.baload, 1) := by decide +kernel
theorem dX11_lines_97 : decode cX11_lines 97 = .ok (.ifCond .ne 7, 3) := by decide +kernel
theorem dX11_lines_100 : decode cX11_lines 100 = .ok (.iconst 1, 1) := by decide +kernel
theorem dX11_lines_101 : decode cX11_lines 101 = .ok (.goto 4, 3) := by decide +kernel
theorem dX11_lines_104 : decode cX11_lines 104 = .ok (.iconst 0, 1) := by decide +kernel
theorem dX11_lines_105 : decode cX11_lines 105 = .ok (.bastore, 1) := by decide +kernel
theorem dX11_lines_106 : decode cX11_lines 106 = .ok (.iinc 2 (-1), 3) := by decide +kernel
theorem dX11_lines_109 : decode cX11_lines 109 = .ok (.goto (-102), 3) := by decide +kernel
theorem dX11_lines_112 : decode cX11_lines 112 = .ok (.return_, 1) := by decide +kernel
theorem dX11_isAhead_0 : decode cX11_isAhead 0 = .ok (.aload_n 0, 1) := by decide +kernel
theorem dX11_isAhead_1 : decode cX11_isAhead 1 = .ok (.getfield 39, 3) := by decide +kernel
theorem dX11_isAhead_4 : decode cX11_isAhead 4 = .ok (.iload_n 1, 1) := by decide +kernel
theorem dX11_isAhead_5 : decode cX11_isAhead 5 = .ok (.iaload, 1) := by decide +kernel
theorem dX11_isAhead_6 : decode cX11_isAhead 6 = .ok (.aload_n 0, 1) := by decide +kernel
theorem dX11_isAhead_7 : decode cX11_isAhead 7 = .ok (.getfield 39, 3) := by decide +kernel
theorem dX11_isAhead_10 : decode cX11_isAhead 10 = .ok (.iload_n 2, 1) := by decide +kernel
theorem dX11_isAhead_11 : decode cX11_isAhead 11 = .ok (.iaload, 1) := by decide +kernel
theorem dX11_isAhead_12 : decode cX11_isAhead 12 = .ok (.if_icmp .lt 23, 3) := by decide +kernel
theorem dX11_isAhead_15 : decode cX11_isAhead 15 = .ok (.aload_n 0, 1) := by decide +kernel
theorem dX11_isAhead_16 : decode cX11_isAhead 16 = .ok (.getfield 39, 3) := by decide +kernel
theorem dX11_isAhead_19 : decode cX11_isAhead 19 = .ok (.iload_n 1, 1) := by decide +kernel
theorem dX11_isAhead_20 : decode cX11_isAhead 20 = .ok (.iaload, 1) := by decide +kernel
theorem dX11_isAhead_21 : decode cX11_isAhead 21 = .ok (.aload_n 0, 1) := by decide +kernel
theorem dX11_isAhead_22 : decode cX11_isAhead 22 = .ok (.getfield 39, 3) := by decide +kernel
theorem dX11_isAhead_25 : decode cX11_isAhead 25 = .ok (.iload_n 2, 1) := by decide +kernel
theorem dX11_isAhead_26 : decode cX11_isAhead 26 = .ok (.iaload, 1) := by decide +kernel
theorem dX11_isAhead_27 : decode cX11_isAhead 27 = .ok (.if_icmp .ne 12, 3) := by decide +kernel
theorem dX11_isAhead_30 : decode cX11_isAhead 30 = .ok (.iload_n 1, 1) := by decide +kernel
theorem dX11_isAhead_31 : decode cX11_isAhead 31 = .ok (.iload_n 2, 1) := by decide +kernel
theorem dX11_isAhead_32 : decode cX11_isAhead 32 = .ok (.if_icmp .ge 7, 3) := by decide +kernel
theorem dX11_isAhead_35 : decode cX11_isAhead 35 = .ok (.iconst 1, 1) := by decide +kernel
theorem dX11_isAhead_36 : decode cX11_isAhead 36 = .ok (.goto 4, 3) := by decide +kernel
theorem dX11_isAhead_39 : decode cX11_isAhead 39 = .ok (.iconst 0, 1) := by decide +kernel
theorem dX11_isAhead_40 : decode cX11_isAhead 40 = .ok (.ireturn, 1) := by decide +kernel
theorem dX11_placeOf_0 : decode cX11_placeOf 0 = .ok (.iconst 1, 1) := by decide +kernel
theorem dX11_placeOf_1 : decode cX11_placeOf 1 = .ok (.istore_n 3, 1) := by decide +kernel
theorem dX11_placeOf_2 : decode cX11_placeOf 2 = .ok (.iconst 0, 1) := by decide +kernel
theorem dX11_placeOf_3 : decode cX11_placeOf 3 = .ok (.istore 4, 2) := by decide +kernel
theorem dX11_placeOf_5 : decode cX11_placeOf 5 = .ok (.iload 4, 2) := by decide +kernel
theorem dX11_placeOf_7 : decode cX11_placeOf 7 = .ok (.aload_n 0, 1) := by decide +kernel
theorem dX11_placeOf_8 : decode cX11_placeOf 8 = .ok (.getfield 113, 3) := by decide +kernel
theorem dX11_placeOf_11 : decode cX11_placeOf 11 = .ok (.if_icmp .ge 75, 3) := by decide +kernel
theorem dX11_placeOf_14 : decode cX11_placeOf 14 = .ok (.iload 4, 2) := by decide +kernel
theorem dX11_placeOf_16 : decode cX11_placeOf 16 = .ok (.iload_n 1, 1) := by decide +kernel
theorem dX11_placeOf_17 : decode cX11_placeOf 17 = .ok (.if_icmp .eq 63, 3) := by decide +kernel
theorem dX11_placeOf_20 : decode cX11_placeOf 20 = .ok (.aload_n 0, 1) := by decide +kernel
theorem dX11_placeOf_21 : decode cX11_placeOf 21 = .ok (.getfield 45, 3) := by decide +kernel
theorem dX11_placeOf_24 : decode cX11_placeOf 24 = .ok (.iload 4, 2) := by decide +kernel
theorem dX11_placeOf_26 : decode cX11_placeOf 26 = .ok (.iaload, 1) := by decide +kernel
theorem dX11_placeOf_27 : decode cX11_placeOf 27 = .ok (.aload_n 0, 1) := by decide +kernel
theorem dX11_placeOf_28 : decode cX11_placeOf 28 = .ok (.getfield 45, 3) := by decide +kernel
theorem dX11_placeOf_31 : decode cX11_placeOf 31 = .ok (.iload_n 1, 1) := by decide +kernel
theorem dX11_placeOf_32 : decode cX11_placeOf 32 = .ok (.iaload, 1) := by decide +kernel
theorem dX11_placeOf_33 : decode cX11_placeOf 33 = .ok (.if_icmp .ne 47, 3) := by decide +kernel
theorem dX11_placeOf_36 : decode cX11_placeOf 36 = .ok (.aload_n 0, 1) := by decide +kernel
theorem dX11_placeOf_37 : decode cX11_placeOf 37 = .ok (.getfield 35, 3) := by decide +kernel
theorem dX11_placeOf_40 : decode cX11_placeOf 40 = .ok (.iload 4, 2) := by decide +kernel
theorem dX11_placeOf_42 : decode cX11_placeOf 42 = .ok (.baload, 1) := by decide +kernel
theorem dX11_placeOf_43 : decode cX11_placeOf 43 = .ok (.ifCond .ne 37, 3) := by decide +kernel
theorem dX11_placeOf_46 : decode cX11_placeOf 46 = .ok (.aload_n 0, 1) := by decide +kernel
theorem dX11_placeOf_47 : decode cX11_placeOf 47 = .ok (.getfield 39, 3) := by decide +kernel
theorem dX11_placeOf_50 : decode cX11_placeOf 50 = .ok (.iload 4, 2) := by decide +kernel
theorem dX11_placeOf_52 : decode cX11_placeOf 52 = .ok (.iaload, 1) := by decide +kernel
theorem dX11_placeOf_53 : decode cX11_placeOf 53 = .ok (.iload_n 2, 1) := by decide +kernel
theorem dX11_placeOf_54 : decode cX11_placeOf 54 = .ok (.if_icmp .gt 26, 3) := by decide +kernel
theorem dX11_placeOf_57 : decode cX11_placeOf 57 = .ok (.aload_n 0, 1) := by decide +kernel
theorem dX11_placeOf_58 : decode cX11_placeOf 58 = .ok (.getfield 93, 3) := by decide +kernel
theorem dX11_placeOf_61 : decode cX11_placeOf 61 = .ok (.iload 4, 2) := by decide +kernel
theorem dX11_placeOf_63 : decode cX11_placeOf 63 = .ok (.baload, 1) := by decide +kernel
theorem dX11_placeOf_64 : decode cX11_placeOf 64 = .ok (.ifCond .eq 16, 3) := by decide +kernel
theorem dX11_placeOf_67 : decode cX11_placeOf 67 = .ok (.aload_n 0, 1) := by decide +kernel
theorem dX11_placeOf_68 : decode cX11_placeOf 68 = .ok (.iload 4, 2) := by decide +kernel
theorem dX11_placeOf_70 : decode cX11_placeOf 70 = .ok (.iload_n 1, 1) := by decide +kernel
theorem dX11_placeOf_71 : decode cX11_placeOf 71 = .ok (.invokevirtual 153, 3) := by decide +kernel
theorem dX11_placeOf_74 : decode cX11_placeOf 74 = .ok (.ifCond .eq 6, 3) := by decide +kernel
theorem dX11_placeOf_77 : decode cX11_placeOf 77 = .ok (.iinc 3 1, 3) := by decide +kernel
theorem dX11_placeOf_80 : decode cX11_placeOf 80 = .ok (.iinc 4 1, 3) := by decide +kernel
theorem dX11_placeOf_83 : decode cX11_placeOf 83 = .ok (.goto (-78), 3) := by decide +kernel
theorem dX11_placeOf_86 : decode cX11_placeOf 86 = .ok (.iload_n 3, 1) := by decide +kernel
theorem dX11_placeOf_87 : decode cX11_placeOf 87 = .ok (.ireturn, 1) := by decide +kernel
theorem dX11_marksOf_0 : decode cX11_marksOf 0 = .ok (.aload_n 0, 1) := by decide +kernel
theorem dX11_marksOf_1 : decode cX11_marksOf 1 = .ok (.iload_n 2, 1) := by decide +kernel
theorem dX11_marksOf_2 : decode cX11_marksOf 2 = .ok (.invokevirtual 156, 3) := by decide +kernel
theorem dX11_marksOf_5 : decode cX11_marksOf 5 = .ok (.aload_n 0, 1) := by decide +kernel
theorem dX11_marksOf_6 : decode cX11_marksOf 6 = .ok (.iload_n 1, 1) := by decide +kernel
theorem dX11_marksOf_7 : decode cX11_marksOf 7 = .ok (.iload_n 2, 1) := by decide +kernel
theorem dX11_marksOf_8 : decode cX11_marksOf 8 = .ok (.invokevirtual 160, 3) := by decide +kernel
theorem dX11_marksOf_11 : decode cX11_marksOf 11 = .ok (.istore_n 3, 1) := by decide +kernel
theorem dX11_marksOf_12 : decode cX11_marksOf 12 = .ok (.iload_n 1, 1) := by decide +kernel
theorem dX11_marksOf_13 : decode cX11_marksOf 13 = .ok (.istore 4, 2) := by decide +kernel
theorem dX11_marksOf_15 : decode cX11_marksOf 15 = .ok (.iload_n 3, 1) := by decide +kernel
theorem dX11_marksOf_16 : decode cX11_marksOf 16 = .ok (.iconst 1, 1) := by decide +kernel
theorem dX11_marksOf_17 : decode cX11_marksOf 17 = .ok (.isub, 1) := by decide +kernel
theorem dX11_marksOf_18 : decode cX11_marksOf 18 = .ok (.istore 5, 2) := by decide +kernel
theorem dX11_marksOf_20 : decode cX11_marksOf 20 = .ok (.iload 5, 2) := by decide +kernel
theorem dX11_marksOf_22 : decode cX11_marksOf 22 = .ok (.ifCond .lt 32, 3) := by decide +kernel
theorem dX11_marksOf_25 : decode cX11_marksOf 25 = .ok (.aload_n 0, 1) := by decide +kernel
theorem dX11_marksOf_26 : decode cX11_marksOf 26 = .ok (.getfield 96, 3) := by decide +kernel
theorem dX11_marksOf_29 : decode cX11_marksOf 29 = .ok (.iload 5, 2) := by decide +kernel
theorem dX11_marksOf_31 : decode cX11_marksOf 31 = .ok (.aload_n 0, 1) := by decide +kernel
theorem dX11_marksOf_32 : decode cX11_marksOf 32 = .ok (.iload 4, 2) := by decide +kernel
theorem dX11_marksOf_34 : decode cX11_marksOf 34 = .ok (.iload_n 2, 1) := by decide +kernel
theorem dX11_marksOf_35 : decode cX11_marksOf 35 = .ok (.invokevirtual 163, 3) := by decide +kernel
theorem dX11_marksOf_38 : decode cX11_marksOf 38 = .ok (.iastore, 1) := by decide +kernel
theorem dX11_marksOf_39 : decode cX11_marksOf 39 = .ok (.aload_n 0, 1) := by decide +kernel
theorem dX11_marksOf_40 : decode cX11_marksOf 40 = .ok (.getfield 45, 3) := by decide +kernel
theorem dX11_marksOf_43 : decode cX11_marksOf 43 = .ok (.iload 4, 2) := by decide +kernel
theorem dX11_marksOf_45 : decode cX11_marksOf 45 = .ok (.iaload, 1) := by decide +kernel
theorem dX11_marksOf_46 : decode cX11_marksOf 46 = .ok (.istore 4, 2) := by decide +kernel
theorem dX11_marksOf_48 : decode cX11_marksOf 48 = .ok (.iinc 5 (-1), 3) := by decide +kernel
theorem dX11_marksOf_51 : decode cX11_marksOf 51 = .ok (.goto (-31), 3) := by decide +kernel
theorem dX11_marksOf_54 : decode cX11_marksOf 54 = .ok (.iload_n 3, 1) := by decide +kernel
theorem dX11_marksOf_55 : decode cX11_marksOf 55 = .ok (.ireturn, 1) := by decide +kernel
theorem dX11_marksAbove_0 : decode cX11_marksAbove 0 = .ok (.aload_n 0, 1) := by decide +kernel
theorem dX11_marksAbove_1 : decode cX11_marksAbove 1 = .ok (.iload_n 1, 1) := by decide +kernel
theorem dX11_marksAbove_2 : decode cX11_marksAbove 2 = .ok (.iload_n 2, 1) := by decide +kernel
theorem dX11_marksAbove_3 : decode cX11_marksAbove 3 = .ok (.invokevirtual 166, 3) := by decide +kernel
theorem dX11_marksAbove_6 : decode cX11_marksAbove 6 = .ok (.istore_n 3, 1) := by decide +kernel
theorem dX11_marksAbove_7 : decode cX11_marksAbove 7 = .ok (.iconst 0, 1) := by decide +kernel
theorem dX11_marksAbove_8 : decode cX11_marksAbove 8 = .ok (.istore 4, 2) := by decide +kernel
theorem dX11_marksAbove_10 : decode cX11_marksAbove 10 = .ok (.iconst 0, 1) := by decide +kernel
theorem dX11_marksAbove_11 : decode cX11_marksAbove 11 = .ok (.istore 5, 2) := by decide +kernel
theorem dX11_marksAbove_13 : decode cX11_marksAbove 13 = .ok (.iload 5, 2) := by decide +kernel
theorem dX11_marksAbove_15 : decode cX11_marksAbove 15 = .ok (.iload_n 3, 1) := by decide +kernel
theorem dX11_marksAbove_16 : decode cX11_marksAbove 16 = .ok (.if_icmp .ge 30, 3) := by decide +kernel
theorem dX11_marksAbove_19 : decode cX11_marksAbove 19 = .ok (.iload 4, 2) := by decide +kernel
theorem dX11_marksAbove_21 : decode cX11_marksAbove 21 = .ok (.aload_n 0, 1) := by decide +kernel
theorem dX11_marksAbove_22 : decode cX11_marksAbove 22 = .ok (.getfield 96, 3) := by decide +kernel
theorem dX11_marksAbove_25 : decode cX11_marksAbove 25 = .ok (.iload 5, 2) := by decide +kernel
theorem dX11_marksAbove_27 : decode cX11_marksAbove 27 = .ok (.iaload, 1) := by decide +kernel
theorem dX11_marksAbove_28 : decode cX11_marksAbove 28 = .ok (.iconst 1, 1) := by decide +kernel
theorem dX11_marksAbove_29 : decode cX11_marksAbove 29 = .ok (.if_icmp .le 7, 3) := by decide +kernel
theorem dX11_marksAbove_32 : decode cX11_marksAbove 32 = .ok (.iconst 1, 1) := by decide +kernel
theorem dX11_marksAbove_33 : decode cX11_marksAbove 33 = .ok (.goto 4, 3) := by decide +kernel
theorem dX11_marksAbove_36 : decode cX11_marksAbove 36 = .ok (.iconst 0, 1) := by decide +kernel
theorem dX11_marksAbove_37 : decode cX11_marksAbove 37 = .ok (.iadd, 1) := by decide +kernel
theorem dX11_marksAbove_38 : decode cX11_marksAbove 38 = .ok (.istore 4, 2) := by decide +kernel
theorem dX11_marksAbove_40 : decode cX11_marksAbove 40 = .ok (.iinc 5 1, 3) := by decide +kernel
theorem dX11_marksAbove_43 : decode cX11_marksAbove 43 = .ok (.goto (-30), 3) := by decide +kernel
theorem dX11_marksAbove_46 : decode cX11_marksAbove 46 = .ok (.iload 4, 2) := by decide +kernel
theorem dX11_marksAbove_48 : decode cX11_marksAbove 48 = .ok (.ireturn, 1) := by decide +kernel
theorem dX11_isHeiress_0 : decode cX11_isHeiress 0 = .ok (.aload_n 0, 1) := by decide +kernel
theorem dX11_isHeiress_1 : decode cX11_isHeiress 1 = .ok (.getfield 45, 3) := by decide +kernel
theorem dX11_isHeiress_4 : decode cX11_isHeiress 4 = .ok (.iload_n 1, 1) := by decide +kernel
theorem dX11_isHeiress_5 : decode cX11_isHeiress 5 = .ok (.iaload, 1) := by decide +kernel
theorem dX11_isHeiress_6 : decode cX11_isHeiress 6 = .ok (.istore_n 3, 1) := by decide +kernel
theorem dX11_isHeiress_7 : decode cX11_isHeiress 7 = .ok (.aload_n 0, 1) := by decide +kernel
theorem dX11_isHeiress_8 : decode cX11_isHeiress 8 = .ok (.getfield 35, 3) := by decide +kernel
theorem dX11_isHeiress_11 : decode cX11_isHeiress 11 = .ok (.iload_n 1, 1) := by decide +kernel
theorem dX11_isHeiress_12 : decode cX11_isHeiress 12 = .ok (.baload, 1) := by decide +kernel
theorem dX11_isHeiress_13 : decode cX11_isHeiress 13 = .ok (.ifCond .eq 17, 3) := by decide +kernel
theorem dX11_isHeiress_16 : decode cX11_isHeiress 16 = .ok (.iload_n 3, 1) := by decide +kernel
theorem dX11_isHeiress_17 : decode cX11_isHeiress 17 = .ok (.iconst (-1), 1) := by decide +kernel
theorem dX11_isHeiress_18 : decode cX11_isHeiress 18 = .ok (.if_icmp .eq 12, 3) := by decide +kernel
theorem dX11_isHeiress_21 : decode cX11_isHeiress 21 = .ok (.aload_n 0, 1) := by decide +kernel
theorem dX11_isHeiress_22 : decode cX11_isHeiress 22 = .ok (.iload_n 3, 1) := by decide +kernel
theorem dX11_isHeiress_23 : decode cX11_isHeiress 23 = .ok (.invokevirtual 120, 3) := by decide +kernel
theorem dX11_isHeiress_26 : decode cX11_isHeiress 26 = .ok (.iload_n 2, 1) := by decide +kernel
theorem dX11_isHeiress_27 : decode cX11_isHeiress 27 = .ok (.if_icmp .le 5, 3) := by decide +kernel
theorem dX11_isHeiress_30 : decode cX11_isHeiress 30 = .ok (.iconst 0, 1) := by decide +kernel
theorem dX11_isHeiress_31 : decode cX11_isHeiress 31 = .ok (.ireturn, 1) := by decide +kernel
theorem dX11_isHeiress_32 : decode cX11_isHeiress 32 = .ok (.aload_n 0, 1) := by decide +kernel
theorem dX11_isHeiress_33 : decode cX11_isHeiress 33 = .ok (.iload_n 2, 1) := by decide +kernel
theorem dX11_isHeiress_34 : decode cX11_isHeiress 34 = .ok (.invokevirtual 156, 3) := by decide +kernel
theorem dX11_isHeiress_37 : decode cX11_isHeiress 37 = .ok (.iconst 0, 1) := by decide +kernel
theorem dX11_isHeiress_38 : decode cX11_isHeiress 38 = .ok (.istore 4, 2) := by decide +kernel
theorem dX11_isHeiress_40 : decode cX11_isHeiress 40 = .ok (.iload 4, 2) := by decide +kernel
theorem dX11_isHeiress_42 : decode cX11_isHeiress 42 = .ok (.aload_n 0, 1) := by decide +kernel
theorem dX11_isHeiress_43 : decode cX11_isHeiress 43 = .ok (.getfield 113, 3) := by decide +kernel
theorem dX11_isHeiress_46 : decode cX11_isHeiress 46 = .ok (.if_icmp .ge 53, 3) := by decide +kernel
theorem dX11_isHeiress_49 : decode cX11_isHeiress 49 = .ok (.aload_n 0, 1) := by decide +kernel
theorem dX11_isHeiress_50 : decode cX11_isHeiress 50 = .ok (.getfield 45, 3) := by decide +kernel
theorem dX11_isHeiress_53 : decode cX11_isHeiress 53 = .ok (.iload 4, 2) := by decide +kernel
theorem dX11_isHeiress_55 : decode cX11_isHeiress 55 = .ok (.iaload, 1) := by decide +kernel
theorem dX11_isHeiress_56 : decode cX11_isHeiress 56 = .ok (.iload_n 3, 1) := by decide +kernel
theorem dX11_isHeiress_57 : decode cX11_isHeiress 57 = .ok (.if_icmp .ne 36, 3) := by decide +kernel
theorem dX11_isHeiress_60 : decode cX11_isHeiress 60 = .ok (.aload_n 0, 1) := by decide +kernel
theorem dX11_isHeiress_61 : decode cX11_isHeiress 61 = .ok (.getfield 35, 3) := by decide +kernel
theorem dX11_isHeiress_64 : decode cX11_isHeiress 64 = .ok (.iload 4, 2) := by decide +kernel
theorem dX11_isHeiress_66 : decode cX11_isHeiress 66 = .ok (.baload, 1) := by decide +kernel
theorem dX11_isHeiress_67 : decode cX11_isHeiress 67 = .ok (.ifCond .ne 26, 3) := by decide +kernel
theorem dX11_isHeiress_70 : decode cX11_isHeiress 70 = .ok (.aload_n 0, 1) := by decide +kernel
theorem dX11_isHeiress_71 : decode cX11_isHeiress 71 = .ok (.getfield 39, 3) := by decide +kernel
theorem dX11_isHeiress_74 : decode cX11_isHeiress 74 = .ok (.iload 4, 2) := by decide +kernel
theorem dX11_isHeiress_76 : decode cX11_isHeiress 76 = .ok (.iaload, 1) := by decide +kernel
theorem dX11_isHeiress_77 : decode cX11_isHeiress 77 = .ok (.iload_n 2, 1) := by decide +kernel
theorem dX11_isHeiress_78 : decode cX11_isHeiress 78 = .ok (.if_icmp .gt 15, 3) := by decide +kernel
theorem dX11_isHeiress_81 : decode cX11_isHeiress 81 = .ok (.aload_n 0, 1) := by decide +kernel
theorem dX11_isHeiress_82 : decode cX11_isHeiress 82 = .ok (.getfield 93, 3) := by decide +kernel
theorem dX11_isHeiress_85 : decode cX11_isHeiress 85 = .ok (.iload 4, 2) := by decide +kernel
theorem dX11_isHeiress_87 : decode cX11_isHeiress 87 = .ok (.baload, 1) := by decide +kernel
theorem dX11_isHeiress_88 : decode cX11_isHeiress 88 = .ok (.ifCond .eq 5, 3) := by decide +kernel
theorem dX11_isHeiress_91 : decode cX11_isHeiress 91 = .ok (.iconst 0, 1) := by decide +kernel
theorem dX11_isHeiress_92 : decode cX11_isHeiress 92 = .ok (.ireturn, 1) := by decide +kernel
theorem dX11_isHeiress_93 : decode cX11_isHeiress 93 = .ok (.iinc 4 1, 3) := by decide +kernel
theorem dX11_isHeiress_96 : decode cX11_isHeiress 96 = .ok (.goto (-56), 3) := by decide +kernel
theorem dX11_isHeiress_99 : decode cX11_isHeiress 99 = .ok (.iconst 1, 1) := by decide +kernel
theorem dX11_isHeiress_100 : decode cX11_isHeiress 100 = .ok (.ireturn, 1) := by decide +kernel
theorem dX11_bears_0 : decode cX11_bears 0 = .ok (.aload_n 0, 1) := by decide +kernel
theorem dX11_bears_1 : decode cX11_bears 1 = .ok (.iconst 0, 1) := by decide +kernel
theorem dX11_bears_2 : decode cX11_bears 2 = .ok (.putfield 110, 3) := by decide +kernel
theorem dX11_bears_5 : decode cX11_bears 5 = .ok (.aload_n 0, 1) := by decide +kernel
theorem dX11_bears_6 : decode cX11_bears 6 = .ok (.iload_n 1, 1) := by decide +kernel
theorem dX11_bears_7 : decode cX11_bears 7 = .ok (.invokevirtual 124, 3) := by decide +kernel
theorem dX11_bears_10 : decode cX11_bears 10 = .ok (.ifCond .ne 8, 3) := by decide +kernel
theorem dX11_bears_13 : decode cX11_bears 13 = .ok (.aload_n 0, 1) := by decide +kernel
theorem dX11_bears_14 : decode cX11_bears 14 = .ok (.invokevirtual 127, 3) := by decide +kernel
theorem dX11_bears_17 : decode cX11_bears 17 = .ok (.ireturn, 1) := by decide +kernel
theorem dX11_bears_18 : decode cX11_bears 18 = .ok (.aload_n 0, 1) := by decide +kernel
theorem dX11_bears_19 : decode cX11_bears 19 = .ok (.iload_n 1, 1) := by decide +kernel
theorem dX11_bears_20 : decode cX11_bears 20 = .ok (.iload_n 2, 1) := by decide +kernel
theorem dX11_bears_21 : decode cX11_bears 21 = .ok (.invokevirtual 145, 3) := by decide +kernel
theorem dX11_bears_24 : decode cX11_bears 24 = .ok (.istore 4, 2) := by decide +kernel
theorem dX11_bears_26 : decode cX11_bears 26 = .ok (.iload_n 3, 1) := by decide +kernel
theorem dX11_bears_27 : decode cX11_bears 27 = .ok (.tableswitch 160 0 7 #[45, 52, 55, 72, 89, 104, 124, 139], 45) := by decide +kernel
theorem dX11_bears_72 : decode cX11_bears 72 = .ok (.aload_n 0, 1) := by decide +kernel
theorem dX11_bears_73 : decode cX11_bears 73 = .ok (.iload_n 1, 1) := by decide +kernel
theorem dX11_bears_74 : decode cX11_bears 74 = .ok (.iload_n 2, 1) := by decide +kernel
theorem dX11_bears_75 : decode cX11_bears 75 = .ok (.invokevirtual 169, 3) := by decide +kernel
theorem dX11_bears_78 : decode cX11_bears 78 = .ok (.ireturn, 1) := by decide +kernel
theorem dX11_bears_79 : decode cX11_bears 79 = .ok (.iload 4, 2) := by decide +kernel
theorem dX11_bears_81 : decode cX11_bears 81 = .ok (.ireturn, 1) := by decide +kernel
theorem dX11_bears_82 : decode cX11_bears 82 = .ok (.iload 4, 2) := by decide +kernel
theorem dX11_bears_84 : decode cX11_bears 84 = .ok (.iconst (-1), 1) := by decide +kernel
theorem dX11_bears_85 : decode cX11_bears 85 = .ok (.if_icmp .ne 7, 3) := by decide +kernel
theorem dX11_bears_88 : decode cX11_bears 88 = .ok (.iconst (-1), 1) := by decide +kernel
theorem dX11_bears_89 : decode cX11_bears 89 = .ok (.goto 9, 3) := by decide +kernel
theorem dX11_bears_92 : decode cX11_bears 92 = .ok (.aload_n 0, 1) := by decide +kernel
theorem dX11_bears_93 : decode cX11_bears 93 = .ok (.iload_n 1, 1) := by decide +kernel
theorem dX11_bears_94 : decode cX11_bears 94 = .ok (.iload_n 2, 1) := by decide +kernel
theorem dX11_bears_95 : decode cX11_bears 95 = .ok (.invokevirtual 160, 3) := by decide +kernel
theorem dX11_bears_98 : decode cX11_bears 98 = .ok (.ireturn, 1) := by decide +kernel
theorem dX11_bears_99 : decode cX11_bears 99 = .ok (.iload 4, 2) := by decide +kernel
theorem dX11_bears_101 : decode cX11_bears 101 = .ok (.iconst (-1), 1) := by decide +kernel
theorem dX11_bears_102 : decode cX11_bears 102 = .ok (.if_icmp .ne 7, 3) := by decide +kernel
theorem dX11_bears_105 : decode cX11_bears 105 = .ok (.iconst (-1), 1) := by decide +kernel
theorem dX11_bears_106 : decode cX11_bears 106 = .ok (.goto 9, 3) := by decide +kernel
theorem dX11_bears_109 : decode cX11_bears 109 = .ok (.aload_n 0, 1) := by decide +kernel
theorem dX11_bears_110 : decode cX11_bears 110 = .ok (.iload_n 1, 1) := by decide +kernel
theorem dX11_bears_111 : decode cX11_bears 111 = .ok (.iload_n 2, 1) := by decide +kernel
theorem dX11_bears_112 : decode cX11_bears 112 = .ok (.invokevirtual 172, 3) := by decide +kernel
theorem dX11_bears_115 : decode cX11_bears 115 = .ok (.ireturn, 1) := by decide +kernel
theorem dX11_bears_116 : decode cX11_bears 116 = .ok (.aload_n 0, 1) := by decide +kernel
theorem dX11_bears_117 : decode cX11_bears 117 = .ok (.iload_n 1, 1) := by decide +kernel
theorem dX11_bears_118 : decode cX11_bears 118 = .ok (.iload_n 2, 1) := by decide +kernel
theorem dX11_bears_119 : decode cX11_bears 119 = .ok (.invokevirtual 131, 3) := by decide +kernel
theorem dX11_bears_122 : decode cX11_bears 122 = .ok (.ifCond .eq 7, 3) := by decide +kernel
theorem dX11_bears_125 : decode cX11_bears 125 = .ok (.iconst 1, 1) := by decide +kernel
theorem dX11_bears_126 : decode cX11_bears 126 = .ok (.goto 4, 3) := by decide +kernel
theorem dX11_bears_129 : decode cX11_bears 129 = .ok (.iconst 0, 1) := by decide +kernel
theorem dX11_bears_130 : decode cX11_bears 130 = .ok (.ireturn, 1) := by decide +kernel
theorem dX11_bears_131 : decode cX11_bears 131 = .ok (.aload_n 0, 1) := by decide +kernel
theorem dX11_bears_132 : decode cX11_bears 132 = .ok (.iload_n 2, 1) := by decide +kernel
theorem dX11_bears_133 : decode cX11_bears 133 = .ok (.invokevirtual 156, 3) := by decide +kernel
theorem dX11_bears_136 : decode cX11_bears 136 = .ok (.aload_n 0, 1) := by decide +kernel
theorem dX11_bears_137 : decode cX11_bears 137 = .ok (.getfield 93, 3) := by decide +kernel
theorem dX11_bears_140 : decode cX11_bears 140 = .ok (.iload_n 1, 1) := by decide +kernel
theorem dX11_bears_141 : decode cX11_bears 141 = .ok (.baload, 1) := by decide +kernel
theorem dX11_bears_142 : decode cX11_bears 142 = .ok (.ifCond .eq 7, 3) := by decide +kernel
theorem dX11_bears_145 : decode cX11_bears 145 = .ok (.iconst 1, 1) := by decide +kernel
theorem dX11_bears_146 : decode cX11_bears 146 = .ok (.goto 4, 3) := by decide +kernel
theorem dX11_bears_149 : decode cX11_bears 149 = .ok (.iconst 0, 1) := by decide +kernel
theorem dX11_bears_150 : decode cX11_bears 150 = .ok (.ireturn, 1) := by decide +kernel
theorem dX11_bears_151 : decode cX11_bears 151 = .ok (.aload_n 0, 1) := by decide +kernel
theorem dX11_bears_152 : decode cX11_bears 152 = .ok (.iload_n 1, 1) := by decide +kernel
theorem dX11_bears_153 : decode cX11_bears 153 = .ok (.iload_n 2, 1) := by decide +kernel
theorem dX11_bears_154 : decode cX11_bears 154 = .ok (.invokevirtual 175, 3) := by decide +kernel
theorem dX11_bears_157 : decode cX11_bears 157 = .ok (.ifCond .eq 7, 3) := by decide +kernel
theorem dX11_bears_160 : decode cX11_bears 160 = .ok (.iconst 1, 1) := by decide +kernel
theorem dX11_bears_161 : decode cX11_bears 161 = .ok (.goto 4, 3) := by decide +kernel
theorem dX11_bears_164 : decode cX11_bears 164 = .ok (.iconst 0, 1) := by decide +kernel
theorem dX11_bears_165 : decode cX11_bears 165 = .ok (.ireturn, 1) := by decide +kernel
theorem dX11_bears_166 : decode cX11_bears 166 = .ok (.iload 4, 2) := by decide +kernel
theorem dX11_bears_168 : decode cX11_bears 168 = .ok (.iconst (-1), 1) := by decide +kernel
theorem dX11_bears_169 : decode cX11_bears 169 = .ok (.if_icmp .eq 16, 3) := by decide +kernel
theorem dX11_bears_172 : decode cX11_bears 172 = .ok (.aload_n 0, 1) := by decide +kernel
theorem dX11_bears_173 : decode cX11_bears 173 = .ok (.iload_n 1, 1) := by decide +kernel
theorem dX11_bears_174 : decode cX11_bears 174 = .ok (.iload_n 2, 1) := by decide +kernel
theorem dX11_bears_175 : decode cX11_bears 175 = .ok (.invokevirtual 178, 3) := by decide +kernel
theorem dX11_bears_178 : decode cX11_bears 178 = .ok (.ifCond .ne 7, 3) := by decide +kernel
theorem dX11_bears_181 : decode cX11_bears 181 = .ok (.iconst 1, 1) := by decide +kernel
theorem dX11_bears_182 : decode cX11_bears 182 = .ok (.goto 4, 3) := by decide +kernel
theorem dX11_bears_185 : decode cX11_bears 185 = .ok (.iconst 0, 1) := by decide +kernel
theorem dX11_bears_186 : decode cX11_bears 186 = .ok (.ireturn, 1) := by decide +kernel
theorem dX11_bears_187 : decode cX11_bears 187 = .ok (.aload_n 0, 1) := by decide +kernel
theorem dX11_bears_188 : decode cX11_bears 188 = .ok (.invokevirtual 127, 3) := by decide +kernel
theorem dX11_bears_191 : decode cX11_bears 191 = .ok (.ireturn, 1) := by decide +kernel
theorem dX11_mark_0 : decode cX11_mark 0 = .ok (.aload_n 0, 1) := by decide +kernel
theorem dX11_mark_1 : decode cX11_mark 1 = .ok (.iconst 0, 1) := by decide +kernel
theorem dX11_mark_2 : decode cX11_mark 2 = .ok (.putfield 110, 3) := by decide +kernel
theorem dX11_mark_5 : decode cX11_mark 5 = .ok (.aload_n 0, 1) := by decide +kernel
theorem dX11_mark_6 : decode cX11_mark 6 = .ok (.iload_n 1, 1) := by decide +kernel
theorem dX11_mark_7 : decode cX11_mark 7 = .ok (.invokevirtual 124, 3) := by decide +kernel
theorem dX11_mark_10 : decode cX11_mark 10 = .ok (.ifCond .eq 27, 3) := by decide +kernel
theorem dX11_mark_13 : decode cX11_mark 13 = .ok (.aload_n 0, 1) := by decide +kernel
theorem dX11_mark_14 : decode cX11_mark 14 = .ok (.iload_n 1, 1) := by decide +kernel
theorem dX11_mark_15 : decode cX11_mark 15 = .ok (.iload_n 2, 1) := by decide +kernel
theorem dX11_mark_16 : decode cX11_mark 16 = .ok (.invokevirtual 145, 3) := by decide +kernel
theorem dX11_mark_19 : decode cX11_mark 19 = .ok (.iconst (-1), 1) := by decide +kernel
theorem dX11_mark_20 : decode cX11_mark 20 = .ok (.if_icmp .eq 17, 3) := by decide +kernel
theorem dX11_mark_23 : decode cX11_mark 23 = .ok (.iload_n 3, 1) := by decide +kernel
theorem dX11_mark_24 : decode cX11_mark 24 = .ok (.ifCond .lt 13, 3) := by decide +kernel
theorem dX11_mark_27 : decode cX11_mark 27 = .ok (.iload_n 3, 1) := by decide +kernel
theorem dX11_mark_28 : decode cX11_mark 28 = .ok (.aload_n 0, 1) := by decide +kernel
theorem dX11_mark_29 : decode cX11_mark 29 = .ok (.iload_n 1, 1) := by decide +kernel
theorem dX11_mark_30 : decode cX11_mark 30 = .ok (.iload_n 2, 1) := by decide +kernel
theorem dX11_mark_31 : decode cX11_mark 31 = .ok (.invokevirtual 166, 3) := by decide +kernel
theorem dX11_mark_34 : decode cX11_mark 34 = .ok (.if_icmp .lt 8, 3) := by decide +kernel
theorem dX11_mark_37 : decode cX11_mark 37 = .ok (.aload_n 0, 1) := by decide +kernel
theorem dX11_mark_38 : decode cX11_mark 38 = .ok (.invokevirtual 127, 3) := by decide +kernel
theorem dX11_mark_41 : decode cX11_mark 41 = .ok (.ireturn, 1) := by decide +kernel
theorem dX11_mark_42 : decode cX11_mark 42 = .ok (.aload_n 0, 1) := by decide +kernel
theorem dX11_mark_43 : decode cX11_mark 43 = .ok (.getfield 96, 3) := by decide +kernel
theorem dX11_mark_46 : decode cX11_mark 46 = .ok (.iload_n 3, 1) := by decide +kernel
theorem dX11_mark_47 : decode cX11_mark 47 = .ok (.iaload, 1) := by decide +kernel
theorem dX11_mark_48 : decode cX11_mark 48 = .ok (.ireturn, 1) := by decide +kernel
theorem dX11_head_0 : decode cX11_head 0 = .ok (.aload_n 0, 1) := by decide +kernel
theorem dX11_head_1 : decode cX11_head 1 = .ok (.iconst 0, 1) := by decide +kernel
theorem dX11_head_2 : decode cX11_head 2 = .ok (.putfield 110, 3) := by decide +kernel
theorem dX11_head_5 : decode cX11_head 5 = .ok (.aload_n 0, 1) := by decide +kernel
theorem dX11_head_6 : decode cX11_head 6 = .ok (.iload_n 1, 1) := by decide +kernel
theorem dX11_head_7 : decode cX11_head 7 = .ok (.invokevirtual 124, 3) := by decide +kernel
theorem dX11_head_10 : decode cX11_head 10 = .ok (.ifCond .ne 8, 3) := by decide +kernel
theorem dX11_head_13 : decode cX11_head 13 = .ok (.aload_n 0, 1) := by decide +kernel
theorem dX11_head_14 : decode cX11_head 14 = .ok (.invokevirtual 127, 3) := by decide +kernel
theorem dX11_head_17 : decode cX11_head 17 = .ok (.ireturn, 1) := by decide +kernel
theorem dX11_head_18 : decode cX11_head 18 = .ok (.aload_n 0, 1) := by decide +kernel
theorem dX11_head_19 : decode cX11_head 19 = .ok (.iload_n 2, 1) := by decide +kernel
theorem dX11_head_20 : decode cX11_head 20 = .ok (.invokevirtual 156, 3) := by decide +kernel
theorem dX11_head_23 : decode cX11_head 23 = .ok (.iload_n 1, 1) := by decide +kernel
theorem dX11_head_24 : decode cX11_head 24 = .ok (.istore_n 3, 1) := by decide +kernel
theorem dX11_head_25 : decode cX11_head 25 = .ok (.iload_n 3, 1) := by decide +kernel
theorem dX11_head_26 : decode cX11_head 26 = .ok (.iconst (-1), 1) := by decide +kernel
theorem dX11_head_27 : decode cX11_head 27 = .ok (.if_icmp .eq 90, 3) := by decide +kernel
theorem dX11_head_30 : decode cX11_head 30 = .ok (.aload_n 0, 1) := by decide +kernel
theorem dX11_head_31 : decode cX11_head 31 = .ok (.iload_n 3, 1) := by decide +kernel
theorem dX11_head_32 : decode cX11_head 32 = .ok (.iload_n 2, 1) := by decide +kernel
theorem dX11_head_33 : decode cX11_head 33 = .ok (.invokevirtual 131, 3) := by decide +kernel
theorem dX11_head_36 : decode cX11_head 36 = .ok (.ifCond .ne 81, 3) := by decide +kernel
theorem dX11_head_39 : decode cX11_head 39 = .ok (.iconst (-1), 1) := by decide +kernel
theorem dX11_head_40 : decode cX11_head 40 = .ok (.istore 4, 2) := by decide +kernel
theorem dX11_head_42 : decode cX11_head 42 = .ok (.iconst 0, 1) := by decide +kernel
theorem dX11_head_43 : decode cX11_head 43 = .ok (.istore 5, 2) := by decide +kernel
theorem dX11_head_45 : decode cX11_head 45 = .ok (.iload 5, 2) := by decide +kernel
theorem dX11_head_47 : decode cX11_head 47 = .ok (.aload_n 0, 1) := by decide +kernel
theorem dX11_head_48 : decode cX11_head 48 = .ok (.getfield 113, 3) := by decide +kernel
theorem dX11_head_51 : decode cX11_head 51 = .ok (.if_icmp .ge 60, 3) := by decide +kernel
theorem dX11_head_54 : decode cX11_head 54 = .ok (.aload_n 0, 1) := by decide +kernel
theorem dX11_head_55 : decode cX11_head 55 = .ok (.iload 5, 2) := by decide +kernel
theorem dX11_head_57 : decode cX11_head 57 = .ok (.iload_n 3, 1) := by decide +kernel
theorem dX11_head_58 : decode cX11_head 58 = .ok (.invokevirtual 138, 3) := by decide +kernel
theorem dX11_head_61 : decode cX11_head 61 = .ok (.ifCond .eq 44, 3) := by decide +kernel
theorem dX11_head_64 : decode cX11_head 64 = .ok (.aload_n 0, 1) := by decide +kernel
theorem dX11_head_65 : decode cX11_head 65 = .ok (.getfield 35, 3) := by decide +kernel
theorem dX11_head_68 : decode cX11_head 68 = .ok (.iload 5, 2) := by decide +kernel
theorem dX11_head_70 : decode cX11_head 70 = .ok (.baload, 1) := by decide +kernel
theorem dX11_head_71 : decode cX11_head 71 = .ok (.ifCond .ne 34, 3) := by decide +kernel
theorem dX11_head_74 : decode cX11_head 74 = .ok (.aload_n 0, 1) := by decide +kernel
theorem dX11_head_75 : decode cX11_head 75 = .ok (.getfield 93, 3) := by decide +kernel
theorem dX11_head_78 : decode cX11_head 78 = .ok (.iload 5, 2) := by decide +kernel
theorem dX11_head_80 : decode cX11_head 80 = .ok (.baload, 1) := by decide +kernel
theorem dX11_head_81 : decode cX11_head 81 = .ok (.ifCond .eq 24, 3) := by decide +kernel
theorem dX11_head_84 : decode cX11_head 84 = .ok (.iload 4, 2) := by decide +kernel
theorem dX11_head_86 : decode cX11_head 86 = .ok (.iconst (-1), 1) := by decide +kernel
theorem dX11_head_87 : decode cX11_head 87 = .ok (.if_icmp .eq 14, 3) := by decide +kernel
theorem dX11_head_90 : decode cX11_head 90 = .ok (.aload_n 0, 1) := by decide +kernel
theorem dX11_head_91 : decode cX11_head 91 = .ok (.iload 5, 2) := by decide +kernel
theorem dX11_head_93 : decode cX11_head 93 = .ok (.iload 4, 2) := by decide +kernel
theorem dX11_head_95 : decode cX11_head 95 = .ok (.invokevirtual 153, 3) := by decide +kernel
theorem dX11_head_98 : decode cX11_head 98 = .ok (.ifCond .eq 7, 3) := by decide +kernel
theorem dX11_head_101 : decode cX11_head 101 = .ok (.iload 5, 2) := by decide +kernel
theorem dX11_head_103 : decode cX11_head 103 = .ok (.istore 4, 2) := by decide +kernel
theorem dX11_head_105 : decode cX11_head 105 = .ok (.iinc 5 1, 3) := by decide +kernel
theorem dX11_head_108 : decode cX11_head 108 = .ok (.goto (-63), 3) := by decide +kernel
theorem dX11_head_111 : decode cX11_head 111 = .ok (.iload 4, 2) := by decide +kernel
theorem dX11_head_113 : decode cX11_head 113 = .ok (.istore_n 3, 1) := by decide +kernel
theorem dX11_head_114 : decode cX11_head 114 = .ok (.goto (-89), 3) := by decide +kernel
theorem dX11_head_117 : decode cX11_head 117 = .ok (.iload_n 3, 1) := by decide +kernel
theorem dX11_head_118 : decode cX11_head 118 = .ok (.ireturn, 1) := by decide +kernel
theorem dX11_put_0 : decode cX11_put 0 = .ok (.aload_n 0, 1) := by decide +kernel
theorem dX11_put_1 : decode cX11_put 1 = .ok (.getfield 99, 3) := by decide +kernel
theorem dX11_put_4 : decode cX11_put 4 = .ok (.iload_n 1, 1) := by decide +kernel
theorem dX11_put_5 : decode cX11_put 5 = .ok (.iaload, 1) := by decide +kernel
theorem dX11_put_6 : decode cX11_put 6 = .ok (.bipush 12, 2) := by decide +kernel
theorem dX11_put_8 : decode cX11_put 8 = .ok (.if_icmp .ne 7, 3) := by decide +kernel
theorem dX11_put_11 : decode cX11_put 11 = .ok (.iconst 1, 1) := by decide +kernel
theorem dX11_put_12 : decode cX11_put 12 = .ok (.goto 4, 3) := by decide +kernel
theorem dX11_put_15 : decode cX11_put 15 = .ok (.iconst 0, 1) := by decide +kernel
theorem dX11_put_16 : decode cX11_put 16 = .ok (.istore_n 3, 1) := by decide +kernel
theorem dX11_put_17 : decode cX11_put 17 = .ok (.iconst 0, 1) := by decide +kernel
theorem dX11_put_18 : decode cX11_put 18 = .ok (.istore 4, 2) := by decide +kernel
theorem dX11_put_20 : decode cX11_put 20 = .ok (.iload 4, 2) := by decide +kernel
theorem dX11_put_22 : decode cX11_put 22 = .ok (.aload_n 0, 1) := by decide +kernel
theorem dX11_put_23 : decode cX11_put 23 = .ok (.getfield 99, 3) := by decide +kernel
theorem dX11_put_26 : decode cX11_put 26 = .ok (.iload_n 1, 1) := by decide +kernel
theorem dX11_put_27 : decode cX11_put 27 = .ok (.iaload, 1) := by decide +kernel
theorem dX11_put_28 : decode cX11_put 28 = .ok (.if_icmp .ge 35, 3) := by decide +kernel
theorem dX11_put_31 : decode cX11_put 31 = .ok (.iload_n 3, 1) := by decide +kernel
theorem dX11_put_32 : decode cX11_put 32 = .ok (.ifCond .ne 19, 3) := by decide +kernel
theorem dX11_put_35 : decode cX11_put 35 = .ok (.aload_n 0, 1) := by decide +kernel
theorem dX11_put_36 : decode cX11_put 36 = .ok (.getfield 102, 3) := by decide +kernel
theorem dX11_put_39 : decode cX11_put 39 = .ok (.bipush 12, 2) := by decide +kernel
theorem dX11_put_41 : decode cX11_put 41 = .ok (.iload_n 1, 1) := by decide +kernel
theorem dX11_put_42 : decode cX11_put 42 = .ok (.imul, 1) := by decide +kernel
theorem dX11_put_43 : decode cX11_put 43 = .ok (.iload 4, 2) := by decide +kernel
theorem dX11_put_45 : decode cX11_put 45 = .ok (.iadd, 1) := by decide +kernel
theorem dX11_put_46 : decode cX11_put 46 = .ok (.iaload, 1) := by decide +kernel
theorem dX11_put_47 : decode cX11_put 47 = .ok (.iload_n 2, 1) := by decide +kernel
theorem dX11_put_48 : decode cX11_put 48 = .ok (.if_icmp .ne 7, 3) := by decide +kernel
theorem dX11_put_51 : decode cX11_put 51 = .ok (.iconst 1, 1) := by decide +kernel
theorem dX11_put_52 : decode cX11_put 52 = .ok (.goto 4, 3) := by decide +kernel
theorem dX11_put_55 : decode cX11_put 55 = .ok (.iconst 0, 1) := by decide +kernel
theorem dX11_put_56 : decode cX11_put 56 = .ok (.istore_n 3, 1) := by decide +kernel
theorem dX11_put_57 : decode cX11_put 57 = .ok (.iinc 4 1, 3) := by decide +kernel
theorem dX11_put_60 : decode cX11_put 60 = .ok (.goto (-40), 3) := by decide +kernel
theorem dX11_put_63 : decode cX11_put 63 = .ok (.iload_n 3, 1) := by decide +kernel
theorem dX11_put_64 : decode cX11_put 64 = .ok (.ifCond .eq 4, 3) := by decide +kernel
theorem dX11_put_67 : decode cX11_put 67 = .ok (.return_, 1) := by decide +kernel
theorem dX11_put_68 : decode cX11_put 68 = .ok (.aload_n 0, 1) := by decide +kernel
theorem dX11_put_69 : decode cX11_put 69 = .ok (.getfield 102, 3) := by decide +kernel
theorem dX11_put_72 : decode cX11_put 72 = .ok (.bipush 12, 2) := by decide +kernel
theorem dX11_put_74 : decode cX11_put 74 = .ok (.iload_n 1, 1) := by decide +kernel
theorem dX11_put_75 : decode cX11_put 75 = .ok (.imul, 1) := by decide +kernel
theorem dX11_put_76 : decode cX11_put 76 = .ok (.aload_n 0, 1) := by decide +kernel
theorem dX11_put_77 : decode cX11_put 77 = .ok (.getfield 99, 3) := by decide +kernel
theorem dX11_put_80 : decode cX11_put 80 = .ok (.iload_n 1, 1) := by decide +kernel
theorem dX11_put_81 : decode cX11_put 81 = .ok (.iaload, 1) := by decide +kernel
theorem dX11_put_82 : decode cX11_put 82 = .ok (.iadd, 1) := by decide +kernel
theorem dX11_put_83 : decode cX11_put 83 = .ok (.iload_n 2, 1) := by decide +kernel
theorem dX11_put_84 : decode cX11_put 84 = .ok (.iastore, 1) := by decide +kernel
theorem dX11_put_85 : decode cX11_put 85 = .ok (.aload_n 0, 1) := by decide +kernel
theorem dX11_put_86 : decode cX11_put 86 = .ok (.getfield 99, 3) := by decide +kernel
theorem dX11_put_89 : decode cX11_put 89 = .ok (.iload_n 1, 1) := by decide +kernel
theorem dX11_put_90 : decode cX11_put 90 = .ok (.dup2, 1) := by decide +kernel
theorem dX11_put_91 : decode cX11_put 91 = .ok (.iaload, 1) := by decide +kernel
theorem dX11_put_92 : decode cX11_put 92 = .ok (.iconst 1, 1) := by decide +kernel
theorem dX11_put_93 : decode cX11_put 93 = .ok (.iadd, 1) := by decide +kernel
theorem dX11_put_94 : decode cX11_put 94 = .ok (.iastore, 1) := by decide +kernel
theorem dX11_put_95 : decode cX11_put 95 = .ok (.return_, 1) := by decide +kernel
theorem dX11_brings_0 : decode cX11_brings 0 = .ok (.aload_n 0, 1) := by decide +kernel
theorem dX11_brings_1 : decode cX11_brings 1 = .ok (.iload_n 1, 1) := by decide +kernel
theorem dX11_brings_2 : decode cX11_brings 2 = .ok (.iload_n 2, 1) := by decide +kernel
theorem dX11_brings_3 : decode cX11_brings 3 = .ok (.invokevirtual 175, 3) := by decide +kernel
theorem dX11_brings_6 : decode cX11_brings 6 = .ok (.ifCond .ne 25, 3) := by decide +kernel
theorem dX11_brings_9 : decode cX11_brings 9 = .ok (.aload_n 0, 1) := by decide +kernel
theorem dX11_brings_10 : decode cX11_brings 10 = .ok (.iload_n 1, 1) := by decide +kernel
theorem dX11_brings_11 : decode cX11_brings 11 = .ok (.invokevirtual 120, 3) := by decide +kernel
theorem dX11_brings_14 : decode cX11_brings 14 = .ok (.iload_n 2, 1) := by decide +kernel
theorem dX11_brings_15 : decode cX11_brings 15 = .ok (.if_icmp .gt 20, 3) := by decide +kernel
theorem dX11_brings_18 : decode cX11_brings 18 = .ok (.aload_n 0, 1) := by decide +kernel
theorem dX11_brings_19 : decode cX11_brings 19 = .ok (.iload_n 1, 1) := by decide +kernel
theorem dX11_brings_20 : decode cX11_brings 20 = .ok (.aload_n 0, 1) := by decide +kernel
theorem dX11_brings_21 : decode cX11_brings 21 = .ok (.iload_n 1, 1) := by decide +kernel
theorem dX11_brings_22 : decode cX11_brings 22 = .ok (.invokevirtual 120, 3) := by decide +kernel
theorem dX11_brings_25 : decode cX11_brings 25 = .ok (.invokevirtual 175, 3) := by decide +kernel
theorem dX11_brings_28 : decode cX11_brings 28 = .ok (.ifCond .eq 7, 3) := by decide +kernel
theorem dX11_brings_31 : decode cX11_brings 31 = .ok (.iconst 1, 1) := by decide +kernel
theorem dX11_brings_32 : decode cX11_brings 32 = .ok (.goto 4, 3) := by decide +kernel
