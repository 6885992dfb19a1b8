theorem dX5_init_0 : decode cX5_init 0 = .ok (.aload_n 0, 1) := by decide +kernel
theorem dX5_init_1 : decode cX5_init 1 = .ok (.invokespecial 3, 3) := by decide +kernel
theorem dX5_init_4 : decode cX5_init 4 = .ok (.aload_n 0, 1) := by decide +kernel
theorem dX5_init_5 : decode cX5_init 5 = .ok (.bipush 60, 2) := by decide +kernel
theorem dX5_init_7 : decode cX5_init 7 = .ok (.newarray .int, 2) := by decide +kernel
theorem dX5_init_9 : decode cX5_init 9 = .ok (.putfield 11, 3) := by decide +kernel
theorem dX5_init_12 : decode cX5_init 12 = .ok (.aload_n 0, 1) := by decide +kernel
theorem dX5_init_13 : decode cX5_init 13 = .ok (.iconst (-1), 1) := by decide +kernel
theorem dX5_init_14 : decode cX5_init 14 = .ok (.putfield 17, 3) := by decide +kernel
theorem dX5_init_17 : decode cX5_init 17 = .ok (.aload_n 0, 1) := by decide +kernel
theorem dX5_init_18 : decode cX5_init 18 = .ok (.iconst (-1), 1) := by decide +kernel
theorem dX5_init_19 : decode cX5_init 19 = .ok (.putfield 21, 3) := by decide +kernel
theorem dX5_init_22 : decode cX5_init 22 = .ok (.aload_n 0, 1) := by decide +kernel
theorem dX5_init_23 : decode cX5_init 23 = .ok (.iconst (-1), 1) := by decide +kernel
theorem dX5_init_24 : decode cX5_init 24 = .ok (.putfield 24, 3) := by decide +kernel
theorem dX5_init_27 : decode cX5_init 27 = .ok (.aload_n 0, 1) := by decide +kernel
theorem dX5_init_28 : decode cX5_init 28 = .ok (.iconst (-1), 1) := by decide +kernel
theorem dX5_init_29 : decode cX5_init 29 = .ok (.putfield 27, 3) := by decide +kernel
theorem dX5_init_32 : decode cX5_init 32 = .ok (.aload_n 0, 1) := by decide +kernel
theorem dX5_init_33 : decode cX5_init 33 = .ok (.iconst 0, 1) := by decide +kernel
theorem dX5_init_34 : decode cX5_init 34 = .ok (.putfield 30, 3) := by decide +kernel
theorem dX5_init_37 : decode cX5_init 37 = .ok (.return_, 1) := by decide +kernel
theorem dX5_find_0 : decode cX5_find 0 = .ok (.aload_n 0, 1) := by decide +kernel
theorem dX5_find_1 : decode cX5_find 1 = .ok (.iconst (-1), 1) := by decide +kernel
theorem dX5_find_2 : decode cX5_find 2 = .ok (.putfield 17, 3) := by decide +kernel
theorem dX5_find_5 : decode cX5_find 5 = .ok (.aload_n 0, 1) := by decide +kernel
theorem dX5_find_6 : decode cX5_find 6 = .ok (.iconst (-1), 1) := by decide +kernel
theorem dX5_find_7 : decode cX5_find 7 = .ok (.putfield 21, 3) := by decide +kernel
theorem dX5_find_10 : decode cX5_find 10 = .ok (.aload_n 0, 1) := by decide +kernel
theorem dX5_find_11 : decode cX5_find 11 = .ok (.iconst (-1), 1) := by decide +kernel
theorem dX5_find_12 : decode cX5_find 12 = .ok (.putfield 24, 3) := by decide +kernel
theorem dX5_find_15 : decode cX5_find 15 = .ok (.aload_n 0, 1) := by decide +kernel
theorem dX5_find_16 : decode cX5_find 16 = .ok (.iconst (-1), 1) := by decide +kernel
theorem dX5_find_17 : decode cX5_find 17 = .ok (.putfield 27, 3) := by decide +kernel
theorem dX5_find_20 : decode cX5_find 20 = .ok (.aload_n 0, 1) := by decide +kernel
theorem dX5_find_21 : decode cX5_find 21 = .ok (.iconst 0, 1) := by decide +kernel
theorem dX5_find_22 : decode cX5_find 22 = .ok (.putfield 30, 3) := by decide +kernel
theorem dX5_find_25 : decode cX5_find 25 = .ok (.aload_n 0, 1) := by decide +kernel
theorem dX5_find_26 : decode cX5_find 26 = .ok (.aload_n 1, 1) := by decide +kernel
theorem dX5_find_27 : decode cX5_find 27 = .ok (.aload_n 2, 1) := by decide +kernel
theorem dX5_find_28 : decode cX5_find 28 = .ok (.iload_n 3, 1) := by decide +kernel
theorem dX5_find_29 : decode cX5_find 29 = .ok (.iload 4, 2) := by decide +kernel
theorem dX5_find_31 : decode cX5_find 31 = .ok (.invokevirtual 33, 3) := by decide +kernel
theorem dX5_find_34 : decode cX5_find 34 = .ok (.aload_n 0, 1) := by decide +kernel
theorem dX5_find_35 : decode cX5_find 35 = .ok (.getfield 21, 3) := by decide +kernel
theorem dX5_find_38 : decode cX5_find 38 = .ok (.iconst (-1), 1) := by decide +kernel
theorem dX5_find_39 : decode cX5_find 39 = .ok (.if_icmp .eq 15, 3) := by decide +kernel
theorem dX5_find_42 : decode cX5_find 42 = .ok (.aload_n 0, 1) := by decide +kernel
theorem dX5_find_43 : decode cX5_find 43 = .ok (.aload_n 1, 1) := by decide +kernel
theorem dX5_find_44 : decode cX5_find 44 = .ok (.iload_n 3, 1) := by decide +kernel
theorem dX5_find_45 : decode cX5_find 45 = .ok (.aload_n 1, 1) := by decide +kernel
theorem dX5_find_46 : decode cX5_find 46 = .ok (.iload 4, 2) := by decide +kernel
theorem dX5_find_48 : decode cX5_find 48 = .ok (.invokevirtual 37, 3) := by decide +kernel
theorem dX5_find_51 : decode cX5_find 51 = .ok (.invokevirtual 41, 3) := by decide +kernel
theorem dX5_find_54 : decode cX5_find 54 = .ok (.return_, 1) := by decide +kernel
theorem dX5_climb_0 : decode cX5_climb 0 = .ok (.bipush 9, 2) := by decide +kernel
theorem dX5_climb_2 : decode cX5_climb 2 = .ok (.istore 5, 2) := by decide +kernel
theorem dX5_climb_4 : decode cX5_climb 4 = .ok (.iload_n 3, 1) := by decide +kernel
theorem dX5_climb_5 : decode cX5_climb 5 = .ok (.istore 6, 2) := by decide +kernel
theorem dX5_climb_7 : decode cX5_climb 7 = .ok (.iconst 0, 1) := by decide +kernel
theorem dX5_climb_8 : decode cX5_climb 8 = .ok (.istore 7, 2) := by decide +kernel
theorem dX5_climb_10 : decode cX5_climb 10 = .ok (.iload 7, 2) := by decide +kernel
theorem dX5_climb_12 : decode cX5_climb 12 = .ok (.bipush 60, 2) := by decide +kernel
theorem dX5_climb_14 : decode cX5_climb 14 = .ok (.if_icmp .ge 77, 3) := by decide +kernel
theorem dX5_climb_17 : decode cX5_climb 17 = .ok (.iload 6, 2) := by decide +kernel
theorem dX5_climb_19 : decode cX5_climb 19 = .ok (.iconst (-1), 1) := by decide +kernel
theorem dX5_climb_20 : decode cX5_climb 20 = .ok (.if_icmp .eq 71, 3) := by decide +kernel
theorem dX5_climb_23 : decode cX5_climb 23 = .ok (.aload_n 2, 1) := by decide +kernel
theorem dX5_climb_24 : decode cX5_climb 24 = .ok (.iload 6, 2) := by decide +kernel
theorem dX5_climb_26 : decode cX5_climb 26 = .ok (.iload 4, 2) := by decide +kernel
theorem dX5_climb_28 : decode cX5_climb 28 = .ok (.invokevirtual 45, 3) := by decide +kernel
theorem dX5_climb_31 : decode cX5_climb 31 = .ok (.istore 8, 2) := by decide +kernel
theorem dX5_climb_33 : decode cX5_climb 33 = .ok (.iload 8, 2) := by decide +kernel
theorem dX5_climb_35 : decode cX5_climb 35 = .ok (.iconst (-1), 1) := by decide +kernel
theorem dX5_climb_36 : decode cX5_climb 36 = .ok (.if_icmp .eq 28, 3) := by decide +kernel
theorem dX5_climb_39 : decode cX5_climb 39 = .ok (.aload_n 0, 1) := by decide +kernel
theorem dX5_climb_40 : decode cX5_climb 40 = .ok (.iload 8, 2) := by decide +kernel
theorem dX5_climb_42 : decode cX5_climb 42 = .ok (.putfield 17, 3) := by decide +kernel
theorem dX5_climb_45 : decode cX5_climb 45 = .ok (.aload_n 0, 1) := by decide +kernel
theorem dX5_climb_46 : decode cX5_climb 46 = .ok (.iload 6, 2) := by decide +kernel
theorem dX5_climb_48 : decode cX5_climb 48 = .ok (.putfield 21, 3) := by decide +kernel
theorem dX5_climb_51 : decode cX5_climb 51 = .ok (.aload_n 0, 1) := by decide +kernel
theorem dX5_climb_52 : decode cX5_climb 52 = .ok (.iload 7, 2) := by decide +kernel
theorem dX5_climb_54 : decode cX5_climb 54 = .ok (.putfield 24, 3) := by decide +kernel
theorem dX5_climb_57 : decode cX5_climb 57 = .ok (.aload_n 0, 1) := by decide +kernel
theorem dX5_climb_58 : decode cX5_climb 58 = .ok (.iload 5, 2) := by decide +kernel
theorem dX5_climb_60 : decode cX5_climb 60 = .ok (.putfield 27, 3) := by decide +kernel
theorem dX5_climb_63 : decode cX5_climb 63 = .ok (.return_, 1) := by decide +kernel
theorem dX5_climb_64 : decode cX5_climb 64 = .ok (.iload 5, 2) := by decide +kernel
theorem dX5_climb_66 : decode cX5_climb 66 = .ok (.aload_n 1, 1) := by decide +kernel
theorem dX5_climb_67 : decode cX5_climb 67 = .ok (.iload 6, 2) := by decide +kernel
theorem dX5_climb_69 : decode cX5_climb 69 = .ok (.invokevirtual 51, 3) := by decide +kernel
theorem dX5_climb_72 : decode cX5_climb 72 = .ok (.invokestatic 55, 3) := by decide +kernel
theorem dX5_climb_75 : decode cX5_climb 75 = .ok (.istore 5, 2) := by decide +kernel
theorem dX5_climb_77 : decode cX5_climb 77 = .ok (.aload_n 1, 1) := by decide +kernel
theorem dX5_climb_78 : decode cX5_climb 78 = .ok (.iload 6, 2) := by decide +kernel
theorem dX5_climb_80 : decode cX5_climb 80 = .ok (.invokevirtual 60, 3) := by decide +kernel
theorem dX5_climb_83 : decode cX5_climb 83 = .ok (.istore 6, 2) := by decide +kernel
theorem dX5_climb_85 : decode cX5_climb 85 = .ok (.iinc 7 1, 3) := by decide +kernel
theorem dX5_climb_88 : decode cX5_climb 88 = .ok (.goto (-78), 3) := by decide +kernel
theorem dX5_climb_91 : decode cX5_climb 91 = .ok (.return_, 1) := by decide +kernel
theorem dX5_setMarks_0 : decode cX5_setMarks 0 = .ok (.iload_n 2, 1) := by decide +kernel
theorem dX5_setMarks_1 : decode cX5_setMarks 1 = .ok (.istore 5, 2) := by decide +kernel
theorem dX5_setMarks_3 : decode cX5_setMarks 3 = .ok (.aload_n 0, 1) := by decide +kernel
theorem dX5_setMarks_4 : decode cX5_setMarks 4 = .ok (.getfield 24, 3) := by decide +kernel
theorem dX5_setMarks_7 : decode cX5_setMarks 7 = .ok (.bipush 60, 2) := by decide +kernel
theorem dX5_setMarks_9 : decode cX5_setMarks 9 = .ok (.invokestatic 55, 3) := by decide +kernel
theorem dX5_setMarks_12 : decode cX5_setMarks 12 = .ok (.iconst 1, 1) := by decide +kernel
theorem dX5_setMarks_13 : decode cX5_setMarks 13 = .ok (.isub, 1) := by decide +kernel
theorem dX5_setMarks_14 : decode cX5_setMarks 14 = .ok (.istore 6, 2) := by decide +kernel
theorem dX5_setMarks_16 : decode cX5_setMarks 16 = .ok (.iload 6, 2) := by decide +kernel
theorem dX5_setMarks_18 : decode cX5_setMarks 18 = .ok (.ifCond .lt 52, 3) := by decide +kernel
theorem dX5_setMarks_21 : decode cX5_setMarks 21 = .ok (.aload_n 0, 1) := by decide +kernel
theorem dX5_setMarks_22 : decode cX5_setMarks 22 = .ok (.getfield 11, 3) := by decide +kernel
theorem dX5_setMarks_25 : decode cX5_setMarks 25 = .ok (.iload 6, 2) := by decide +kernel
theorem dX5_setMarks_27 : decode cX5_setMarks 27 = .ok (.aload_n 1, 1) := by decide +kernel
theorem dX5_setMarks_28 : decode cX5_setMarks 28 = .ok (.iload 5, 2) := by decide +kernel
theorem dX5_setMarks_30 : decode cX5_setMarks 30 = .ok (.lload_n 3, 1) := by decide +kernel
theorem dX5_setMarks_31 : decode cX5_setMarks 31 = .ok (.invokevirtual 63, 3) := by decide +kernel
theorem dX5_setMarks_34 : decode cX5_setMarks 34 = .ok (.iastore, 1) := by decide +kernel
theorem dX5_setMarks_35 : decode cX5_setMarks 35 = .ok (.aload_n 0, 1) := by decide +kernel
theorem dX5_setMarks_36 : decode cX5_setMarks 36 = .ok (.getfield 11, 3) := by decide +kernel
theorem dX5_setMarks_39 : decode cX5_setMarks 39 = .ok (.iload 6, 2) := by decide +kernel
theorem dX5_setMarks_41 : decode cX5_setMarks 41 = .ok (.iaload, 1) := by decide +kernel
theorem dX5_setMarks_42 : decode cX5_setMarks 42 = .ok (.iconst 1, 1) := by decide +kernel
theorem dX5_setMarks_43 : decode cX5_setMarks 43 = .ok (.if_icmp .le 13, 3) := by decide +kernel
theorem dX5_setMarks_46 : decode cX5_setMarks 46 = .ok (.aload_n 0, 1) := by decide +kernel
theorem dX5_setMarks_47 : decode cX5_setMarks 47 = .ok (.dup, 1) := by decide +kernel
theorem dX5_setMarks_48 : decode cX5_setMarks 48 = .ok (.getfield 30, 3) := by decide +kernel
theorem dX5_setMarks_51 : decode cX5_setMarks 51 = .ok (.iconst 1, 1) := by decide +kernel
theorem dX5_setMarks_52 : decode cX5_setMarks 52 = .ok (.iadd, 1) := by decide +kernel
theorem dX5_setMarks_53 : decode cX5_setMarks 53 = .ok (.putfield 30, 3) := by decide +kernel
theorem dX5_setMarks_56 : decode cX5_setMarks 56 = .ok (.aload_n 1, 1) := by decide +kernel
theorem dX5_setMarks_57 : decode cX5_setMarks 57 = .ok (.iload 5, 2) := by decide +kernel
theorem dX5_setMarks_59 : decode cX5_setMarks 59 = .ok (.invokevirtual 60, 3) := by decide +kernel
theorem dX5_setMarks_62 : decode cX5_setMarks 62 = .ok (.istore 5, 2) := by decide +kernel
theorem dX5_setMarks_64 : decode cX5_setMarks 64 = .ok (.iinc 6 (-1), 3) := by decide +kernel
theorem dX5_setMarks_67 : decode cX5_setMarks 67 = .ok (.goto (-51), 3) := by decide +kernel
theorem dX5_setMarks_70 : decode cX5_setMarks 70 = .ok (.return_, 1) := by decide +kernel
theorem dX5_markAt_0 : decode cX5_markAt 0 = .ok (.iload_n 1, 1) := by decide +kernel
theorem dX5_markAt_1 : decode cX5_markAt 1 = .ok (.ifCond .lt 18, 3) := by decide +kernel
theorem dX5_markAt_4 : decode cX5_markAt 4 = .ok (.iload_n 1, 1) := by decide +kernel
theorem dX5_markAt_5 : decode cX5_markAt 5 = .ok (.bipush 60, 2) := by decide +kernel
theorem dX5_markAt_7 : decode cX5_markAt 7 = .ok (.if_icmp .ge 12, 3) := by decide +kernel
theorem dX5_markAt_10 : decode cX5_markAt 10 = .ok (.aload_n 0, 1) := by decide +kernel
theorem dX5_markAt_11 : decode cX5_markAt 11 = .ok (.getfield 11, 3) := by decide +kernel
theorem dX5_markAt_14 : decode cX5_markAt 14 = .ok (.iload_n 1, 1) := by decide +kernel
theorem dX5_markAt_15 : decode cX5_markAt 15 = .ok (.iaload, 1) := by decide +kernel
theorem dX5_markAt_16 : decode cX5_markAt 16 = .ok (.goto 4, 3) := by decide +kernel
theorem dX5_markAt_19 : decode cX5_markAt 19 = .ok (.iconst (-1), 1) := by decide +kernel
theorem dX5_markAt_20 : decode cX5_markAt 20 = .ok (.ireturn, 1) := by decide +kernel
theorem dX5_isPlain_0 : decode cX5_isPlain 0 = .ok (.aload_n 0, 1) := by decide +kernel
theorem dX5_isPlain_1 : decode cX5_isPlain 1 = .ok (.getfield 17, 3) := by decide +kernel
theorem dX5_isPlain_4 : decode cX5_isPlain 4 = .ok (.iconst (-1), 1) := by decide +kernel
theorem dX5_isPlain_5 : decode cX5_isPlain 5 = .ok (.if_icmp .eq 14, 3) := by decide +kernel
theorem dX5_isPlain_8 : decode cX5_isPlain 8 = .ok (.aload_n 0, 1) := by decide +kernel
theorem dX5_isPlain_9 : decode cX5_isPlain 9 = .ok (.getfield 30, 3) := by decide +kernel
theorem dX5_isPlain_12 : decode cX5_isPlain 12 = .ok (.ifCond .ne 7, 3) := by decide +kernel
theorem dX5_isPlain_15 : decode cX5_isPlain 15 = .ok (.iconst 1, 1) := by decide +kernel
theorem dX5_isPlain_16 : decode cX5_isPlain 16 = .ok (.goto 4, 3) := by decide +kernel
theorem dX5_isPlain_19 : decode cX5_isPlain 19 = .ok (.iconst 0, 1) := by decide +kernel
theorem dX5_isPlain_20 : decode cX5_isPlain 20 = .ok (.ireturn, 1) := by decide +kernel
