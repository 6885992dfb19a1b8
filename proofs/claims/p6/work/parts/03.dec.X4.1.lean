theorem dX4_isHeiress_9 : decode cX4_isHeiress 9 = .ok (.invokevirtual 86, 3) := by decide +kernel
theorem dX4_isHeiress_12 : decode cX4_isHeiress 12 = .ok (.ifCond .eq 23, 3) := by decide +kernel
theorem dX4_isHeiress_15 : decode cX4_isHeiress 15 = .ok (.aload_n 0, 1) := by decide +kernel
theorem dX4_isHeiress_16 : decode cX4_isHeiress 16 = .ok (.iload 5, 2) := by decide +kernel
theorem dX4_isHeiress_18 : decode cX4_isHeiress 18 = .ok (.invokevirtual 58, 3) := by decide +kernel
theorem dX4_isHeiress_21 : decode cX4_isHeiress 21 = .ok (.ifCond .eq 14, 3) := by decide +kernel
theorem dX4_isHeiress_24 : decode cX4_isHeiress 24 = .ok (.aload_n 0, 1) := by decide +kernel
theorem dX4_isHeiress_25 : decode cX4_isHeiress 25 = .ok (.getfield 22, 3) := by decide +kernel
theorem dX4_isHeiress_28 : decode cX4_isHeiress 28 = .ok (.iload 5, 2) := by decide +kernel
theorem dX4_isHeiress_30 : decode cX4_isHeiress 30 = .ok (.iaload, 1) := by decide +kernel
theorem dX4_isHeiress_31 : decode cX4_isHeiress 31 = .ok (.iload_n 2, 1) := by decide +kernel
theorem dX4_isHeiress_32 : decode cX4_isHeiress 32 = .ok (.if_icmp .le 5, 3) := by decide +kernel
theorem dX4_isHeiress_35 : decode cX4_isHeiress 35 = .ok (.iconst 0, 1) := by decide +kernel
theorem dX4_isHeiress_36 : decode cX4_isHeiress 36 = .ok (.ireturn, 1) := by decide +kernel
theorem dX4_isHeiress_37 : decode cX4_isHeiress 37 = .ok (.iconst 0, 1) := by decide +kernel
theorem dX4_isHeiress_38 : decode cX4_isHeiress 38 = .ok (.istore 6, 2) := by decide +kernel
theorem dX4_isHeiress_40 : decode cX4_isHeiress 40 = .ok (.iload 6, 2) := by decide +kernel
theorem dX4_isHeiress_42 : decode cX4_isHeiress 42 = .ok (.aload_n 0, 1) := by decide +kernel
theorem dX4_isHeiress_43 : decode cX4_isHeiress 43 = .ok (.getfield 37, 3) := by decide +kernel
theorem dX4_isHeiress_46 : decode cX4_isHeiress 46 = .ok (.if_icmp .ge 32, 3) := by decide +kernel
theorem dX4_isHeiress_49 : decode cX4_isHeiress 49 = .ok (.aload_n 0, 1) := by decide +kernel
theorem dX4_isHeiress_50 : decode cX4_isHeiress 50 = .ok (.getfield 25, 3) := by decide +kernel
theorem dX4_isHeiress_53 : decode cX4_isHeiress 53 = .ok (.iload 6, 2) := by decide +kernel
theorem dX4_isHeiress_55 : decode cX4_isHeiress 55 = .ok (.iaload, 1) := by decide +kernel
theorem dX4_isHeiress_56 : decode cX4_isHeiress 56 = .ok (.iload 5, 2) := by decide +kernel
theorem dX4_isHeiress_58 : decode cX4_isHeiress 58 = .ok (.if_icmp .ne 14, 3) := by decide +kernel
theorem dX4_isHeiress_61 : decode cX4_isHeiress 61 = .ok (.lload_n 3, 1) := by decide +kernel
theorem dX4_isHeiress_62 : decode cX4_isHeiress 62 = .ok (.iload 6, 2) := by decide +kernel
theorem dX4_isHeiress_64 : decode cX4_isHeiress 64 = .ok (.invokestatic 64, 3) := by decide +kernel
theorem dX4_isHeiress_67 : decode cX4_isHeiress 67 = .ok (.ifCond .eq 5, 3) := by decide +kernel
theorem dX4_isHeiress_70 : decode cX4_isHeiress 70 = .ok (.iconst 0, 1) := by decide +kernel
theorem dX4_isHeiress_71 : decode cX4_isHeiress 71 = .ok (.ireturn, 1) := by decide +kernel
theorem dX4_isHeiress_72 : decode cX4_isHeiress 72 = .ok (.iinc 6 1, 3) := by decide +kernel
theorem dX4_isHeiress_75 : decode cX4_isHeiress 75 = .ok (.goto (-35), 3) := by decide +kernel
theorem dX4_isHeiress_78 : decode cX4_isHeiress 78 = .ok (.iconst 1, 1) := by decide +kernel
theorem dX4_isHeiress_79 : decode cX4_isHeiress 79 = .ok (.ireturn, 1) := by decide +kernel
theorem dX4_bringsQuarters_0 : decode cX4_bringsQuarters 0 = .ok (.aload_n 0, 1) := by decide +kernel
theorem dX4_bringsQuarters_1 : decode cX4_bringsQuarters 1 = .ok (.iload_n 1, 1) := by decide +kernel
theorem dX4_bringsQuarters_2 : decode cX4_bringsQuarters 2 = .ok (.iload_n 2, 1) := by decide +kernel
theorem dX4_bringsQuarters_3 : decode cX4_bringsQuarters 3 = .ok (.lload_n 3, 1) := by decide +kernel
theorem dX4_bringsQuarters_4 : decode cX4_bringsQuarters 4 = .ok (.invokevirtual 89, 3) := by decide +kernel
theorem dX4_bringsQuarters_7 : decode cX4_bringsQuarters 7 = .ok (.ifCond .eq 5, 3) := by decide +kernel
theorem dX4_bringsQuarters_10 : decode cX4_bringsQuarters 10 = .ok (.iconst 1, 1) := by decide +kernel
theorem dX4_bringsQuarters_11 : decode cX4_bringsQuarters 11 = .ok (.ireturn, 1) := by decide +kernel
theorem dX4_bringsQuarters_12 : decode cX4_bringsQuarters 12 = .ok (.aload_n 0, 1) := by decide +kernel
theorem dX4_bringsQuarters_13 : decode cX4_bringsQuarters 13 = .ok (.iload_n 1, 1) := by decide +kernel
theorem dX4_bringsQuarters_14 : decode cX4_bringsQuarters 14 = .ok (.invokevirtual 58, 3) := by decide +kernel
theorem dX4_bringsQuarters_17 : decode cX4_bringsQuarters 17 = .ok (.ifCond .eq 13, 3) := by decide +kernel
theorem dX4_bringsQuarters_20 : decode cX4_bringsQuarters 20 = .ok (.aload_n 0, 1) := by decide +kernel
theorem dX4_bringsQuarters_21 : decode cX4_bringsQuarters 21 = .ok (.getfield 22, 3) := by decide +kernel
theorem dX4_bringsQuarters_24 : decode cX4_bringsQuarters 24 = .ok (.iload_n 1, 1) := by decide +kernel
theorem dX4_bringsQuarters_25 : decode cX4_bringsQuarters 25 = .ok (.iaload, 1) := by decide +kernel
theorem dX4_bringsQuarters_26 : decode cX4_bringsQuarters 26 = .ok (.iload_n 2, 1) := by decide +kernel
theorem dX4_bringsQuarters_27 : decode cX4_bringsQuarters 27 = .ok (.if_icmp .le 5, 3) := by decide +kernel
theorem dX4_bringsQuarters_30 : decode cX4_bringsQuarters 30 = .ok (.iconst 0, 1) := by decide +kernel
theorem dX4_bringsQuarters_31 : decode cX4_bringsQuarters 31 = .ok (.ireturn, 1) := by decide +kernel
theorem dX4_bringsQuarters_32 : decode cX4_bringsQuarters 32 = .ok (.aload_n 0, 1) := by decide +kernel
theorem dX4_bringsQuarters_33 : decode cX4_bringsQuarters 33 = .ok (.getfield 22, 3) := by decide +kernel
theorem dX4_bringsQuarters_36 : decode cX4_bringsQuarters 36 = .ok (.iload_n 1, 1) := by decide +kernel
theorem dX4_bringsQuarters_37 : decode cX4_bringsQuarters 37 = .ok (.iaload, 1) := by decide +kernel
theorem dX4_bringsQuarters_38 : decode cX4_bringsQuarters 38 = .ok (.istore 5, 2) := by decide +kernel
theorem dX4_bringsQuarters_40 : decode cX4_bringsQuarters 40 = .ok (.aload_n 0, 1) := by decide +kernel
theorem dX4_bringsQuarters_41 : decode cX4_bringsQuarters 41 = .ok (.iload_n 1, 1) := by decide +kernel
theorem dX4_bringsQuarters_42 : decode cX4_bringsQuarters 42 = .ok (.iload 5, 2) := by decide +kernel
theorem dX4_bringsQuarters_44 : decode cX4_bringsQuarters 44 = .ok (.aload_n 0, 1) := by decide +kernel
theorem dX4_bringsQuarters_45 : decode cX4_bringsQuarters 45 = .ok (.iload 5, 2) := by decide +kernel
theorem dX4_bringsQuarters_47 : decode cX4_bringsQuarters 47 = .ok (.invokevirtual 78, 3) := by decide +kernel
theorem dX4_bringsQuarters_50 : decode cX4_bringsQuarters 50 = .ok (.invokevirtual 89, 3) := by decide +kernel
theorem dX4_bringsQuarters_53 : decode cX4_bringsQuarters 53 = .ok (.ireturn, 1) := by decide +kernel
theorem dX4_forebears_0 : decode cX4_forebears 0 = .ok (.aload_n 0, 1) := by decide +kernel
theorem dX4_forebears_1 : decode cX4_forebears 1 = .ok (.iload_n 1, 1) := by decide +kernel
theorem dX4_forebears_2 : decode cX4_forebears 2 = .ok (.invokevirtual 58, 3) := by decide +kernel
theorem dX4_forebears_5 : decode cX4_forebears 5 = .ok (.ifCond .eq 9, 3) := by decide +kernel
theorem dX4_forebears_8 : decode cX4_forebears 8 = .ok (.lconst 1, 1) := by decide +kernel
theorem dX4_forebears_9 : decode cX4_forebears 9 = .ok (.iload_n 1, 1) := by decide +kernel
theorem dX4_forebears_10 : decode cX4_forebears 10 = .ok (.lshl, 1) := by decide +kernel
theorem dX4_forebears_11 : decode cX4_forebears 11 = .ok (.goto 4, 3) := by decide +kernel
theorem dX4_forebears_14 : decode cX4_forebears 14 = .ok (.lconst 0, 1) := by decide +kernel
theorem dX4_forebears_15 : decode cX4_forebears 15 = .ok (.lstore_n 2, 1) := by decide +kernel
theorem dX4_forebears_16 : decode cX4_forebears 16 = .ok (.aload_n 0, 1) := by decide +kernel
theorem dX4_forebears_17 : decode cX4_forebears 17 = .ok (.getfield 37, 3) := by decide +kernel
theorem dX4_forebears_20 : decode cX4_forebears 20 = .ok (.iconst 1, 1) := by decide +kernel
theorem dX4_forebears_21 : decode cX4_forebears 21 = .ok (.isub, 1) := by decide +kernel
theorem dX4_forebears_22 : decode cX4_forebears 22 = .ok (.istore 4, 2) := by decide +kernel
theorem dX4_forebears_24 : decode cX4_forebears 24 = .ok (.iload 4, 2) := by decide +kernel
theorem dX4_forebears_26 : decode cX4_forebears 26 = .ok (.ifCond .lt 73, 3) := by decide +kernel
theorem dX4_forebears_29 : decode cX4_forebears 29 = .ok (.lload_n 2, 1) := by decide +kernel
theorem dX4_forebears_30 : decode cX4_forebears 30 = .ok (.iload 4, 2) := by decide +kernel
theorem dX4_forebears_32 : decode cX4_forebears 32 = .ok (.invokestatic 64, 3) := by decide +kernel
theorem dX4_forebears_35 : decode cX4_forebears 35 = .ok (.ifCond .eq 26, 3) := by decide +kernel
theorem dX4_forebears_38 : decode cX4_forebears 38 = .ok (.aload_n 0, 1) := by decide +kernel
theorem dX4_forebears_39 : decode cX4_forebears 39 = .ok (.getfield 25, 3) := by decide +kernel
theorem dX4_forebears_42 : decode cX4_forebears 42 = .ok (.iload 4, 2) := by decide +kernel
theorem dX4_forebears_44 : decode cX4_forebears 44 = .ok (.iaload, 1) := by decide +kernel
theorem dX4_forebears_45 : decode cX4_forebears 45 = .ok (.iconst (-1), 1) := by decide +kernel
theorem dX4_forebears_46 : decode cX4_forebears 46 = .ok (.if_icmp .eq 15, 3) := by decide +kernel
theorem dX4_forebears_49 : decode cX4_forebears 49 = .ok (.lload_n 2, 1) := by decide +kernel
theorem dX4_forebears_50 : decode cX4_forebears 50 = .ok (.lconst 1, 1) := by decide +kernel
theorem dX4_forebears_51 : decode cX4_forebears 51 = .ok (.aload_n 0, 1) := by decide +kernel
theorem dX4_forebears_52 : decode cX4_forebears 52 = .ok (.getfield 25, 3) := by decide +kernel
theorem dX4_forebears_55 : decode cX4_forebears 55 = .ok (.iload 4, 2) := by decide +kernel
theorem dX4_forebears_57 : decode cX4_forebears 57 = .ok (.iaload, 1) := by decide +kernel
theorem dX4_forebears_58 : decode cX4_forebears 58 = .ok (.lshl, 1) := by decide +kernel
theorem dX4_forebears_59 : decode cX4_forebears 59 = .ok (.lor, 1) := by decide +kernel
theorem dX4_forebears_60 : decode cX4_forebears 60 = .ok (.lstore_n 2, 1) := by decide +kernel
theorem dX4_forebears_61 : decode cX4_forebears 61 = .ok (.lload_n 2, 1) := by decide +kernel
theorem dX4_forebears_62 : decode cX4_forebears 62 = .ok (.iload 4, 2) := by decide +kernel
theorem dX4_forebears_64 : decode cX4_forebears 64 = .ok (.invokestatic 64, 3) := by decide +kernel
theorem dX4_forebears_67 : decode cX4_forebears 67 = .ok (.ifCond .eq 26, 3) := by decide +kernel
theorem dX4_forebears_70 : decode cX4_forebears 70 = .ok (.aload_n 0, 1) := by decide +kernel
theorem dX4_forebears_71 : decode cX4_forebears 71 = .ok (.getfield 28, 3) := by decide +kernel
theorem dX4_forebears_74 : decode cX4_forebears 74 = .ok (.iload 4, 2) := by decide +kernel
theorem dX4_forebears_76 : decode cX4_forebears 76 = .ok (.iaload, 1) := by decide +kernel
theorem dX4_forebears_77 : decode cX4_forebears 77 = .ok (.iconst (-1), 1) := by decide +kernel
theorem dX4_forebears_78 : decode cX4_forebears 78 = .ok (.if_icmp .eq 15, 3) := by decide +kernel
theorem dX4_forebears_81 : decode cX4_forebears 81 = .ok (.lload_n 2, 1) := by decide +kernel
theorem dX4_forebears_82 : decode cX4_forebears 82 = .ok (.lconst 1, 1) := by decide +kernel
theorem dX4_forebears_83 : decode cX4_forebears 83 = .ok (.aload_n 0, 1) := by decide +kernel
theorem dX4_forebears_84 : decode cX4_forebears 84 = .ok (.getfield 28, 3) := by decide +kernel
theorem dX4_forebears_87 : decode cX4_forebears 87 = .ok (.iload 4, 2) := by decide +kernel
theorem dX4_forebears_89 : decode cX4_forebears 89 = .ok (.iaload, 1) := by decide +kernel
theorem dX4_forebears_90 : decode cX4_forebears 90 = .ok (.lshl, 1) := by decide +kernel
theorem dX4_forebears_91 : decode cX4_forebears 91 = .ok (.lor, 1) := by decide +kernel
theorem dX4_forebears_92 : decode cX4_forebears 92 = .ok (.lstore_n 2, 1) := by decide +kernel
theorem dX4_forebears_93 : decode cX4_forebears 93 = .ok (.iinc 4 (-1), 3) := by decide +kernel
theorem dX4_forebears_96 : decode cX4_forebears 96 = .ok (.goto (-72), 3) := by decide +kernel
theorem dX4_forebears_99 : decode cX4_forebears 99 = .ok (.lload_n 2, 1) := by decide +kernel
theorem dX4_forebears_100 : decode cX4_forebears 100 = .ok (.lreturn, 1) := by decide +kernel
