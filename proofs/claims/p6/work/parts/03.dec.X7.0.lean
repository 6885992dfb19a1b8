theorem dX7_init_0 : decode cX7_init 0 = .ok (.aload_n 0, 1) := by decide +kernel
theorem dX7_init_1 : decode cX7_init 1 = .ok (.invokespecial 3, 3) := by decide +kernel
theorem dX7_init_4 : decode cX7_init 4 = .ok (.aload_n 0, 1) := by decide +kernel
theorem dX7_init_5 : decode cX7_init 5 = .ok (.sipush 401, 3) := by decide +kernel
theorem dX7_init_8 : decode cX7_init 8 = .ok (.newarray .int, 2) := by decide +kernel
theorem dX7_init_10 : decode cX7_init 10 = .ok (.putfield 11, 3) := by decide +kernel
theorem dX7_init_13 : decode cX7_init 13 = .ok (.aload_n 0, 1) := by decide +kernel
theorem dX7_init_14 : decode cX7_init 14 = .ok (.sipush 401, 3) := by decide +kernel
theorem dX7_init_17 : decode cX7_init 17 = .ok (.newarray .int, 2) := by decide +kernel
theorem dX7_init_19 : decode cX7_init 19 = .ok (.putfield 15, 3) := by decide +kernel
theorem dX7_init_22 : decode cX7_init 22 = .ok (.aload_n 0, 1) := by decide +kernel
theorem dX7_init_23 : decode cX7_init 23 = .ok (.iconst 0, 1) := by decide +kernel
theorem dX7_init_24 : decode cX7_init 24 = .ok (.putfield 18, 3) := by decide +kernel
theorem dX7_init_27 : decode cX7_init 27 = .ok (.return_, 1) := by decide +kernel
theorem dX7_isName_0 : decode cX7_isName 0 = .ok (.iload_n 0, 1) := by decide +kernel
theorem dX7_isName_1 : decode cX7_isName 1 = .ok (.bipush 100, 2) := by decide +kernel
theorem dX7_isName_3 : decode cX7_isName 3 = .ok (.if_icmp .lt 13, 3) := by decide +kernel
theorem dX7_isName_6 : decode cX7_isName 6 = .ok (.iload_n 0, 1) := by decide +kernel
theorem dX7_isName_7 : decode cX7_isName 7 = .ok (.bipush 107, 2) := by decide +kernel
theorem dX7_isName_9 : decode cX7_isName 9 = .ok (.if_icmp .gt 7, 3) := by decide +kernel
theorem dX7_isName_12 : decode cX7_isName 12 = .ok (.iconst 1, 1) := by decide +kernel
theorem dX7_isName_13 : decode cX7_isName 13 = .ok (.goto 4, 3) := by decide +kernel
theorem dX7_isName_16 : decode cX7_isName 16 = .ok (.iconst 0, 1) := by decide +kernel
theorem dX7_isName_17 : decode cX7_isName 17 = .ok (.ireturn, 1) := by decide +kernel
theorem dX7_isNumber_0 : decode cX7_isNumber 0 = .ok (.iload_n 0, 1) := by decide +kernel
theorem dX7_isNumber_1 : decode cX7_isNumber 1 = .ok (.sipush 1000, 3) := by decide +kernel
theorem dX7_isNumber_4 : decode cX7_isNumber 4 = .ok (.if_icmp .lt 7, 3) := by decide +kernel
theorem dX7_isNumber_7 : decode cX7_isNumber 7 = .ok (.iconst 1, 1) := by decide +kernel
theorem dX7_isNumber_8 : decode cX7_isNumber 8 = .ok (.goto 4, 3) := by decide +kernel
theorem dX7_isNumber_11 : decode cX7_isNumber 11 = .ok (.iconst 0, 1) := by decide +kernel
theorem dX7_isNumber_12 : decode cX7_isNumber 12 = .ok (.ireturn, 1) := by decide +kernel
theorem dX7_scan_0 : decode cX7_scan 0 = .ok (.aload_n 0, 1) := by decide +kernel
theorem dX7_scan_1 : decode cX7_scan 1 = .ok (.iconst 0, 1) := by decide +kernel
theorem dX7_scan_2 : decode cX7_scan 2 = .ok (.putfield 18, 3) := by decide +kernel
theorem dX7_scan_5 : decode cX7_scan 5 = .ok (.iload_n 2, 1) := by decide +kernel
theorem dX7_scan_6 : decode cX7_scan 6 = .ok (.aload_n 1, 1) := by decide +kernel
theorem dX7_scan_7 : decode cX7_scan 7 = .ok (.arraylength, 1) := by decide +kernel
theorem dX7_scan_8 : decode cX7_scan 8 = .ok (.invokestatic 22, 3) := by decide +kernel
theorem dX7_scan_11 : decode cX7_scan 11 = .ok (.istore_n 3, 1) := by decide +kernel
theorem dX7_scan_12 : decode cX7_scan 12 = .ok (.iconst 0, 1) := by decide +kernel
theorem dX7_scan_13 : decode cX7_scan 13 = .ok (.istore 4, 2) := by decide +kernel
theorem dX7_scan_15 : decode cX7_scan 15 = .ok (.iconst 0, 1) := by decide +kernel
theorem dX7_scan_16 : decode cX7_scan 16 = .ok (.istore 5, 2) := by decide +kernel
theorem dX7_scan_18 : decode cX7_scan 18 = .ok (.iload 5, 2) := by decide +kernel
theorem dX7_scan_20 : decode cX7_scan 20 = .ok (.sipush 400, 3) := by decide +kernel
theorem dX7_scan_23 : decode cX7_scan 23 = .ok (.if_icmp .ge 25, 3) := by decide +kernel
theorem dX7_scan_26 : decode cX7_scan 26 = .ok (.iload 4, 2) := by decide +kernel
theorem dX7_scan_28 : decode cX7_scan 28 = .ok (.iload_n 3, 1) := by decide +kernel
theorem dX7_scan_29 : decode cX7_scan 29 = .ok (.if_icmp .ge 19, 3) := by decide +kernel
theorem dX7_scan_32 : decode cX7_scan 32 = .ok (.aload_n 0, 1) := by decide +kernel
theorem dX7_scan_33 : decode cX7_scan 33 = .ok (.aload_n 1, 1) := by decide +kernel
theorem dX7_scan_34 : decode cX7_scan 34 = .ok (.iload 4, 2) := by decide +kernel
theorem dX7_scan_36 : decode cX7_scan 36 = .ok (.iload_n 3, 1) := by decide +kernel
theorem dX7_scan_37 : decode cX7_scan 37 = .ok (.invokevirtual 28, 3) := by decide +kernel
theorem dX7_scan_40 : decode cX7_scan 40 = .ok (.istore 4, 2) := by decide +kernel
theorem dX7_scan_42 : decode cX7_scan 42 = .ok (.iinc 5 1, 3) := by decide +kernel
theorem dX7_scan_45 : decode cX7_scan 45 = .ok (.goto (-27), 3) := by decide +kernel
theorem dX7_scan_48 : decode cX7_scan 48 = .ok (.aload_n 0, 1) := by decide +kernel
theorem dX7_scan_49 : decode cX7_scan 49 = .ok (.iconst 0, 1) := by decide +kernel
theorem dX7_scan_50 : decode cX7_scan 50 = .ok (.iload_n 3, 1) := by decide +kernel
theorem dX7_scan_51 : decode cX7_scan 51 = .ok (.invokevirtual 32, 3) := by decide +kernel
theorem dX7_scan_54 : decode cX7_scan 54 = .ok (.return_, 1) := by decide +kernel
theorem dX7_put_0 : decode cX7_put 0 = .ok (.aload_n 0, 1) := by decide +kernel
theorem dX7_put_1 : decode cX7_put 1 = .ok (.getfield 18, 3) := by decide +kernel
theorem dX7_put_4 : decode cX7_put 4 = .ok (.sipush 401, 3) := by decide +kernel
theorem dX7_put_7 : decode cX7_put 7 = .ok (.if_icmp .ge 33, 3) := by decide +kernel
theorem dX7_put_10 : decode cX7_put 10 = .ok (.aload_n 0, 1) := by decide +kernel
theorem dX7_put_11 : decode cX7_put 11 = .ok (.getfield 11, 3) := by decide +kernel
theorem dX7_put_14 : decode cX7_put 14 = .ok (.aload_n 0, 1) := by decide +kernel
theorem dX7_put_15 : decode cX7_put 15 = .ok (.getfield 18, 3) := by decide +kernel
theorem dX7_put_18 : decode cX7_put 18 = .ok (.iload_n 1, 1) := by decide +kernel
theorem dX7_put_19 : decode cX7_put 19 = .ok (.iastore, 1) := by decide +kernel
theorem dX7_put_20 : decode cX7_put 20 = .ok (.aload_n 0, 1) := by decide +kernel
theorem dX7_put_21 : decode cX7_put 21 = .ok (.getfield 15, 3) := by decide +kernel
theorem dX7_put_24 : decode cX7_put 24 = .ok (.aload_n 0, 1) := by decide +kernel
theorem dX7_put_25 : decode cX7_put 25 = .ok (.getfield 18, 3) := by decide +kernel
theorem dX7_put_28 : decode cX7_put 28 = .ok (.iload_n 2, 1) := by decide +kernel
theorem dX7_put_29 : decode cX7_put 29 = .ok (.iastore, 1) := by decide +kernel
theorem dX7_put_30 : decode cX7_put 30 = .ok (.aload_n 0, 1) := by decide +kernel
theorem dX7_put_31 : decode cX7_put 31 = .ok (.dup, 1) := by decide +kernel
theorem dX7_put_32 : decode cX7_put 32 = .ok (.getfield 18, 3) := by decide +kernel
theorem dX7_put_35 : decode cX7_put 35 = .ok (.iconst 1, 1) := by decide +kernel
theorem dX7_put_36 : decode cX7_put 36 = .ok (.iadd, 1) := by decide +kernel
theorem dX7_put_37 : decode cX7_put 37 = .ok (.putfield 18, 3) := by decide +kernel
theorem dX7_put_40 : decode cX7_put 40 = .ok (.return_, 1) := by decide +kernel
theorem dX7_scanOne_0 : decode cX7_scanOne 0 = .ok (.aload_n 1, 1) := by decide +kernel
theorem dX7_scanOne_1 : decode cX7_scanOne 1 = .ok (.iload_n 2, 1) := by decide +kernel
theorem dX7_scanOne_2 : decode cX7_scanOne 2 = .ok (.baload, 1) := by decide +kernel
theorem dX7_scanOne_3 : decode cX7_scanOne 3 = .ok (.istore 4, 2) := by decide +kernel
theorem dX7_scanOne_5 : decode cX7_scanOne 5 = .ok (.iload 4, 2) := by decide +kernel
theorem dX7_scanOne_7 : decode cX7_scanOne 7 = .ok (.bipush 32, 2) := by decide +kernel
theorem dX7_scanOne_9 : decode cX7_scanOne 9 = .ok (.if_icmp .eq 10, 3) := by decide +kernel
theorem dX7_scanOne_12 : decode cX7_scanOne 12 = .ok (.iload 4, 2) := by decide +kernel
theorem dX7_scanOne_14 : decode cX7_scanOne 14 = .ok (.bipush 10, 2) := by decide +kernel
theorem dX7_scanOne_16 : decode cX7_scanOne 16 = .ok (.if_icmp .ne 7, 3) := by decide +kernel
theorem dX7_scanOne_19 : decode cX7_scanOne 19 = .ok (.iload_n 2, 1) := by decide +kernel
theorem dX7_scanOne_20 : decode cX7_scanOne 20 = .ok (.iconst 1, 1) := by decide +kernel
theorem dX7_scanOne_21 : decode cX7_scanOne 21 = .ok (.iadd, 1) := by decide +kernel
theorem dX7_scanOne_22 : decode cX7_scanOne 22 = .ok (.ireturn, 1) := by decide +kernel
theorem dX7_scanOne_23 : decode cX7_scanOne 23 = .ok (.iload 4, 2) := by decide +kernel
theorem dX7_scanOne_25 : decode cX7_scanOne 25 = .ok (.invokestatic 36, 3) := by decide +kernel
theorem dX7_scanOne_28 : decode cX7_scanOne 28 = .ok (.ifCond .eq 26, 3) := by decide +kernel
theorem dX7_scanOne_31 : decode cX7_scanOne 31 = .ok (.aload_n 1, 1) := by decide +kernel
theorem dX7_scanOne_32 : decode cX7_scanOne 32 = .ok (.iload_n 2, 1) := by decide +kernel
theorem dX7_scanOne_33 : decode cX7_scanOne 33 = .ok (.iload_n 3, 1) := by decide +kernel
theorem dX7_scanOne_34 : decode cX7_scanOne 34 = .ok (.invokestatic 40, 3) := by decide +kernel
theorem dX7_scanOne_37 : decode cX7_scanOne 37 = .ok (.istore 5, 2) := by decide +kernel
theorem dX7_scanOne_39 : decode cX7_scanOne 39 = .ok (.aload_n 0, 1) := by decide +kernel
theorem dX7_scanOne_40 : decode cX7_scanOne 40 = .ok (.aload_n 1, 1) := by decide +kernel
theorem dX7_scanOne_41 : decode cX7_scanOne 41 = .ok (.iload_n 2, 1) := by decide +kernel
theorem dX7_scanOne_42 : decode cX7_scanOne 42 = .ok (.iload 5, 2) := by decide +kernel
theorem dX7_scanOne_44 : decode cX7_scanOne 44 = .ok (.invokestatic 43, 3) := by decide +kernel
theorem dX7_scanOne_47 : decode cX7_scanOne 47 = .ok (.iload_n 2, 1) := by decide +kernel
theorem dX7_scanOne_48 : decode cX7_scanOne 48 = .ok (.invokevirtual 32, 3) := by decide +kernel
theorem dX7_scanOne_51 : decode cX7_scanOne 51 = .ok (.iload 5, 2) := by decide +kernel
theorem dX7_scanOne_53 : decode cX7_scanOne 53 = .ok (.ireturn, 1) := by decide +kernel
theorem dX7_scanOne_54 : decode cX7_scanOne 54 = .ok (.iload 4, 2) := by decide +kernel
theorem dX7_scanOne_56 : decode cX7_scanOne 56 = .ok (.invokestatic 46, 3) := by decide +kernel
theorem dX7_scanOne_59 : decode cX7_scanOne 59 = .ok (.ifCond .eq 26, 3) := by decide +kernel
theorem dX7_scanOne_62 : decode cX7_scanOne 62 = .ok (.aload_n 1, 1) := by decide +kernel
theorem dX7_scanOne_63 : decode cX7_scanOne 63 = .ok (.iload_n 2, 1) := by decide +kernel
theorem dX7_scanOne_64 : decode cX7_scanOne 64 = .ok (.iload_n 3, 1) := by decide +kernel
theorem dX7_scanOne_65 : decode cX7_scanOne 65 = .ok (.invokestatic 49, 3) := by decide +kernel
theorem dX7_scanOne_68 : decode cX7_scanOne 68 = .ok (.istore 5, 2) := by decide +kernel
theorem dX7_scanOne_70 : decode cX7_scanOne 70 = .ok (.aload_n 0, 1) := by decide +kernel
theorem dX7_scanOne_71 : decode cX7_scanOne 71 = .ok (.aload_n 1, 1) := by decide +kernel
theorem dX7_scanOne_72 : decode cX7_scanOne 72 = .ok (.iload_n 2, 1) := by decide +kernel
theorem dX7_scanOne_73 : decode cX7_scanOne 73 = .ok (.iload 5, 2) := by decide +kernel
theorem dX7_scanOne_75 : decode cX7_scanOne 75 = .ok (.invokestatic 52, 3) := by decide +kernel
theorem dX7_scanOne_78 : decode cX7_scanOne 78 = .ok (.iload_n 2, 1) := by decide +kernel
theorem dX7_scanOne_79 : decode cX7_scanOne 79 = .ok (.invokevirtual 32, 3) := by decide +kernel
theorem dX7_scanOne_82 : decode cX7_scanOne 82 = .ok (.iload 5, 2) := by decide +kernel
theorem dX7_scanOne_84 : decode cX7_scanOne 84 = .ok (.ireturn, 1) := by decide +kernel
theorem dX7_scanOne_85 : decode cX7_scanOne 85 = .ok (.aload_n 0, 1) := by decide +kernel
theorem dX7_scanOne_86 : decode cX7_scanOne 86 = .ok (.iload 4, 2) := by decide +kernel
theorem dX7_scanOne_88 : decode cX7_scanOne 88 = .ok (.invokestatic 55, 3) := by decide +kernel
theorem dX7_scanOne_91 : decode cX7_scanOne 91 = .ok (.ifCond .eq 8, 3) := by decide +kernel
theorem dX7_scanOne_94 : decode cX7_scanOne 94 = .ok (.iload 4, 2) := by decide +kernel
theorem dX7_scanOne_96 : decode cX7_scanOne 96 = .ok (.goto 4, 3) := by decide +kernel
theorem dX7_scanOne_99 : decode cX7_scanOne 99 = .ok (.iconst 1, 1) := by decide +kernel
theorem dX7_scanOne_100 : decode cX7_scanOne 100 = .ok (.iload_n 2, 1) := by decide +kernel
theorem dX7_scanOne_101 : decode cX7_scanOne 101 = .ok (.invokevirtual 32, 3) := by decide +kernel
theorem dX7_scanOne_104 : decode cX7_scanOne 104 = .ok (.iload_n 2, 1) := by decide +kernel
theorem dX7_scanOne_105 : decode cX7_scanOne 105 = .ok (.iconst 1, 1) := by decide +kernel
theorem dX7_scanOne_106 : decode cX7_scanOne 106 = .ok (.iadd, 1) := by decide +kernel
theorem dX7_scanOne_107 : decode cX7_scanOne 107 = .ok (.ireturn, 1) := by decide +kernel
theorem dX7_isLetter_0 : decode cX7_isLetter 0 = .ok (.iload_n 0, 1) := by decide +kernel
theorem dX7_isLetter_1 : decode cX7_isLetter 1 = .ok (.bipush 97, 2) := by decide +kernel
theorem dX7_isLetter_3 : decode cX7_isLetter 3 = .ok (.if_icmp .lt 13, 3) := by decide +kernel
theorem dX7_isLetter_6 : decode cX7_isLetter 6 = .ok (.iload_n 0, 1) := by decide +kernel
theorem dX7_isLetter_7 : decode cX7_isLetter 7 = .ok (.bipush 122, 2) := by decide +kernel
theorem dX7_isLetter_9 : decode cX7_isLetter 9 = .ok (.if_icmp .gt 7, 3) := by decide +kernel
theorem dX7_isLetter_12 : decode cX7_isLetter 12 = .ok (.iconst 1, 1) := by decide +kernel
theorem dX7_isLetter_13 : decode cX7_isLetter 13 = .ok (.goto 4, 3) := by decide +kernel
theorem dX7_isLetter_16 : decode cX7_isLetter 16 = .ok (.iconst 0, 1) := by decide +kernel
theorem dX7_isLetter_17 : decode cX7_isLetter 17 = .ok (.ireturn, 1) := by decide +kernel
theorem dX7_isDigit_0 : decode cX7_isDigit 0 = .ok (.iload_n 0, 1) := by decide +kernel
theorem dX7_isDigit_1 : decode cX7_isDigit 1 = .ok (.bipush 48, 2) := by decide +kernel
theorem dX7_isDigit_3 : decode cX7_isDigit 3 = .ok (.if_icmp .lt 13, 3) := by decide +kernel
theorem dX7_isDigit_6 : decode cX7_isDigit 6 = .ok (.iload_n 0, 1) := by decide +kernel
theorem dX7_isDigit_7 : decode cX7_isDigit 7 = .ok (.bipush 57, 2) := by decide +kernel
theorem dX7_isDigit_9 : decode cX7_isDigit 9 = .ok (.if_icmp .gt 7, 3) := by decide +kernel
theorem dX7_isDigit_12 : decode cX7_isDigit 12 = .ok (.iconst 1, 1) := by decide +kernel
theorem dX7_isDigit_13 : decode cX7_isDigit 13 = .ok (.goto 4, 3) := by decide +kernel
theorem dX7_isDigit_16 : decode cX7_isDigit 16 = .ok (.iconst 0, 1) := by decide +kernel
theorem dX7_isDigit_17 : decode cX7_isDigit 17 = .ok (.ireturn, 1) := by decide +kernel
theorem dX7_isSign_0 : decode cX7_isSign 0 = .ok (.iload_n 0, 1) := by decide +kernel
theorem dX7_isSign_1 : decode cX7_isSign 1 = .ok (.bipush 40, 2) := by decide +kernel
theorem dX7_isSign_3 : decode cX7_isSign 3 = .ok (.if_icmp .eq 39, 3) := by decide +kernel
theorem dX7_isSign_6 : decode cX7_isSign 6 = .ok (.iload_n 0, 1) := by decide +kernel
theorem dX7_isSign_7 : decode cX7_isSign 7 = .ok (.bipush 41, 2) := by decide +kernel
theorem dX7_isSign_9 : decode cX7_isSign 9 = .ok (.if_icmp .eq 33, 3) := by decide +kernel
theorem dX7_isSign_12 : decode cX7_isSign 12 = .ok (.iload_n 0, 1) := by decide +kernel
theorem dX7_isSign_13 : decode cX7_isSign 13 = .ok (.bipush 59, 2) := by decide +kernel
theorem dX7_isSign_15 : decode cX7_isSign 15 = .ok (.if_icmp .eq 27, 3) := by decide +kernel
theorem dX7_isSign_18 : decode cX7_isSign 18 = .ok (.iload_n 0, 1) := by decide +kernel
theorem dX7_isSign_19 : decode cX7_isSign 19 = .ok (.bipush 43, 2) := by decide +kernel
theorem dX7_isSign_21 : decode cX7_isSign 21 = .ok (.if_icmp .eq 21, 3) := by decide +kernel
theorem dX7_isSign_24 : decode cX7_isSign 24 = .ok (.iload_n 0, 1) := by decide +kernel
theorem dX7_isSign_25 : decode cX7_isSign 25 = .ok (.bipush 45, 2) := by decide +kernel
theorem dX7_isSign_27 : decode cX7_isSign 27 = .ok (.if_icmp .eq 15, 3) := by decide +kernel
theorem dX7_isSign_30 : decode cX7_isSign 30 = .ok (.iload_n 0, 1) := by decide +kernel
theorem dX7_isSign_31 : decode cX7_isSign 31 = .ok (.bipush 60, 2) := by decide +kernel
theorem dX7_isSign_33 : decode cX7_isSign 33 = .ok (.if_icmp .eq 9, 3) := by decide +kernel
theorem dX7_isSign_36 : decode cX7_isSign 36 = .ok (.iload_n 0, 1) := by decide +kernel
theorem dX7_isSign_37 : decode cX7_isSign 37 = .ok (.bipush 61, 2) := by decide +kernel
theorem dX7_isSign_39 : decode cX7_isSign 39 = .ok (.if_icmp .ne 7, 3) := by decide +kernel
theorem dX7_isSign_42 : decode cX7_isSign 42 = .ok (.iconst 1, 1) := by decide +kernel
theorem dX7_isSign_43 : decode cX7_isSign 43 = .ok (.goto 4, 3) := by decide +kernel
theorem dX7_isSign_46 : decode cX7_isSign 46 = .ok (.iconst 0, 1) := by decide +kernel
theorem dX7_isSign_47 : decode cX7_isSign 47 = .ok (.ireturn, 1) := by decide +kernel
theorem dX7_behindLetters_0 : decode cX7_behindLetters 0 = .ok (.iload_n 1, 1) := by decide +kernel
theorem dX7_behindLetters_1 : decode cX7_behindLetters 1 = .ok (.istore_n 3, 1) := by decide +kernel
theorem dX7_behindLetters_2 : decode cX7_behindLetters 2 = .ok (.iload_n 3, 1) := by decide +kernel
theorem dX7_behindLetters_3 : decode cX7_behindLetters 3 = .ok (.iload_n 2, 1) := by decide +kernel
theorem dX7_behindLetters_4 : decode cX7_behindLetters 4 = .ok (.if_icmp .ge 18, 3) := by decide +kernel
theorem dX7_behindLetters_7 : decode cX7_behindLetters 7 = .ok (.aload_n 0, 1) := by decide +kernel
theorem dX7_behindLetters_8 : decode cX7_behindLetters 8 = .ok (.iload_n 3, 1) := by decide +kernel
theorem dX7_behindLetters_9 : decode cX7_behindLetters 9 = .ok (.baload, 1) := by decide +kernel
theorem dX7_behindLetters_10 : decode cX7_behindLetters 10 = .ok (.invokestatic 36, 3) := by decide +kernel
theorem dX7_behindLetters_13 : decode cX7_behindLetters 13 = .ok (.ifCond .eq 9, 3) := by decide +kernel
theorem dX7_behindLetters_16 : decode cX7_behindLetters 16 = .ok (.iinc 3 1, 3) := by decide +kernel
theorem dX7_behindLetters_19 : decode cX7_behindLetters 19 = .ok (.goto (-17), 3) := by decide +kernel
theorem dX7_behindLetters_22 : decode cX7_behindLetters 22 = .ok (.iload_n 3, 1) := by decide +kernel
theorem dX7_behindLetters_23 : decode cX7_behindLetters 23 = .ok (.ireturn, 1) := by decide +kernel
theorem dX7_behindDigits_0 : decode cX7_behindDigits 0 = .ok (.iload_n 1, 1) := by decide +kernel
theorem dX7_behindDigits_1 : decode cX7_behindDigits 1 = .ok (.istore_n 3, 1) := by decide +kernel
theorem dX7_behindDigits_2 : decode cX7_behindDigits 2 = .ok (.iload_n 3, 1) := by decide +kernel
theorem dX7_behindDigits_3 : decode cX7_behindDigits 3 = .ok (.iload_n 2, 1) := by decide +kernel
theorem dX7_behindDigits_4 : decode cX7_behindDigits 4 = .ok (.if_icmp .ge 18, 3) := by decide +kernel
theorem dX7_behindDigits_7 : decode cX7_behindDigits 7 = .ok (.aload_n 0, 1) := by decide +kernel
theorem dX7_behindDigits_8 : decode cX7_behindDigits 8 = .ok (.iload_n 3, 1) := by decide +kernel
theorem dX7_behindDigits_9 : decode cX7_behindDigits 9 = .ok (.baload, 1) := by decide +kernel
theorem dX7_behindDigits_10 : decode cX7_behindDigits 10 = .ok (.invokestatic 46, 3) := by decide +kernel
theorem dX7_behindDigits_13 : decode cX7_behindDigits 13 = .ok (.ifCond .eq 9, 3) := by decide +kernel
theorem dX7_behindDigits_16 : decode cX7_behindDigits 16 = .ok (.iinc 3 1, 3) := by decide +kernel
theorem dX7_behindDigits_19 : decode cX7_behindDigits 19 = .ok (.goto (-17), 3) := by decide +kernel
theorem dX7_behindDigits_22 : decode cX7_behindDigits 22 = .ok (.iload_n 3, 1) := by decide +kernel
theorem dX7_behindDigits_23 : decode cX7_behindDigits 23 = .ok (.ireturn, 1) := by decide +kernel
theorem dX7_numberToken_0 : decode cX7_numberToken 0 = .ok (.iload_n 2, 1) := by decide +kernel
theorem dX7_numberToken_1 : decode cX7_numberToken 1 = .ok (.iload_n 1, 1) := by decide +kernel
theorem dX7_numberToken_2 : decode cX7_numberToken 2 = .ok (.isub, 1) := by decide +kernel
theorem dX7_numberToken_3 : decode cX7_numberToken 3 = .ok (.iconst 4, 1) := by decide +kernel
theorem dX7_numberToken_4 : decode cX7_numberToken 4 = .ok (.if_icmp .le 5, 3) := by decide +kernel
theorem dX7_numberToken_7 : decode cX7_numberToken 7 = .ok (.iconst 2, 1) := by decide +kernel
theorem dX7_numberToken_8 : decode cX7_numberToken 8 = .ok (.ireturn, 1) := by decide +kernel
theorem dX7_numberToken_9 : decode cX7_numberToken 9 = .ok (.iconst 0, 1) := by decide +kernel
theorem dX7_numberToken_10 : decode cX7_numberToken 10 = .ok (.istore_n 3, 1) := by decide +kernel
theorem dX7_numberToken_11 : decode cX7_numberToken 11 = .ok (.iload_n 1, 1) := by decide +kernel
theorem dX7_numberToken_12 : decode cX7_numberToken 12 = .ok (.istore 4, 2) := by decide +kernel
theorem dX7_numberToken_14 : decode cX7_numberToken 14 = .ok (.iload 4, 2) := by decide +kernel
theorem dX7_numberToken_16 : decode cX7_numberToken 16 = .ok (.iload_n 2, 1) := by decide +kernel
theorem dX7_numberToken_17 : decode cX7_numberToken 17 = .ok (.if_icmp .ge 22, 3) := by decide +kernel
theorem dX7_numberToken_20 : decode cX7_numberToken 20 = .ok (.iload_n 3, 1) := by decide +kernel
theorem dX7_numberToken_21 : decode cX7_numberToken 21 = .ok (.bipush 10, 2) := by decide +kernel
theorem dX7_numberToken_23 : decode cX7_numberToken 23 = .ok (.imul, 1) := by decide +kernel
theorem dX7_numberToken_24 : decode cX7_numberToken 24 = .ok (.aload_n 0, 1) := by decide +kernel
theorem dX7_numberToken_25 : decode cX7_numberToken 25 = .ok (.iload 4, 2) := by decide +kernel
theorem dX7_numberToken_27 : decode cX7_numberToken 27 = .ok (.baload, 1) := by decide +kernel
theorem dX7_numberToken_28 : decode cX7_numberToken 28 = .ok (.bipush 48, 2) := by decide +kernel
theorem dX7_numberToken_30 : decode cX7_numberToken 30 = .ok (.isub, 1) := by decide +kernel
theorem dX7_numberToken_31 : decode cX7_numberToken 31 = .ok (.iadd, 1) := by decide +kernel
theorem dX7_numberToken_32 : decode cX7_numberToken 32 = .ok (.istore_n 3, 1) := by decide +kernel
theorem dX7_numberToken_33 : decode cX7_numberToken 33 = .ok (.iinc 4 1, 3) := by decide +kernel
theorem dX7_numberToken_36 : decode cX7_numberToken 36 = .ok (.goto (-22), 3) := by decide +kernel
theorem dX7_numberToken_39 : decode cX7_numberToken 39 = .ok (.sipush 1000, 3) := by decide +kernel
theorem dX7_numberToken_42 : decode cX7_numberToken 42 = .ok (.iload_n 3, 1) := by decide +kernel
theorem dX7_numberToken_43 : decode cX7_numberToken 43 = .ok (.iadd, 1) := by decide +kernel
theorem dX7_numberToken_44 : decode cX7_numberToken 44 = .ok (.ireturn, 1) := by decide +kernel
theorem dX7_wordToken_0 : decode cX7_wordToken 0 = .ok (.aload_n 0, 1) := by decide +kernel
theorem dX7_wordToken_1 : decode cX7_wordToken 1 = .ok (.iload_n 1, 1) := by decide +kernel
theorem dX7_wordToken_2 : decode cX7_wordToken 2 = .ok (.iload_n 2, 1) := by decide +kernel
theorem dX7_wordToken_3 : decode cX7_wordToken 3 = .ok (.ldc 58, 2) := by decide +kernel
theorem dX7_wordToken_5 : decode cX7_wordToken 5 = .ok (.invokestatic 60, 3) := by decide +kernel
theorem dX7_wordToken_8 : decode cX7_wordToken 8 = .ok (.ifCond .eq 5, 3) := by decide +kernel
theorem dX7_wordToken_11 : decode cX7_wordToken 11 = .ok (.iconst 4, 1) := by decide +kernel
theorem dX7_wordToken_12 : decode cX7_wordToken 12 = .ok (.ireturn, 1) := by decide +kernel
theorem dX7_wordToken_13 : decode cX7_wordToken 13 = .ok (.aload_n 0, 1) := by decide +kernel
theorem dX7_wordToken_14 : decode cX7_wordToken 14 = .ok (.iload_n 1, 1) := by decide +kernel
theorem dX7_wordToken_15 : decode cX7_wordToken 15 = .ok (.iload_n 2, 1) := by decide +kernel
theorem dX7_wordToken_16 : decode cX7_wordToken 16 = .ok (.ldc 64, 2) := by decide +kernel
theorem dX7_wordToken_18 : decode cX7_wordToken 18 = .ok (.invokestatic 60, 3) := by decide +kernel
theorem dX7_wordToken_21 : decode cX7_wordToken 21 = .ok (.ifCond .eq 5, 3) := by decide +kernel
theorem dX7_wordToken_24 : decode cX7_wordToken 24 = .ok (.iconst 5, 1) := by decide +kernel
theorem dX7_wordToken_25 : decode cX7_wordToken 25 = .ok (.ireturn, 1) := by decide +kernel
theorem dX7_wordToken_26 : decode cX7_wordToken 26 = .ok (.aload_n 0, 1) := by decide +kernel
theorem dX7_wordToken_27 : decode cX7_wordToken 27 = .ok (.iload_n 1, 1) := by decide +kernel
theorem dX7_wordToken_28 : decode cX7_wordToken 28 = .ok (.iload_n 2, 1) := by decide +kernel
theorem dX7_wordToken_29 : decode cX7_wordToken 29 = .ok (.ldc 66, 2) := by decide +kernel
theorem dX7_wordToken_31 : decode cX7_wordToken 31 = .ok (.invokestatic 60, 3) := by decide +kernel
theorem dX7_wordToken_34 : decode cX7_wordToken 34 = .ok (.ifCond .eq 6, 3) := by decide +kernel
theorem dX7_wordToken_37 : decode cX7_wordToken 37 = .ok (.bipush 6, 2) := by decide +kernel
theorem dX7_wordToken_39 : decode cX7_wordToken 39 = .ok (.ireturn, 1) := by decide +kernel
theorem dX7_wordToken_40 : decode cX7_wordToken 40 = .ok (.aload_n 0, 1) := by decide +kernel
theorem dX7_wordToken_41 : decode cX7_wordToken 41 = .ok (.iload_n 1, 1) := by decide +kernel
theorem dX7_wordToken_42 : decode cX7_wordToken 42 = .ok (.iload_n 2, 1) := by decide +kernel
theorem dX7_wordToken_43 : decode cX7_wordToken 43 = .ok (.ldc 68, 2) := by decide +kernel
theorem dX7_wordToken_45 : decode cX7_wordToken 45 = .ok (.invokestatic 60, 3) := by decide +kernel
theorem dX7_wordToken_48 : decode cX7_wordToken 48 = .ok (.ifCond .eq 6, 3) := by decide +kernel
theorem dX7_wordToken_51 : decode cX7_wordToken 51 = .ok (.bipush 7, 2) := by decide +kernel
theorem dX7_wordToken_53 : decode cX7_wordToken 53 = .ok (.ireturn, 1) := by decide +kernel
theorem dX7_wordToken_54 : decode cX7_wordToken 54 = .ok (.aload_n 0, 1) := by decide +kernel
theorem dX7_wordToken_55 : decode cX7_wordToken 55 = .ok (.iload_n 1, 1) := by decide +kernel
theorem dX7_wordToken_56 : decode cX7_wordToken 56 = .ok (.iload_n 2, 1) := by decide +kernel
theorem dX7_wordToken_57 : decode cX7_wordToken 57 = .ok (.ldc 70, 2) := by decide +kernel
theorem dX7_wordToken_59 : decode cX7_wordToken 59 = .ok (.invokestatic 60, 3) := by decide +kernel
theorem dX7_wordToken_62 : decode cX7_wordToken 62 = .ok (.ifCond .eq 6, 3) := by decide +kernel
theorem dX7_wordToken_65 : decode cX7_wordToken 65 = .ok (.bipush 8, 2) := by decide +kernel
theorem dX7_wordToken_67 : decode cX7_wordToken 67 = .ok (.ireturn, 1) := by decide +kernel
theorem dX7_wordToken_68 : decode cX7_wordToken 68 = .ok (.aload_n 0, 1) := by decide +kernel
theorem dX7_wordToken_69 : decode cX7_wordToken 69 = .ok (.iload_n 1, 1) := by decide +kernel
theorem dX7_wordToken_70 : decode cX7_wordToken 70 = .ok (.iload_n 2, 1) := by decide +kernel
theorem dX7_wordToken_71 : decode cX7_wordToken 71 = .ok (.ldc 72, 2) := by decide +kernel
theorem dX7_wordToken_73 : decode cX7_wordToken 73 = .ok (.invokestatic 60, 3) := by decide +kernel
theorem dX7_wordToken_76 : decode cX7_wordToken 76 = .ok (.ifCond .eq 8, 3) := by decide +kernel
theorem dX7_wordToken_79 : decode cX7_wordToken 79 = .ok (.bipush 9, 2) := by decide +kernel
theorem dX7_wordToken_81 : decode cX7_wordToken 81 = .ok (.goto 9, 3) := by decide +kernel
theorem dX7_wordToken_84 : decode cX7_wordToken 84 = .ok (.aload_n 0, 1) := by decide +kernel
theorem dX7_wordToken_85 : decode cX7_wordToken 85 = .ok (.iload_n 1, 1) := by decide +kernel
theorem dX7_wordToken_86 : decode cX7_wordToken 86 = .ok (.iload_n 2, 1) := by decide +kernel
theorem dX7_wordToken_87 : decode cX7_wordToken 87 = .ok (.invokestatic 74, 3) := by decide +kernel
theorem dX7_wordToken_90 : decode cX7_wordToken 90 = .ok (.ireturn, 1) := by decide +kernel
theorem dX7_nameToken_0 : decode cX7_nameToken 0 = .ok (.aload_n 0, 1) := by decide +kernel
theorem dX7_nameToken_1 : decode cX7_nameToken 1 = .ok (.iload_n 1, 1) := by decide +kernel
theorem dX7_nameToken_2 : decode cX7_nameToken 2 = .ok (.iload_n 2, 1) := by decide +kernel
theorem dX7_nameToken_3 : decode cX7_nameToken 3 = .ok (.ldc 77, 2) := by decide +kernel
theorem dX7_nameToken_5 : decode cX7_nameToken 5 = .ok (.invokestatic 60, 3) := by decide +kernel
theorem dX7_nameToken_8 : decode cX7_nameToken 8 = .ok (.ifCond .eq 6, 3) := by decide +kernel
theorem dX7_nameToken_11 : decode cX7_nameToken 11 = .ok (.bipush 100, 2) := by decide +kernel
theorem dX7_nameToken_13 : decode cX7_nameToken 13 = .ok (.ireturn, 1) := by decide +kernel
theorem dX7_nameToken_14 : decode cX7_nameToken 14 = .ok (.aload_n 0, 1) := by decide +kernel
theorem dX7_nameToken_15 : decode cX7_nameToken 15 = .ok (.iload_n 1, 1) := by decide +kernel
theorem dX7_nameToken_16 : decode cX7_nameToken 16 = .ok (.iload_n 2, 1) := by decide +kernel
theorem dX7_nameToken_17 : decode cX7_nameToken 17 = .ok (.ldc 79, 2) := by decide +kernel
theorem dX7_nameToken_19 : decode cX7_nameToken 19 = .ok (.invokestatic 60, 3) := by decide +kernel
theorem dX7_nameToken_22 : decode cX7_nameToken 22 = .ok (.ifCond .eq 6, 3) := by decide +kernel
theorem dX7_nameToken_25 : decode cX7_nameToken 25 = .ok (.bipush 101, 2) := by decide +kernel
theorem dX7_nameToken_27 : decode cX7_nameToken 27 = .ok (.ireturn, 1) := by decide +kernel
theorem dX7_nameToken_28 : decode cX7_nameToken 28 = .ok (.aload_n 0, 1) := by decide +kernel
theorem dX7_nameToken_29 : decode cX7_nameToken 29 = .ok (.iload_n 1, 1) := by decide +kernel
theorem dX7_nameToken_30 : decode cX7_nameToken 30 = .ok (.iload_n 2, 1) := by decide +kernel
theorem dX7_nameToken_31 : decode cX7_nameToken 31 = .ok (.ldc 81, 2) := by decide +kernel
theorem dX7_nameToken_33 : decode cX7_nameToken 33 = .ok (.invokestatic 60, 3) := by decide +kernel
theorem dX7_nameToken_36 : decode cX7_nameToken 36 = .ok (.ifCond .eq 6, 3) := by decide +kernel
theorem dX7_nameToken_39 : decode cX7_nameToken 39 = .ok (.bipush 102, 2) := by decide +kernel
theorem dX7_nameToken_41 : decode cX7_nameToken 41 = .ok (.ireturn, 1) := by decide +kernel
theorem dX7_nameToken_42 : decode cX7_nameToken 42 = .ok (.aload_n 0, 1) := by decide +kernel
theorem dX7_nameToken_43 : decode cX7_nameToken 43 = .ok (.iload_n 1, 1) := by decide +kernel
theorem dX7_nameToken_44 : decode cX7_nameToken 44 = .ok (.iload_n 2, 1) := by decide +kernel
theorem dX7_nameToken_45 : decode cX7_nameToken 45 = .ok (.ldc 83, 2) := by decide +kernel
theorem dX7_nameToken_47 : decode cX7_nameToken 47 = .ok (.invokestatic 60, 3) := by decide +kernel
theorem dX7_nameToken_50 : decode cX7_nameToken 50 = .ok (.ifCond .eq 6, 3) := by decide +kernel
theorem dX7_nameToken_53 : decode cX7_nameToken 53 = .ok (.bipush 103, 2) := by decide +kernel
theorem dX7_nameToken_55 : decode cX7_nameToken 55 = .ok (.ireturn, 1) := by decide +kernel
theorem dX7_nameToken_56 : decode cX7_nameToken 56 = .ok (.aload_n 0, 1) := by decide +kernel
theorem dX7_nameToken_57 : decode cX7_nameToken 57 = .ok (.iload_n 1, 1) := by decide +kernel
theorem dX7_nameToken_58 : decode cX7_nameToken 58 = .ok (.iload_n 2, 1) := by decide +kernel
theorem dX7_nameToken_59 : decode cX7_nameToken 59 = .ok (.ldc 85, 2) := by decide +kernel
theorem dX7_nameToken_61 : decode cX7_nameToken 61 = .ok (.invokestatic 60, 3) := by decide +kernel
theorem dX7_nameToken_64 : decode cX7_nameToken 64 = .ok (.ifCond .eq 6, 3) := by decide +kernel
theorem dX7_nameToken_67 : decode cX7_nameToken 67 = .ok (.bipush 104, 2) := by decide +kernel
theorem dX7_nameToken_69 : decode cX7_nameToken 69 = .ok (.ireturn, 1) := by decide +kernel
theorem dX7_nameToken_70 : decode cX7_nameToken 70 = .ok (.aload_n 0, 1) := by decide +kernel
theorem dX7_nameToken_71 : decode cX7_nameToken 71 = .ok (.iload_n 1, 1) := by decide +kernel
theorem dX7_nameToken_72 : decode cX7_nameToken 72 = .ok (.iload_n 2, 1) := by decide +kernel
theorem dX7_nameToken_73 : decode cX7_nameToken 73 = .ok (.ldc 87, 2) := by decide +kernel
theorem dX7_nameToken_75 : decode cX7_nameToken 75 = .ok (.invokestatic 60, 3) := by decide +kernel
theorem dX7_nameToken_78 : decode cX7_nameToken 78 = .ok (.ifCond .eq 6, 3) := by decide +kernel
theorem dX7_nameToken_81 : decode cX7_nameToken 81 = .ok (.bipush 105, 2) := by decide +kernel
theorem dX7_nameToken_83 : decode cX7_nameToken 83 = .ok (.ireturn, 1) := by decide +kernel
theorem dX7_nameToken_84 : decode cX7_nameToken 84 = .ok (.aload_n 0, 1) := by decide +kernel
theorem dX7_nameToken_85 : decode cX7_nameToken 85 = .ok (.iload_n 1, 1) := by decide +kernel
theorem dX7_nameToken_86 : decode cX7_nameToken 86 = .ok (.iload_n 2, 1) := by decide +kernel
theorem dX7_nameToken_87 : decode cX7_nameToken 87 = .ok (.ldc 89, 2) := by decide +kernel
theorem dX7_nameToken_89 : decode cX7_nameToken 89 = .ok (.invokestatic 60, 3) := by decide +kernel
theorem dX7_nameToken_92 : decode cX7_nameToken 92 = .ok (.ifCond .eq 6, 3) := by decide +kernel
theorem dX7_nameToken_95 : decode cX7_nameToken 95 = .ok (.bipush 106, 2) := by decide +kernel
theorem dX7_nameToken_97 : decode cX7_nameToken 97 = .ok (.ireturn, 1) := by decide +kernel
theorem dX7_nameToken_98 : decode cX7_nameToken 98 = .ok (.aload_n 0, 1) := by decide +kernel
theorem dX7_nameToken_99 : decode cX7_nameToken 99 = .ok (.iload_n 1, 1) := by decide +kernel
theorem dX7_nameToken_100 : decode cX7_nameToken 100 = .ok (.iload_n 2, 1) := by decide +kernel
theorem dX7_nameToken_101 : decode cX7_nameToken 101 = .ok (.ldc 91, 2) := by decide +kernel
theorem dX7_nameToken_103 : decode cX7_nameToken 103 = .ok (.invokestatic 60, 3) := by decide +kernel
theorem dX7_nameToken_106 : decode cX7_nameToken 106 = .ok (.ifCond .eq 8, 3) := by decide +kernel
theorem dX7_nameToken_109 : decode cX7_nameToken 109 = .ok (.bipush 107, 2) := by decide +kernel
theorem dX7_nameToken_111 : decode cX7_nameToken 111 = .ok (.goto 4, 3) := by decide +kernel
theorem dX7_nameToken_114 : decode cX7_nameToken 114 = .ok (.iconst 3, 1) := by decide +kernel
theorem dX7_nameToken_115 : decode cX7_nameToken 115 = .ok (.ireturn, 1) := by decide +kernel
theorem dX7_spells_0 : decode cX7_spells 0 = .ok (.iload_n 2, 1) := by decide +kernel
theorem dX7_spells_1 : decode cX7_spells 1 = .ok (.iload_n 1, 1) := by decide +kernel
theorem dX7_spells_2 : decode cX7_spells 2 = .ok (.isub, 1) := by decide +kernel
theorem dX7_spells_3 : decode cX7_spells 3 = .ok (.aload_n 3, 1) := by decide +kernel
theorem dX7_spells_4 : decode cX7_spells 4 = .ok (.invokevirtual 93, 3) := by decide +kernel
theorem dX7_spells_7 : decode cX7_spells 7 = .ok (.if_icmp .eq 5, 3) := by decide +kernel
theorem dX7_spells_10 : decode cX7_spells 10 = .ok (.iconst 0, 1) := by decide +kernel
theorem dX7_spells_11 : decode cX7_spells 11 = .ok (.ireturn, 1) := by decide +kernel
theorem dX7_spells_12 : decode cX7_spells 12 = .ok (.iconst 0, 1) := by decide +kernel
theorem dX7_spells_13 : decode cX7_spells 13 = .ok (.istore 4, 2) := by decide +kernel
theorem dX7_spells_15 : decode cX7_spells 15 = .ok (.iload 4, 2) := by decide +kernel
theorem dX7_spells_17 : decode cX7_spells 17 = .ok (.aload_n 3, 1) := by decide +kernel
theorem dX7_spells_18 : decode cX7_spells 18 = .ok (.invokevirtual 93, 3) := by decide +kernel
theorem dX7_spells_21 : decode cX7_spells 21 = .ok (.if_icmp .ge 26, 3) := by decide +kernel
theorem dX7_spells_24 : decode cX7_spells 24 = .ok (.aload_n 0, 1) := by decide +kernel
theorem dX7_spells_25 : decode cX7_spells 25 = .ok (.iload_n 1, 1) := by decide +kernel
theorem dX7_spells_26 : decode cX7_spells 26 = .ok (.iload 4, 2) := by decide +kernel
theorem dX7_spells_28 : decode cX7_spells 28 = .ok (.iadd, 1) := by decide +kernel
theorem dX7_spells_29 : decode cX7_spells 29 = .ok (.baload, 1) := by decide +kernel
theorem dX7_spells_30 : decode cX7_spells 30 = .ok (.aload_n 3, 1) := by decide +kernel
theorem dX7_spells_31 : decode cX7_spells 31 = .ok (.iload 4, 2) := by decide +kernel
theorem dX7_spells_33 : decode cX7_spells 33 = .ok (.invokevirtual 99, 3) := by decide +kernel
theorem dX7_spells_36 : decode cX7_spells 36 = .ok (.if_icmp .eq 5, 3) := by decide +kernel
theorem dX7_spells_39 : decode cX7_spells 39 = .ok (.iconst 0, 1) := by decide +kernel
theorem dX7_spells_40 : decode cX7_spells 40 = .ok (.ireturn, 1) := by decide +kernel
theorem dX7_spells_41 : decode cX7_spells 41 = .ok (.iinc 4 1, 3) := by decide +kernel
theorem dX7_spells_44 : decode cX7_spells 44 = .ok (.goto (-29), 3) := by decide +kernel
theorem dX7_spells_47 : decode cX7_spells 47 = .ok (.iconst 1, 1) := by decide +kernel
theorem dX7_spells_48 : decode cX7_spells 48 = .ok (.ireturn, 1) := by decide +kernel
