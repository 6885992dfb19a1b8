theorem dX4_init_0 : decode cX4_init 0 = .ok (.aload_n 0, 1) := by decide +kernel
theorem dX4_init_1 : decode cX4_init 1 = .ok (.invokespecial 3, 3) := by decide +kernel
theorem dX4_init_4 : decode cX4_init 4 = .ok (.aload_n 0, 1) := by decide +kernel
theorem dX4_init_5 : decode cX4_init 5 = .ok (.bipush 60, 2) := by decide +kernel
theorem dX4_init_7 : decode cX4_init 7 = .ok (.newarray .boolean, 2) := by decide +kernel
theorem dX4_init_9 : decode cX4_init 9 = .ok (.putfield 11, 3) := by decide +kernel
theorem dX4_init_12 : decode cX4_init 12 = .ok (.aload_n 0, 1) := by decide +kernel
theorem dX4_init_13 : decode cX4_init 13 = .ok (.bipush 60, 2) := by decide +kernel
theorem dX4_init_15 : decode cX4_init 15 = .ok (.newarray .int, 2) := by decide +kernel
theorem dX4_init_17 : decode cX4_init 17 = .ok (.putfield 15, 3) := by decide +kernel
theorem dX4_init_20 : decode cX4_init 20 = .ok (.aload_n 0, 1) := by decide +kernel
theorem dX4_init_21 : decode cX4_init 21 = .ok (.bipush 60, 2) := by decide +kernel
theorem dX4_init_23 : decode cX4_init 23 = .ok (.newarray .int, 2) := by decide +kernel
theorem dX4_init_25 : decode cX4_init 25 = .ok (.putfield 19, 3) := by decide +kernel
theorem dX4_init_28 : decode cX4_init 28 = .ok (.aload_n 0, 1) := by decide +kernel
theorem dX4_init_29 : decode cX4_init 29 = .ok (.bipush 60, 2) := by decide +kernel
theorem dX4_init_31 : decode cX4_init 31 = .ok (.newarray .int, 2) := by decide +kernel
theorem dX4_init_33 : decode cX4_init 33 = .ok (.putfield 22, 3) := by decide +kernel
theorem dX4_init_36 : decode cX4_init 36 = .ok (.aload_n 0, 1) := by decide +kernel
theorem dX4_init_37 : decode cX4_init 37 = .ok (.bipush 60, 2) := by decide +kernel
theorem dX4_init_39 : decode cX4_init 39 = .ok (.newarray .int, 2) := by decide +kernel
theorem dX4_init_41 : decode cX4_init 41 = .ok (.putfield 25, 3) := by decide +kernel
theorem dX4_init_44 : decode cX4_init 44 = .ok (.aload_n 0, 1) := by decide +kernel
theorem dX4_init_45 : decode cX4_init 45 = .ok (.bipush 60, 2) := by decide +kernel
theorem dX4_init_47 : decode cX4_init 47 = .ok (.newarray .int, 2) := by decide +kernel
theorem dX4_init_49 : decode cX4_init 49 = .ok (.putfield 28, 3) := by decide +kernel
theorem dX4_init_52 : decode cX4_init 52 = .ok (.aload_n 0, 1) := by decide +kernel
theorem dX4_init_53 : decode cX4_init 53 = .ok (.bipush 60, 2) := by decide +kernel
theorem dX4_init_55 : decode cX4_init 55 = .ok (.newarray .int, 2) := by decide +kernel
theorem dX4_init_57 : decode cX4_init 57 = .ok (.putfield 31, 3) := by decide +kernel
theorem dX4_init_60 : decode cX4_init 60 = .ok (.aload_n 0, 1) := by decide +kernel
theorem dX4_init_61 : decode cX4_init 61 = .ok (.bipush 60, 2) := by decide +kernel
theorem dX4_init_63 : decode cX4_init 63 = .ok (.newarray .int, 2) := by decide +kernel
theorem dX4_init_65 : decode cX4_init 65 = .ok (.putfield 34, 3) := by decide +kernel
theorem dX4_init_68 : decode cX4_init 68 = .ok (.aload_n 0, 1) := by decide +kernel
theorem dX4_init_69 : decode cX4_init 69 = .ok (.iconst 0, 1) := by decide +kernel
theorem dX4_init_70 : decode cX4_init 70 = .ok (.putfield 37, 3) := by decide +kernel
theorem dX4_init_73 : decode cX4_init 73 = .ok (.return_, 1) := by decide +kernel
theorem dX4_isIn_0 : decode cX4_isIn 0 = .ok (.lload_n 0, 1) := by decide +kernel
theorem dX4_isIn_1 : decode cX4_isIn 1 = .ok (.iload_n 2, 1) := by decide +kernel
theorem dX4_isIn_2 : decode cX4_isIn 2 = .ok (.lushr, 1) := by decide +kernel
theorem dX4_isIn_3 : decode cX4_isIn 3 = .ok (.lconst 1, 1) := by decide +kernel
theorem dX4_isIn_4 : decode cX4_isIn 4 = .ok (.land, 1) := by decide +kernel
theorem dX4_isIn_5 : decode cX4_isIn 5 = .ok (.lconst 0, 1) := by decide +kernel
theorem dX4_isIn_6 : decode cX4_isIn 6 = .ok (.lcmp, 1) := by decide +kernel
theorem dX4_isIn_7 : decode cX4_isIn 7 = .ok (.ifCond .eq 7, 3) := by decide +kernel
theorem dX4_isIn_10 : decode cX4_isIn 10 = .ok (.iconst 1, 1) := by decide +kernel
theorem dX4_isIn_11 : decode cX4_isIn 11 = .ok (.goto 4, 3) := by decide +kernel
theorem dX4_isIn_14 : decode cX4_isIn 14 = .ok (.iconst 0, 1) := by decide +kernel
theorem dX4_isIn_15 : decode cX4_isIn 15 = .ok (.ireturn, 1) := by decide +kernel
theorem dX4_has_0 : decode cX4_has 0 = .ok (.iload_n 1, 1) := by decide +kernel
theorem dX4_has_1 : decode cX4_has 1 = .ok (.ifCond .lt 15, 3) := by decide +kernel
theorem dX4_has_4 : decode cX4_has 4 = .ok (.iload_n 1, 1) := by decide +kernel
theorem dX4_has_5 : decode cX4_has 5 = .ok (.aload_n 0, 1) := by decide +kernel
theorem dX4_has_6 : decode cX4_has 6 = .ok (.getfield 37, 3) := by decide +kernel
theorem dX4_has_9 : decode cX4_has 9 = .ok (.if_icmp .ge 7, 3) := by decide +kernel
theorem dX4_has_12 : decode cX4_has 12 = .ok (.iconst 1, 1) := by decide +kernel
theorem dX4_has_13 : decode cX4_has 13 = .ok (.goto 4, 3) := by decide +kernel
theorem dX4_has_16 : decode cX4_has 16 = .ok (.iconst 0, 1) := by decide +kernel
theorem dX4_has_17 : decode cX4_has 17 = .ok (.ireturn, 1) := by decide +kernel
theorem dX4_add_0 : decode cX4_add 0 = .ok (.aload_n 0, 1) := by decide +kernel
theorem dX4_add_1 : decode cX4_add 1 = .ok (.getfield 37, 3) := by decide +kernel
theorem dX4_add_4 : decode cX4_add 4 = .ok (.bipush 60, 2) := by decide +kernel
theorem dX4_add_6 : decode cX4_add 6 = .ok (.if_icmp .ge 18, 3) := by decide +kernel
theorem dX4_add_9 : decode cX4_add 9 = .ok (.iload_n 2, 1) := by decide +kernel
theorem dX4_add_10 : decode cX4_add 10 = .ok (.invokestatic 41, 3) := by decide +kernel
theorem dX4_add_13 : decode cX4_add 13 = .ok (.ifCond .eq 11, 3) := by decide +kernel
theorem dX4_add_16 : decode cX4_add 16 = .ok (.iload_n 2, 1) := by decide +kernel
theorem dX4_add_17 : decode cX4_add 17 = .ok (.iload_n 3, 1) := by decide +kernel
theorem dX4_add_18 : decode cX4_add 18 = .ok (.invokestatic 45, 3) := by decide +kernel
theorem dX4_add_21 : decode cX4_add 21 = .ok (.ifCond .ne 5, 3) := by decide +kernel
theorem dX4_add_24 : decode cX4_add 24 = .ok (.iconst (-1), 1) := by decide +kernel
theorem dX4_add_25 : decode cX4_add 25 = .ok (.ireturn, 1) := by decide +kernel
theorem dX4_add_26 : decode cX4_add 26 = .ok (.aload_n 0, 1) := by decide +kernel
theorem dX4_add_27 : decode cX4_add 27 = .ok (.getfield 37, 3) := by decide +kernel
theorem dX4_add_30 : decode cX4_add 30 = .ok (.istore 4, 2) := by decide +kernel
theorem dX4_add_32 : decode cX4_add 32 = .ok (.aload_n 0, 1) := by decide +kernel
theorem dX4_add_33 : decode cX4_add 33 = .ok (.getfield 11, 3) := by decide +kernel
theorem dX4_add_36 : decode cX4_add 36 = .ok (.iload 4, 2) := by decide +kernel
theorem dX4_add_38 : decode cX4_add 38 = .ok (.iload_n 1, 1) := by decide +kernel
theorem dX4_add_39 : decode cX4_add 39 = .ok (.bastore, 1) := by decide +kernel
theorem dX4_add_40 : decode cX4_add 40 = .ok (.aload_n 0, 1) := by decide +kernel
theorem dX4_add_41 : decode cX4_add 41 = .ok (.getfield 15, 3) := by decide +kernel
theorem dX4_add_44 : decode cX4_add 44 = .ok (.iload 4, 2) := by decide +kernel
theorem dX4_add_46 : decode cX4_add 46 = .ok (.iload_n 2, 1) := by decide +kernel
theorem dX4_add_47 : decode cX4_add 47 = .ok (.iastore, 1) := by decide +kernel
theorem dX4_add_48 : decode cX4_add 48 = .ok (.aload_n 0, 1) := by decide +kernel
theorem dX4_add_49 : decode cX4_add 49 = .ok (.getfield 19, 3) := by decide +kernel
theorem dX4_add_52 : decode cX4_add 52 = .ok (.iload 4, 2) := by decide +kernel
theorem dX4_add_54 : decode cX4_add 54 = .ok (.iload_n 3, 1) := by decide +kernel
theorem dX4_add_55 : decode cX4_add 55 = .ok (.iastore, 1) := by decide +kernel
theorem dX4_add_56 : decode cX4_add 56 = .ok (.aload_n 0, 1) := by decide +kernel
theorem dX4_add_57 : decode cX4_add 57 = .ok (.getfield 22, 3) := by decide +kernel
theorem dX4_add_60 : decode cX4_add 60 = .ok (.iload 4, 2) := by decide +kernel
theorem dX4_add_62 : decode cX4_add 62 = .ok (.iload_n 3, 1) := by decide +kernel
theorem dX4_add_63 : decode cX4_add 63 = .ok (.iconst (-1), 1) := by decide +kernel
theorem dX4_add_64 : decode cX4_add 64 = .ok (.if_icmp .ne 10, 3) := by decide +kernel
theorem dX4_add_67 : decode cX4_add 67 = .ok (.iload_n 2, 1) := by decide +kernel
theorem dX4_add_68 : decode cX4_add 68 = .ok (.bipush 100, 2) := by decide +kernel
theorem dX4_add_70 : decode cX4_add 70 = .ok (.iadd, 1) := by decide +kernel
theorem dX4_add_71 : decode cX4_add 71 = .ok (.goto 4, 3) := by decide +kernel
theorem dX4_add_74 : decode cX4_add 74 = .ok (.iload_n 3, 1) := by decide +kernel
theorem dX4_add_75 : decode cX4_add 75 = .ok (.iastore, 1) := by decide +kernel
theorem dX4_add_76 : decode cX4_add 76 = .ok (.aload_n 0, 1) := by decide +kernel
theorem dX4_add_77 : decode cX4_add 77 = .ok (.getfield 25, 3) := by decide +kernel
theorem dX4_add_80 : decode cX4_add 80 = .ok (.iload 4, 2) := by decide +kernel
theorem dX4_add_82 : decode cX4_add 82 = .ok (.iconst (-1), 1) := by decide +kernel
theorem dX4_add_83 : decode cX4_add 83 = .ok (.iastore, 1) := by decide +kernel
theorem dX4_add_84 : decode cX4_add 84 = .ok (.aload_n 0, 1) := by decide +kernel
theorem dX4_add_85 : decode cX4_add 85 = .ok (.getfield 28, 3) := by decide +kernel
theorem dX4_add_88 : decode cX4_add 88 = .ok (.iload 4, 2) := by decide +kernel
theorem dX4_add_90 : decode cX4_add 90 = .ok (.iconst (-1), 1) := by decide +kernel
theorem dX4_add_91 : decode cX4_add 91 = .ok (.iastore, 1) := by decide +kernel
theorem dX4_add_92 : decode cX4_add 92 = .ok (.aload_n 0, 1) := by decide +kernel
theorem dX4_add_93 : decode cX4_add 93 = .ok (.iload 4, 2) := by decide +kernel
theorem dX4_add_95 : decode cX4_add 95 = .ok (.iconst 1, 1) := by decide +kernel
theorem dX4_add_96 : decode cX4_add 96 = .ok (.iadd, 1) := by decide +kernel
theorem dX4_add_97 : decode cX4_add 97 = .ok (.putfield 37, 3) := by decide +kernel
theorem dX4_add_100 : decode cX4_add 100 = .ok (.iload 4, 2) := by decide +kernel
theorem dX4_add_102 : decode cX4_add 102 = .ok (.ireturn, 1) := by decide +kernel
theorem dX4_canDie_0 : decode cX4_canDie 0 = .ok (.iload_n 1, 1) := by decide +kernel
theorem dX4_canDie_1 : decode cX4_canDie 1 = .ok (.iconst (-1), 1) := by decide +kernel
theorem dX4_canDie_2 : decode cX4_canDie 2 = .ok (.if_icmp .eq 23, 3) := by decide +kernel
theorem dX4_canDie_5 : decode cX4_canDie 5 = .ok (.iload_n 1, 1) := by decide +kernel
theorem dX4_canDie_6 : decode cX4_canDie 6 = .ok (.invokestatic 41, 3) := by decide +kernel
theorem dX4_canDie_9 : decode cX4_canDie 9 = .ok (.ifCond .eq 20, 3) := by decide +kernel
theorem dX4_canDie_12 : decode cX4_canDie 12 = .ok (.iload_n 1, 1) := by decide +kernel
theorem dX4_canDie_13 : decode cX4_canDie 13 = .ok (.iload_n 0, 1) := by decide +kernel
theorem dX4_canDie_14 : decode cX4_canDie 14 = .ok (.if_icmp .lt 15, 3) := by decide +kernel
theorem dX4_canDie_17 : decode cX4_canDie 17 = .ok (.iload_n 1, 1) := by decide +kernel
theorem dX4_canDie_18 : decode cX4_canDie 18 = .ok (.iload_n 0, 1) := by decide +kernel
theorem dX4_canDie_19 : decode cX4_canDie 19 = .ok (.isub, 1) := by decide +kernel
theorem dX4_canDie_20 : decode cX4_canDie 20 = .ok (.bipush 100, 2) := by decide +kernel
theorem dX4_canDie_22 : decode cX4_canDie 22 = .ok (.if_icmp .gt 7, 3) := by decide +kernel
theorem dX4_canDie_25 : decode cX4_canDie 25 = .ok (.iconst 1, 1) := by decide +kernel
theorem dX4_canDie_26 : decode cX4_canDie 26 = .ok (.goto 4, 3) := by decide +kernel
theorem dX4_canDie_29 : decode cX4_canDie 29 = .ok (.iconst 0, 1) := by decide +kernel
theorem dX4_canDie_30 : decode cX4_canDie 30 = .ok (.ireturn, 1) := by decide +kernel
theorem dX4_tellFather_0 : decode cX4_tellFather 0 = .ok (.iload_n 3, 1) := by decide +kernel
theorem dX4_tellFather_1 : decode cX4_tellFather 1 = .ok (.invokestatic 49, 3) := by decide +kernel
theorem dX4_tellFather_4 : decode cX4_tellFather 4 = .ok (.ifCond .eq 22, 3) := by decide +kernel
theorem dX4_tellFather_7 : decode cX4_tellFather 7 = .ok (.aload_n 0, 1) := by decide +kernel
theorem dX4_tellFather_8 : decode cX4_tellFather 8 = .ok (.iload_n 1, 1) := by decide +kernel
theorem dX4_tellFather_9 : decode cX4_tellFather 9 = .ok (.iload_n 2, 1) := by decide +kernel
theorem dX4_tellFather_10 : decode cX4_tellFather 10 = .ok (.invokevirtual 52, 3) := by decide +kernel
theorem dX4_tellFather_13 : decode cX4_tellFather 13 = .ok (.ifCond .eq 13, 3) := by decide +kernel
theorem dX4_tellFather_16 : decode cX4_tellFather 16 = .ok (.aload_n 0, 1) := by decide +kernel
theorem dX4_tellFather_17 : decode cX4_tellFather 17 = .ok (.getfield 25, 3) := by decide +kernel
theorem dX4_tellFather_20 : decode cX4_tellFather 20 = .ok (.iload_n 1, 1) := by decide +kernel
theorem dX4_tellFather_21 : decode cX4_tellFather 21 = .ok (.iaload, 1) := by decide +kernel
theorem dX4_tellFather_22 : decode cX4_tellFather 22 = .ok (.iconst (-1), 1) := by decide +kernel
theorem dX4_tellFather_23 : decode cX4_tellFather 23 = .ok (.if_icmp .eq 5, 3) := by decide +kernel
theorem dX4_tellFather_26 : decode cX4_tellFather 26 = .ok (.iconst 0, 1) := by decide +kernel
theorem dX4_tellFather_27 : decode cX4_tellFather 27 = .ok (.ireturn, 1) := by decide +kernel
theorem dX4_tellFather_28 : decode cX4_tellFather 28 = .ok (.aload_n 0, 1) := by decide +kernel
theorem dX4_tellFather_29 : decode cX4_tellFather 29 = .ok (.getfield 25, 3) := by decide +kernel
theorem dX4_tellFather_32 : decode cX4_tellFather 32 = .ok (.iload_n 1, 1) := by decide +kernel
theorem dX4_tellFather_33 : decode cX4_tellFather 33 = .ok (.iload_n 2, 1) := by decide +kernel
theorem dX4_tellFather_34 : decode cX4_tellFather 34 = .ok (.iastore, 1) := by decide +kernel
theorem dX4_tellFather_35 : decode cX4_tellFather 35 = .ok (.aload_n 0, 1) := by decide +kernel
theorem dX4_tellFather_36 : decode cX4_tellFather 36 = .ok (.getfield 31, 3) := by decide +kernel
theorem dX4_tellFather_39 : decode cX4_tellFather 39 = .ok (.iload_n 1, 1) := by decide +kernel
theorem dX4_tellFather_40 : decode cX4_tellFather 40 = .ok (.iload_n 3, 1) := by decide +kernel
theorem dX4_tellFather_41 : decode cX4_tellFather 41 = .ok (.iastore, 1) := by decide +kernel
theorem dX4_tellFather_42 : decode cX4_tellFather 42 = .ok (.iconst 1, 1) := by decide +kernel
theorem dX4_tellFather_43 : decode cX4_tellFather 43 = .ok (.ireturn, 1) := by decide +kernel
theorem dX4_tellMother_0 : decode cX4_tellMother 0 = .ok (.iload_n 3, 1) := by decide +kernel
theorem dX4_tellMother_1 : decode cX4_tellMother 1 = .ok (.invokestatic 49, 3) := by decide +kernel
theorem dX4_tellMother_4 : decode cX4_tellMother 4 = .ok (.ifCond .eq 22, 3) := by decide +kernel
theorem dX4_tellMother_7 : decode cX4_tellMother 7 = .ok (.aload_n 0, 1) := by decide +kernel
theorem dX4_tellMother_8 : decode cX4_tellMother 8 = .ok (.iload_n 1, 1) := by decide +kernel
theorem dX4_tellMother_9 : decode cX4_tellMother 9 = .ok (.iload_n 2, 1) := by decide +kernel
theorem dX4_tellMother_10 : decode cX4_tellMother 10 = .ok (.invokevirtual 55, 3) := by decide +kernel
theorem dX4_tellMother_13 : decode cX4_tellMother 13 = .ok (.ifCond .eq 13, 3) := by decide +kernel
theorem dX4_tellMother_16 : decode cX4_tellMother 16 = .ok (.aload_n 0, 1) := by decide +kernel
theorem dX4_tellMother_17 : decode cX4_tellMother 17 = .ok (.getfield 28, 3) := by decide +kernel
theorem dX4_tellMother_20 : decode cX4_tellMother 20 = .ok (.iload_n 1, 1) := by decide +kernel
theorem dX4_tellMother_21 : decode cX4_tellMother 21 = .ok (.iaload, 1) := by decide +kernel
theorem dX4_tellMother_22 : decode cX4_tellMother 22 = .ok (.iconst (-1), 1) := by decide +kernel
theorem dX4_tellMother_23 : decode cX4_tellMother 23 = .ok (.if_icmp .eq 5, 3) := by decide +kernel
theorem dX4_tellMother_26 : decode cX4_tellMother 26 = .ok (.iconst 0, 1) := by decide +kernel
theorem dX4_tellMother_27 : decode cX4_tellMother 27 = .ok (.ireturn, 1) := by decide +kernel
theorem dX4_tellMother_28 : decode cX4_tellMother 28 = .ok (.aload_n 0, 1) := by decide +kernel
theorem dX4_tellMother_29 : decode cX4_tellMother 29 = .ok (.getfield 28, 3) := by decide +kernel
theorem dX4_tellMother_32 : decode cX4_tellMother 32 = .ok (.iload_n 1, 1) := by decide +kernel
theorem dX4_tellMother_33 : decode cX4_tellMother 33 = .ok (.iload_n 2, 1) := by decide +kernel
theorem dX4_tellMother_34 : decode cX4_tellMother 34 = .ok (.iastore, 1) := by decide +kernel
theorem dX4_tellMother_35 : decode cX4_tellMother 35 = .ok (.aload_n 0, 1) := by decide +kernel
theorem dX4_tellMother_36 : decode cX4_tellMother 36 = .ok (.getfield 34, 3) := by decide +kernel
theorem dX4_tellMother_39 : decode cX4_tellMother 39 = .ok (.iload_n 1, 1) := by decide +kernel
theorem dX4_tellMother_40 : decode cX4_tellMother 40 = .ok (.iload_n 3, 1) := by decide +kernel
theorem dX4_tellMother_41 : decode cX4_tellMother 41 = .ok (.iastore, 1) := by decide +kernel
theorem dX4_tellMother_42 : decode cX4_tellMother 42 = .ok (.iconst 1, 1) := by decide +kernel
theorem dX4_tellMother_43 : decode cX4_tellMother 43 = .ok (.ireturn, 1) := by decide +kernel
theorem dX4_isGrade_0 : decode cX4_isGrade 0 = .ok (.iload_n 0, 1) := by decide +kernel
theorem dX4_isGrade_1 : decode cX4_isGrade 1 = .ok (.iconst 1, 1) := by decide +kernel
theorem dX4_isGrade_2 : decode cX4_isGrade 2 = .ok (.if_icmp .lt 13, 3) := by decide +kernel
theorem dX4_isGrade_5 : decode cX4_isGrade 5 = .ok (.iload_n 0, 1) := by decide +kernel
theorem dX4_isGrade_6 : decode cX4_isGrade 6 = .ok (.bipush 9, 2) := by decide +kernel
theorem dX4_isGrade_8 : decode cX4_isGrade 8 = .ok (.if_icmp .gt 7, 3) := by decide +kernel
theorem dX4_isGrade_11 : decode cX4_isGrade 11 = .ok (.iconst 1, 1) := by decide +kernel
theorem dX4_isGrade_12 : decode cX4_isGrade 12 = .ok (.goto 4, 3) := by decide +kernel
theorem dX4_isGrade_15 : decode cX4_isGrade 15 = .ok (.iconst 0, 1) := by decide +kernel
theorem dX4_isGrade_16 : decode cX4_isGrade 16 = .ok (.ireturn, 1) := by decide +kernel
theorem dX4_canBeFather_0 : decode cX4_canBeFather 0 = .ok (.aload_n 0, 1) := by decide +kernel
theorem dX4_canBeFather_1 : decode cX4_canBeFather 1 = .ok (.iload_n 1, 1) := by decide +kernel
theorem dX4_canBeFather_2 : decode cX4_canBeFather 2 = .ok (.invokevirtual 58, 3) := by decide +kernel
theorem dX4_canBeFather_5 : decode cX4_canBeFather 5 = .ok (.ifCond .eq 64, 3) := by decide +kernel
theorem dX4_canBeFather_8 : decode cX4_canBeFather 8 = .ok (.aload_n 0, 1) := by decide +kernel
theorem dX4_canBeFather_9 : decode cX4_canBeFather 9 = .ok (.iload_n 2, 1) := by decide +kernel
theorem dX4_canBeFather_10 : decode cX4_canBeFather 10 = .ok (.invokevirtual 58, 3) := by decide +kernel
theorem dX4_canBeFather_13 : decode cX4_canBeFather 13 = .ok (.ifCond .eq 56, 3) := by decide +kernel
theorem dX4_canBeFather_16 : decode cX4_canBeFather 16 = .ok (.iload_n 2, 1) := by decide +kernel
theorem dX4_canBeFather_17 : decode cX4_canBeFather 17 = .ok (.iload_n 1, 1) := by decide +kernel
theorem dX4_canBeFather_18 : decode cX4_canBeFather 18 = .ok (.if_icmp .ge 51, 3) := by decide +kernel
theorem dX4_canBeFather_21 : decode cX4_canBeFather 21 = .ok (.aload_n 0, 1) := by decide +kernel
theorem dX4_canBeFather_22 : decode cX4_canBeFather 22 = .ok (.getfield 11, 3) := by decide +kernel
theorem dX4_canBeFather_25 : decode cX4_canBeFather 25 = .ok (.iload_n 2, 1) := by decide +kernel
theorem dX4_canBeFather_26 : decode cX4_canBeFather 26 = .ok (.baload, 1) := by decide +kernel
theorem dX4_canBeFather_27 : decode cX4_canBeFather 27 = .ok (.ifCond .ne 42, 3) := by decide +kernel
theorem dX4_canBeFather_30 : decode cX4_canBeFather 30 = .ok (.aload_n 0, 1) := by decide +kernel
theorem dX4_canBeFather_31 : decode cX4_canBeFather 31 = .ok (.getfield 15, 3) := by decide +kernel
theorem dX4_canBeFather_34 : decode cX4_canBeFather 34 = .ok (.iload_n 1, 1) := by decide +kernel
theorem dX4_canBeFather_35 : decode cX4_canBeFather 35 = .ok (.iaload, 1) := by decide +kernel
theorem dX4_canBeFather_36 : decode cX4_canBeFather 36 = .ok (.aload_n 0, 1) := by decide +kernel
theorem dX4_canBeFather_37 : decode cX4_canBeFather 37 = .ok (.getfield 15, 3) := by decide +kernel
theorem dX4_canBeFather_40 : decode cX4_canBeFather 40 = .ok (.iload_n 2, 1) := by decide +kernel
theorem dX4_canBeFather_41 : decode cX4_canBeFather 41 = .ok (.iaload, 1) := by decide +kernel
theorem dX4_canBeFather_42 : decode cX4_canBeFather 42 = .ok (.isub, 1) := by decide +kernel
theorem dX4_canBeFather_43 : decode cX4_canBeFather 43 = .ok (.bipush 14, 2) := by decide +kernel
theorem dX4_canBeFather_45 : decode cX4_canBeFather 45 = .ok (.if_icmp .lt 24, 3) := by decide +kernel
theorem dX4_canBeFather_48 : decode cX4_canBeFather 48 = .ok (.aload_n 0, 1) := by decide +kernel
theorem dX4_canBeFather_49 : decode cX4_canBeFather 49 = .ok (.getfield 22, 3) := by decide +kernel
theorem dX4_canBeFather_52 : decode cX4_canBeFather 52 = .ok (.iload_n 2, 1) := by decide +kernel
theorem dX4_canBeFather_53 : decode cX4_canBeFather 53 = .ok (.iaload, 1) := by decide +kernel
theorem dX4_canBeFather_54 : decode cX4_canBeFather 54 = .ok (.aload_n 0, 1) := by decide +kernel
theorem dX4_canBeFather_55 : decode cX4_canBeFather 55 = .ok (.getfield 15, 3) := by decide +kernel
theorem dX4_canBeFather_58 : decode cX4_canBeFather 58 = .ok (.iload_n 1, 1) := by decide +kernel
theorem dX4_canBeFather_59 : decode cX4_canBeFather 59 = .ok (.iaload, 1) := by decide +kernel
theorem dX4_canBeFather_60 : decode cX4_canBeFather 60 = .ok (.iconst 1, 1) := by decide +kernel
theorem dX4_canBeFather_61 : decode cX4_canBeFather 61 = .ok (.isub, 1) := by decide +kernel
theorem dX4_canBeFather_62 : decode cX4_canBeFather 62 = .ok (.if_icmp .lt 7, 3) := by decide +kernel
theorem dX4_canBeFather_65 : decode cX4_canBeFather 65 = .ok (.iconst 1, 1) := by decide +kernel
theorem dX4_canBeFather_66 : decode cX4_canBeFather 66 = .ok (.goto 4, 3) := by decide +kernel
theorem dX4_canBeFather_69 : decode cX4_canBeFather 69 = .ok (.iconst 0, 1) := by decide +kernel
theorem dX4_canBeFather_70 : decode cX4_canBeFather 70 = .ok (.ireturn, 1) := by decide +kernel
theorem dX4_canBeMother_0 : decode cX4_canBeMother 0 = .ok (.aload_n 0, 1) := by decide +kernel
theorem dX4_canBeMother_1 : decode cX4_canBeMother 1 = .ok (.iload_n 1, 1) := by decide +kernel
theorem dX4_canBeMother_2 : decode cX4_canBeMother 2 = .ok (.invokevirtual 58, 3) := by decide +kernel
theorem dX4_canBeMother_5 : decode cX4_canBeMother 5 = .ok (.ifCond .eq 80, 3) := by decide +kernel
theorem dX4_canBeMother_8 : decode cX4_canBeMother 8 = .ok (.aload_n 0, 1) := by decide +kernel
theorem dX4_canBeMother_9 : decode cX4_canBeMother 9 = .ok (.iload_n 2, 1) := by decide +kernel
theorem dX4_canBeMother_10 : decode cX4_canBeMother 10 = .ok (.invokevirtual 58, 3) := by decide +kernel
theorem dX4_canBeMother_13 : decode cX4_canBeMother 13 = .ok (.ifCond .eq 72, 3) := by decide +kernel
theorem dX4_canBeMother_16 : decode cX4_canBeMother 16 = .ok (.iload_n 2, 1) := by decide +kernel
theorem dX4_canBeMother_17 : decode cX4_canBeMother 17 = .ok (.iload_n 1, 1) := by decide +kernel
theorem dX4_canBeMother_18 : decode cX4_canBeMother 18 = .ok (.if_icmp .ge 67, 3) := by decide +kernel
theorem dX4_canBeMother_21 : decode cX4_canBeMother 21 = .ok (.aload_n 0, 1) := by decide +kernel
theorem dX4_canBeMother_22 : decode cX4_canBeMother 22 = .ok (.getfield 11, 3) := by decide +kernel
theorem dX4_canBeMother_25 : decode cX4_canBeMother 25 = .ok (.iload_n 2, 1) := by decide +kernel
theorem dX4_canBeMother_26 : decode cX4_canBeMother 26 = .ok (.baload, 1) := by decide +kernel
theorem dX4_canBeMother_27 : decode cX4_canBeMother 27 = .ok (.ifCond .eq 58, 3) := by decide +kernel
theorem dX4_canBeMother_30 : decode cX4_canBeMother 30 = .ok (.aload_n 0, 1) := by decide +kernel
theorem dX4_canBeMother_31 : decode cX4_canBeMother 31 = .ok (.getfield 15, 3) := by decide +kernel
theorem dX4_canBeMother_34 : decode cX4_canBeMother 34 = .ok (.iload_n 1, 1) := by decide +kernel
theorem dX4_canBeMother_35 : decode cX4_canBeMother 35 = .ok (.iaload, 1) := by decide +kernel
theorem dX4_canBeMother_36 : decode cX4_canBeMother 36 = .ok (.aload_n 0, 1) := by decide +kernel
theorem dX4_canBeMother_37 : decode cX4_canBeMother 37 = .ok (.getfield 15, 3) := by decide +kernel
theorem dX4_canBeMother_40 : decode cX4_canBeMother 40 = .ok (.iload_n 2, 1) := by decide +kernel
theorem dX4_canBeMother_41 : decode cX4_canBeMother 41 = .ok (.iaload, 1) := by decide +kernel
theorem dX4_canBeMother_42 : decode cX4_canBeMother 42 = .ok (.isub, 1) := by decide +kernel
theorem dX4_canBeMother_43 : decode cX4_canBeMother 43 = .ok (.bipush 14, 2) := by decide +kernel
theorem dX4_canBeMother_45 : decode cX4_canBeMother 45 = .ok (.if_icmp .lt 40, 3) := by decide +kernel
theorem dX4_canBeMother_48 : decode cX4_canBeMother 48 = .ok (.aload_n 0, 1) := by decide +kernel
theorem dX4_canBeMother_49 : decode cX4_canBeMother 49 = .ok (.getfield 15, 3) := by decide +kernel
theorem dX4_canBeMother_52 : decode cX4_canBeMother 52 = .ok (.iload_n 1, 1) := by decide +kernel
theorem dX4_canBeMother_53 : decode cX4_canBeMother 53 = .ok (.iaload, 1) := by decide +kernel
theorem dX4_canBeMother_54 : decode cX4_canBeMother 54 = .ok (.aload_n 0, 1) := by decide +kernel
theorem dX4_canBeMother_55 : decode cX4_canBeMother 55 = .ok (.getfield 15, 3) := by decide +kernel
theorem dX4_canBeMother_58 : decode cX4_canBeMother 58 = .ok (.iload_n 2, 1) := by decide +kernel
theorem dX4_canBeMother_59 : decode cX4_canBeMother 59 = .ok (.iaload, 1) := by decide +kernel
theorem dX4_canBeMother_60 : decode cX4_canBeMother 60 = .ok (.isub, 1) := by decide +kernel
theorem dX4_canBeMother_61 : decode cX4_canBeMother 61 = .ok (.bipush 50, 2) := by decide +kernel
theorem dX4_canBeMother_63 : decode cX4_canBeMother 63 = .ok (.if_icmp .gt 22, 3) := by decide +kernel
theorem dX4_canBeMother_66 : decode cX4_canBeMother 66 = .ok (.aload_n 0, 1) := by decide +kernel
theorem dX4_canBeMother_67 : decode cX4_canBeMother 67 = .ok (.getfield 22, 3) := by decide +kernel
theorem dX4_canBeMother_70 : decode cX4_canBeMother 70 = .ok (.iload_n 2, 1) := by decide +kernel
theorem dX4_canBeMother_71 : decode cX4_canBeMother 71 = .ok (.iaload, 1) := by decide +kernel
theorem dX4_canBeMother_72 : decode cX4_canBeMother 72 = .ok (.aload_n 0, 1) := by decide +kernel
theorem dX4_canBeMother_73 : decode cX4_canBeMother 73 = .ok (.getfield 15, 3) := by decide +kernel
theorem dX4_canBeMother_76 : decode cX4_canBeMother 76 = .ok (.iload_n 1, 1) := by decide +kernel
theorem dX4_canBeMother_77 : decode cX4_canBeMother 77 = .ok (.iaload, 1) := by decide +kernel
theorem dX4_canBeMother_78 : decode cX4_canBeMother 78 = .ok (.if_icmp .lt 7, 3) := by decide +kernel
theorem dX4_canBeMother_81 : decode cX4_canBeMother 81 = .ok (.iconst 1, 1) := by decide +kernel
theorem dX4_canBeMother_82 : decode cX4_canBeMother 82 = .ok (.goto 4, 3) := by decide +kernel
theorem dX4_canBeMother_85 : decode cX4_canBeMother 85 = .ok (.iconst 0, 1) := by decide +kernel
theorem dX4_canBeMother_86 : decode cX4_canBeMother 86 = .ok (.ireturn, 1) := by decide +kernel
theorem dX4_isFemale_0 : decode cX4_isFemale 0 = .ok (.aload_n 0, 1) := by decide +kernel
theorem dX4_isFemale_1 : decode cX4_isFemale 1 = .ok (.iload_n 1, 1) := by decide +kernel
theorem dX4_isFemale_2 : decode cX4_isFemale 2 = .ok (.invokevirtual 58, 3) := by decide +kernel
theorem dX4_isFemale_5 : decode cX4_isFemale 5 = .ok (.ifCond .eq 16, 3) := by decide +kernel
theorem dX4_isFemale_8 : decode cX4_isFemale 8 = .ok (.aload_n 0, 1) := by decide +kernel
theorem dX4_isFemale_9 : decode cX4_isFemale 9 = .ok (.getfield 11, 3) := by decide +kernel
theorem dX4_isFemale_12 : decode cX4_isFemale 12 = .ok (.iload_n 1, 1) := by decide +kernel
theorem dX4_isFemale_13 : decode cX4_isFemale 13 = .ok (.baload, 1) := by decide +kernel
theorem dX4_isFemale_14 : decode cX4_isFemale 14 = .ok (.ifCond .eq 7, 3) := by decide +kernel
theorem dX4_isFemale_17 : decode cX4_isFemale 17 = .ok (.iconst 1, 1) := by decide +kernel
theorem dX4_isFemale_18 : decode cX4_isFemale 18 = .ok (.goto 4, 3) := by decide +kernel
theorem dX4_isFemale_21 : decode cX4_isFemale 21 = .ok (.iconst 0, 1) := by decide +kernel
theorem dX4_isFemale_22 : decode cX4_isFemale 22 = .ok (.ireturn, 1) := by decide +kernel
theorem dX4_bornOf_0 : decode cX4_bornOf 0 = .ok (.aload_n 0, 1) := by decide +kernel
theorem dX4_bornOf_1 : decode cX4_bornOf 1 = .ok (.iload_n 1, 1) := by decide +kernel
theorem dX4_bornOf_2 : decode cX4_bornOf 2 = .ok (.invokevirtual 58, 3) := by decide +kernel
theorem dX4_bornOf_5 : decode cX4_bornOf 5 = .ok (.ifCond .eq 12, 3) := by decide +kernel
theorem dX4_bornOf_8 : decode cX4_bornOf 8 = .ok (.aload_n 0, 1) := by decide +kernel
theorem dX4_bornOf_9 : decode cX4_bornOf 9 = .ok (.getfield 15, 3) := by decide +kernel
theorem dX4_bornOf_12 : decode cX4_bornOf 12 = .ok (.iload_n 1, 1) := by decide +kernel
theorem dX4_bornOf_13 : decode cX4_bornOf 13 = .ok (.iaload, 1) := by decide +kernel
theorem dX4_bornOf_14 : decode cX4_bornOf 14 = .ok (.goto 4, 3) := by decide +kernel
theorem dX4_bornOf_17 : decode cX4_bornOf 17 = .ok (.iconst (-1), 1) := by decide +kernel
theorem dX4_bornOf_18 : decode cX4_bornOf 18 = .ok (.ireturn, 1) := by decide +kernel
theorem dX4_toldDeathOf_0 : decode cX4_toldDeathOf 0 = .ok (.aload_n 0, 1) := by decide +kernel
theorem dX4_toldDeathOf_1 : decode cX4_toldDeathOf 1 = .ok (.iload_n 1, 1) := by decide +kernel
theorem dX4_toldDeathOf_2 : decode cX4_toldDeathOf 2 = .ok (.invokevirtual 58, 3) := by decide +kernel
theorem dX4_toldDeathOf_5 : decode cX4_toldDeathOf 5 = .ok (.ifCond .eq 12, 3) := by decide +kernel
theorem dX4_toldDeathOf_8 : decode cX4_toldDeathOf 8 = .ok (.aload_n 0, 1) := by decide +kernel
theorem dX4_toldDeathOf_9 : decode cX4_toldDeathOf 9 = .ok (.getfield 19, 3) := by decide +kernel
theorem dX4_toldDeathOf_12 : decode cX4_toldDeathOf 12 = .ok (.iload_n 1, 1) := by decide +kernel
theorem dX4_toldDeathOf_13 : decode cX4_toldDeathOf 13 = .ok (.iaload, 1) := by decide +kernel
theorem dX4_toldDeathOf_14 : decode cX4_toldDeathOf 14 = .ok (.goto 4, 3) := by decide +kernel
theorem dX4_toldDeathOf_17 : decode cX4_toldDeathOf 17 = .ok (.iconst (-1), 1) := by decide +kernel
theorem dX4_toldDeathOf_18 : decode cX4_toldDeathOf 18 = .ok (.ireturn, 1) := by decide +kernel
theorem dX4_fatherOf_0 : decode cX4_fatherOf 0 = .ok (.aload_n 0, 1) := by decide +kernel
theorem dX4_fatherOf_1 : decode cX4_fatherOf 1 = .ok (.iload_n 1, 1) := by decide +kernel
theorem dX4_fatherOf_2 : decode cX4_fatherOf 2 = .ok (.invokevirtual 58, 3) := by decide +kernel
theorem dX4_fatherOf_5 : decode cX4_fatherOf 5 = .ok (.ifCond .eq 12, 3) := by decide +kernel
theorem dX4_fatherOf_8 : decode cX4_fatherOf 8 = .ok (.aload_n 0, 1) := by decide +kernel
theorem dX4_fatherOf_9 : decode cX4_fatherOf 9 = .ok (.getfield 25, 3) := by decide +kernel
theorem dX4_fatherOf_12 : decode cX4_fatherOf 12 = .ok (.iload_n 1, 1) := by decide +kernel
theorem dX4_fatherOf_13 : decode cX4_fatherOf 13 = .ok (.iaload, 1) := by decide +kernel
theorem dX4_fatherOf_14 : decode cX4_fatherOf 14 = .ok (.goto 4, 3) := by decide +kernel
theorem dX4_fatherOf_17 : decode cX4_fatherOf 17 = .ok (.iconst (-1), 1) := by decide +kernel
theorem dX4_fatherOf_18 : decode cX4_fatherOf 18 = .ok (.ireturn, 1) := by decide +kernel
theorem dX4_motherOf_0 : decode cX4_motherOf 0 = .ok (.aload_n 0, 1) := by decide +kernel
theorem dX4_motherOf_1 : decode cX4_motherOf 1 = .ok (.iload_n 1, 1) := by decide +kernel
theorem dX4_motherOf_2 : decode cX4_motherOf 2 = .ok (.invokevirtual 58, 3) := by decide +kernel
theorem dX4_motherOf_5 : decode cX4_motherOf 5 = .ok (.ifCond .eq 12, 3) := by decide +kernel
theorem dX4_motherOf_8 : decode cX4_motherOf 8 = .ok (.aload_n 0, 1) := by decide +kernel
theorem dX4_motherOf_9 : decode cX4_motherOf 9 = .ok (.getfield 28, 3) := by decide +kernel
theorem dX4_motherOf_12 : decode cX4_motherOf 12 = .ok (.iload_n 1, 1) := by decide +kernel
theorem dX4_motherOf_13 : decode cX4_motherOf 13 = .ok (.iaload, 1) := by decide +kernel
theorem dX4_motherOf_14 : decode cX4_motherOf 14 = .ok (.goto 4, 3) := by decide +kernel
theorem dX4_motherOf_17 : decode cX4_motherOf 17 = .ok (.iconst (-1), 1) := by decide +kernel
theorem dX4_motherOf_18 : decode cX4_motherOf 18 = .ok (.ireturn, 1) := by decide +kernel
theorem dX4_fatherGradeOf_0 : decode cX4_fatherGradeOf 0 = .ok (.aload_n 0, 1) := by decide +kernel
theorem dX4_fatherGradeOf_1 : decode cX4_fatherGradeOf 1 = .ok (.iload_n 1, 1) := by decide +kernel
theorem dX4_fatherGradeOf_2 : decode cX4_fatherGradeOf 2 = .ok (.invokevirtual 58, 3) := by decide +kernel
theorem dX4_fatherGradeOf_5 : decode cX4_fatherGradeOf 5 = .ok (.ifCond .eq 12, 3) := by decide +kernel
theorem dX4_fatherGradeOf_8 : decode cX4_fatherGradeOf 8 = .ok (.aload_n 0, 1) := by decide +kernel
theorem dX4_fatherGradeOf_9 : decode cX4_fatherGradeOf 9 = .ok (.getfield 31, 3) := by decide +kernel
theorem dX4_fatherGradeOf_12 : decode cX4_fatherGradeOf 12 = .ok (.iload_n 1, 1) := by decide +kernel
theorem dX4_fatherGradeOf_13 : decode cX4_fatherGradeOf 13 = .ok (.iaload, 1) := by decide +kernel
theorem dX4_fatherGradeOf_14 : decode cX4_fatherGradeOf 14 = .ok (.goto 4, 3) := by decide +kernel
theorem dX4_fatherGradeOf_17 : decode cX4_fatherGradeOf 17 = .ok (.iconst 0, 1) := by decide +kernel
theorem dX4_fatherGradeOf_18 : decode cX4_fatherGradeOf 18 = .ok (.ireturn, 1) := by decide +kernel
theorem dX4_motherGradeOf_0 : decode cX4_motherGradeOf 0 = .ok (.aload_n 0, 1) := by decide +kernel
theorem dX4_motherGradeOf_1 : decode cX4_motherGradeOf 1 = .ok (.iload_n 1, 1) := by decide +kernel
theorem dX4_motherGradeOf_2 : decode cX4_motherGradeOf 2 = .ok (.invokevirtual 58, 3) := by decide +kernel
theorem dX4_motherGradeOf_5 : decode cX4_motherGradeOf 5 = .ok (.ifCond .eq 12, 3) := by decide +kernel
theorem dX4_motherGradeOf_8 : decode cX4_motherGradeOf 8 = .ok (.aload_n 0, 1) := by decide +kernel
theorem dX4_motherGradeOf_9 : decode cX4_motherGradeOf 9 = .ok (.getfield 34, 3) := by decide +kernel
theorem dX4_motherGradeOf_12 : decode cX4_motherGradeOf 12 = .ok (.iload_n 1, 1) := by decide +kernel
theorem dX4_motherGradeOf_13 : decode cX4_motherGradeOf 13 = .ok (.iaload, 1) := by decide +kernel
theorem dX4_motherGradeOf_14 : decode cX4_motherGradeOf 14 = .ok (.goto 4, 3) := by decide +kernel
theorem dX4_motherGradeOf_17 : decode cX4_motherGradeOf 17 = .ok (.iconst 0, 1) := by decide +kernel
theorem dX4_motherGradeOf_18 : decode cX4_motherGradeOf 18 = .ok (.ireturn, 1) := by decide +kernel
theorem dX4_isLiving_0 : decode cX4_isLiving 0 = .ok (.aload_n 0, 1) := by decide +kernel
theorem dX4_isLiving_1 : decode cX4_isLiving 1 = .ok (.iload_n 1, 1) := by decide +kernel
theorem dX4_isLiving_2 : decode cX4_isLiving 2 = .ok (.invokevirtual 58, 3) := by decide +kernel
theorem dX4_isLiving_5 : decode cX4_isLiving 5 = .ok (.ifCond .eq 27, 3) := by decide +kernel
theorem dX4_isLiving_8 : decode cX4_isLiving 8 = .ok (.aload_n 0, 1) := by decide +kernel
theorem dX4_isLiving_9 : decode cX4_isLiving 9 = .ok (.getfield 15, 3) := by decide +kernel
theorem dX4_isLiving_12 : decode cX4_isLiving 12 = .ok (.iload_n 1, 1) := by decide +kernel
theorem dX4_isLiving_13 : decode cX4_isLiving 13 = .ok (.iaload, 1) := by decide +kernel
theorem dX4_isLiving_14 : decode cX4_isLiving 14 = .ok (.iload_n 2, 1) := by decide +kernel
theorem dX4_isLiving_15 : decode cX4_isLiving 15 = .ok (.if_icmp .gt 17, 3) := by decide +kernel
theorem dX4_isLiving_18 : decode cX4_isLiving 18 = .ok (.aload_n 0, 1) := by decide +kernel
theorem dX4_isLiving_19 : decode cX4_isLiving 19 = .ok (.getfield 22, 3) := by decide +kernel
theorem dX4_isLiving_22 : decode cX4_isLiving 22 = .ok (.iload_n 1, 1) := by decide +kernel
theorem dX4_isLiving_23 : decode cX4_isLiving 23 = .ok (.iaload, 1) := by decide +kernel
theorem dX4_isLiving_24 : decode cX4_isLiving 24 = .ok (.iload_n 2, 1) := by decide +kernel
theorem dX4_isLiving_25 : decode cX4_isLiving 25 = .ok (.if_icmp .lt 7, 3) := by decide +kernel
theorem dX4_isLiving_28 : decode cX4_isLiving 28 = .ok (.iconst 1, 1) := by decide +kernel
theorem dX4_isLiving_29 : decode cX4_isLiving 29 = .ok (.goto 4, 3) := by decide +kernel
theorem dX4_isLiving_32 : decode cX4_isLiving 32 = .ok (.iconst 0, 1) := by decide +kernel
theorem dX4_isLiving_33 : decode cX4_isLiving 33 = .ok (.ireturn, 1) := by decide +kernel
theorem dX4_childrenOf_0 : decode cX4_childrenOf 0 = .ok (.iconst 0, 1) := by decide +kernel
theorem dX4_childrenOf_1 : decode cX4_childrenOf 1 = .ok (.istore_n 2, 1) := by decide +kernel
theorem dX4_childrenOf_2 : decode cX4_childrenOf 2 = .ok (.iconst 0, 1) := by decide +kernel
theorem dX4_childrenOf_3 : decode cX4_childrenOf 3 = .ok (.istore_n 3, 1) := by decide +kernel
theorem dX4_childrenOf_4 : decode cX4_childrenOf 4 = .ok (.iload_n 3, 1) := by decide +kernel
theorem dX4_childrenOf_5 : decode cX4_childrenOf 5 = .ok (.aload_n 0, 1) := by decide +kernel
theorem dX4_childrenOf_6 : decode cX4_childrenOf 6 = .ok (.getfield 37, 3) := by decide +kernel
theorem dX4_childrenOf_9 : decode cX4_childrenOf 9 = .ok (.if_icmp .ge 32, 3) := by decide +kernel
theorem dX4_childrenOf_12 : decode cX4_childrenOf 12 = .ok (.aload_n 0, 1) := by decide +kernel
theorem dX4_childrenOf_13 : decode cX4_childrenOf 13 = .ok (.getfield 25, 3) := by decide +kernel
theorem dX4_childrenOf_16 : decode cX4_childrenOf 16 = .ok (.iload_n 3, 1) := by decide +kernel
theorem dX4_childrenOf_17 : decode cX4_childrenOf 17 = .ok (.iaload, 1) := by decide +kernel
theorem dX4_childrenOf_18 : decode cX4_childrenOf 18 = .ok (.iload_n 1, 1) := by decide +kernel
theorem dX4_childrenOf_19 : decode cX4_childrenOf 19 = .ok (.if_icmp .eq 13, 3) := by decide +kernel
theorem dX4_childrenOf_22 : decode cX4_childrenOf 22 = .ok (.aload_n 0, 1) := by decide +kernel
theorem dX4_childrenOf_23 : decode cX4_childrenOf 23 = .ok (.getfield 28, 3) := by decide +kernel
theorem dX4_childrenOf_26 : decode cX4_childrenOf 26 = .ok (.iload_n 3, 1) := by decide +kernel
theorem dX4_childrenOf_27 : decode cX4_childrenOf 27 = .ok (.iaload, 1) := by decide +kernel
theorem dX4_childrenOf_28 : decode cX4_childrenOf 28 = .ok (.iload_n 1, 1) := by decide +kernel
theorem dX4_childrenOf_29 : decode cX4_childrenOf 29 = .ok (.if_icmp .ne 6, 3) := by decide +kernel
theorem dX4_childrenOf_32 : decode cX4_childrenOf 32 = .ok (.iinc 2 1, 3) := by decide +kernel
theorem dX4_childrenOf_35 : decode cX4_childrenOf 35 = .ok (.iinc 3 1, 3) := by decide +kernel
theorem dX4_childrenOf_38 : decode cX4_childrenOf 38 = .ok (.goto (-34), 3) := by decide +kernel
theorem dX4_childrenOf_41 : decode cX4_childrenOf 41 = .ok (.iload_n 2, 1) := by decide +kernel
theorem dX4_childrenOf_42 : decode cX4_childrenOf 42 = .ok (.ireturn, 1) := by decide +kernel
theorem dX4_livingLines_0 : decode cX4_livingLines 0 = .ok (.lconst 0, 1) := by decide +kernel
theorem dX4_livingLines_1 : decode cX4_livingLines 1 = .ok (.lstore_n 2, 1) := by decide +kernel
theorem dX4_livingLines_2 : decode cX4_livingLines 2 = .ok (.aload_n 0, 1) := by decide +kernel
theorem dX4_livingLines_3 : decode cX4_livingLines 3 = .ok (.getfield 37, 3) := by decide +kernel
theorem dX4_livingLines_6 : decode cX4_livingLines 6 = .ok (.iconst 1, 1) := by decide +kernel
theorem dX4_livingLines_7 : decode cX4_livingLines 7 = .ok (.isub, 1) := by decide +kernel
theorem dX4_livingLines_8 : decode cX4_livingLines 8 = .ok (.istore 4, 2) := by decide +kernel
theorem dX4_livingLines_10 : decode cX4_livingLines 10 = .ok (.iload 4, 2) := by decide +kernel
theorem dX4_livingLines_12 : decode cX4_livingLines 12 = .ok (.ifCond .lt 68, 3) := by decide +kernel
theorem dX4_livingLines_15 : decode cX4_livingLines 15 = .ok (.aload_n 0, 1) := by decide +kernel
theorem dX4_livingLines_16 : decode cX4_livingLines 16 = .ok (.getfield 11, 3) := by decide +kernel
theorem dX4_livingLines_19 : decode cX4_livingLines 19 = .ok (.iload 4, 2) := by decide +kernel
theorem dX4_livingLines_21 : decode cX4_livingLines 21 = .ok (.baload, 1) := by decide +kernel
theorem dX4_livingLines_22 : decode cX4_livingLines 22 = .ok (.ifCond .ne 20, 3) := by decide +kernel
theorem dX4_livingLines_25 : decode cX4_livingLines 25 = .ok (.aload_n 0, 1) := by decide +kernel
theorem dX4_livingLines_26 : decode cX4_livingLines 26 = .ok (.iload 4, 2) := by decide +kernel
theorem dX4_livingLines_28 : decode cX4_livingLines 28 = .ok (.iload_n 1, 1) := by decide +kernel
theorem dX4_livingLines_29 : decode cX4_livingLines 29 = .ok (.invokevirtual 61, 3) := by decide +kernel
theorem dX4_livingLines_32 : decode cX4_livingLines 32 = .ok (.ifCond .eq 10, 3) := by decide +kernel
theorem dX4_livingLines_35 : decode cX4_livingLines 35 = .ok (.lload_n 2, 1) := by decide +kernel
theorem dX4_livingLines_36 : decode cX4_livingLines 36 = .ok (.lconst 1, 1) := by decide +kernel
theorem dX4_livingLines_37 : decode cX4_livingLines 37 = .ok (.iload 4, 2) := by decide +kernel
theorem dX4_livingLines_39 : decode cX4_livingLines 39 = .ok (.lshl, 1) := by decide +kernel
theorem dX4_livingLines_40 : decode cX4_livingLines 40 = .ok (.lor, 1) := by decide +kernel
theorem dX4_livingLines_41 : decode cX4_livingLines 41 = .ok (.lstore_n 2, 1) := by decide +kernel
theorem dX4_livingLines_42 : decode cX4_livingLines 42 = .ok (.lload_n 2, 1) := by decide +kernel
theorem dX4_livingLines_43 : decode cX4_livingLines 43 = .ok (.iload 4, 2) := by decide +kernel
theorem dX4_livingLines_45 : decode cX4_livingLines 45 = .ok (.invokestatic 64, 3) := by decide +kernel
theorem dX4_livingLines_48 : decode cX4_livingLines 48 = .ok (.ifCond .eq 26, 3) := by decide +kernel
theorem dX4_livingLines_51 : decode cX4_livingLines 51 = .ok (.aload_n 0, 1) := by decide +kernel
theorem dX4_livingLines_52 : decode cX4_livingLines 52 = .ok (.getfield 25, 3) := by decide +kernel
theorem dX4_livingLines_55 : decode cX4_livingLines 55 = .ok (.iload 4, 2) := by decide +kernel
theorem dX4_livingLines_57 : decode cX4_livingLines 57 = .ok (.iaload, 1) := by decide +kernel
theorem dX4_livingLines_58 : decode cX4_livingLines 58 = .ok (.iconst (-1), 1) := by decide +kernel
theorem dX4_livingLines_59 : decode cX4_livingLines 59 = .ok (.if_icmp .eq 15, 3) := by decide +kernel
theorem dX4_livingLines_62 : decode cX4_livingLines 62 = .ok (.lload_n 2, 1) := by decide +kernel
theorem dX4_livingLines_63 : decode cX4_livingLines 63 = .ok (.lconst 1, 1) := by decide +kernel
theorem dX4_livingLines_64 : decode cX4_livingLines 64 = .ok (.aload_n 0, 1) := by decide +kernel
theorem dX4_livingLines_65 : decode cX4_livingLines 65 = .ok (.getfield 25, 3) := by decide +kernel
theorem dX4_livingLines_68 : decode cX4_livingLines 68 = .ok (.iload 4, 2) := by decide +kernel
theorem dX4_livingLines_70 : decode cX4_livingLines 70 = .ok (.iaload, 1) := by decide +kernel
theorem dX4_livingLines_71 : decode cX4_livingLines 71 = .ok (.lshl, 1) := by decide +kernel
theorem dX4_livingLines_72 : decode cX4_livingLines 72 = .ok (.lor, 1) := by decide +kernel
theorem dX4_livingLines_73 : decode cX4_livingLines 73 = .ok (.lstore_n 2, 1) := by decide +kernel
theorem dX4_livingLines_74 : decode cX4_livingLines 74 = .ok (.iinc 4 (-1), 3) := by decide +kernel
theorem dX4_livingLines_77 : decode cX4_livingLines 77 = .ok (.goto (-67), 3) := by decide +kernel
theorem dX4_livingLines_80 : decode cX4_livingLines 80 = .ok (.lload_n 2, 1) := by decide +kernel
theorem dX4_livingLines_81 : decode cX4_livingLines 81 = .ok (.lreturn, 1) := by decide +kernel
theorem dX4_isElder_0 : decode cX4_isElder 0 = .ok (.aload_n 0, 1) := by decide +kernel
theorem dX4_isElder_1 : decode cX4_isElder 1 = .ok (.iload_n 1, 1) := by decide +kernel
theorem dX4_isElder_2 : decode cX4_isElder 2 = .ok (.invokevirtual 68, 3) := by decide +kernel
theorem dX4_isElder_5 : decode cX4_isElder 5 = .ok (.aload_n 0, 1) := by decide +kernel
theorem dX4_isElder_6 : decode cX4_isElder 6 = .ok (.iload_n 2, 1) := by decide +kernel
theorem dX4_isElder_7 : decode cX4_isElder 7 = .ok (.invokevirtual 68, 3) := by decide +kernel
theorem dX4_isElder_10 : decode cX4_isElder 10 = .ok (.isub, 1) := by decide +kernel
theorem dX4_isElder_11 : decode cX4_isElder 11 = .ok (.istore_n 3, 1) := by decide +kernel
theorem dX4_isElder_12 : decode cX4_isElder 12 = .ok (.iload_n 3, 1) := by decide +kernel
theorem dX4_isElder_13 : decode cX4_isElder 13 = .ok (.ifCond .lt 12, 3) := by decide +kernel
theorem dX4_isElder_16 : decode cX4_isElder 16 = .ok (.iload_n 3, 1) := by decide +kernel
theorem dX4_isElder_17 : decode cX4_isElder 17 = .ok (.ifCond .ne 12, 3) := by decide +kernel
theorem dX4_isElder_20 : decode cX4_isElder 20 = .ok (.iload_n 1, 1) := by decide +kernel
theorem dX4_isElder_21 : decode cX4_isElder 21 = .ok (.iload_n 2, 1) := by decide +kernel
theorem dX4_isElder_22 : decode cX4_isElder 22 = .ok (.if_icmp .ge 7, 3) := by decide +kernel
theorem dX4_isElder_25 : decode cX4_isElder 25 = .ok (.iconst 1, 1) := by decide +kernel
theorem dX4_isElder_26 : decode cX4_isElder 26 = .ok (.goto 4, 3) := by decide +kernel
theorem dX4_isElder_29 : decode cX4_isElder 29 = .ok (.iconst 0, 1) := by decide +kernel
theorem dX4_isElder_30 : decode cX4_isElder 30 = .ok (.ireturn, 1) := by decide +kernel
theorem dX4_placeOf_0 : decode cX4_placeOf 0 = .ok (.aload_n 0, 1) := by decide +kernel
theorem dX4_placeOf_1 : decode cX4_placeOf 1 = .ok (.iload_n 1, 1) := by decide +kernel
theorem dX4_placeOf_2 : decode cX4_placeOf 2 = .ok (.invokevirtual 72, 3) := by decide +kernel
theorem dX4_placeOf_5 : decode cX4_placeOf 5 = .ok (.istore 4, 2) := by decide +kernel
theorem dX4_placeOf_7 : decode cX4_placeOf 7 = .ok (.iconst 1, 1) := by decide +kernel
theorem dX4_placeOf_8 : decode cX4_placeOf 8 = .ok (.istore 5, 2) := by decide +kernel
theorem dX4_placeOf_10 : decode cX4_placeOf 10 = .ok (.iconst 0, 1) := by decide +kernel
theorem dX4_placeOf_11 : decode cX4_placeOf 11 = .ok (.istore 6, 2) := by decide +kernel
theorem dX4_placeOf_13 : decode cX4_placeOf 13 = .ok (.iload 6, 2) := by decide +kernel
theorem dX4_placeOf_15 : decode cX4_placeOf 15 = .ok (.aload_n 0, 1) := by decide +kernel
theorem dX4_placeOf_16 : decode cX4_placeOf 16 = .ok (.getfield 37, 3) := by decide +kernel
theorem dX4_placeOf_19 : decode cX4_placeOf 19 = .ok (.if_icmp .ge 43, 3) := by decide +kernel
theorem dX4_placeOf_22 : decode cX4_placeOf 22 = .ok (.aload_n 0, 1) := by decide +kernel
theorem dX4_placeOf_23 : decode cX4_placeOf 23 = .ok (.getfield 25, 3) := by decide +kernel
theorem dX4_placeOf_26 : decode cX4_placeOf 26 = .ok (.iload 6, 2) := by decide +kernel
theorem dX4_placeOf_28 : decode cX4_placeOf 28 = .ok (.iaload, 1) := by decide +kernel
theorem dX4_placeOf_29 : decode cX4_placeOf 29 = .ok (.iload 4, 2) := by decide +kernel
theorem dX4_placeOf_31 : decode cX4_placeOf 31 = .ok (.if_icmp .ne 25, 3) := by decide +kernel
theorem dX4_placeOf_34 : decode cX4_placeOf 34 = .ok (.lload_n 2, 1) := by decide +kernel
theorem dX4_placeOf_35 : decode cX4_placeOf 35 = .ok (.iload 6, 2) := by decide +kernel
theorem dX4_placeOf_37 : decode cX4_placeOf 37 = .ok (.invokestatic 64, 3) := by decide +kernel
theorem dX4_placeOf_40 : decode cX4_placeOf 40 = .ok (.ifCond .eq 16, 3) := by decide +kernel
theorem dX4_placeOf_43 : decode cX4_placeOf 43 = .ok (.aload_n 0, 1) := by decide +kernel
theorem dX4_placeOf_44 : decode cX4_placeOf 44 = .ok (.iload 6, 2) := by decide +kernel
theorem dX4_placeOf_46 : decode cX4_placeOf 46 = .ok (.iload_n 1, 1) := by decide +kernel
theorem dX4_placeOf_47 : decode cX4_placeOf 47 = .ok (.invokevirtual 75, 3) := by decide +kernel
theorem dX4_placeOf_50 : decode cX4_placeOf 50 = .ok (.ifCond .eq 6, 3) := by decide +kernel
theorem dX4_placeOf_53 : decode cX4_placeOf 53 = .ok (.iinc 5 1, 3) := by decide +kernel
theorem dX4_placeOf_56 : decode cX4_placeOf 56 = .ok (.iinc 6 1, 3) := by decide +kernel
theorem dX4_placeOf_59 : decode cX4_placeOf 59 = .ok (.goto (-46), 3) := by decide +kernel
theorem dX4_placeOf_62 : decode cX4_placeOf 62 = .ok (.iload 5, 2) := by decide +kernel
theorem dX4_placeOf_64 : decode cX4_placeOf 64 = .ok (.ireturn, 1) := by decide +kernel
theorem dX4_headOf_0 : decode cX4_headOf 0 = .ok (.aload_n 0, 1) := by decide +kernel
theorem dX4_headOf_1 : decode cX4_headOf 1 = .ok (.iload_n 2, 1) := by decide +kernel
theorem dX4_headOf_2 : decode cX4_headOf 2 = .ok (.invokevirtual 78, 3) := by decide +kernel
theorem dX4_headOf_5 : decode cX4_headOf 5 = .ok (.lstore_n 3, 1) := by decide +kernel
theorem dX4_headOf_6 : decode cX4_headOf 6 = .ok (.iload_n 1, 1) := by decide +kernel
theorem dX4_headOf_7 : decode cX4_headOf 7 = .ok (.istore 5, 2) := by decide +kernel
theorem dX4_headOf_9 : decode cX4_headOf 9 = .ok (.iconst 0, 1) := by decide +kernel
theorem dX4_headOf_10 : decode cX4_headOf 10 = .ok (.istore 6, 2) := by decide +kernel
theorem dX4_headOf_12 : decode cX4_headOf 12 = .ok (.iload 6, 2) := by decide +kernel
theorem dX4_headOf_14 : decode cX4_headOf 14 = .ok (.bipush 60, 2) := by decide +kernel
theorem dX4_headOf_16 : decode cX4_headOf 16 = .ok (.if_icmp .ge 37, 3) := by decide +kernel
theorem dX4_headOf_19 : decode cX4_headOf 19 = .ok (.iload 5, 2) := by decide +kernel
theorem dX4_headOf_21 : decode cX4_headOf 21 = .ok (.iconst (-1), 1) := by decide +kernel
theorem dX4_headOf_22 : decode cX4_headOf 22 = .ok (.if_icmp .eq 31, 3) := by decide +kernel
theorem dX4_headOf_25 : decode cX4_headOf 25 = .ok (.aload_n 0, 1) := by decide +kernel
theorem dX4_headOf_26 : decode cX4_headOf 26 = .ok (.iload 5, 2) := by decide +kernel
theorem dX4_headOf_28 : decode cX4_headOf 28 = .ok (.iload_n 2, 1) := by decide +kernel
theorem dX4_headOf_29 : decode cX4_headOf 29 = .ok (.invokevirtual 61, 3) := by decide +kernel
theorem dX4_headOf_32 : decode cX4_headOf 32 = .ok (.ifCond .eq 6, 3) := by decide +kernel
theorem dX4_headOf_35 : decode cX4_headOf 35 = .ok (.iload 5, 2) := by decide +kernel
theorem dX4_headOf_37 : decode cX4_headOf 37 = .ok (.ireturn, 1) := by decide +kernel
theorem dX4_headOf_38 : decode cX4_headOf 38 = .ok (.aload_n 0, 1) := by decide +kernel
theorem dX4_headOf_39 : decode cX4_headOf 39 = .ok (.iload 5, 2) := by decide +kernel
theorem dX4_headOf_41 : decode cX4_headOf 41 = .ok (.lload_n 3, 1) := by decide +kernel
theorem dX4_headOf_42 : decode cX4_headOf 42 = .ok (.invokevirtual 82, 3) := by decide +kernel
theorem dX4_headOf_45 : decode cX4_headOf 45 = .ok (.istore 5, 2) := by decide +kernel
theorem dX4_headOf_47 : decode cX4_headOf 47 = .ok (.iinc 6 1, 3) := by decide +kernel
theorem dX4_headOf_50 : decode cX4_headOf 50 = .ok (.goto (-38), 3) := by decide +kernel
theorem dX4_headOf_53 : decode cX4_headOf 53 = .ok (.iconst (-1), 1) := by decide +kernel
theorem dX4_headOf_54 : decode cX4_headOf 54 = .ok (.ireturn, 1) := by decide +kernel
theorem dX4_heirOf_0 : decode cX4_heirOf 0 = .ok (.iconst (-1), 1) := by decide +kernel
theorem dX4_heirOf_1 : decode cX4_heirOf 1 = .ok (.istore 4, 2) := by decide +kernel
theorem dX4_heirOf_3 : decode cX4_heirOf 3 = .ok (.iconst 0, 1) := by decide +kernel
theorem dX4_heirOf_4 : decode cX4_heirOf 4 = .ok (.istore 5, 2) := by decide +kernel
theorem dX4_heirOf_6 : decode cX4_heirOf 6 = .ok (.iload 5, 2) := by decide +kernel
theorem dX4_heirOf_8 : decode cX4_heirOf 8 = .ok (.aload_n 0, 1) := by decide +kernel
theorem dX4_heirOf_9 : decode cX4_heirOf 9 = .ok (.getfield 37, 3) := by decide +kernel
theorem dX4_heirOf_12 : decode cX4_heirOf 12 = .ok (.if_icmp .ge 73, 3) := by decide +kernel
theorem dX4_heirOf_15 : decode cX4_heirOf 15 = .ok (.aload_n 0, 1) := by decide +kernel
theorem dX4_heirOf_16 : decode cX4_heirOf 16 = .ok (.getfield 25, 3) := by decide +kernel
theorem dX4_heirOf_19 : decode cX4_heirOf 19 = .ok (.iload 5, 2) := by decide +kernel
theorem dX4_heirOf_21 : decode cX4_heirOf 21 = .ok (.iaload, 1) := by decide +kernel
theorem dX4_heirOf_22 : decode cX4_heirOf 22 = .ok (.iload_n 1, 1) := by decide +kernel
theorem dX4_heirOf_23 : decode cX4_heirOf 23 = .ok (.if_icmp .eq 14, 3) := by decide +kernel
theorem dX4_heirOf_26 : decode cX4_heirOf 26 = .ok (.aload_n 0, 1) := by decide +kernel
theorem dX4_heirOf_27 : decode cX4_heirOf 27 = .ok (.getfield 28, 3) := by decide +kernel
theorem dX4_heirOf_30 : decode cX4_heirOf 30 = .ok (.iload 5, 2) := by decide +kernel
theorem dX4_heirOf_32 : decode cX4_heirOf 32 = .ok (.iaload, 1) := by decide +kernel
theorem dX4_heirOf_33 : decode cX4_heirOf 33 = .ok (.iload_n 1, 1) := by decide +kernel
theorem dX4_heirOf_34 : decode cX4_heirOf 34 = .ok (.if_icmp .ne 16, 3) := by decide +kernel
theorem dX4_heirOf_37 : decode cX4_heirOf 37 = .ok (.lload_n 2, 1) := by decide +kernel
theorem dX4_heirOf_38 : decode cX4_heirOf 38 = .ok (.iload 5, 2) := by decide +kernel
theorem dX4_heirOf_40 : decode cX4_heirOf 40 = .ok (.invokestatic 64, 3) := by decide +kernel
theorem dX4_heirOf_43 : decode cX4_heirOf 43 = .ok (.ifCond .eq 7, 3) := by decide +kernel
theorem dX4_heirOf_46 : decode cX4_heirOf 46 = .ok (.iconst 1, 1) := by decide +kernel
theorem dX4_heirOf_47 : decode cX4_heirOf 47 = .ok (.goto 4, 3) := by decide +kernel
theorem dX4_heirOf_50 : decode cX4_heirOf 50 = .ok (.iconst 0, 1) := by decide +kernel
theorem dX4_heirOf_51 : decode cX4_heirOf 51 = .ok (.istore 6, 2) := by decide +kernel
theorem dX4_heirOf_53 : decode cX4_heirOf 53 = .ok (.iload 6, 2) := by decide +kernel
theorem dX4_heirOf_55 : decode cX4_heirOf 55 = .ok (.ifCond .eq 24, 3) := by decide +kernel
theorem dX4_heirOf_58 : decode cX4_heirOf 58 = .ok (.iload 4, 2) := by decide +kernel
theorem dX4_heirOf_60 : decode cX4_heirOf 60 = .ok (.iconst (-1), 1) := by decide +kernel
theorem dX4_heirOf_61 : decode cX4_heirOf 61 = .ok (.if_icmp .eq 14, 3) := by decide +kernel
theorem dX4_heirOf_64 : decode cX4_heirOf 64 = .ok (.aload_n 0, 1) := by decide +kernel
theorem dX4_heirOf_65 : decode cX4_heirOf 65 = .ok (.iload 5, 2) := by decide +kernel
theorem dX4_heirOf_67 : decode cX4_heirOf 67 = .ok (.iload 4, 2) := by decide +kernel
theorem dX4_heirOf_69 : decode cX4_heirOf 69 = .ok (.invokevirtual 75, 3) := by decide +kernel
theorem dX4_heirOf_72 : decode cX4_heirOf 72 = .ok (.ifCond .eq 7, 3) := by decide +kernel
theorem dX4_heirOf_75 : decode cX4_heirOf 75 = .ok (.iload 5, 2) := by decide +kernel
theorem dX4_heirOf_77 : decode cX4_heirOf 77 = .ok (.istore 4, 2) := by decide +kernel
theorem dX4_heirOf_79 : decode cX4_heirOf 79 = .ok (.iinc 5 1, 3) := by decide +kernel
theorem dX4_heirOf_82 : decode cX4_heirOf 82 = .ok (.goto (-76), 3) := by decide +kernel
theorem dX4_heirOf_85 : decode cX4_heirOf 85 = .ok (.iload 4, 2) := by decide +kernel
theorem dX4_heirOf_87 : decode cX4_heirOf 87 = .ok (.ireturn, 1) := by decide +kernel
theorem dX4_isHeiress_0 : decode cX4_isHeiress 0 = .ok (.aload_n 0, 1) := by decide +kernel
theorem dX4_isHeiress_1 : decode cX4_isHeiress 1 = .ok (.iload_n 1, 1) := by decide +kernel
theorem dX4_isHeiress_2 : decode cX4_isHeiress 2 = .ok (.invokevirtual 72, 3) := by decide +kernel
theorem dX4_isHeiress_5 : decode cX4_isHeiress 5 = .ok (.istore 5, 2) := by decide +kernel
theorem dX4_isHeiress_7 : decode cX4_isHeiress 7 = .ok (.aload_n 0, 1) := by decide +kernel
theorem dX4_isHeiress_8 : decode cX4_isHeiress 8 = .ok (.iload_n 1, 1) := by decide +kernel
