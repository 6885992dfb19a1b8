theorem dX1_init_0 : decode cX1_init 0 = .ok (.aload_n 0, 1) := by decide +kernel
theorem dX1_init_1 : decode cX1_init 1 = .ok (.invokespecial 3, 3) := by decide +kernel
theorem dX1_init_4 : decode cX1_init 4 = .ok (.aload_n 0, 1) := by decide +kernel
theorem dX1_init_5 : decode cX1_init 5 = .ok (.bipush 40, 2) := by decide +kernel
theorem dX1_init_7 : decode cX1_init 7 = .ok (.newarray .int, 2) := by decide +kernel
theorem dX1_init_9 : decode cX1_init 9 = .ok (.putfield 11, 3) := by decide +kernel
theorem dX1_init_12 : decode cX1_init 12 = .ok (.aload_n 0, 1) := by decide +kernel
theorem dX1_init_13 : decode cX1_init 13 = .ok (.bipush 40, 2) := by decide +kernel
theorem dX1_init_15 : decode cX1_init 15 = .ok (.newarray .int, 2) := by decide +kernel
theorem dX1_init_17 : decode cX1_init 17 = .ok (.putfield 15, 3) := by decide +kernel
theorem dX1_init_20 : decode cX1_init 20 = .ok (.aload_n 0, 1) := by decide +kernel
theorem dX1_init_21 : decode cX1_init 21 = .ok (.bipush 40, 2) := by decide +kernel
theorem dX1_init_23 : decode cX1_init 23 = .ok (.newarray .int, 2) := by decide +kernel
theorem dX1_init_25 : decode cX1_init 25 = .ok (.putfield 18, 3) := by decide +kernel
theorem dX1_init_28 : decode cX1_init 28 = .ok (.aload_n 0, 1) := by decide +kernel
theorem dX1_init_29 : decode cX1_init 29 = .ok (.iconst 0, 1) := by decide +kernel
theorem dX1_init_30 : decode cX1_init 30 = .ok (.putfield 21, 3) := by decide +kernel
theorem dX1_init_33 : decode cX1_init 33 = .ok (.return_, 1) := by decide +kernel
theorem dX1_add_0 : decode cX1_add 0 = .ok (.aload_n 0, 1) := by decide +kernel
theorem dX1_add_1 : decode cX1_add 1 = .ok (.getfield 21, 3) := by decide +kernel
theorem dX1_add_4 : decode cX1_add 4 = .ok (.bipush 40, 2) := by decide +kernel
theorem dX1_add_6 : decode cX1_add 6 = .ok (.if_icmp .ge 21, 3) := by decide +kernel
theorem dX1_add_9 : decode cX1_add 9 = .ok (.iload_n 2, 1) := by decide +kernel
theorem dX1_add_10 : decode cX1_add 10 = .ok (.iconst 1, 1) := by decide +kernel
theorem dX1_add_11 : decode cX1_add 11 = .ok (.if_icmp .lt 16, 3) := by decide +kernel
theorem dX1_add_14 : decode cX1_add 14 = .ok (.iload_n 2, 1) := by decide +kernel
theorem dX1_add_15 : decode cX1_add 15 = .ok (.bipush 99, 2) := by decide +kernel
theorem dX1_add_17 : decode cX1_add 17 = .ok (.if_icmp .gt 10, 3) := by decide +kernel
theorem dX1_add_20 : decode cX1_add 20 = .ok (.iload_n 3, 1) := by decide +kernel
theorem dX1_add_21 : decode cX1_add 21 = .ok (.invokestatic 25, 3) := by decide +kernel
theorem dX1_add_24 : decode cX1_add 24 = .ok (.ifCond .ne 5, 3) := by decide +kernel
theorem dX1_add_27 : decode cX1_add 27 = .ok (.iconst (-1), 1) := by decide +kernel
theorem dX1_add_28 : decode cX1_add 28 = .ok (.ireturn, 1) := by decide +kernel
theorem dX1_add_29 : decode cX1_add 29 = .ok (.aload_n 0, 1) := by decide +kernel
theorem dX1_add_30 : decode cX1_add 30 = .ok (.getfield 21, 3) := by decide +kernel
theorem dX1_add_33 : decode cX1_add 33 = .ok (.istore 4, 2) := by decide +kernel
theorem dX1_add_35 : decode cX1_add 35 = .ok (.aload_n 0, 1) := by decide +kernel
theorem dX1_add_36 : decode cX1_add 36 = .ok (.getfield 11, 3) := by decide +kernel
theorem dX1_add_39 : decode cX1_add 39 = .ok (.iload 4, 2) := by decide +kernel
theorem dX1_add_41 : decode cX1_add 41 = .ok (.iload_n 1, 1) := by decide +kernel
theorem dX1_add_42 : decode cX1_add 42 = .ok (.iastore, 1) := by decide +kernel
theorem dX1_add_43 : decode cX1_add 43 = .ok (.aload_n 0, 1) := by decide +kernel
theorem dX1_add_44 : decode cX1_add 44 = .ok (.getfield 15, 3) := by decide +kernel
theorem dX1_add_47 : decode cX1_add 47 = .ok (.iload 4, 2) := by decide +kernel
theorem dX1_add_49 : decode cX1_add 49 = .ok (.iload_n 2, 1) := by decide +kernel
theorem dX1_add_50 : decode cX1_add 50 = .ok (.iastore, 1) := by decide +kernel
theorem dX1_add_51 : decode cX1_add 51 = .ok (.aload_n 0, 1) := by decide +kernel
theorem dX1_add_52 : decode cX1_add 52 = .ok (.getfield 18, 3) := by decide +kernel
theorem dX1_add_55 : decode cX1_add 55 = .ok (.iload 4, 2) := by decide +kernel
theorem dX1_add_57 : decode cX1_add 57 = .ok (.iload_n 3, 1) := by decide +kernel
theorem dX1_add_58 : decode cX1_add 58 = .ok (.iastore, 1) := by decide +kernel
theorem dX1_add_59 : decode cX1_add 59 = .ok (.aload_n 0, 1) := by decide +kernel
theorem dX1_add_60 : decode cX1_add 60 = .ok (.iload 4, 2) := by decide +kernel
theorem dX1_add_62 : decode cX1_add 62 = .ok (.iconst 1, 1) := by decide +kernel
theorem dX1_add_63 : decode cX1_add 63 = .ok (.iadd, 1) := by decide +kernel
theorem dX1_add_64 : decode cX1_add 64 = .ok (.putfield 21, 3) := by decide +kernel
theorem dX1_add_67 : decode cX1_add 67 = .ok (.iload 4, 2) := by decide +kernel
theorem dX1_add_69 : decode cX1_add 69 = .ok (.ireturn, 1) := by decide +kernel
theorem dX1_ownArms_0 : decode cX1_ownArms 0 = .ok (.iconst (-1), 1) := by decide +kernel
theorem dX1_ownArms_1 : decode cX1_ownArms 1 = .ok (.istore_n 3, 1) := by decide +kernel
theorem dX1_ownArms_2 : decode cX1_ownArms 2 = .ok (.sipush 1000, 3) := by decide +kernel
theorem dX1_ownArms_5 : decode cX1_ownArms 5 = .ok (.istore 4, 2) := by decide +kernel
theorem dX1_ownArms_7 : decode cX1_ownArms 7 = .ok (.iconst 0, 1) := by decide +kernel
theorem dX1_ownArms_8 : decode cX1_ownArms 8 = .ok (.istore 5, 2) := by decide +kernel
theorem dX1_ownArms_10 : decode cX1_ownArms 10 = .ok (.iload 5, 2) := by decide +kernel
theorem dX1_ownArms_12 : decode cX1_ownArms 12 = .ok (.aload_n 0, 1) := by decide +kernel
theorem dX1_ownArms_13 : decode cX1_ownArms 13 = .ok (.getfield 21, 3) := by decide +kernel
theorem dX1_ownArms_16 : decode cX1_ownArms 16 = .ok (.if_icmp .ge 60, 3) := by decide +kernel
theorem dX1_ownArms_19 : decode cX1_ownArms 19 = .ok (.aload_n 0, 1) := by decide +kernel
theorem dX1_ownArms_20 : decode cX1_ownArms 20 = .ok (.getfield 11, 3) := by decide +kernel
theorem dX1_ownArms_23 : decode cX1_ownArms 23 = .ok (.iload 5, 2) := by decide +kernel
theorem dX1_ownArms_25 : decode cX1_ownArms 25 = .ok (.iaload, 1) := by decide +kernel
theorem dX1_ownArms_26 : decode cX1_ownArms 26 = .ok (.iload_n 1, 1) := by decide +kernel
theorem dX1_ownArms_27 : decode cX1_ownArms 27 = .ok (.if_icmp .ne 43, 3) := by decide +kernel
theorem dX1_ownArms_30 : decode cX1_ownArms 30 = .ok (.aload_n 0, 1) := by decide +kernel
theorem dX1_ownArms_31 : decode cX1_ownArms 31 = .ok (.getfield 18, 3) := by decide +kernel
theorem dX1_ownArms_34 : decode cX1_ownArms 34 = .ok (.iload 5, 2) := by decide +kernel
theorem dX1_ownArms_36 : decode cX1_ownArms 36 = .ok (.iaload, 1) := by decide +kernel
theorem dX1_ownArms_37 : decode cX1_ownArms 37 = .ok (.iload_n 2, 1) := by decide +kernel
theorem dX1_ownArms_38 : decode cX1_ownArms 38 = .ok (.if_icmp .gt 32, 3) := by decide +kernel
theorem dX1_ownArms_41 : decode cX1_ownArms 41 = .ok (.aload_n 0, 1) := by decide +kernel
theorem dX1_ownArms_42 : decode cX1_ownArms 42 = .ok (.getfield 18, 3) := by decide +kernel
theorem dX1_ownArms_45 : decode cX1_ownArms 45 = .ok (.iload 5, 2) := by decide +kernel
theorem dX1_ownArms_47 : decode cX1_ownArms 47 = .ok (.iaload, 1) := by decide +kernel
theorem dX1_ownArms_48 : decode cX1_ownArms 48 = .ok (.iload 4, 2) := by decide +kernel
theorem dX1_ownArms_50 : decode cX1_ownArms 50 = .ok (.if_icmp .lt 20, 3) := by decide +kernel
theorem dX1_ownArms_53 : decode cX1_ownArms 53 = .ok (.aload_n 0, 1) := by decide +kernel
theorem dX1_ownArms_54 : decode cX1_ownArms 54 = .ok (.getfield 15, 3) := by decide +kernel
theorem dX1_ownArms_57 : decode cX1_ownArms 57 = .ok (.iload 5, 2) := by decide +kernel
theorem dX1_ownArms_59 : decode cX1_ownArms 59 = .ok (.iaload, 1) := by decide +kernel
theorem dX1_ownArms_60 : decode cX1_ownArms 60 = .ok (.istore_n 3, 1) := by decide +kernel
theorem dX1_ownArms_61 : decode cX1_ownArms 61 = .ok (.aload_n 0, 1) := by decide +kernel
theorem dX1_ownArms_62 : decode cX1_ownArms 62 = .ok (.getfield 18, 3) := by decide +kernel
theorem dX1_ownArms_65 : decode cX1_ownArms 65 = .ok (.iload 5, 2) := by decide +kernel
theorem dX1_ownArms_67 : decode cX1_ownArms 67 = .ok (.iaload, 1) := by decide +kernel
theorem dX1_ownArms_68 : decode cX1_ownArms 68 = .ok (.istore 4, 2) := by decide +kernel
theorem dX1_ownArms_70 : decode cX1_ownArms 70 = .ok (.iinc 5 1, 3) := by decide +kernel
theorem dX1_ownArms_73 : decode cX1_ownArms 73 = .ok (.goto (-63), 3) := by decide +kernel
theorem dX1_ownArms_76 : decode cX1_ownArms 76 = .ok (.iload_n 3, 1) := by decide +kernel
theorem dX1_ownArms_77 : decode cX1_ownArms 77 = .ok (.ireturn, 1) := by decide +kernel
