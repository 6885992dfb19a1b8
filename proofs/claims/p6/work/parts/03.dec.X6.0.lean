theorem dX6_init_0 : decode cX6_init 0 = .ok (.aload_n 0, 1) := by decide +kernel
theorem dX6_init_1 : decode cX6_init 1 = .ok (.invokespecial 3, 3) := by decide +kernel
theorem dX6_init_4 : decode cX6_init 4 = .ok (.aload_n 0, 1) := by decide +kernel
theorem dX6_init_5 : decode cX6_init 5 = .ok (.sipush 720, 3) := by decide +kernel
theorem dX6_init_8 : decode cX6_init 8 = .ok (.newarray .int, 2) := by decide +kernel
theorem dX6_init_10 : decode cX6_init 10 = .ok (.putfield 13, 3) := by decide +kernel
theorem dX6_init_13 : decode cX6_init 13 = .ok (.aload_n 0, 1) := by decide +kernel
theorem dX6_init_14 : decode cX6_init 14 = .ok (.bipush 60, 2) := by decide +kernel
theorem dX6_init_16 : decode cX6_init 16 = .ok (.newarray .int, 2) := by decide +kernel
theorem dX6_init_18 : decode cX6_init 18 = .ok (.putfield 17, 3) := by decide +kernel
theorem dX6_init_21 : decode cX6_init 21 = .ok (.return_, 1) := by decide +kernel
theorem dX6_fill_0 : decode cX6_fill 0 = .ok (.aload_n 1, 1) := by decide +kernel
theorem dX6_fill_1 : decode cX6_fill 1 = .ok (.iload 4, 2) := by decide +kernel
theorem dX6_fill_3 : decode cX6_fill 3 = .ok (.invokevirtual 20, 3) := by decide +kernel
theorem dX6_fill_6 : decode cX6_fill 6 = .ok (.lstore 5, 2) := by decide +kernel
theorem dX6_fill_8 : decode cX6_fill 8 = .ok (.aload_n 1, 1) := by decide +kernel
theorem dX6_fill_9 : decode cX6_fill 9 = .ok (.iload_n 3, 1) := by decide +kernel
theorem dX6_fill_10 : decode cX6_fill 10 = .ok (.invokevirtual 24, 3) := by decide +kernel
theorem dX6_fill_13 : decode cX6_fill 13 = .ok (.lstore 7, 2) := by decide +kernel
theorem dX6_fill_15 : decode cX6_fill 15 = .ok (.iconst 0, 1) := by decide +kernel
theorem dX6_fill_16 : decode cX6_fill 16 = .ok (.istore 9, 2) := by decide +kernel
theorem dX6_fill_18 : decode cX6_fill 18 = .ok (.iload 9, 2) := by decide +kernel
theorem dX6_fill_20 : decode cX6_fill 20 = .ok (.bipush 60, 2) := by decide +kernel
theorem dX6_fill_22 : decode cX6_fill 22 = .ok (.if_icmp .ge 88, 3) := by decide +kernel
theorem dX6_fill_25 : decode cX6_fill 25 = .ok (.lload 7, 2) := by decide +kernel
theorem dX6_fill_27 : decode cX6_fill 27 = .ok (.iload 9, 2) := by decide +kernel
theorem dX6_fill_29 : decode cX6_fill 29 = .ok (.invokestatic 27, 3) := by decide +kernel
theorem dX6_fill_32 : decode cX6_fill 32 = .ok (.ifCond .eq 72, 3) := by decide +kernel
theorem dX6_fill_35 : decode cX6_fill 35 = .ok (.aload_n 0, 1) := by decide +kernel
theorem dX6_fill_36 : decode cX6_fill 36 = .ok (.getfield 17, 3) := by decide +kernel
theorem dX6_fill_39 : decode cX6_fill 39 = .ok (.iload 9, 2) := by decide +kernel
theorem dX6_fill_41 : decode cX6_fill 41 = .ok (.iconst 0, 1) := by decide +kernel
theorem dX6_fill_42 : decode cX6_fill 42 = .ok (.iastore, 1) := by decide +kernel
theorem dX6_fill_43 : decode cX6_fill 43 = .ok (.aload_n 0, 1) := by decide +kernel
theorem dX6_fill_44 : decode cX6_fill 44 = .ok (.iload 9, 2) := by decide +kernel
theorem dX6_fill_46 : decode cX6_fill 46 = .ok (.aload_n 1, 1) := by decide +kernel
theorem dX6_fill_47 : decode cX6_fill 47 = .ok (.iload 9, 2) := by decide +kernel
theorem dX6_fill_49 : decode cX6_fill 49 = .ok (.invokevirtual 31, 3) := by decide +kernel
theorem dX6_fill_52 : decode cX6_fill 52 = .ok (.invokevirtual 35, 3) := by decide +kernel
theorem dX6_fill_55 : decode cX6_fill 55 = .ok (.aload_n 0, 1) := by decide +kernel
theorem dX6_fill_56 : decode cX6_fill 56 = .ok (.iload 9, 2) := by decide +kernel
theorem dX6_fill_58 : decode cX6_fill 58 = .ok (.aload_n 2, 1) := by decide +kernel
theorem dX6_fill_59 : decode cX6_fill 59 = .ok (.iload 9, 2) := by decide +kernel
theorem dX6_fill_61 : decode cX6_fill 61 = .ok (.iload 4, 2) := by decide +kernel
theorem dX6_fill_63 : decode cX6_fill 63 = .ok (.invokevirtual 39, 3) := by decide +kernel
theorem dX6_fill_66 : decode cX6_fill 66 = .ok (.invokevirtual 45, 3) := by decide +kernel
theorem dX6_fill_69 : decode cX6_fill 69 = .ok (.aload_n 1, 1) := by decide +kernel
theorem dX6_fill_70 : decode cX6_fill 70 = .ok (.iload 9, 2) := by decide +kernel
theorem dX6_fill_72 : decode cX6_fill 72 = .ok (.invokevirtual 48, 3) := by decide +kernel
theorem dX6_fill_75 : decode cX6_fill 75 = .ok (.istore 10, 2) := by decide +kernel
theorem dX6_fill_77 : decode cX6_fill 77 = .ok (.iload 10, 2) := by decide +kernel
theorem dX6_fill_79 : decode cX6_fill 79 = .ok (.iconst (-1), 1) := by decide +kernel
theorem dX6_fill_80 : decode cX6_fill 80 = .ok (.if_icmp .eq 24, 3) := by decide +kernel
theorem dX6_fill_83 : decode cX6_fill 83 = .ok (.aload_n 1, 1) := by decide +kernel
theorem dX6_fill_84 : decode cX6_fill 84 = .ok (.iload 10, 2) := by decide +kernel
theorem dX6_fill_86 : decode cX6_fill 86 = .ok (.iload 4, 2) := by decide +kernel
theorem dX6_fill_88 : decode cX6_fill 88 = .ok (.lload 5, 2) := by decide +kernel
theorem dX6_fill_90 : decode cX6_fill 90 = .ok (.invokevirtual 51, 3) := by decide +kernel
theorem dX6_fill_93 : decode cX6_fill 93 = .ok (.ifCond .eq 11, 3) := by decide +kernel
theorem dX6_fill_96 : decode cX6_fill 96 = .ok (.aload_n 0, 1) := by decide +kernel
theorem dX6_fill_97 : decode cX6_fill 97 = .ok (.iload 9, 2) := by decide +kernel
theorem dX6_fill_99 : decode cX6_fill 99 = .ok (.iload 10, 2) := by decide +kernel
theorem dX6_fill_101 : decode cX6_fill 101 = .ok (.invokevirtual 35, 3) := by decide +kernel
theorem dX6_fill_104 : decode cX6_fill 104 = .ok (.iinc 9 1, 3) := by decide +kernel
theorem dX6_fill_107 : decode cX6_fill 107 = .ok (.goto (-89), 3) := by decide +kernel
theorem dX6_fill_110 : decode cX6_fill 110 = .ok (.return_, 1) := by decide +kernel
theorem dX6_addRow_0 : decode cX6_addRow 0 = .ok (.aload_n 0, 1) := by decide +kernel
theorem dX6_addRow_1 : decode cX6_addRow 1 = .ok (.iload_n 2, 1) := by decide +kernel
theorem dX6_addRow_2 : decode cX6_addRow 2 = .ok (.invokevirtual 55, 3) := by decide +kernel
theorem dX6_addRow_5 : decode cX6_addRow 5 = .ok (.istore_n 3, 1) := by decide +kernel
theorem dX6_addRow_6 : decode cX6_addRow 6 = .ok (.iconst 0, 1) := by decide +kernel
theorem dX6_addRow_7 : decode cX6_addRow 7 = .ok (.istore 4, 2) := by decide +kernel
theorem dX6_addRow_9 : decode cX6_addRow 9 = .ok (.iload 4, 2) := by decide +kernel
theorem dX6_addRow_11 : decode cX6_addRow 11 = .ok (.iload_n 3, 1) := by decide +kernel
theorem dX6_addRow_12 : decode cX6_addRow 12 = .ok (.if_icmp .ge 21, 3) := by decide +kernel
theorem dX6_addRow_15 : decode cX6_addRow 15 = .ok (.aload_n 0, 1) := by decide +kernel
theorem dX6_addRow_16 : decode cX6_addRow 16 = .ok (.iload_n 1, 1) := by decide +kernel
theorem dX6_addRow_17 : decode cX6_addRow 17 = .ok (.aload_n 0, 1) := by decide +kernel
theorem dX6_addRow_18 : decode cX6_addRow 18 = .ok (.iload_n 2, 1) := by decide +kernel
theorem dX6_addRow_19 : decode cX6_addRow 19 = .ok (.iload 4, 2) := by decide +kernel
theorem dX6_addRow_21 : decode cX6_addRow 21 = .ok (.invokevirtual 58, 3) := by decide +kernel
theorem dX6_addRow_24 : decode cX6_addRow 24 = .ok (.invokevirtual 45, 3) := by decide +kernel
theorem dX6_addRow_27 : decode cX6_addRow 27 = .ok (.iinc 4 1, 3) := by decide +kernel
theorem dX6_addRow_30 : decode cX6_addRow 30 = .ok (.goto (-21), 3) := by decide +kernel
theorem dX6_addRow_33 : decode cX6_addRow 33 = .ok (.return_, 1) := by decide +kernel
theorem dX6_addArms_0 : decode cX6_addArms 0 = .ok (.aload_n 0, 1) := by decide +kernel
theorem dX6_addArms_1 : decode cX6_addArms 1 = .ok (.iload_n 1, 1) := by decide +kernel
theorem dX6_addArms_2 : decode cX6_addArms 2 = .ok (.invokevirtual 55, 3) := by decide +kernel
theorem dX6_addArms_5 : decode cX6_addArms 5 = .ok (.istore_n 3, 1) := by decide +kernel
theorem dX6_addArms_6 : decode cX6_addArms 6 = .ok (.iload_n 2, 1) := by decide +kernel
theorem dX6_addArms_7 : decode cX6_addArms 7 = .ok (.iconst (-1), 1) := by decide +kernel
theorem dX6_addArms_8 : decode cX6_addArms 8 = .ok (.if_icmp .eq 11, 3) := by decide +kernel
theorem dX6_addArms_11 : decode cX6_addArms 11 = .ok (.iload_n 1, 1) := by decide +kernel
theorem dX6_addArms_12 : decode cX6_addArms 12 = .ok (.iload_n 3, 1) := by decide +kernel
theorem dX6_addArms_13 : decode cX6_addArms 13 = .ok (.invokestatic 61, 3) := by decide +kernel
theorem dX6_addArms_16 : decode cX6_addArms 16 = .ok (.ifCond .ne 4, 3) := by decide +kernel
theorem dX6_addArms_19 : decode cX6_addArms 19 = .ok (.return_, 1) := by decide +kernel
theorem dX6_addArms_20 : decode cX6_addArms 20 = .ok (.iconst 0, 1) := by decide +kernel
theorem dX6_addArms_21 : decode cX6_addArms 21 = .ok (.istore 4, 2) := by decide +kernel
theorem dX6_addArms_23 : decode cX6_addArms 23 = .ok (.iload 4, 2) := by decide +kernel
theorem dX6_addArms_25 : decode cX6_addArms 25 = .ok (.iload_n 3, 1) := by decide +kernel
theorem dX6_addArms_26 : decode cX6_addArms 26 = .ok (.if_icmp .ge 21, 3) := by decide +kernel
theorem dX6_addArms_29 : decode cX6_addArms 29 = .ok (.aload_n 0, 1) := by decide +kernel
theorem dX6_addArms_30 : decode cX6_addArms 30 = .ok (.iload_n 1, 1) := by decide +kernel
theorem dX6_addArms_31 : decode cX6_addArms 31 = .ok (.iload 4, 2) := by decide +kernel
theorem dX6_addArms_33 : decode cX6_addArms 33 = .ok (.invokevirtual 58, 3) := by decide +kernel
theorem dX6_addArms_36 : decode cX6_addArms 36 = .ok (.iload_n 2, 1) := by decide +kernel
theorem dX6_addArms_37 : decode cX6_addArms 37 = .ok (.if_icmp .ne 4, 3) := by decide +kernel
theorem dX6_addArms_40 : decode cX6_addArms 40 = .ok (.return_, 1) := by decide +kernel
theorem dX6_addArms_41 : decode cX6_addArms 41 = .ok (.iinc 4 1, 3) := by decide +kernel
theorem dX6_addArms_44 : decode cX6_addArms 44 = .ok (.goto (-21), 3) := by decide +kernel
theorem dX6_addArms_47 : decode cX6_addArms 47 = .ok (.aload_n 0, 1) := by decide +kernel
theorem dX6_addArms_48 : decode cX6_addArms 48 = .ok (.getfield 13, 3) := by decide +kernel
theorem dX6_addArms_51 : decode cX6_addArms 51 = .ok (.iload_n 1, 1) := by decide +kernel
theorem dX6_addArms_52 : decode cX6_addArms 52 = .ok (.bipush 12, 2) := by decide +kernel
theorem dX6_addArms_54 : decode cX6_addArms 54 = .ok (.imul, 1) := by decide +kernel
theorem dX6_addArms_55 : decode cX6_addArms 55 = .ok (.iload_n 3, 1) := by decide +kernel
theorem dX6_addArms_56 : decode cX6_addArms 56 = .ok (.iadd, 1) := by decide +kernel
theorem dX6_addArms_57 : decode cX6_addArms 57 = .ok (.iload_n 2, 1) := by decide +kernel
theorem dX6_addArms_58 : decode cX6_addArms 58 = .ok (.iastore, 1) := by decide +kernel
theorem dX6_addArms_59 : decode cX6_addArms 59 = .ok (.aload_n 0, 1) := by decide +kernel
theorem dX6_addArms_60 : decode cX6_addArms 60 = .ok (.getfield 17, 3) := by decide +kernel
theorem dX6_addArms_63 : decode cX6_addArms 63 = .ok (.iload_n 1, 1) := by decide +kernel
theorem dX6_addArms_64 : decode cX6_addArms 64 = .ok (.iload_n 3, 1) := by decide +kernel
theorem dX6_addArms_65 : decode cX6_addArms 65 = .ok (.iconst 1, 1) := by decide +kernel
theorem dX6_addArms_66 : decode cX6_addArms 66 = .ok (.iadd, 1) := by decide +kernel
theorem dX6_addArms_67 : decode cX6_addArms 67 = .ok (.iastore, 1) := by decide +kernel
theorem dX6_addArms_68 : decode cX6_addArms 68 = .ok (.return_, 1) := by decide +kernel
theorem dX6_isPlace_0 : decode cX6_isPlace 0 = .ok (.iload_n 0, 1) := by decide +kernel
theorem dX6_isPlace_1 : decode cX6_isPlace 1 = .ok (.ifCond .lt 23, 3) := by decide +kernel
theorem dX6_isPlace_4 : decode cX6_isPlace 4 = .ok (.iload_n 0, 1) := by decide +kernel
theorem dX6_isPlace_5 : decode cX6_isPlace 5 = .ok (.bipush 60, 2) := by decide +kernel
theorem dX6_isPlace_7 : decode cX6_isPlace 7 = .ok (.if_icmp .ge 17, 3) := by decide +kernel
theorem dX6_isPlace_10 : decode cX6_isPlace 10 = .ok (.iload_n 1, 1) := by decide +kernel
theorem dX6_isPlace_11 : decode cX6_isPlace 11 = .ok (.ifCond .lt 13, 3) := by decide +kernel
theorem dX6_isPlace_14 : decode cX6_isPlace 14 = .ok (.iload_n 1, 1) := by decide +kernel
theorem dX6_isPlace_15 : decode cX6_isPlace 15 = .ok (.bipush 12, 2) := by decide +kernel
theorem dX6_isPlace_17 : decode cX6_isPlace 17 = .ok (.if_icmp .ge 7, 3) := by decide +kernel
theorem dX6_isPlace_20 : decode cX6_isPlace 20 = .ok (.iconst 1, 1) := by decide +kernel
theorem dX6_isPlace_21 : decode cX6_isPlace 21 = .ok (.goto 4, 3) := by decide +kernel
theorem dX6_isPlace_24 : decode cX6_isPlace 24 = .ok (.iconst 0, 1) := by decide +kernel
theorem dX6_isPlace_25 : decode cX6_isPlace 25 = .ok (.ireturn, 1) := by decide +kernel
theorem dX6_sizeOf_0 : decode cX6_sizeOf 0 = .ok (.iload_n 1, 1) := by decide +kernel
theorem dX6_sizeOf_1 : decode cX6_sizeOf 1 = .ok (.ifCond .lt 18, 3) := by decide +kernel
theorem dX6_sizeOf_4 : decode cX6_sizeOf 4 = .ok (.iload_n 1, 1) := by decide +kernel
theorem dX6_sizeOf_5 : decode cX6_sizeOf 5 = .ok (.bipush 60, 2) := by decide +kernel
theorem dX6_sizeOf_7 : decode cX6_sizeOf 7 = .ok (.if_icmp .ge 12, 3) := by decide +kernel
theorem dX6_sizeOf_10 : decode cX6_sizeOf 10 = .ok (.aload_n 0, 1) := by decide +kernel
theorem dX6_sizeOf_11 : decode cX6_sizeOf 11 = .ok (.getfield 17, 3) := by decide +kernel
theorem dX6_sizeOf_14 : decode cX6_sizeOf 14 = .ok (.iload_n 1, 1) := by decide +kernel
theorem dX6_sizeOf_15 : decode cX6_sizeOf 15 = .ok (.iaload, 1) := by decide +kernel
theorem dX6_sizeOf_16 : decode cX6_sizeOf 16 = .ok (.goto 4, 3) := by decide +kernel
theorem dX6_sizeOf_19 : decode cX6_sizeOf 19 = .ok (.iconst 0, 1) := by decide +kernel
theorem dX6_sizeOf_20 : decode cX6_sizeOf 20 = .ok (.ireturn, 1) := by decide +kernel
theorem dX6_armsAt_0 : decode cX6_armsAt 0 = .ok (.iload_n 1, 1) := by decide +kernel
theorem dX6_armsAt_1 : decode cX6_armsAt 1 = .ok (.iload_n 2, 1) := by decide +kernel
theorem dX6_armsAt_2 : decode cX6_armsAt 2 = .ok (.invokestatic 61, 3) := by decide +kernel
theorem dX6_armsAt_5 : decode cX6_armsAt 5 = .ok (.ifCond .eq 17, 3) := by decide +kernel
theorem dX6_armsAt_8 : decode cX6_armsAt 8 = .ok (.aload_n 0, 1) := by decide +kernel
theorem dX6_armsAt_9 : decode cX6_armsAt 9 = .ok (.getfield 13, 3) := by decide +kernel
theorem dX6_armsAt_12 : decode cX6_armsAt 12 = .ok (.iload_n 1, 1) := by decide +kernel
theorem dX6_armsAt_13 : decode cX6_armsAt 13 = .ok (.bipush 12, 2) := by decide +kernel
theorem dX6_armsAt_15 : decode cX6_armsAt 15 = .ok (.imul, 1) := by decide +kernel
theorem dX6_armsAt_16 : decode cX6_armsAt 16 = .ok (.iload_n 2, 1) := by decide +kernel
theorem dX6_armsAt_17 : decode cX6_armsAt 17 = .ok (.iadd, 1) := by decide +kernel
theorem dX6_armsAt_18 : decode cX6_armsAt 18 = .ok (.iaload, 1) := by decide +kernel
theorem dX6_armsAt_19 : decode cX6_armsAt 19 = .ok (.goto 4, 3) := by decide +kernel
theorem dX6_armsAt_22 : decode cX6_armsAt 22 = .ok (.iconst (-1), 1) := by decide +kernel
theorem dX6_armsAt_23 : decode cX6_armsAt 23 = .ok (.ireturn, 1) := by decide +kernel
