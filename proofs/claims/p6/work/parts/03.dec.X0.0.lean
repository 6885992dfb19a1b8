theorem dX0_init_0 : decode cX0_init 0 = .ok (.aload_n 0, 1) := by decide +kernel
theorem dX0_init_1 : decode cX0_init 1 = .ok (.invokespecial 3, 3) := by decide +kernel
theorem dX0_init_4 : decode cX0_init 4 = .ok (.aload_n 0, 1) := by decide +kernel
theorem dX0_init_5 : decode cX0_init 5 = .ok (.bipush 40, 2) := by decide +kernel
theorem dX0_init_7 : decode cX0_init 7 = .ok (.newarray .int, 2) := by decide +kernel
theorem dX0_init_9 : decode cX0_init 9 = .ok (.putfield 11, 3) := by decide +kernel
theorem dX0_init_12 : decode cX0_init 12 = .ok (.aload_n 0, 1) := by decide +kernel
theorem dX0_init_13 : decode cX0_init 13 = .ok (.bipush 40, 2) := by decide +kernel
theorem dX0_init_15 : decode cX0_init 15 = .ok (.newarray .int, 2) := by decide +kernel
theorem dX0_init_17 : decode cX0_init 17 = .ok (.putfield 15, 3) := by decide +kernel
theorem dX0_init_20 : decode cX0_init 20 = .ok (.aload_n 0, 1) := by decide +kernel
theorem dX0_init_21 : decode cX0_init 21 = .ok (.iconst 0, 1) := by decide +kernel
theorem dX0_init_22 : decode cX0_init 22 = .ok (.putfield 18, 3) := by decide +kernel
theorem dX0_init_25 : decode cX0_init 25 = .ok (.return_, 1) := by decide +kernel
theorem dX0_has_0 : decode cX0_has 0 = .ok (.iload_n 1, 1) := by decide +kernel
theorem dX0_has_1 : decode cX0_has 1 = .ok (.ifCond .lt 15, 3) := by decide +kernel
theorem dX0_has_4 : decode cX0_has 4 = .ok (.iload_n 1, 1) := by decide +kernel
theorem dX0_has_5 : decode cX0_has 5 = .ok (.aload_n 0, 1) := by decide +kernel
theorem dX0_has_6 : decode cX0_has 6 = .ok (.getfield 18, 3) := by decide +kernel
theorem dX0_has_9 : decode cX0_has 9 = .ok (.if_icmp .ge 7, 3) := by decide +kernel
theorem dX0_has_12 : decode cX0_has 12 = .ok (.iconst 1, 1) := by decide +kernel
theorem dX0_has_13 : decode cX0_has 13 = .ok (.goto 4, 3) := by decide +kernel
theorem dX0_has_16 : decode cX0_has 16 = .ok (.iconst 0, 1) := by decide +kernel
theorem dX0_has_17 : decode cX0_has 17 = .ok (.ireturn, 1) := by decide +kernel
theorem dX0_add_0 : decode cX0_add 0 = .ok (.aload_n 0, 1) := by decide +kernel
theorem dX0_add_1 : decode cX0_add 1 = .ok (.getfield 18, 3) := by decide +kernel
theorem dX0_add_4 : decode cX0_add 4 = .ok (.bipush 40, 2) := by decide +kernel
theorem dX0_add_6 : decode cX0_add 6 = .ok (.if_icmp .ge 10, 3) := by decide +kernel
theorem dX0_add_9 : decode cX0_add 9 = .ok (.iload_n 1, 1) := by decide +kernel
theorem dX0_add_10 : decode cX0_add 10 = .ok (.invokestatic 22, 3) := by decide +kernel
theorem dX0_add_13 : decode cX0_add 13 = .ok (.ifCond .ne 5, 3) := by decide +kernel
theorem dX0_add_16 : decode cX0_add 16 = .ok (.iconst (-1), 1) := by decide +kernel
theorem dX0_add_17 : decode cX0_add 17 = .ok (.ireturn, 1) := by decide +kernel
theorem dX0_add_18 : decode cX0_add 18 = .ok (.aload_n 0, 1) := by decide +kernel
theorem dX0_add_19 : decode cX0_add 19 = .ok (.getfield 18, 3) := by decide +kernel
theorem dX0_add_22 : decode cX0_add 22 = .ok (.istore_n 3, 1) := by decide +kernel
theorem dX0_add_23 : decode cX0_add 23 = .ok (.aload_n 0, 1) := by decide +kernel
theorem dX0_add_24 : decode cX0_add 24 = .ok (.getfield 11, 3) := by decide +kernel
theorem dX0_add_27 : decode cX0_add 27 = .ok (.iload_n 3, 1) := by decide +kernel
theorem dX0_add_28 : decode cX0_add 28 = .ok (.iload_n 1, 1) := by decide +kernel
theorem dX0_add_29 : decode cX0_add 29 = .ok (.iastore, 1) := by decide +kernel
theorem dX0_add_30 : decode cX0_add 30 = .ok (.aload_n 0, 1) := by decide +kernel
theorem dX0_add_31 : decode cX0_add 31 = .ok (.getfield 15, 3) := by decide +kernel
theorem dX0_add_34 : decode cX0_add 34 = .ok (.iload_n 3, 1) := by decide +kernel
theorem dX0_add_35 : decode cX0_add 35 = .ok (.iload_n 2, 1) := by decide +kernel
theorem dX0_add_36 : decode cX0_add 36 = .ok (.iastore, 1) := by decide +kernel
theorem dX0_add_37 : decode cX0_add 37 = .ok (.aload_n 0, 1) := by decide +kernel
theorem dX0_add_38 : decode cX0_add 38 = .ok (.iload_n 3, 1) := by decide +kernel
theorem dX0_add_39 : decode cX0_add 39 = .ok (.iconst 1, 1) := by decide +kernel
theorem dX0_add_40 : decode cX0_add 40 = .ok (.iadd, 1) := by decide +kernel
theorem dX0_add_41 : decode cX0_add 41 = .ok (.putfield 18, 3) := by decide +kernel
theorem dX0_add_44 : decode cX0_add 44 = .ok (.iload_n 3, 1) := by decide +kernel
theorem dX0_add_45 : decode cX0_add 45 = .ok (.ireturn, 1) := by decide +kernel
theorem dX0_yearOf_0 : decode cX0_yearOf 0 = .ok (.aload_n 0, 1) := by decide +kernel
theorem dX0_yearOf_1 : decode cX0_yearOf 1 = .ok (.iload_n 1, 1) := by decide +kernel
theorem dX0_yearOf_2 : decode cX0_yearOf 2 = .ok (.invokevirtual 26, 3) := by decide +kernel
theorem dX0_yearOf_5 : decode cX0_yearOf 5 = .ok (.ifCond .eq 12, 3) := by decide +kernel
theorem dX0_yearOf_8 : decode cX0_yearOf 8 = .ok (.aload_n 0, 1) := by decide +kernel
theorem dX0_yearOf_9 : decode cX0_yearOf 9 = .ok (.getfield 11, 3) := by decide +kernel
theorem dX0_yearOf_12 : decode cX0_yearOf 12 = .ok (.iload_n 1, 1) := by decide +kernel
theorem dX0_yearOf_13 : decode cX0_yearOf 13 = .ok (.iaload, 1) := by decide +kernel
theorem dX0_yearOf_14 : decode cX0_yearOf 14 = .ok (.goto 4, 3) := by decide +kernel
theorem dX0_yearOf_17 : decode cX0_yearOf 17 = .ok (.iconst (-1), 1) := by decide +kernel
theorem dX0_yearOf_18 : decode cX0_yearOf 18 = .ok (.ireturn, 1) := by decide +kernel
theorem dX0_rowOf_0 : decode cX0_rowOf 0 = .ok (.aload_n 0, 1) := by decide +kernel
theorem dX0_rowOf_1 : decode cX0_rowOf 1 = .ok (.iload_n 1, 1) := by decide +kernel
theorem dX0_rowOf_2 : decode cX0_rowOf 2 = .ok (.invokevirtual 26, 3) := by decide +kernel
theorem dX0_rowOf_5 : decode cX0_rowOf 5 = .ok (.ifCond .eq 12, 3) := by decide +kernel
theorem dX0_rowOf_8 : decode cX0_rowOf 8 = .ok (.aload_n 0, 1) := by decide +kernel
theorem dX0_rowOf_9 : decode cX0_rowOf 9 = .ok (.getfield 15, 3) := by decide +kernel
theorem dX0_rowOf_12 : decode cX0_rowOf 12 = .ok (.iload_n 1, 1) := by decide +kernel
theorem dX0_rowOf_13 : decode cX0_rowOf 13 = .ok (.iaload, 1) := by decide +kernel
theorem dX0_rowOf_14 : decode cX0_rowOf 14 = .ok (.goto 4, 3) := by decide +kernel
theorem dX0_rowOf_17 : decode cX0_rowOf 17 = .ok (.iconst 0, 1) := by decide +kernel
theorem dX0_rowOf_18 : decode cX0_rowOf 18 = .ok (.ireturn, 1) := by decide +kernel
theorem dX0_changes_0 : decode cX0_changes 0 = .ok (.aload_n 0, 1) := by decide +kernel
theorem dX0_changes_1 : decode cX0_changes 1 = .ok (.iload_n 1, 1) := by decide +kernel
theorem dX0_changes_2 : decode cX0_changes 2 = .ok (.invokevirtual 29, 3) := by decide +kernel
theorem dX0_changes_5 : decode cX0_changes 5 = .ok (.aload_n 0, 1) := by decide +kernel
theorem dX0_changes_6 : decode cX0_changes 6 = .ok (.iload_n 2, 1) := by decide +kernel
theorem dX0_changes_7 : decode cX0_changes 7 = .ok (.invokevirtual 29, 3) := by decide +kernel
theorem dX0_changes_10 : decode cX0_changes 10 = .ok (.ixor, 1) := by decide +kernel
theorem dX0_changes_11 : decode cX0_changes 11 = .ok (.istore_n 3, 1) := by decide +kernel
theorem dX0_changes_12 : decode cX0_changes 12 = .ok (.iconst 0, 1) := by decide +kernel
theorem dX0_changes_13 : decode cX0_changes 13 = .ok (.istore 4, 2) := by decide +kernel
theorem dX0_changes_15 : decode cX0_changes 15 = .ok (.iconst 0, 1) := by decide +kernel
theorem dX0_changes_16 : decode cX0_changes 16 = .ok (.istore 5, 2) := by decide +kernel
theorem dX0_changes_18 : decode cX0_changes 18 = .ok (.iload 5, 2) := by decide +kernel
theorem dX0_changes_20 : decode cX0_changes 20 = .ok (.bipush 8, 2) := by decide +kernel
theorem dX0_changes_22 : decode cX0_changes 22 = .ok (.if_icmp .ge 24, 3) := by decide +kernel
theorem dX0_changes_25 : decode cX0_changes 25 = .ok (.iload_n 3, 1) := by decide +kernel
theorem dX0_changes_26 : decode cX0_changes 26 = .ok (.iload 5, 2) := by decide +kernel
theorem dX0_changes_28 : decode cX0_changes 28 = .ok (.iconst 4, 1) := by decide +kernel
theorem dX0_changes_29 : decode cX0_changes 29 = .ok (.imul, 1) := by decide +kernel
theorem dX0_changes_30 : decode cX0_changes 30 = .ok (.iushr, 1) := by decide +kernel
theorem dX0_changes_31 : decode cX0_changes 31 = .ok (.bipush 15, 2) := by decide +kernel
theorem dX0_changes_33 : decode cX0_changes 33 = .ok (.iand, 1) := by decide +kernel
theorem dX0_changes_34 : decode cX0_changes 34 = .ok (.ifCond .eq 6, 3) := by decide +kernel
theorem dX0_changes_37 : decode cX0_changes 37 = .ok (.iinc 4 1, 3) := by decide +kernel
theorem dX0_changes_40 : decode cX0_changes 40 = .ok (.iinc 5 1, 3) := by decide +kernel
theorem dX0_changes_43 : decode cX0_changes 43 = .ok (.goto (-25), 3) := by decide +kernel
theorem dX0_changes_46 : decode cX0_changes 46 = .ok (.iload 4, 2) := by decide +kernel
theorem dX0_changes_48 : decode cX0_changes 48 = .ok (.ireturn, 1) := by decide +kernel
theorem dX0_sourceOf_0 : decode cX0_sourceOf 0 = .ok (.iconst (-1), 1) := by decide +kernel
theorem dX0_sourceOf_1 : decode cX0_sourceOf 1 = .ok (.istore_n 2, 1) := by decide +kernel
theorem dX0_sourceOf_2 : decode cX0_sourceOf 2 = .ok (.iconst 4, 1) := by decide +kernel
theorem dX0_sourceOf_3 : decode cX0_sourceOf 3 = .ok (.istore_n 3, 1) := by decide +kernel
theorem dX0_sourceOf_4 : decode cX0_sourceOf 4 = .ok (.iconst 0, 1) := by decide +kernel
theorem dX0_sourceOf_5 : decode cX0_sourceOf 5 = .ok (.istore 4, 2) := by decide +kernel
theorem dX0_sourceOf_7 : decode cX0_sourceOf 7 = .ok (.iload 4, 2) := by decide +kernel
theorem dX0_sourceOf_9 : decode cX0_sourceOf 9 = .ok (.aload_n 0, 1) := by decide +kernel
theorem dX0_sourceOf_10 : decode cX0_sourceOf 10 = .ok (.getfield 18, 3) := by decide +kernel
theorem dX0_sourceOf_13 : decode cX0_sourceOf 13 = .ok (.if_icmp .ge 76, 3) := by decide +kernel
theorem dX0_sourceOf_16 : decode cX0_sourceOf 16 = .ok (.aload_n 0, 1) := by decide +kernel
theorem dX0_sourceOf_17 : decode cX0_sourceOf 17 = .ok (.iload_n 1, 1) := by decide +kernel
theorem dX0_sourceOf_18 : decode cX0_sourceOf 18 = .ok (.iload 4, 2) := by decide +kernel
theorem dX0_sourceOf_20 : decode cX0_sourceOf 20 = .ok (.invokevirtual 33, 3) := by decide +kernel
theorem dX0_sourceOf_23 : decode cX0_sourceOf 23 = .ok (.istore 5, 2) := by decide +kernel
theorem dX0_sourceOf_25 : decode cX0_sourceOf 25 = .ok (.iload 5, 2) := by decide +kernel
theorem dX0_sourceOf_27 : decode cX0_sourceOf 27 = .ok (.iload_n 3, 1) := by decide +kernel
theorem dX0_sourceOf_28 : decode cX0_sourceOf 28 = .ok (.if_icmp .lt 23, 3) := by decide +kernel
theorem dX0_sourceOf_31 : decode cX0_sourceOf 31 = .ok (.iload 5, 2) := by decide +kernel
theorem dX0_sourceOf_33 : decode cX0_sourceOf 33 = .ok (.iload_n 3, 1) := by decide +kernel
theorem dX0_sourceOf_34 : decode cX0_sourceOf 34 = .ok (.if_icmp .ne 21, 3) := by decide +kernel
theorem dX0_sourceOf_37 : decode cX0_sourceOf 37 = .ok (.aload_n 0, 1) := by decide +kernel
theorem dX0_sourceOf_38 : decode cX0_sourceOf 38 = .ok (.iload 4, 2) := by decide +kernel
theorem dX0_sourceOf_40 : decode cX0_sourceOf 40 = .ok (.invokevirtual 37, 3) := by decide +kernel
theorem dX0_sourceOf_43 : decode cX0_sourceOf 43 = .ok (.aload_n 0, 1) := by decide +kernel
theorem dX0_sourceOf_44 : decode cX0_sourceOf 44 = .ok (.iload_n 2, 1) := by decide +kernel
theorem dX0_sourceOf_45 : decode cX0_sourceOf 45 = .ok (.invokevirtual 37, 3) := by decide +kernel
theorem dX0_sourceOf_48 : decode cX0_sourceOf 48 = .ok (.if_icmp .le 7, 3) := by decide +kernel
theorem dX0_sourceOf_51 : decode cX0_sourceOf 51 = .ok (.iconst 1, 1) := by decide +kernel
theorem dX0_sourceOf_52 : decode cX0_sourceOf 52 = .ok (.goto 4, 3) := by decide +kernel
theorem dX0_sourceOf_55 : decode cX0_sourceOf 55 = .ok (.iconst 0, 1) := by decide +kernel
theorem dX0_sourceOf_56 : decode cX0_sourceOf 56 = .ok (.istore 6, 2) := by decide +kernel
theorem dX0_sourceOf_58 : decode cX0_sourceOf 58 = .ok (.aload_n 0, 1) := by decide +kernel
theorem dX0_sourceOf_59 : decode cX0_sourceOf 59 = .ok (.iload 4, 2) := by decide +kernel
theorem dX0_sourceOf_61 : decode cX0_sourceOf 61 = .ok (.invokevirtual 37, 3) := by decide +kernel
theorem dX0_sourceOf_64 : decode cX0_sourceOf 64 = .ok (.aload_n 0, 1) := by decide +kernel
theorem dX0_sourceOf_65 : decode cX0_sourceOf 65 = .ok (.iload_n 1, 1) := by decide +kernel
theorem dX0_sourceOf_66 : decode cX0_sourceOf 66 = .ok (.invokevirtual 37, 3) := by decide +kernel
theorem dX0_sourceOf_69 : decode cX0_sourceOf 69 = .ok (.if_icmp .ge 14, 3) := by decide +kernel
theorem dX0_sourceOf_72 : decode cX0_sourceOf 72 = .ok (.iload 6, 2) := by decide +kernel
theorem dX0_sourceOf_74 : decode cX0_sourceOf 74 = .ok (.ifCond .eq 9, 3) := by decide +kernel
theorem dX0_sourceOf_77 : decode cX0_sourceOf 77 = .ok (.iload 4, 2) := by decide +kernel
theorem dX0_sourceOf_79 : decode cX0_sourceOf 79 = .ok (.istore_n 2, 1) := by decide +kernel
theorem dX0_sourceOf_80 : decode cX0_sourceOf 80 = .ok (.iload 5, 2) := by decide +kernel
theorem dX0_sourceOf_82 : decode cX0_sourceOf 82 = .ok (.istore_n 3, 1) := by decide +kernel
theorem dX0_sourceOf_83 : decode cX0_sourceOf 83 = .ok (.iinc 4 1, 3) := by decide +kernel
theorem dX0_sourceOf_86 : decode cX0_sourceOf 86 = .ok (.goto (-79), 3) := by decide +kernel
theorem dX0_sourceOf_89 : decode cX0_sourceOf 89 = .ok (.iload_n 2, 1) := by decide +kernel
theorem dX0_sourceOf_90 : decode cX0_sourceOf 90 = .ok (.ireturn, 1) := by decide +kernel
theorem dX0_changesOf_0 : decode cX0_changesOf 0 = .ok (.aload_n 0, 1) := by decide +kernel
theorem dX0_changesOf_1 : decode cX0_changesOf 1 = .ok (.iload_n 1, 1) := by decide +kernel
theorem dX0_changesOf_2 : decode cX0_changesOf 2 = .ok (.invokevirtual 40, 3) := by decide +kernel
theorem dX0_changesOf_5 : decode cX0_changesOf 5 = .ok (.istore_n 2, 1) := by decide +kernel
theorem dX0_changesOf_6 : decode cX0_changesOf 6 = .ok (.iload_n 2, 1) := by decide +kernel
theorem dX0_changesOf_7 : decode cX0_changesOf 7 = .ok (.iconst (-1), 1) := by decide +kernel
theorem dX0_changesOf_8 : decode cX0_changesOf 8 = .ok (.if_icmp .ne 7, 3) := by decide +kernel
theorem dX0_changesOf_11 : decode cX0_changesOf 11 = .ok (.iconst 0, 1) := by decide +kernel
theorem dX0_changesOf_12 : decode cX0_changesOf 12 = .ok (.goto 9, 3) := by decide +kernel
theorem dX0_changesOf_15 : decode cX0_changesOf 15 = .ok (.aload_n 0, 1) := by decide +kernel
theorem dX0_changesOf_16 : decode cX0_changesOf 16 = .ok (.iload_n 1, 1) := by decide +kernel
theorem dX0_changesOf_17 : decode cX0_changesOf 17 = .ok (.iload_n 2, 1) := by decide +kernel
theorem dX0_changesOf_18 : decode cX0_changesOf 18 = .ok (.invokevirtual 33, 3) := by decide +kernel
theorem dX0_changesOf_21 : decode cX0_changesOf 21 = .ok (.ireturn, 1) := by decide +kernel
theorem dX0_driftOf_0 : decode cX0_driftOf 0 = .ok (.iconst 0, 1) := by decide +kernel
theorem dX0_driftOf_1 : decode cX0_driftOf 1 = .ok (.istore_n 2, 1) := by decide +kernel
theorem dX0_driftOf_2 : decode cX0_driftOf 2 = .ok (.iload_n 1, 1) := by decide +kernel
theorem dX0_driftOf_3 : decode cX0_driftOf 3 = .ok (.istore_n 3, 1) := by decide +kernel
theorem dX0_driftOf_4 : decode cX0_driftOf 4 = .ok (.aload_n 0, 1) := by decide +kernel
theorem dX0_driftOf_5 : decode cX0_driftOf 5 = .ok (.iload_n 3, 1) := by decide +kernel
theorem dX0_driftOf_6 : decode cX0_driftOf 6 = .ok (.invokevirtual 40, 3) := by decide +kernel
theorem dX0_driftOf_9 : decode cX0_driftOf 9 = .ok (.istore 4, 2) := by decide +kernel
theorem dX0_driftOf_11 : decode cX0_driftOf 11 = .ok (.iconst 0, 1) := by decide +kernel
theorem dX0_driftOf_12 : decode cX0_driftOf 12 = .ok (.istore 5, 2) := by decide +kernel
theorem dX0_driftOf_14 : decode cX0_driftOf 14 = .ok (.iload 5, 2) := by decide +kernel
theorem dX0_driftOf_16 : decode cX0_driftOf 16 = .ok (.bipush 40, 2) := by decide +kernel
theorem dX0_driftOf_18 : decode cX0_driftOf 18 = .ok (.if_icmp .ge 35, 3) := by decide +kernel
theorem dX0_driftOf_21 : decode cX0_driftOf 21 = .ok (.iload 4, 2) := by decide +kernel
theorem dX0_driftOf_23 : decode cX0_driftOf 23 = .ok (.iconst (-1), 1) := by decide +kernel
theorem dX0_driftOf_24 : decode cX0_driftOf 24 = .ok (.if_icmp .eq 29, 3) := by decide +kernel
theorem dX0_driftOf_27 : decode cX0_driftOf 27 = .ok (.iload_n 2, 1) := by decide +kernel
theorem dX0_driftOf_28 : decode cX0_driftOf 28 = .ok (.aload_n 0, 1) := by decide +kernel
theorem dX0_driftOf_29 : decode cX0_driftOf 29 = .ok (.iload_n 3, 1) := by decide +kernel
theorem dX0_driftOf_30 : decode cX0_driftOf 30 = .ok (.iload 4, 2) := by decide +kernel
theorem dX0_driftOf_32 : decode cX0_driftOf 32 = .ok (.invokevirtual 33, 3) := by decide +kernel
theorem dX0_driftOf_35 : decode cX0_driftOf 35 = .ok (.iadd, 1) := by decide +kernel
theorem dX0_driftOf_36 : decode cX0_driftOf 36 = .ok (.istore_n 2, 1) := by decide +kernel
theorem dX0_driftOf_37 : decode cX0_driftOf 37 = .ok (.iload 4, 2) := by decide +kernel
theorem dX0_driftOf_39 : decode cX0_driftOf 39 = .ok (.istore_n 3, 1) := by decide +kernel
theorem dX0_driftOf_40 : decode cX0_driftOf 40 = .ok (.aload_n 0, 1) := by decide +kernel
theorem dX0_driftOf_41 : decode cX0_driftOf 41 = .ok (.iload_n 3, 1) := by decide +kernel
theorem dX0_driftOf_42 : decode cX0_driftOf 42 = .ok (.invokevirtual 40, 3) := by decide +kernel
theorem dX0_driftOf_45 : decode cX0_driftOf 45 = .ok (.istore 4, 2) := by decide +kernel
theorem dX0_driftOf_47 : decode cX0_driftOf 47 = .ok (.iinc 5 1, 3) := by decide +kernel
theorem dX0_driftOf_50 : decode cX0_driftOf 50 = .ok (.goto (-36), 3) := by decide +kernel
theorem dX0_driftOf_53 : decode cX0_driftOf 53 = .ok (.iload_n 2, 1) := by decide +kernel
theorem dX0_driftOf_54 : decode cX0_driftOf 54 = .ok (.ireturn, 1) := by decide +kernel
theorem dX0_originalOf_0 : decode cX0_originalOf 0 = .ok (.iload_n 1, 1) := by decide +kernel
theorem dX0_originalOf_1 : decode cX0_originalOf 1 = .ok (.istore_n 2, 1) := by decide +kernel
theorem dX0_originalOf_2 : decode cX0_originalOf 2 = .ok (.aload_n 0, 1) := by decide +kernel
theorem dX0_originalOf_3 : decode cX0_originalOf 3 = .ok (.iload_n 2, 1) := by decide +kernel
theorem dX0_originalOf_4 : decode cX0_originalOf 4 = .ok (.invokevirtual 40, 3) := by decide +kernel
theorem dX0_originalOf_7 : decode cX0_originalOf 7 = .ok (.istore_n 3, 1) := by decide +kernel
theorem dX0_originalOf_8 : decode cX0_originalOf 8 = .ok (.iconst 0, 1) := by decide +kernel
theorem dX0_originalOf_9 : decode cX0_originalOf 9 = .ok (.istore 4, 2) := by decide +kernel
theorem dX0_originalOf_11 : decode cX0_originalOf 11 = .ok (.iload 4, 2) := by decide +kernel
theorem dX0_originalOf_13 : decode cX0_originalOf 13 = .ok (.bipush 40, 2) := by decide +kernel
theorem dX0_originalOf_15 : decode cX0_originalOf 15 = .ok (.if_icmp .ge 22, 3) := by decide +kernel
theorem dX0_originalOf_18 : decode cX0_originalOf 18 = .ok (.iload_n 3, 1) := by decide +kernel
theorem dX0_originalOf_19 : decode cX0_originalOf 19 = .ok (.iconst (-1), 1) := by decide +kernel
theorem dX0_originalOf_20 : decode cX0_originalOf 20 = .ok (.if_icmp .eq 17, 3) := by decide +kernel
theorem dX0_originalOf_23 : decode cX0_originalOf 23 = .ok (.iload_n 3, 1) := by decide +kernel
theorem dX0_originalOf_24 : decode cX0_originalOf 24 = .ok (.istore_n 2, 1) := by decide +kernel
theorem dX0_originalOf_25 : decode cX0_originalOf 25 = .ok (.aload_n 0, 1) := by decide +kernel
theorem dX0_originalOf_26 : decode cX0_originalOf 26 = .ok (.iload_n 2, 1) := by decide +kernel
theorem dX0_originalOf_27 : decode cX0_originalOf 27 = .ok (.invokevirtual 40, 3) := by decide +kernel
theorem dX0_originalOf_30 : decode cX0_originalOf 30 = .ok (.istore_n 3, 1) := by decide +kernel
theorem dX0_originalOf_31 : decode cX0_originalOf 31 = .ok (.iinc 4 1, 3) := by decide +kernel
theorem dX0_originalOf_34 : decode cX0_originalOf 34 = .ok (.goto (-23), 3) := by decide +kernel
theorem dX0_originalOf_37 : decode cX0_originalOf 37 = .ok (.iload_n 2, 1) := by decide +kernel
theorem dX0_originalOf_38 : decode cX0_originalOf 38 = .ok (.ireturn, 1) := by decide +kernel
theorem dX0_takenFrom_0 : decode cX0_takenFrom 0 = .ok (.iconst 0, 1) := by decide +kernel
theorem dX0_takenFrom_1 : decode cX0_takenFrom 1 = .ok (.istore_n 2, 1) := by decide +kernel
theorem dX0_takenFrom_2 : decode cX0_takenFrom 2 = .ok (.iconst 0, 1) := by decide +kernel
theorem dX0_takenFrom_3 : decode cX0_takenFrom 3 = .ok (.istore_n 3, 1) := by decide +kernel
theorem dX0_takenFrom_4 : decode cX0_takenFrom 4 = .ok (.iload_n 3, 1) := by decide +kernel
theorem dX0_takenFrom_5 : decode cX0_takenFrom 5 = .ok (.aload_n 0, 1) := by decide +kernel
theorem dX0_takenFrom_6 : decode cX0_takenFrom 6 = .ok (.getfield 18, 3) := by decide +kernel
theorem dX0_takenFrom_9 : decode cX0_takenFrom 9 = .ok (.if_icmp .ge 21, 3) := by decide +kernel
theorem dX0_takenFrom_12 : decode cX0_takenFrom 12 = .ok (.aload_n 0, 1) := by decide +kernel
theorem dX0_takenFrom_13 : decode cX0_takenFrom 13 = .ok (.iload_n 3, 1) := by decide +kernel
theorem dX0_takenFrom_14 : decode cX0_takenFrom 14 = .ok (.invokevirtual 40, 3) := by decide +kernel
theorem dX0_takenFrom_17 : decode cX0_takenFrom 17 = .ok (.iload_n 1, 1) := by decide +kernel
theorem dX0_takenFrom_18 : decode cX0_takenFrom 18 = .ok (.if_icmp .ne 6, 3) := by decide +kernel
theorem dX0_takenFrom_21 : decode cX0_takenFrom 21 = .ok (.iinc 2 1, 3) := by decide +kernel
theorem dX0_takenFrom_24 : decode cX0_takenFrom 24 = .ok (.iinc 3 1, 3) := by decide +kernel
theorem dX0_takenFrom_27 : decode cX0_takenFrom 27 = .ok (.goto (-23), 3) := by decide +kernel
theorem dX0_takenFrom_30 : decode cX0_takenFrom 30 = .ok (.iload_n 2, 1) := by decide +kernel
theorem dX0_takenFrom_31 : decode cX0_takenFrom 31 = .ok (.ireturn, 1) := by decide +kernel
