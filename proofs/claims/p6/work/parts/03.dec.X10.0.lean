theorem dX10_init_0 : decode cX10_init 0 = .ok (.aload_n 0, 1) := by decide +kernel
theorem dX10_init_1 : decode cX10_init 1 = .ok (.invokespecial 1, 3) := by decide +kernel
theorem dX10_init_4 : decode cX10_init 4 = .ok (.aload_n 0, 1) := by decide +kernel
theorem dX10_init_5 : decode cX10_init 5 = .ok (.new 7, 3) := by decide +kernel
theorem dX10_init_8 : decode cX10_init 8 = .ok (.dup, 1) := by decide +kernel
theorem dX10_init_9 : decode cX10_init 9 = .ok (.invokespecial 9, 3) := by decide +kernel
theorem dX10_init_12 : decode cX10_init 12 = .ok (.putfield 10, 3) := by decide +kernel
theorem dX10_init_15 : decode cX10_init 15 = .ok (.aload_n 0, 1) := by decide +kernel
theorem dX10_init_16 : decode cX10_init 16 = .ok (.new 16, 3) := by decide +kernel
theorem dX10_init_19 : decode cX10_init 19 = .ok (.dup, 1) := by decide +kernel
theorem dX10_init_20 : decode cX10_init 20 = .ok (.invokespecial 18, 3) := by decide +kernel
theorem dX10_init_23 : decode cX10_init 23 = .ok (.putfield 19, 3) := by decide +kernel
theorem dX10_init_26 : decode cX10_init 26 = .ok (.aload_n 0, 1) := by decide +kernel
theorem dX10_init_27 : decode cX10_init 27 = .ok (.new 23, 3) := by decide +kernel
theorem dX10_init_30 : decode cX10_init 30 = .ok (.dup, 1) := by decide +kernel
theorem dX10_init_31 : decode cX10_init 31 = .ok (.invokespecial 25, 3) := by decide +kernel
theorem dX10_init_34 : decode cX10_init 34 = .ok (.putfield 26, 3) := by decide +kernel
theorem dX10_init_37 : decode cX10_init 37 = .ok (.aload_n 0, 1) := by decide +kernel
theorem dX10_init_38 : decode cX10_init 38 = .ok (.new 30, 3) := by decide +kernel
theorem dX10_init_41 : decode cX10_init 41 = .ok (.dup, 1) := by decide +kernel
theorem dX10_init_42 : decode cX10_init 42 = .ok (.invokespecial 32, 3) := by decide +kernel
theorem dX10_init_45 : decode cX10_init 45 = .ok (.putfield 33, 3) := by decide +kernel
theorem dX10_init_48 : decode cX10_init 48 = .ok (.aload_n 0, 1) := by decide +kernel
theorem dX10_init_49 : decode cX10_init 49 = .ok (.new 37, 3) := by decide +kernel
theorem dX10_init_52 : decode cX10_init 52 = .ok (.dup, 1) := by decide +kernel
theorem dX10_init_53 : decode cX10_init 53 = .ok (.invokespecial 39, 3) := by decide +kernel
theorem dX10_init_56 : decode cX10_init 56 = .ok (.putfield 40, 3) := by decide +kernel
theorem dX10_init_59 : decode cX10_init 59 = .ok (.aload_n 0, 1) := by decide +kernel
theorem dX10_init_60 : decode cX10_init 60 = .ok (.new 44, 3) := by decide +kernel
theorem dX10_init_63 : decode cX10_init 63 = .ok (.dup, 1) := by decide +kernel
theorem dX10_init_64 : decode cX10_init 64 = .ok (.invokespecial 46, 3) := by decide +kernel
theorem dX10_init_67 : decode cX10_init 67 = .ok (.putfield 47, 3) := by decide +kernel
theorem dX10_init_70 : decode cX10_init 70 = .ok (.aload_n 0, 1) := by decide +kernel
theorem dX10_init_71 : decode cX10_init 71 = .ok (.new 51, 3) := by decide +kernel
theorem dX10_init_74 : decode cX10_init 74 = .ok (.dup, 1) := by decide +kernel
theorem dX10_init_75 : decode cX10_init 75 = .ok (.invokespecial 53, 3) := by decide +kernel
theorem dX10_init_78 : decode cX10_init 78 = .ok (.putfield 54, 3) := by decide +kernel
theorem dX10_init_81 : decode cX10_init 81 = .ok (.aload_n 0, 1) := by decide +kernel
theorem dX10_init_82 : decode cX10_init 82 = .ok (.new 58, 3) := by decide +kernel
theorem dX10_init_85 : decode cX10_init 85 = .ok (.dup, 1) := by decide +kernel
theorem dX10_init_86 : decode cX10_init 86 = .ok (.invokespecial 60, 3) := by decide +kernel
theorem dX10_init_89 : decode cX10_init 89 = .ok (.putfield 61, 3) := by decide +kernel
theorem dX10_init_92 : decode cX10_init 92 = .ok (.aload_n 0, 1) := by decide +kernel
theorem dX10_init_93 : decode cX10_init 93 = .ok (.iconst (-1), 1) := by decide +kernel
theorem dX10_init_94 : decode cX10_init 94 = .ok (.putfield 65, 3) := by decide +kernel
theorem dX10_init_97 : decode cX10_init 97 = .ok (.return_, 1) := by decide +kernel
theorem dX10_person_0 : decode cX10_person 0 = .ok (.aload_n 0, 1) := by decide +kernel
theorem dX10_person_1 : decode cX10_person 1 = .ok (.getfield 10, 3) := by decide +kernel
theorem dX10_person_4 : decode cX10_person 4 = .ok (.iload_n 1, 1) := by decide +kernel
theorem dX10_person_5 : decode cX10_person 5 = .ok (.iload_n 2, 1) := by decide +kernel
theorem dX10_person_6 : decode cX10_person 6 = .ok (.iload_n 3, 1) := by decide +kernel
theorem dX10_person_7 : decode cX10_person 7 = .ok (.invokevirtual 69, 3) := by decide +kernel
theorem dX10_person_10 : decode cX10_person 10 = .ok (.ireturn, 1) := by decide +kernel
theorem dX10_parent_0 : decode cX10_parent 0 = .ok (.aload_n 0, 1) := by decide +kernel
theorem dX10_parent_1 : decode cX10_parent 1 = .ok (.iload_n 1, 1) := by decide +kernel
theorem dX10_parent_2 : decode cX10_parent 2 = .ok (.invokevirtual 73, 3) := by decide +kernel
theorem dX10_parent_5 : decode cX10_parent 5 = .ok (.aload_n 0, 1) := by decide +kernel
theorem dX10_parent_6 : decode cX10_parent 6 = .ok (.iload_n 3, 1) := by decide +kernel
theorem dX10_parent_7 : decode cX10_parent 7 = .ok (.invokevirtual 73, 3) := by decide +kernel
theorem dX10_parent_10 : decode cX10_parent 10 = .ok (.iload_n 2, 1) := by decide +kernel
theorem dX10_parent_11 : decode cX10_parent 11 = .ok (.lookupswitch 49 #[(0, 25), (1, 37)], 25) := by decide +kernel
theorem dX10_parent_36 : decode cX10_parent 36 = .ok (.aload_n 0, 1) := by decide +kernel
theorem dX10_parent_37 : decode cX10_parent 37 = .ok (.getfield 10, 3) := by decide +kernel
theorem dX10_parent_40 : decode cX10_parent 40 = .ok (.iload_n 1, 1) := by decide +kernel
theorem dX10_parent_41 : decode cX10_parent 41 = .ok (.iload_n 3, 1) := by decide +kernel
theorem dX10_parent_42 : decode cX10_parent 42 = .ok (.iload 4, 2) := by decide +kernel
theorem dX10_parent_44 : decode cX10_parent 44 = .ok (.invokevirtual 77, 3) := by decide +kernel
theorem dX10_parent_47 : decode cX10_parent 47 = .ok (.ireturn, 1) := by decide +kernel
theorem dX10_parent_48 : decode cX10_parent 48 = .ok (.aload_n 0, 1) := by decide +kernel
theorem dX10_parent_49 : decode cX10_parent 49 = .ok (.getfield 10, 3) := by decide +kernel
theorem dX10_parent_52 : decode cX10_parent 52 = .ok (.iload_n 1, 1) := by decide +kernel
theorem dX10_parent_53 : decode cX10_parent 53 = .ok (.iload_n 3, 1) := by decide +kernel
theorem dX10_parent_54 : decode cX10_parent 54 = .ok (.iload 4, 2) := by decide +kernel
theorem dX10_parent_56 : decode cX10_parent 56 = .ok (.invokevirtual 81, 3) := by decide +kernel
theorem dX10_parent_59 : decode cX10_parent 59 = .ok (.ireturn, 1) := by decide +kernel
theorem dX10_parent_60 : decode cX10_parent 60 = .ok (.new 84, 3) := by decide +kernel
theorem dX10_parent_63 : decode cX10_parent 63 = .ok (.dup, 1) := by decide +kernel
theorem dX10_parent_64 : decode cX10_parent 64 = .ok (.ldc 86, 2) := by decide +kernel
theorem dX10_parent_66 : decode cX10_parent 66 = .ok (.invokespecial 88, 3) := by decide +kernel
theorem dX10_parent_69 : decode cX10_parent 69 = .ok (.athrow, 1) := by decide +kernel
theorem dX10_grant_0 : decode cX10_grant 0 = .ok (.aload_n 0, 1) := by decide +kernel
theorem dX10_grant_1 : decode cX10_grant 1 = .ok (.iload_n 1, 1) := by decide +kernel
theorem dX10_grant_2 : decode cX10_grant 2 = .ok (.invokevirtual 73, 3) := by decide +kernel
theorem dX10_grant_5 : decode cX10_grant 5 = .ok (.aload_n 0, 1) := by decide +kernel
theorem dX10_grant_6 : decode cX10_grant 6 = .ok (.getfield 19, 3) := by decide +kernel
theorem dX10_grant_9 : decode cX10_grant 9 = .ok (.iload_n 1, 1) := by decide +kernel
theorem dX10_grant_10 : decode cX10_grant 10 = .ok (.iload_n 2, 1) := by decide +kernel
theorem dX10_grant_11 : decode cX10_grant 11 = .ok (.iload_n 3, 1) := by decide +kernel
theorem dX10_grant_12 : decode cX10_grant 12 = .ok (.invokevirtual 91, 3) := by decide +kernel
theorem dX10_grant_15 : decode cX10_grant 15 = .ok (.ireturn, 1) := by decide +kernel
theorem dX10_feed_0 : decode cX10_feed 0 = .ok (.aload_n 0, 1) := by decide +kernel
theorem dX10_feed_1 : decode cX10_feed 1 = .ok (.getfield 40, 3) := by decide +kernel
theorem dX10_feed_4 : decode cX10_feed 4 = .ok (.invokevirtual 94, 3) := by decide +kernel
theorem dX10_feed_7 : decode cX10_feed 7 = .ok (.ifCond .ne 5, 3) := by decide +kernel
theorem dX10_feed_10 : decode cX10_feed 10 = .ok (.iconst (-1), 1) := by decide +kernel
theorem dX10_feed_11 : decode cX10_feed 11 = .ok (.ireturn, 1) := by decide +kernel
theorem dX10_feed_12 : decode cX10_feed 12 = .ok (.aload_n 0, 1) := by decide +kernel
theorem dX10_feed_13 : decode cX10_feed 13 = .ok (.getfield 40, 3) := by decide +kernel
theorem dX10_feed_16 : decode cX10_feed 16 = .ok (.iload_n 1, 1) := by decide +kernel
theorem dX10_feed_17 : decode cX10_feed 17 = .ok (.invokevirtual 98, 3) := by decide +kernel
theorem dX10_feed_20 : decode cX10_feed 20 = .ok (.aload_n 0, 1) := by decide +kernel
theorem dX10_feed_21 : decode cX10_feed 21 = .ok (.getfield 40, 3) := by decide +kernel
theorem dX10_feed_24 : decode cX10_feed 24 = .ok (.iload_n 2, 1) := by decide +kernel
theorem dX10_feed_25 : decode cX10_feed 25 = .ok (.invokevirtual 98, 3) := by decide +kernel
theorem dX10_feed_28 : decode cX10_feed 28 = .ok (.aload_n 0, 1) := by decide +kernel
theorem dX10_feed_29 : decode cX10_feed 29 = .ok (.getfield 40, 3) := by decide +kernel
theorem dX10_feed_32 : decode cX10_feed 32 = .ok (.iload_n 3, 1) := by decide +kernel
theorem dX10_feed_33 : decode cX10_feed 33 = .ok (.invokevirtual 98, 3) := by decide +kernel
theorem dX10_feed_36 : decode cX10_feed 36 = .ok (.aload_n 0, 1) := by decide +kernel
theorem dX10_feed_37 : decode cX10_feed 37 = .ok (.getfield 40, 3) := by decide +kernel
theorem dX10_feed_40 : decode cX10_feed 40 = .ok (.iload 4, 2) := by decide +kernel
theorem dX10_feed_42 : decode cX10_feed 42 = .ok (.invokevirtual 98, 3) := by decide +kernel
theorem dX10_feed_45 : decode cX10_feed 45 = .ok (.aload_n 0, 1) := by decide +kernel
theorem dX10_feed_46 : decode cX10_feed 46 = .ok (.getfield 40, 3) := by decide +kernel
theorem dX10_feed_49 : decode cX10_feed 49 = .ok (.iload 5, 2) := by decide +kernel
theorem dX10_feed_51 : decode cX10_feed 51 = .ok (.invokevirtual 98, 3) := by decide +kernel
theorem dX10_feed_54 : decode cX10_feed 54 = .ok (.aload_n 0, 1) := by decide +kernel
theorem dX10_feed_55 : decode cX10_feed 55 = .ok (.getfield 40, 3) := by decide +kernel
theorem dX10_feed_58 : decode cX10_feed 58 = .ok (.getfield 101, 3) := by decide +kernel
theorem dX10_feed_61 : decode cX10_feed 61 = .ok (.ireturn, 1) := by decide +kernel
theorem dX10_text_0 : decode cX10_text 0 = .ok (.iload_n 1, 1) := by decide +kernel
theorem dX10_text_1 : decode cX10_text 1 = .ok (.ifCond .lt 21, 3) := by decide +kernel
theorem dX10_text_4 : decode cX10_text 4 = .ok (.iload_n 1, 1) := by decide +kernel
theorem dX10_text_5 : decode cX10_text 5 = .ok (.aload_n 0, 1) := by decide +kernel
theorem dX10_text_6 : decode cX10_text 6 = .ok (.getfield 40, 3) := by decide +kernel
theorem dX10_text_9 : decode cX10_text 9 = .ok (.getfield 101, 3) := by decide +kernel
theorem dX10_text_12 : decode cX10_text 12 = .ok (.if_icmp .gt 10, 3) := by decide +kernel
theorem dX10_text_15 : decode cX10_text 15 = .ok (.iload_n 2, 1) := by decide +kernel
theorem dX10_text_16 : decode cX10_text 16 = .ok (.invokestatic 104, 3) := by decide +kernel
theorem dX10_text_19 : decode cX10_text 19 = .ok (.ifCond .ne 13, 3) := by decide +kernel
theorem dX10_text_22 : decode cX10_text 22 = .ok (.new 108, 3) := by decide +kernel
theorem dX10_text_25 : decode cX10_text 25 = .ok (.dup, 1) := by decide +kernel
theorem dX10_text_26 : decode cX10_text 26 = .ok (.ldc 110, 2) := by decide +kernel
theorem dX10_text_28 : decode cX10_text 28 = .ok (.invokespecial 112, 3) := by decide +kernel
theorem dX10_text_31 : decode cX10_text 31 = .ok (.athrow, 1) := by decide +kernel
theorem dX10_text_32 : decode cX10_text 32 = .ok (.aload_n 0, 1) := by decide +kernel
theorem dX10_text_33 : decode cX10_text 33 = .ok (.getfield 40, 3) := by decide +kernel
theorem dX10_text_36 : decode cX10_text 36 = .ok (.iconst 0, 1) := by decide +kernel
theorem dX10_text_37 : decode cX10_text 37 = .ok (.putfield 101, 3) := by decide +kernel
theorem dX10_text_40 : decode cX10_text 40 = .ok (.aload_n 0, 1) := by decide +kernel
theorem dX10_text_41 : decode cX10_text 41 = .ok (.iconst (-1), 1) := by decide +kernel
theorem dX10_text_42 : decode cX10_text 42 = .ok (.putfield 65, 3) := by decide +kernel
theorem dX10_text_45 : decode cX10_text 45 = .ok (.aload_n 0, 1) := by decide +kernel
theorem dX10_text_46 : decode cX10_text 46 = .ok (.getfield 54, 3) := by decide +kernel
theorem dX10_text_49 : decode cX10_text 49 = .ok (.invokevirtual 113, 3) := by decide +kernel
theorem dX10_text_52 : decode cX10_text 52 = .ok (.ifCond .eq 6, 3) := by decide +kernel
theorem dX10_text_55 : decode cX10_text 55 = .ok (.bipush (-9), 2) := by decide +kernel
theorem dX10_text_57 : decode cX10_text 57 = .ok (.ireturn, 1) := by decide +kernel
theorem dX10_text_58 : decode cX10_text 58 = .ok (.aload_n 0, 1) := by decide +kernel
theorem dX10_text_59 : decode cX10_text 59 = .ok (.getfield 47, 3) := by decide +kernel
theorem dX10_text_62 : decode cX10_text 62 = .ok (.aload_n 0, 1) := by decide +kernel
theorem dX10_text_63 : decode cX10_text 63 = .ok (.getfield 40, 3) := by decide +kernel
theorem dX10_text_66 : decode cX10_text 66 = .ok (.getfield 116, 3) := by decide +kernel
theorem dX10_text_69 : decode cX10_text 69 = .ok (.iload_n 1, 1) := by decide +kernel
theorem dX10_text_70 : decode cX10_text 70 = .ok (.invokevirtual 120, 3) := by decide +kernel
theorem dX10_text_73 : decode cX10_text 73 = .ok (.aload_n 0, 1) := by decide +kernel
theorem dX10_text_74 : decode cX10_text 74 = .ok (.getfield 47, 3) := by decide +kernel
theorem dX10_text_77 : decode cX10_text 77 = .ok (.getfield 124, 3) := by decide +kernel
theorem dX10_text_80 : decode cX10_text 80 = .ok (.ifCond .eq 24, 3) := by decide +kernel
theorem dX10_text_83 : decode cX10_text 83 = .ok (.aload_n 0, 1) := by decide +kernel
theorem dX10_text_84 : decode cX10_text 84 = .ok (.aload_n 0, 1) := by decide +kernel
theorem dX10_text_85 : decode cX10_text 85 = .ok (.getfield 47, 3) := by decide +kernel
theorem dX10_text_88 : decode cX10_text 88 = .ok (.getfield 127, 3) := by decide +kernel
theorem dX10_text_91 : decode cX10_text 91 = .ok (.putfield 65, 3) := by decide +kernel
theorem dX10_text_94 : decode cX10_text 94 = .ok (.iconst (-1), 1) := by decide +kernel
theorem dX10_text_95 : decode cX10_text 95 = .ok (.aload_n 0, 1) := by decide +kernel
theorem dX10_text_96 : decode cX10_text 96 = .ok (.getfield 47, 3) := by decide +kernel
theorem dX10_text_99 : decode cX10_text 99 = .ok (.getfield 124, 3) := by decide +kernel
theorem dX10_text_102 : decode cX10_text 102 = .ok (.isub, 1) := by decide +kernel
theorem dX10_text_103 : decode cX10_text 103 = .ok (.ireturn, 1) := by decide +kernel
theorem dX10_text_104 : decode cX10_text 104 = .ok (.aload_n 0, 1) := by decide +kernel
theorem dX10_text_105 : decode cX10_text 105 = .ok (.getfield 54, 3) := by decide +kernel
theorem dX10_text_108 : decode cX10_text 108 = .ok (.aload_n 0, 1) := by decide +kernel
theorem dX10_text_109 : decode cX10_text 109 = .ok (.getfield 47, 3) := by decide +kernel
theorem dX10_text_112 : decode cX10_text 112 = .ok (.invokevirtual 130, 3) := by decide +kernel
theorem dX10_text_115 : decode cX10_text 115 = .ok (.iload_n 2, 1) := by decide +kernel
theorem dX10_text_116 : decode cX10_text 116 = .ok (.invokevirtual 134, 3) := by decide +kernel
theorem dX10_text_119 : decode cX10_text 119 = .ok (.ireturn, 1) := by decide +kernel
theorem dX10_fault_0 : decode cX10_fault 0 = .ok (.aload_n 0, 1) := by decide +kernel
theorem dX10_fault_1 : decode cX10_fault 1 = .ok (.getfield 65, 3) := by decide +kernel
theorem dX10_fault_4 : decode cX10_fault 4 = .ok (.ireturn, 1) := by decide +kernel
theorem dX10_about_0 : decode cX10_about 0 = .ok (.aload_n 0, 1) := by decide +kernel
theorem dX10_about_1 : decode cX10_about 1 = .ok (.iload_n 1, 1) := by decide +kernel
theorem dX10_about_2 : decode cX10_about 2 = .ok (.invokevirtual 73, 3) := by decide +kernel
theorem dX10_about_5 : decode cX10_about 5 = .ok (.iload_n 2, 1) := by decide +kernel
theorem dX10_about_6 : decode cX10_about 6 = .ok (.tableswitch 121 0 7 #[46, 55, 64, 73, 82, 91, 100, 112], 46) := by decide +kernel
theorem dX10_about_52 : decode cX10_about 52 = .ok (.aload_n 0, 1) := by decide +kernel
theorem dX10_about_53 : decode cX10_about 53 = .ok (.getfield 10, 3) := by decide +kernel
theorem dX10_about_56 : decode cX10_about 56 = .ok (.iload_n 1, 1) := by decide +kernel
theorem dX10_about_57 : decode cX10_about 57 = .ok (.invokevirtual 137, 3) := by decide +kernel
theorem dX10_about_60 : decode cX10_about 60 = .ok (.ireturn, 1) := by decide +kernel
theorem dX10_about_61 : decode cX10_about 61 = .ok (.aload_n 0, 1) := by decide +kernel
theorem dX10_about_62 : decode cX10_about 62 = .ok (.getfield 10, 3) := by decide +kernel
theorem dX10_about_65 : decode cX10_about 65 = .ok (.iload_n 1, 1) := by decide +kernel
theorem dX10_about_66 : decode cX10_about 66 = .ok (.invokevirtual 141, 3) := by decide +kernel
theorem dX10_about_69 : decode cX10_about 69 = .ok (.ireturn, 1) := by decide +kernel
theorem dX10_about_70 : decode cX10_about 70 = .ok (.aload_n 0, 1) := by decide +kernel
theorem dX10_about_71 : decode cX10_about 71 = .ok (.getfield 10, 3) := by decide +kernel
theorem dX10_about_74 : decode cX10_about 74 = .ok (.iload_n 1, 1) := by decide +kernel
theorem dX10_about_75 : decode cX10_about 75 = .ok (.invokevirtual 144, 3) := by decide +kernel
theorem dX10_about_78 : decode cX10_about 78 = .ok (.ireturn, 1) := by decide +kernel
theorem dX10_about_79 : decode cX10_about 79 = .ok (.aload_n 0, 1) := by decide +kernel
theorem dX10_about_80 : decode cX10_about 80 = .ok (.getfield 10, 3) := by decide +kernel
theorem dX10_about_83 : decode cX10_about 83 = .ok (.iload_n 1, 1) := by decide +kernel
theorem dX10_about_84 : decode cX10_about 84 = .ok (.invokevirtual 147, 3) := by decide +kernel
theorem dX10_about_87 : decode cX10_about 87 = .ok (.ireturn, 1) := by decide +kernel
theorem dX10_about_88 : decode cX10_about 88 = .ok (.aload_n 0, 1) := by decide +kernel
theorem dX10_about_89 : decode cX10_about 89 = .ok (.getfield 10, 3) := by decide +kernel
theorem dX10_about_92 : decode cX10_about 92 = .ok (.iload_n 1, 1) := by decide +kernel
theorem dX10_about_93 : decode cX10_about 93 = .ok (.invokevirtual 150, 3) := by decide +kernel
theorem dX10_about_96 : decode cX10_about 96 = .ok (.ireturn, 1) := by decide +kernel
theorem dX10_about_97 : decode cX10_about 97 = .ok (.aload_n 0, 1) := by decide +kernel
theorem dX10_about_98 : decode cX10_about 98 = .ok (.getfield 10, 3) := by decide +kernel
theorem dX10_about_101 : decode cX10_about 101 = .ok (.iload_n 1, 1) := by decide +kernel
theorem dX10_about_102 : decode cX10_about 102 = .ok (.invokevirtual 153, 3) := by decide +kernel
theorem dX10_about_105 : decode cX10_about 105 = .ok (.ireturn, 1) := by decide +kernel
theorem dX10_about_106 : decode cX10_about 106 = .ok (.aload_n 0, 1) := by decide +kernel
theorem dX10_about_107 : decode cX10_about 107 = .ok (.getfield 10, 3) := by decide +kernel
theorem dX10_about_110 : decode cX10_about 110 = .ok (.iload_n 1, 1) := by decide +kernel
theorem dX10_about_111 : decode cX10_about 111 = .ok (.invokevirtual 156, 3) := by decide +kernel
theorem dX10_about_114 : decode cX10_about 114 = .ok (.invokestatic 159, 3) := by decide +kernel
theorem dX10_about_117 : decode cX10_about 117 = .ok (.ireturn, 1) := by decide +kernel
theorem dX10_about_118 : decode cX10_about 118 = .ok (.aload_n 0, 1) := by decide +kernel
theorem dX10_about_119 : decode cX10_about 119 = .ok (.getfield 10, 3) := by decide +kernel
theorem dX10_about_122 : decode cX10_about 122 = .ok (.iload_n 1, 1) := by decide +kernel
theorem dX10_about_123 : decode cX10_about 123 = .ok (.invokevirtual 163, 3) := by decide +kernel
theorem dX10_about_126 : decode cX10_about 126 = .ok (.ireturn, 1) := by decide +kernel
theorem dX10_about_127 : decode cX10_about 127 = .ok (.new 84, 3) := by decide +kernel
theorem dX10_about_130 : decode cX10_about 130 = .ok (.dup, 1) := by decide +kernel
theorem dX10_about_131 : decode cX10_about 131 = .ok (.ldc 166, 2) := by decide +kernel
theorem dX10_about_133 : decode cX10_about 133 = .ok (.invokespecial 88, 3) := by decide +kernel
theorem dX10_about_136 : decode cX10_about 136 = .ok (.athrow, 1) := by decide +kernel
theorem dX10_bears_0 : decode cX10_bears 0 = .ok (.aload_n 0, 1) := by decide +kernel
theorem dX10_bears_1 : decode cX10_bears 1 = .ok (.iload_n 1, 1) := by decide +kernel
theorem dX10_bears_2 : decode cX10_bears 2 = .ok (.invokevirtual 73, 3) := by decide +kernel
theorem dX10_bears_5 : decode cX10_bears 5 = .ok (.aload_n 0, 1) := by decide +kernel
theorem dX10_bears_6 : decode cX10_bears 6 = .ok (.getfield 26, 3) := by decide +kernel
theorem dX10_bears_9 : decode cX10_bears 9 = .ok (.aload_n 0, 1) := by decide +kernel
theorem dX10_bears_10 : decode cX10_bears 10 = .ok (.getfield 10, 3) := by decide +kernel
theorem dX10_bears_13 : decode cX10_bears 13 = .ok (.aload_n 0, 1) := by decide +kernel
theorem dX10_bears_14 : decode cX10_bears 14 = .ok (.getfield 19, 3) := by decide +kernel
theorem dX10_bears_17 : decode cX10_bears 17 = .ok (.iload_n 1, 1) := by decide +kernel
theorem dX10_bears_18 : decode cX10_bears 18 = .ok (.iload_n 2, 1) := by decide +kernel
theorem dX10_bears_19 : decode cX10_bears 19 = .ok (.invokevirtual 168, 3) := by decide +kernel
theorem dX10_bears_22 : decode cX10_bears 22 = .ok (.iload_n 3, 1) := by decide +kernel
theorem dX10_bears_23 : decode cX10_bears 23 = .ok (.tableswitch 138 0 7 #[45, 53, 61, 69, 77, 90, 106, 127], 45) := by decide +kernel
theorem dX10_bears_68 : decode cX10_bears 68 = .ok (.aload_n 0, 1) := by decide +kernel
theorem dX10_bears_69 : decode cX10_bears 69 = .ok (.getfield 26, 3) := by decide +kernel
theorem dX10_bears_72 : decode cX10_bears 72 = .ok (.getfield 172, 3) := by decide +kernel
theorem dX10_bears_75 : decode cX10_bears 75 = .ok (.ireturn, 1) := by decide +kernel
theorem dX10_bears_76 : decode cX10_bears 76 = .ok (.aload_n 0, 1) := by decide +kernel
theorem dX10_bears_77 : decode cX10_bears 77 = .ok (.getfield 26, 3) := by decide +kernel
theorem dX10_bears_80 : decode cX10_bears 80 = .ok (.getfield 175, 3) := by decide +kernel
theorem dX10_bears_83 : decode cX10_bears 83 = .ok (.ireturn, 1) := by decide +kernel
theorem dX10_bears_84 : decode cX10_bears 84 = .ok (.aload_n 0, 1) := by decide +kernel
theorem dX10_bears_85 : decode cX10_bears 85 = .ok (.getfield 26, 3) := by decide +kernel
theorem dX10_bears_88 : decode cX10_bears 88 = .ok (.getfield 178, 3) := by decide +kernel
theorem dX10_bears_91 : decode cX10_bears 91 = .ok (.ireturn, 1) := by decide +kernel
theorem dX10_bears_92 : decode cX10_bears 92 = .ok (.aload_n 0, 1) := by decide +kernel
theorem dX10_bears_93 : decode cX10_bears 93 = .ok (.getfield 26, 3) := by decide +kernel
theorem dX10_bears_96 : decode cX10_bears 96 = .ok (.getfield 181, 3) := by decide +kernel
theorem dX10_bears_99 : decode cX10_bears 99 = .ok (.ireturn, 1) := by decide +kernel
theorem dX10_bears_100 : decode cX10_bears 100 = .ok (.aload_n 0, 1) := by decide +kernel
theorem dX10_bears_101 : decode cX10_bears 101 = .ok (.getfield 10, 3) := by decide +kernel
theorem dX10_bears_104 : decode cX10_bears 104 = .ok (.iload_n 1, 1) := by decide +kernel
theorem dX10_bears_105 : decode cX10_bears 105 = .ok (.iload_n 2, 1) := by decide +kernel
theorem dX10_bears_106 : decode cX10_bears 106 = .ok (.invokevirtual 184, 3) := by decide +kernel
theorem dX10_bears_109 : decode cX10_bears 109 = .ok (.invokestatic 159, 3) := by decide +kernel
theorem dX10_bears_112 : decode cX10_bears 112 = .ok (.ireturn, 1) := by decide +kernel
theorem dX10_bears_113 : decode cX10_bears 113 = .ok (.aload_n 0, 1) := by decide +kernel
theorem dX10_bears_114 : decode cX10_bears 114 = .ok (.getfield 10, 3) := by decide +kernel
theorem dX10_bears_117 : decode cX10_bears 117 = .ok (.iload_n 2, 1) := by decide +kernel
theorem dX10_bears_118 : decode cX10_bears 118 = .ok (.invokevirtual 188, 3) := by decide +kernel
theorem dX10_bears_121 : decode cX10_bears 121 = .ok (.iload_n 1, 1) := by decide +kernel
theorem dX10_bears_122 : decode cX10_bears 122 = .ok (.invokestatic 192, 3) := by decide +kernel
theorem dX10_bears_125 : decode cX10_bears 125 = .ok (.invokestatic 159, 3) := by decide +kernel
theorem dX10_bears_128 : decode cX10_bears 128 = .ok (.ireturn, 1) := by decide +kernel
theorem dX10_bears_129 : decode cX10_bears 129 = .ok (.aload_n 0, 1) := by decide +kernel
theorem dX10_bears_130 : decode cX10_bears 130 = .ok (.getfield 10, 3) := by decide +kernel
theorem dX10_bears_133 : decode cX10_bears 133 = .ok (.iload_n 1, 1) := by decide +kernel
theorem dX10_bears_134 : decode cX10_bears 134 = .ok (.iload_n 2, 1) := by decide +kernel
theorem dX10_bears_135 : decode cX10_bears 135 = .ok (.aload_n 0, 1) := by decide +kernel
theorem dX10_bears_136 : decode cX10_bears 136 = .ok (.getfield 10, 3) := by decide +kernel
theorem dX10_bears_139 : decode cX10_bears 139 = .ok (.iload_n 2, 1) := by decide +kernel
theorem dX10_bears_140 : decode cX10_bears 140 = .ok (.invokevirtual 188, 3) := by decide +kernel
theorem dX10_bears_143 : decode cX10_bears 143 = .ok (.invokevirtual 196, 3) := by decide +kernel
theorem dX10_bears_146 : decode cX10_bears 146 = .ok (.invokestatic 159, 3) := by decide +kernel
theorem dX10_bears_149 : decode cX10_bears 149 = .ok (.ireturn, 1) := by decide +kernel
theorem dX10_bears_150 : decode cX10_bears 150 = .ok (.aload_n 0, 1) := by decide +kernel
theorem dX10_bears_151 : decode cX10_bears 151 = .ok (.getfield 26, 3) := by decide +kernel
theorem dX10_bears_154 : decode cX10_bears 154 = .ok (.invokevirtual 200, 3) := by decide +kernel
theorem dX10_bears_157 : decode cX10_bears 157 = .ok (.invokestatic 159, 3) := by decide +kernel
theorem dX10_bears_160 : decode cX10_bears 160 = .ok (.ireturn, 1) := by decide +kernel
theorem dX10_bears_161 : decode cX10_bears 161 = .ok (.new 84, 3) := by decide +kernel
theorem dX10_bears_164 : decode cX10_bears 164 = .ok (.dup, 1) := by decide +kernel
theorem dX10_bears_165 : decode cX10_bears 165 = .ok (.ldc 203, 2) := by decide +kernel
theorem dX10_bears_167 : decode cX10_bears 167 = .ok (.invokespecial 88, 3) := by decide +kernel
theorem dX10_bears_170 : decode cX10_bears 170 = .ok (.athrow, 1) := by decide +kernel
theorem dX10_mark_0 : decode cX10_mark 0 = .ok (.aload_n 0, 1) := by decide +kernel
theorem dX10_mark_1 : decode cX10_mark 1 = .ok (.iload_n 1, 1) := by decide +kernel
theorem dX10_mark_2 : decode cX10_mark 2 = .ok (.invokevirtual 73, 3) := by decide +kernel
theorem dX10_mark_5 : decode cX10_mark 5 = .ok (.aload_n 0, 1) := by decide +kernel
theorem dX10_mark_6 : decode cX10_mark 6 = .ok (.getfield 26, 3) := by decide +kernel
theorem dX10_mark_9 : decode cX10_mark 9 = .ok (.aload_n 0, 1) := by decide +kernel
theorem dX10_mark_10 : decode cX10_mark 10 = .ok (.getfield 10, 3) := by decide +kernel
theorem dX10_mark_13 : decode cX10_mark 13 = .ok (.aload_n 0, 1) := by decide +kernel
theorem dX10_mark_14 : decode cX10_mark 14 = .ok (.getfield 19, 3) := by decide +kernel
theorem dX10_mark_17 : decode cX10_mark 17 = .ok (.iload_n 1, 1) := by decide +kernel
theorem dX10_mark_18 : decode cX10_mark 18 = .ok (.iload_n 2, 1) := by decide +kernel
theorem dX10_mark_19 : decode cX10_mark 19 = .ok (.invokevirtual 168, 3) := by decide +kernel
theorem dX10_mark_22 : decode cX10_mark 22 = .ok (.iload_n 3, 1) := by decide +kernel
theorem dX10_mark_23 : decode cX10_mark 23 = .ok (.ifCond .lt 14, 3) := by decide +kernel
theorem dX10_mark_26 : decode cX10_mark 26 = .ok (.iload_n 3, 1) := by decide +kernel
theorem dX10_mark_27 : decode cX10_mark 27 = .ok (.aload_n 0, 1) := by decide +kernel
theorem dX10_mark_28 : decode cX10_mark 28 = .ok (.getfield 26, 3) := by decide +kernel
theorem dX10_mark_31 : decode cX10_mark 31 = .ok (.getfield 178, 3) := by decide +kernel
theorem dX10_mark_34 : decode cX10_mark 34 = .ok (.if_icmp .lt 13, 3) := by decide +kernel
theorem dX10_mark_37 : decode cX10_mark 37 = .ok (.new 84, 3) := by decide +kernel
theorem dX10_mark_40 : decode cX10_mark 40 = .ok (.dup, 1) := by decide +kernel
theorem dX10_mark_41 : decode cX10_mark 41 = .ok (.ldc 205, 2) := by decide +kernel
theorem dX10_mark_43 : decode cX10_mark 43 = .ok (.invokespecial 88, 3) := by decide +kernel
theorem dX10_mark_46 : decode cX10_mark 46 = .ok (.athrow, 1) := by decide +kernel
theorem dX10_mark_47 : decode cX10_mark 47 = .ok (.aload_n 0, 1) := by decide +kernel
theorem dX10_mark_48 : decode cX10_mark 48 = .ok (.getfield 26, 3) := by decide +kernel
theorem dX10_mark_51 : decode cX10_mark 51 = .ok (.iload_n 3, 1) := by decide +kernel
theorem dX10_mark_52 : decode cX10_mark 52 = .ok (.invokevirtual 207, 3) := by decide +kernel
theorem dX10_mark_55 : decode cX10_mark 55 = .ok (.ireturn, 1) := by decide +kernel
theorem dX10_head_0 : decode cX10_head 0 = .ok (.aload_n 0, 1) := by decide +kernel
theorem dX10_head_1 : decode cX10_head 1 = .ok (.iload_n 1, 1) := by decide +kernel
theorem dX10_head_2 : decode cX10_head 2 = .ok (.invokevirtual 73, 3) := by decide +kernel
theorem dX10_head_5 : decode cX10_head 5 = .ok (.aload_n 0, 1) := by decide +kernel
theorem dX10_head_6 : decode cX10_head 6 = .ok (.getfield 10, 3) := by decide +kernel
theorem dX10_head_9 : decode cX10_head 9 = .ok (.iload_n 1, 1) := by decide +kernel
theorem dX10_head_10 : decode cX10_head 10 = .ok (.iload_n 2, 1) := by decide +kernel
theorem dX10_head_11 : decode cX10_head 11 = .ok (.invokevirtual 210, 3) := by decide +kernel
theorem dX10_head_14 : decode cX10_head 14 = .ok (.ireturn, 1) := by decide +kernel
theorem dX10_quarter_0 : decode cX10_quarter 0 = .ok (.aload_n 0, 1) := by decide +kernel
theorem dX10_quarter_1 : decode cX10_quarter 1 = .ok (.iload_n 1, 1) := by decide +kernel
theorem dX10_quarter_2 : decode cX10_quarter 2 = .ok (.invokevirtual 73, 3) := by decide +kernel
theorem dX10_quarter_5 : decode cX10_quarter 5 = .ok (.aload_n 0, 1) := by decide +kernel
theorem dX10_quarter_6 : decode cX10_quarter 6 = .ok (.getfield 33, 3) := by decide +kernel
theorem dX10_quarter_9 : decode cX10_quarter 9 = .ok (.aload_n 0, 1) := by decide +kernel
theorem dX10_quarter_10 : decode cX10_quarter 10 = .ok (.getfield 10, 3) := by decide +kernel
theorem dX10_quarter_13 : decode cX10_quarter 13 = .ok (.aload_n 0, 1) := by decide +kernel
theorem dX10_quarter_14 : decode cX10_quarter 14 = .ok (.getfield 19, 3) := by decide +kernel
theorem dX10_quarter_17 : decode cX10_quarter 17 = .ok (.iload_n 1, 1) := by decide +kernel
theorem dX10_quarter_18 : decode cX10_quarter 18 = .ok (.iload_n 2, 1) := by decide +kernel
theorem dX10_quarter_19 : decode cX10_quarter 19 = .ok (.invokevirtual 214, 3) := by decide +kernel
theorem dX10_quarter_22 : decode cX10_quarter 22 = .ok (.aload_n 0, 1) := by decide +kernel
theorem dX10_quarter_23 : decode cX10_quarter 23 = .ok (.getfield 33, 3) := by decide +kernel
theorem dX10_quarter_26 : decode cX10_quarter 26 = .ok (.iload_n 1, 1) := by decide +kernel
theorem dX10_quarter_27 : decode cX10_quarter 27 = .ok (.invokevirtual 217, 3) := by decide +kernel
theorem dX10_quarter_30 : decode cX10_quarter 30 = .ok (.istore 4, 2) := by decide +kernel
theorem dX10_quarter_32 : decode cX10_quarter 32 = .ok (.iload_n 3, 1) := by decide +kernel
theorem dX10_quarter_33 : decode cX10_quarter 33 = .ok (.iconst (-1), 1) := by decide +kernel
theorem dX10_quarter_34 : decode cX10_quarter 34 = .ok (.if_icmp .ne 6, 3) := by decide +kernel
theorem dX10_quarter_37 : decode cX10_quarter 37 = .ok (.iload 4, 2) := by decide +kernel
theorem dX10_quarter_39 : decode cX10_quarter 39 = .ok (.ireturn, 1) := by decide +kernel
theorem dX10_quarter_40 : decode cX10_quarter 40 = .ok (.iload_n 3, 1) := by decide +kernel
theorem dX10_quarter_41 : decode cX10_quarter 41 = .ok (.ifCond .lt 9, 3) := by decide +kernel
theorem dX10_quarter_44 : decode cX10_quarter 44 = .ok (.iload_n 3, 1) := by decide +kernel
theorem dX10_quarter_45 : decode cX10_quarter 45 = .ok (.iload 4, 2) := by decide +kernel
theorem dX10_quarter_47 : decode cX10_quarter 47 = .ok (.if_icmp .lt 13, 3) := by decide +kernel
theorem dX10_quarter_50 : decode cX10_quarter 50 = .ok (.new 84, 3) := by decide +kernel
theorem dX10_quarter_53 : decode cX10_quarter 53 = .ok (.dup, 1) := by decide +kernel
theorem dX10_quarter_54 : decode cX10_quarter 54 = .ok (.ldc 220, 2) := by decide +kernel
theorem dX10_quarter_56 : decode cX10_quarter 56 = .ok (.invokespecial 88, 3) := by decide +kernel
theorem dX10_quarter_59 : decode cX10_quarter 59 = .ok (.athrow, 1) := by decide +kernel
theorem dX10_quarter_60 : decode cX10_quarter 60 = .ok (.aload_n 0, 1) := by decide +kernel
theorem dX10_quarter_61 : decode cX10_quarter 61 = .ok (.getfield 33, 3) := by decide +kernel
theorem dX10_quarter_64 : decode cX10_quarter 64 = .ok (.iload_n 1, 1) := by decide +kernel
theorem dX10_quarter_65 : decode cX10_quarter 65 = .ok (.iload_n 3, 1) := by decide +kernel
theorem dX10_quarter_66 : decode cX10_quarter 66 = .ok (.invokevirtual 222, 3) := by decide +kernel
theorem dX10_quarter_69 : decode cX10_quarter 69 = .ok (.ireturn, 1) := by decide +kernel
theorem dX10_claim_0 : decode cX10_claim 0 = .ok (.aload_n 0, 1) := by decide +kernel
theorem dX10_claim_1 : decode cX10_claim 1 = .ok (.iload_n 1, 1) := by decide +kernel
theorem dX10_claim_2 : decode cX10_claim 2 = .ok (.invokevirtual 73, 3) := by decide +kernel
theorem dX10_claim_5 : decode cX10_claim 5 = .ok (.aload_n 0, 1) := by decide +kernel
theorem dX10_claim_6 : decode cX10_claim 6 = .ok (.getfield 26, 3) := by decide +kernel
theorem dX10_claim_9 : decode cX10_claim 9 = .ok (.aload_n 0, 1) := by decide +kernel
theorem dX10_claim_10 : decode cX10_claim 10 = .ok (.getfield 10, 3) := by decide +kernel
theorem dX10_claim_13 : decode cX10_claim 13 = .ok (.aload_n 0, 1) := by decide +kernel
theorem dX10_claim_14 : decode cX10_claim 14 = .ok (.getfield 19, 3) := by decide +kernel
theorem dX10_claim_17 : decode cX10_claim 17 = .ok (.iload_n 1, 1) := by decide +kernel
theorem dX10_claim_18 : decode cX10_claim 18 = .ok (.iload_n 3, 1) := by decide +kernel
theorem dX10_claim_19 : decode cX10_claim 19 = .ok (.invokevirtual 168, 3) := by decide +kernel
theorem dX10_claim_22 : decode cX10_claim 22 = .ok (.aload_n 0, 1) := by decide +kernel
theorem dX10_claim_23 : decode cX10_claim 23 = .ok (.getfield 26, 3) := by decide +kernel
theorem dX10_claim_26 : decode cX10_claim 26 = .ok (.getfield 172, 3) := by decide +kernel
theorem dX10_claim_29 : decode cX10_claim 29 = .ok (.iconst (-1), 1) := by decide +kernel
theorem dX10_claim_30 : decode cX10_claim 30 = .ok (.if_icmp .eq 14, 3) := by decide +kernel
theorem dX10_claim_33 : decode cX10_claim 33 = .ok (.aload_n 0, 1) := by decide +kernel
theorem dX10_claim_34 : decode cX10_claim 34 = .ok (.getfield 26, 3) := by decide +kernel
theorem dX10_claim_37 : decode cX10_claim 37 = .ok (.getfield 172, 3) := by decide +kernel
theorem dX10_claim_40 : decode cX10_claim 40 = .ok (.iload_n 2, 1) := by decide +kernel
theorem dX10_claim_41 : decode cX10_claim 41 = .ok (.if_icmp .eq 5, 3) := by decide +kernel
theorem dX10_claim_44 : decode cX10_claim 44 = .ok (.iconst 1, 1) := by decide +kernel
theorem dX10_claim_45 : decode cX10_claim 45 = .ok (.ireturn, 1) := by decide +kernel
theorem dX10_claim_46 : decode cX10_claim 46 = .ok (.aload_n 0, 1) := by decide +kernel
theorem dX10_claim_47 : decode cX10_claim 47 = .ok (.getfield 10, 3) := by decide +kernel
theorem dX10_claim_50 : decode cX10_claim 50 = .ok (.iload_n 1, 1) := by decide +kernel
theorem dX10_claim_51 : decode cX10_claim 51 = .ok (.iload_n 3, 1) := by decide +kernel
theorem dX10_claim_52 : decode cX10_claim 52 = .ok (.invokevirtual 184, 3) := by decide +kernel
theorem dX10_claim_55 : decode cX10_claim 55 = .ok (.ifCond .ne 5, 3) := by decide +kernel
theorem dX10_claim_58 : decode cX10_claim 58 = .ok (.iconst 2, 1) := by decide +kernel
theorem dX10_claim_59 : decode cX10_claim 59 = .ok (.ireturn, 1) := by decide +kernel
theorem dX10_claim_60 : decode cX10_claim 60 = .ok (.aload_n 0, 1) := by decide +kernel
theorem dX10_claim_61 : decode cX10_claim 61 = .ok (.iload_n 1, 1) := by decide +kernel
theorem dX10_claim_62 : decode cX10_claim 62 = .ok (.iload_n 3, 1) := by decide +kernel
theorem dX10_claim_63 : decode cX10_claim 63 = .ok (.invokevirtual 225, 3) := by decide +kernel
theorem dX10_claim_66 : decode cX10_claim 66 = .ok (.aload_n 0, 1) := by decide +kernel
theorem dX10_claim_67 : decode cX10_claim 67 = .ok (.getfield 54, 3) := by decide +kernel
theorem dX10_claim_70 : decode cX10_claim 70 = .ok (.getfield 229, 3) := by decide +kernel
theorem dX10_claim_73 : decode cX10_claim 73 = .ok (.ifCond .eq 5, 3) := by decide +kernel
theorem dX10_claim_76 : decode cX10_claim 76 = .ok (.iconst 3, 1) := by decide +kernel
theorem dX10_claim_77 : decode cX10_claim 77 = .ok (.ireturn, 1) := by decide +kernel
theorem dX10_claim_78 : decode cX10_claim 78 = .ok (.aload_n 0, 1) := by decide +kernel
theorem dX10_claim_79 : decode cX10_claim 79 = .ok (.getfield 54, 3) := by decide +kernel
theorem dX10_claim_82 : decode cX10_claim 82 = .ok (.getfield 233, 3) := by decide +kernel
theorem dX10_claim_85 : decode cX10_claim 85 = .ok (.ifCond .eq 17, 3) := by decide +kernel
theorem dX10_claim_88 : decode cX10_claim 88 = .ok (.aload_n 0, 1) := by decide +kernel
theorem dX10_claim_89 : decode cX10_claim 89 = .ok (.getfield 26, 3) := by decide +kernel
theorem dX10_claim_92 : decode cX10_claim 92 = .ok (.invokevirtual 200, 3) := by decide +kernel
theorem dX10_claim_95 : decode cX10_claim 95 = .ok (.ifCond .ne 7, 3) := by decide +kernel
theorem dX10_claim_98 : decode cX10_claim 98 = .ok (.iconst 4, 1) := by decide +kernel
theorem dX10_claim_99 : decode cX10_claim 99 = .ok (.goto 4, 3) := by decide +kernel
theorem dX10_claim_102 : decode cX10_claim 102 = .ok (.iconst 0, 1) := by decide +kernel
theorem dX10_claim_103 : decode cX10_claim 103 = .ok (.ireturn, 1) := by decide +kernel
theorem dX10_fee_0 : decode cX10_fee 0 = .ok (.aload_n 0, 1) := by decide +kernel
theorem dX10_fee_1 : decode cX10_fee 1 = .ok (.iload_n 1, 1) := by decide +kernel
theorem dX10_fee_2 : decode cX10_fee 2 = .ok (.invokevirtual 73, 3) := by decide +kernel
theorem dX10_fee_5 : decode cX10_fee 5 = .ok (.aload_n 0, 1) := by decide +kernel
theorem dX10_fee_6 : decode cX10_fee 6 = .ok (.getfield 26, 3) := by decide +kernel
theorem dX10_fee_9 : decode cX10_fee 9 = .ok (.aload_n 0, 1) := by decide +kernel
theorem dX10_fee_10 : decode cX10_fee 10 = .ok (.getfield 10, 3) := by decide +kernel
theorem dX10_fee_13 : decode cX10_fee 13 = .ok (.aload_n 0, 1) := by decide +kernel
theorem dX10_fee_14 : decode cX10_fee 14 = .ok (.getfield 19, 3) := by decide +kernel
theorem dX10_fee_17 : decode cX10_fee 17 = .ok (.iload_n 1, 1) := by decide +kernel
theorem dX10_fee_18 : decode cX10_fee 18 = .ok (.iload_n 2, 1) := by decide +kernel
theorem dX10_fee_19 : decode cX10_fee 19 = .ok (.invokevirtual 168, 3) := by decide +kernel
theorem dX10_fee_22 : decode cX10_fee 22 = .ok (.aload_n 0, 1) := by decide +kernel
theorem dX10_fee_23 : decode cX10_fee 23 = .ok (.getfield 26, 3) := by decide +kernel
theorem dX10_fee_26 : decode cX10_fee 26 = .ok (.getfield 172, 3) := by decide +kernel
theorem dX10_fee_29 : decode cX10_fee 29 = .ok (.iconst (-1), 1) := by decide +kernel
theorem dX10_fee_30 : decode cX10_fee 30 = .ok (.if_icmp .ne 5, 3) := by decide +kernel
theorem dX10_fee_33 : decode cX10_fee 33 = .ok (.iconst 0, 1) := by decide +kernel
theorem dX10_fee_34 : decode cX10_fee 34 = .ok (.ireturn, 1) := by decide +kernel
theorem dX10_fee_35 : decode cX10_fee 35 = .ok (.aload_n 0, 1) := by decide +kernel
theorem dX10_fee_36 : decode cX10_fee 36 = .ok (.iload_n 1, 1) := by decide +kernel
theorem dX10_fee_37 : decode cX10_fee 37 = .ok (.iload_n 2, 1) := by decide +kernel
theorem dX10_fee_38 : decode cX10_fee 38 = .ok (.invokevirtual 225, 3) := by decide +kernel
theorem dX10_fee_41 : decode cX10_fee 41 = .ok (.aload_n 0, 1) := by decide +kernel
theorem dX10_fee_42 : decode cX10_fee 42 = .ok (.getfield 54, 3) := by decide +kernel
theorem dX10_fee_45 : decode cX10_fee 45 = .ok (.getfield 236, 3) := by decide +kernel
theorem dX10_fee_48 : decode cX10_fee 48 = .ok (.ireturn, 1) := by decide +kernel
theorem dX10_rivals_0 : decode cX10_rivals 0 = .ok (.aload_n 0, 1) := by decide +kernel
theorem dX10_rivals_1 : decode cX10_rivals 1 = .ok (.iload_n 1, 1) := by decide +kernel
theorem dX10_rivals_2 : decode cX10_rivals 2 = .ok (.invokevirtual 73, 3) := by decide +kernel
theorem dX10_rivals_5 : decode cX10_rivals 5 = .ok (.aload_n 0, 1) := by decide +kernel
theorem dX10_rivals_6 : decode cX10_rivals 6 = .ok (.getfield 26, 3) := by decide +kernel
theorem dX10_rivals_9 : decode cX10_rivals 9 = .ok (.aload_n 0, 1) := by decide +kernel
theorem dX10_rivals_10 : decode cX10_rivals 10 = .ok (.getfield 10, 3) := by decide +kernel
theorem dX10_rivals_13 : decode cX10_rivals 13 = .ok (.aload_n 0, 1) := by decide +kernel
theorem dX10_rivals_14 : decode cX10_rivals 14 = .ok (.getfield 19, 3) := by decide +kernel
theorem dX10_rivals_17 : decode cX10_rivals 17 = .ok (.iload_n 1, 1) := by decide +kernel
theorem dX10_rivals_18 : decode cX10_rivals 18 = .ok (.iload_n 2, 1) := by decide +kernel
theorem dX10_rivals_19 : decode cX10_rivals 19 = .ok (.invokevirtual 168, 3) := by decide +kernel
theorem dX10_rivals_22 : decode cX10_rivals 22 = .ok (.aload_n 0, 1) := by decide +kernel
theorem dX10_rivals_23 : decode cX10_rivals 23 = .ok (.iload_n 2, 1) := by decide +kernel
theorem dX10_rivals_24 : decode cX10_rivals 24 = .ok (.invokevirtual 239, 3) := by decide +kernel
theorem dX10_rivals_27 : decode cX10_rivals 27 = .ok (.ireturn, 1) := by decide +kernel
theorem dX10_common_0 : decode cX10_common 0 = .ok (.aload_n 0, 1) := by decide +kernel
theorem dX10_common_1 : decode cX10_common 1 = .ok (.iload_n 1, 1) := by decide +kernel
theorem dX10_common_2 : decode cX10_common 2 = .ok (.invokevirtual 73, 3) := by decide +kernel
theorem dX10_common_5 : decode cX10_common 5 = .ok (.aload_n 0, 1) := by decide +kernel
theorem dX10_common_6 : decode cX10_common 6 = .ok (.iload_n 2, 1) := by decide +kernel
theorem dX10_common_7 : decode cX10_common 7 = .ok (.invokevirtual 73, 3) := by decide +kernel
theorem dX10_common_10 : decode cX10_common 10 = .ok (.aload_n 0, 1) := by decide +kernel
theorem dX10_common_11 : decode cX10_common 11 = .ok (.getfield 10, 3) := by decide +kernel
theorem dX10_common_14 : decode cX10_common 14 = .ok (.iload_n 1, 1) := by decide +kernel
theorem dX10_common_15 : decode cX10_common 15 = .ok (.invokevirtual 242, 3) := by decide +kernel
theorem dX10_common_18 : decode cX10_common 18 = .ok (.aload_n 0, 1) := by decide +kernel
theorem dX10_common_19 : decode cX10_common 19 = .ok (.getfield 10, 3) := by decide +kernel
theorem dX10_common_22 : decode cX10_common 22 = .ok (.iload_n 2, 1) := by decide +kernel
theorem dX10_common_23 : decode cX10_common 23 = .ok (.invokevirtual 242, 3) := by decide +kernel
theorem dX10_common_26 : decode cX10_common 26 = .ok (.land, 1) := by decide +kernel
theorem dX10_common_27 : decode cX10_common 27 = .ok (.lstore_n 3, 1) := by decide +kernel
theorem dX10_common_28 : decode cX10_common 28 = .ok (.aload_n 0, 1) := by decide +kernel
theorem dX10_common_29 : decode cX10_common 29 = .ok (.getfield 10, 3) := by decide +kernel
theorem dX10_common_32 : decode cX10_common 32 = .ok (.getfield 245, 3) := by decide +kernel
theorem dX10_common_35 : decode cX10_common 35 = .ok (.iconst 1, 1) := by decide +kernel
theorem dX10_common_36 : decode cX10_common 36 = .ok (.isub, 1) := by decide +kernel
theorem dX10_common_37 : decode cX10_common 37 = .ok (.istore 5, 2) := by decide +kernel
theorem dX10_common_39 : decode cX10_common 39 = .ok (.iload 5, 2) := by decide +kernel
theorem dX10_common_41 : decode cX10_common 41 = .ok (.ifCond .lt 21, 3) := by decide +kernel
theorem dX10_common_44 : decode cX10_common 44 = .ok (.lload_n 3, 1) := by decide +kernel
theorem dX10_common_45 : decode cX10_common 45 = .ok (.iload 5, 2) := by decide +kernel
theorem dX10_common_47 : decode cX10_common 47 = .ok (.invokestatic 192, 3) := by decide +kernel
theorem dX10_common_50 : decode cX10_common 50 = .ok (.ifCond .eq 6, 3) := by decide +kernel
theorem dX10_common_53 : decode cX10_common 53 = .ok (.iload 5, 2) := by decide +kernel
theorem dX10_common_55 : decode cX10_common 55 = .ok (.ireturn, 1) := by decide +kernel
theorem dX10_common_56 : decode cX10_common 56 = .ok (.iinc 5 (-1), 3) := by decide +kernel
theorem dX10_common_59 : decode cX10_common 59 = .ok (.goto (-20), 3) := by decide +kernel
theorem dX10_common_62 : decode cX10_common 62 = .ok (.iconst (-1), 1) := by decide +kernel
theorem dX10_common_63 : decode cX10_common 63 = .ok (.ireturn, 1) := by decide +kernel
theorem dX10_copy_0 : decode cX10_copy 0 = .ok (.aload_n 0, 1) := by decide +kernel
theorem dX10_copy_1 : decode cX10_copy 1 = .ok (.getfield 61, 3) := by decide +kernel
theorem dX10_copy_4 : decode cX10_copy 4 = .ok (.iload_n 1, 1) := by decide +kernel
theorem dX10_copy_5 : decode cX10_copy 5 = .ok (.iload_n 2, 1) := by decide +kernel
theorem dX10_copy_6 : decode cX10_copy 6 = .ok (.invokevirtual 248, 3) := by decide +kernel
theorem dX10_copy_9 : decode cX10_copy 9 = .ok (.ireturn, 1) := by decide +kernel
theorem dX10_of_0 : decode cX10_of 0 = .ok (.aload_n 0, 1) := by decide +kernel
theorem dX10_of_1 : decode cX10_of 1 = .ok (.getfield 61, 3) := by decide +kernel
theorem dX10_of_4 : decode cX10_of 4 = .ok (.iload_n 1, 1) := by decide +kernel
theorem dX10_of_5 : decode cX10_of 5 = .ok (.invokevirtual 250, 3) := by decide +kernel
theorem dX10_of_8 : decode cX10_of 8 = .ok (.ifCond .ne 13, 3) := by decide +kernel
theorem dX10_of_11 : decode cX10_of 11 = .ok (.new 84, 3) := by decide +kernel
theorem dX10_of_14 : decode cX10_of 14 = .ok (.dup, 1) := by decide +kernel
theorem dX10_of_15 : decode cX10_of 15 = .ok (.ldc 253, 2) := by decide +kernel
theorem dX10_of_17 : decode cX10_of 17 = .ok (.invokespecial 88, 3) := by decide +kernel
theorem dX10_of_20 : decode cX10_of 20 = .ok (.athrow, 1) := by decide +kernel
theorem dX10_of_21 : decode cX10_of 21 = .ok (.iload_n 2, 1) := by decide +kernel
theorem dX10_of_22 : decode cX10_of 22 = .ok (.tableswitch 79 0 4 #[34, 43, 52, 61, 70], 34) := by decide +kernel
theorem dX10_of_56 : decode cX10_of 56 = .ok (.aload_n 0, 1) := by decide +kernel
theorem dX10_of_57 : decode cX10_of 57 = .ok (.getfield 61, 3) := by decide +kernel
theorem dX10_of_60 : decode cX10_of 60 = .ok (.iload_n 1, 1) := by decide +kernel
theorem dX10_of_61 : decode cX10_of 61 = .ok (.invokevirtual 255, 3) := by decide +kernel
theorem dX10_of_64 : decode cX10_of 64 = .ok (.ireturn, 1) := by decide +kernel
theorem dX10_of_65 : decode cX10_of 65 = .ok (.aload_n 0, 1) := by decide +kernel
theorem dX10_of_66 : decode cX10_of 66 = .ok (.getfield 61, 3) := by decide +kernel
theorem dX10_of_69 : decode cX10_of 69 = .ok (.iload_n 1, 1) := by decide +kernel
theorem dX10_of_70 : decode cX10_of 70 = .ok (.invokevirtual 258, 3) := by decide +kernel
theorem dX10_of_73 : decode cX10_of 73 = .ok (.ireturn, 1) := by decide +kernel
theorem dX10_of_74 : decode cX10_of 74 = .ok (.aload_n 0, 1) := by decide +kernel
theorem dX10_of_75 : decode cX10_of 75 = .ok (.getfield 61, 3) := by decide +kernel
theorem dX10_of_78 : decode cX10_of 78 = .ok (.iload_n 1, 1) := by decide +kernel
theorem dX10_of_79 : decode cX10_of 79 = .ok (.invokevirtual 261, 3) := by decide +kernel
theorem dX10_of_82 : decode cX10_of 82 = .ok (.ireturn, 1) := by decide +kernel
theorem dX10_of_83 : decode cX10_of 83 = .ok (.aload_n 0, 1) := by decide +kernel
theorem dX10_of_84 : decode cX10_of 84 = .ok (.getfield 61, 3) := by decide +kernel
theorem dX10_of_87 : decode cX10_of 87 = .ok (.iload_n 1, 1) := by decide +kernel
theorem dX10_of_88 : decode cX10_of 88 = .ok (.invokevirtual 264, 3) := by decide +kernel
theorem dX10_of_91 : decode cX10_of 91 = .ok (.ireturn, 1) := by decide +kernel
theorem dX10_of_92 : decode cX10_of 92 = .ok (.aload_n 0, 1) := by decide +kernel
theorem dX10_of_93 : decode cX10_of 93 = .ok (.getfield 61, 3) := by decide +kernel
theorem dX10_of_96 : decode cX10_of 96 = .ok (.iload_n 1, 1) := by decide +kernel
theorem dX10_of_97 : decode cX10_of 97 = .ok (.invokevirtual 267, 3) := by decide +kernel
theorem dX10_of_100 : decode cX10_of 100 = .ok (.ireturn, 1) := by decide +kernel
theorem dX10_of_101 : decode cX10_of 101 = .ok (.new 84, 3) := by decide +kernel
theorem dX10_of_104 : decode cX10_of 104 = .ok (.dup, 1) := by decide +kernel
theorem dX10_of_105 : decode cX10_of 105 = .ok (.ldc_w 270, 3) := by decide +kernel
theorem dX10_of_108 : decode cX10_of 108 = .ok (.invokespecial 88, 3) := by decide +kernel
theorem dX10_of_111 : decode cX10_of 111 = .ok (.athrow, 1) := by decide +kernel
theorem dX10_count_0 : decode cX10_count 0 = .ok (.iload_n 1, 1) := by decide +kernel
theorem dX10_count_1 : decode cX10_count 1 = .ok (.tableswitch 75 0 4 #[35, 43, 51, 59, 67], 35) := by decide +kernel
theorem dX10_count_36 : decode cX10_count 36 = .ok (.aload_n 0, 1) := by decide +kernel
theorem dX10_count_37 : decode cX10_count 37 = .ok (.getfield 10, 3) := by decide +kernel
theorem dX10_count_40 : decode cX10_count 40 = .ok (.getfield 245, 3) := by decide +kernel
theorem dX10_count_43 : decode cX10_count 43 = .ok (.ireturn, 1) := by decide +kernel
theorem dX10_count_44 : decode cX10_count 44 = .ok (.aload_n 0, 1) := by decide +kernel
theorem dX10_count_45 : decode cX10_count 45 = .ok (.getfield 19, 3) := by decide +kernel
theorem dX10_count_48 : decode cX10_count 48 = .ok (.getfield 272, 3) := by decide +kernel
theorem dX10_count_51 : decode cX10_count 51 = .ok (.ireturn, 1) := by decide +kernel
theorem dX10_count_52 : decode cX10_count 52 = .ok (.aload_n 0, 1) := by decide +kernel
theorem dX10_count_53 : decode cX10_count 53 = .ok (.getfield 54, 3) := by decide +kernel
theorem dX10_count_56 : decode cX10_count 56 = .ok (.getfield 273, 3) := by decide +kernel
theorem dX10_count_59 : decode cX10_count 59 = .ok (.ireturn, 1) := by decide +kernel
theorem dX10_count_60 : decode cX10_count 60 = .ok (.aload_n 0, 1) := by decide +kernel
theorem dX10_count_61 : decode cX10_count 61 = .ok (.getfield 61, 3) := by decide +kernel
theorem dX10_count_64 : decode cX10_count 64 = .ok (.getfield 274, 3) := by decide +kernel
theorem dX10_count_67 : decode cX10_count 67 = .ok (.ireturn, 1) := by decide +kernel
theorem dX10_count_68 : decode cX10_count 68 = .ok (.aload_n 0, 1) := by decide +kernel
theorem dX10_count_69 : decode cX10_count 69 = .ok (.getfield 40, 3) := by decide +kernel
theorem dX10_count_72 : decode cX10_count 72 = .ok (.getfield 101, 3) := by decide +kernel
theorem dX10_count_75 : decode cX10_count 75 = .ok (.ireturn, 1) := by decide +kernel
theorem dX10_count_76 : decode cX10_count 76 = .ok (.new 84, 3) := by decide +kernel
theorem dX10_count_79 : decode cX10_count 79 = .ok (.dup, 1) := by decide +kernel
theorem dX10_count_80 : decode cX10_count 80 = .ok (.ldc_w 275, 3) := by decide +kernel
theorem dX10_count_83 : decode cX10_count 83 = .ok (.invokespecial 88, 3) := by decide +kernel
theorem dX10_count_86 : decode cX10_count 86 = .ok (.athrow, 1) := by decide +kernel
theorem dX10_requirePerson_0 : decode cX10_requirePerson 0 = .ok (.aload_n 0, 1) := by decide +kernel
theorem dX10_requirePerson_1 : decode cX10_requirePerson 1 = .ok (.getfield 10, 3) := by decide +kernel
theorem dX10_requirePerson_4 : decode cX10_requirePerson 4 = .ok (.iload_n 1, 1) := by decide +kernel
theorem dX10_requirePerson_5 : decode cX10_requirePerson 5 = .ok (.invokevirtual 277, 3) := by decide +kernel
theorem dX10_requirePerson_8 : decode cX10_requirePerson 8 = .ok (.ifCond .ne 14, 3) := by decide +kernel
theorem dX10_requirePerson_11 : decode cX10_requirePerson 11 = .ok (.new 84, 3) := by decide +kernel
theorem dX10_requirePerson_14 : decode cX10_requirePerson 14 = .ok (.dup, 1) := by decide +kernel
theorem dX10_requirePerson_15 : decode cX10_requirePerson 15 = .ok (.ldc_w 278, 3) := by decide +kernel
theorem dX10_requirePerson_18 : decode cX10_requirePerson 18 = .ok (.invokespecial 88, 3) := by decide +kernel
theorem dX10_requirePerson_21 : decode cX10_requirePerson 21 = .ok (.athrow, 1) := by decide +kernel
theorem dX10_requirePerson_22 : decode cX10_requirePerson 22 = .ok (.return_, 1) := by decide +kernel
theorem dX10_judge_0 : decode cX10_judge 0 = .ok (.aload_n 0, 1) := by decide +kernel
theorem dX10_judge_1 : decode cX10_judge 1 = .ok (.getfield 33, 3) := by decide +kernel
theorem dX10_judge_4 : decode cX10_judge 4 = .ok (.aload_n 0, 1) := by decide +kernel
theorem dX10_judge_5 : decode cX10_judge 5 = .ok (.getfield 10, 3) := by decide +kernel
theorem dX10_judge_8 : decode cX10_judge 8 = .ok (.aload_n 0, 1) := by decide +kernel
theorem dX10_judge_9 : decode cX10_judge 9 = .ok (.getfield 19, 3) := by decide +kernel
theorem dX10_judge_12 : decode cX10_judge 12 = .ok (.iload_n 1, 1) := by decide +kernel
theorem dX10_judge_13 : decode cX10_judge 13 = .ok (.iload_n 2, 1) := by decide +kernel
theorem dX10_judge_14 : decode cX10_judge 14 = .ok (.invokevirtual 214, 3) := by decide +kernel
