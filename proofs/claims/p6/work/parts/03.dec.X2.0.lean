theorem dX2_init_0 : decode cX2_init 0 = .ok (.aload_n 0, 1) := by decide +kernel
theorem dX2_init_1 : decode cX2_init 1 = .ok (.invokespecial 3, 3) := by decide +kernel
theorem dX2_init_4 : decode cX2_init 4 = .ok (.aload_n 0, 1) := by decide +kernel
theorem dX2_init_5 : decode cX2_init 5 = .ok (.bipush 6, 2) := by decide +kernel
theorem dX2_init_7 : decode cX2_init 7 = .ok (.anewarray 11, 3) := by decide +kernel
theorem dX2_init_10 : decode cX2_init 10 = .ok (.putfield 13, 3) := by decide +kernel
theorem dX2_init_13 : decode cX2_init 13 = .ok (.aload_n 0, 1) := by decide +kernel
theorem dX2_init_14 : decode cX2_init 14 = .ok (.bipush 8, 2) := by decide +kernel
theorem dX2_init_16 : decode cX2_init 16 = .ok (.newarray .int, 2) := by decide +kernel
theorem dX2_init_18 : decode cX2_init 18 = .ok (.putfield 17, 3) := by decide +kernel
theorem dX2_init_21 : decode cX2_init 21 = .ok (.aload_n 0, 1) := by decide +kernel
theorem dX2_init_22 : decode cX2_init 22 = .ok (.bipush 24, 2) := by decide +kernel
theorem dX2_init_24 : decode cX2_init 24 = .ok (.newarray .int, 2) := by decide +kernel
theorem dX2_init_26 : decode cX2_init 26 = .ok (.putfield 21, 3) := by decide +kernel
theorem dX2_init_29 : decode cX2_init 29 = .ok (.aload_n 0, 1) := by decide +kernel
theorem dX2_init_30 : decode cX2_init 30 = .ok (.iconst 0, 1) := by decide +kernel
theorem dX2_init_31 : decode cX2_init 31 = .ok (.putfield 24, 3) := by decide +kernel
theorem dX2_init_34 : decode cX2_init 34 = .ok (.aload_n 0, 1) := by decide +kernel
theorem dX2_init_35 : decode cX2_init 35 = .ok (.iconst 0, 1) := by decide +kernel
theorem dX2_init_36 : decode cX2_init 36 = .ok (.putfield 28, 3) := by decide +kernel
theorem dX2_init_39 : decode cX2_init 39 = .ok (.aload_n 0, 1) := by decide +kernel
theorem dX2_init_40 : decode cX2_init 40 = .ok (.iconst 0, 1) := by decide +kernel
theorem dX2_init_41 : decode cX2_init 41 = .ok (.putfield 31, 3) := by decide +kernel
theorem dX2_init_44 : decode cX2_init 44 = .ok (.aload_n 0, 1) := by decide +kernel
theorem dX2_init_45 : decode cX2_init 45 = .ok (.iconst 0, 1) := by decide +kernel
theorem dX2_init_46 : decode cX2_init 46 = .ok (.putfield 35, 3) := by decide +kernel
theorem dX2_init_49 : decode cX2_init 49 = .ok (.aload_n 0, 1) := by decide +kernel
theorem dX2_init_50 : decode cX2_init 50 = .ok (.iconst 0, 1) := by decide +kernel
theorem dX2_init_51 : decode cX2_init 51 = .ok (.putfield 38, 3) := by decide +kernel
theorem dX2_init_54 : decode cX2_init 54 = .ok (.return_, 1) := by decide +kernel
theorem dX2_isFull_0 : decode cX2_isFull 0 = .ok (.aload_n 0, 1) := by decide +kernel
theorem dX2_isFull_1 : decode cX2_isFull 1 = .ok (.getfield 24, 3) := by decide +kernel
theorem dX2_isFull_4 : decode cX2_isFull 4 = .ok (.bipush 6, 2) := by decide +kernel
theorem dX2_isFull_6 : decode cX2_isFull 6 = .ok (.if_icmp .lt 7, 3) := by decide +kernel
theorem dX2_isFull_9 : decode cX2_isFull 9 = .ok (.iconst 1, 1) := by decide +kernel
theorem dX2_isFull_10 : decode cX2_isFull 10 = .ok (.goto 4, 3) := by decide +kernel
theorem dX2_isFull_13 : decode cX2_isFull 13 = .ok (.iconst 0, 1) := by decide +kernel
theorem dX2_isFull_14 : decode cX2_isFull 14 = .ok (.ireturn, 1) := by decide +kernel
theorem dX2_add_0 : decode cX2_add 0 = .ok (.aload_n 0, 1) := by decide +kernel
theorem dX2_add_1 : decode cX2_add 1 = .ok (.invokevirtual 41, 3) := by decide +kernel
theorem dX2_add_4 : decode cX2_add 4 = .ok (.ifCond .eq 5, 3) := by decide +kernel
theorem dX2_add_7 : decode cX2_add 7 = .ok (.iconst (-1), 1) := by decide +kernel
theorem dX2_add_8 : decode cX2_add 8 = .ok (.ireturn, 1) := by decide +kernel
theorem dX2_add_9 : decode cX2_add 9 = .ok (.aload_n 0, 1) := by decide +kernel
theorem dX2_add_10 : decode cX2_add 10 = .ok (.getfield 24, 3) := by decide +kernel
theorem dX2_add_13 : decode cX2_add 13 = .ok (.istore_n 3, 1) := by decide +kernel
theorem dX2_add_14 : decode cX2_add 14 = .ok (.aload_n 0, 1) := by decide +kernel
theorem dX2_add_15 : decode cX2_add 15 = .ok (.getfield 13, 3) := by decide +kernel
theorem dX2_add_18 : decode cX2_add 18 = .ok (.iload_n 3, 1) := by decide +kernel
theorem dX2_add_19 : decode cX2_add 19 = .ok (.new 11, 3) := by decide +kernel
theorem dX2_add_22 : decode cX2_add 22 = .ok (.dup, 1) := by decide +kernel
theorem dX2_add_23 : decode cX2_add 23 = .ok (.aload_n 1, 1) := by decide +kernel
theorem dX2_add_24 : decode cX2_add 24 = .ok (.iload_n 2, 1) := by decide +kernel
theorem dX2_add_25 : decode cX2_add 25 = .ok (.invokespecial 45, 3) := by decide +kernel
theorem dX2_add_28 : decode cX2_add 28 = .ok (.aastore, 1) := by decide +kernel
theorem dX2_add_29 : decode cX2_add 29 = .ok (.aload_n 0, 1) := by decide +kernel
theorem dX2_add_30 : decode cX2_add 30 = .ok (.iload_n 3, 1) := by decide +kernel
theorem dX2_add_31 : decode cX2_add 31 = .ok (.iconst 1, 1) := by decide +kernel
theorem dX2_add_32 : decode cX2_add 32 = .ok (.iadd, 1) := by decide +kernel
theorem dX2_add_33 : decode cX2_add 33 = .ok (.putfield 24, 3) := by decide +kernel
theorem dX2_add_36 : decode cX2_add 36 = .ok (.iload_n 3, 1) := by decide +kernel
theorem dX2_add_37 : decode cX2_add 37 = .ok (.ireturn, 1) := by decide +kernel
theorem dX2_setName_0 : decode cX2_setName 0 = .ok (.iload_n 1, 1) := by decide +kernel
theorem dX2_setName_1 : decode cX2_setName 1 = .ok (.bipush 100, 2) := by decide +kernel
theorem dX2_setName_3 : decode cX2_setName 3 = .ok (.isub, 1) := by decide +kernel
theorem dX2_setName_4 : decode cX2_setName 4 = .ok (.istore_n 3, 1) := by decide +kernel
theorem dX2_setName_5 : decode cX2_setName 5 = .ok (.iload_n 3, 1) := by decide +kernel
theorem dX2_setName_6 : decode cX2_setName 6 = .ok (.ifCond .lt 16, 3) := by decide +kernel
theorem dX2_setName_9 : decode cX2_setName 9 = .ok (.iload_n 3, 1) := by decide +kernel
theorem dX2_setName_10 : decode cX2_setName 10 = .ok (.bipush 8, 2) := by decide +kernel
theorem dX2_setName_12 : decode cX2_setName 12 = .ok (.if_icmp .ge 10, 3) := by decide +kernel
theorem dX2_setName_15 : decode cX2_setName 15 = .ok (.aload_n 0, 1) := by decide +kernel
theorem dX2_setName_16 : decode cX2_setName 16 = .ok (.getfield 17, 3) := by decide +kernel
theorem dX2_setName_19 : decode cX2_setName 19 = .ok (.iload_n 3, 1) := by decide +kernel
theorem dX2_setName_20 : decode cX2_setName 20 = .ok (.iload_n 2, 1) := by decide +kernel
theorem dX2_setName_21 : decode cX2_setName 21 = .ok (.iastore, 1) := by decide +kernel
theorem dX2_setName_22 : decode cX2_setName 22 = .ok (.return_, 1) := by decide +kernel
theorem dX2_nameValue_0 : decode cX2_nameValue 0 = .ok (.iload_n 1, 1) := by decide +kernel
theorem dX2_nameValue_1 : decode cX2_nameValue 1 = .ok (.bipush 100, 2) := by decide +kernel
theorem dX2_nameValue_3 : decode cX2_nameValue 3 = .ok (.isub, 1) := by decide +kernel
theorem dX2_nameValue_4 : decode cX2_nameValue 4 = .ok (.istore_n 2, 1) := by decide +kernel
theorem dX2_nameValue_5 : decode cX2_nameValue 5 = .ok (.iload_n 2, 1) := by decide +kernel
theorem dX2_nameValue_6 : decode cX2_nameValue 6 = .ok (.ifCond .lt 18, 3) := by decide +kernel
theorem dX2_nameValue_9 : decode cX2_nameValue 9 = .ok (.iload_n 2, 1) := by decide +kernel
theorem dX2_nameValue_10 : decode cX2_nameValue 10 = .ok (.bipush 8, 2) := by decide +kernel
theorem dX2_nameValue_12 : decode cX2_nameValue 12 = .ok (.if_icmp .ge 12, 3) := by decide +kernel
theorem dX2_nameValue_15 : decode cX2_nameValue 15 = .ok (.aload_n 0, 1) := by decide +kernel
theorem dX2_nameValue_16 : decode cX2_nameValue 16 = .ok (.getfield 17, 3) := by decide +kernel
theorem dX2_nameValue_19 : decode cX2_nameValue 19 = .ok (.iload_n 2, 1) := by decide +kernel
theorem dX2_nameValue_20 : decode cX2_nameValue 20 = .ok (.iaload, 1) := by decide +kernel
theorem dX2_nameValue_21 : decode cX2_nameValue 21 = .ok (.goto 4, 3) := by decide +kernel
theorem dX2_nameValue_24 : decode cX2_nameValue 24 = .ok (.iconst 0, 1) := by decide +kernel
theorem dX2_nameValue_25 : decode cX2_nameValue 25 = .ok (.ireturn, 1) := by decide +kernel
theorem dX2_judge_0 : decode cX2_judge 0 = .ok (.aload_n 0, 1) := by decide +kernel
theorem dX2_judge_1 : decode cX2_judge 1 = .ok (.iconst 0, 1) := by decide +kernel
theorem dX2_judge_2 : decode cX2_judge 2 = .ok (.putfield 31, 3) := by decide +kernel
theorem dX2_judge_5 : decode cX2_judge 5 = .ok (.aload_n 0, 1) := by decide +kernel
theorem dX2_judge_6 : decode cX2_judge 6 = .ok (.iconst 0, 1) := by decide +kernel
theorem dX2_judge_7 : decode cX2_judge 7 = .ok (.putfield 35, 3) := by decide +kernel
theorem dX2_judge_10 : decode cX2_judge 10 = .ok (.aload_n 0, 1) := by decide +kernel
theorem dX2_judge_11 : decode cX2_judge 11 = .ok (.iconst 0, 1) := by decide +kernel
theorem dX2_judge_12 : decode cX2_judge 12 = .ok (.putfield 38, 3) := by decide +kernel
theorem dX2_judge_15 : decode cX2_judge 15 = .ok (.aload_n 0, 1) := by decide +kernel
theorem dX2_judge_16 : decode cX2_judge 16 = .ok (.iconst 0, 1) := by decide +kernel
theorem dX2_judge_17 : decode cX2_judge 17 = .ok (.putfield 28, 3) := by decide +kernel
theorem dX2_judge_20 : decode cX2_judge 20 = .ok (.aload_n 0, 1) := by decide +kernel
theorem dX2_judge_21 : decode cX2_judge 21 = .ok (.iload_n 1, 1) := by decide +kernel
theorem dX2_judge_22 : decode cX2_judge 22 = .ok (.invokevirtual 50, 3) := by decide +kernel
theorem dX2_judge_25 : decode cX2_judge 25 = .ok (.astore_n 2, 1) := by decide +kernel
theorem dX2_judge_26 : decode cX2_judge 26 = .ok (.aload_n 2, 1) := by decide +kernel
theorem dX2_judge_27 : decode cX2_judge 27 = .ok (.ifnonnull 4, 3) := by decide +kernel
theorem dX2_judge_30 : decode cX2_judge 30 = .ok (.return_, 1) := by decide +kernel
theorem dX2_judge_31 : decode cX2_judge 31 = .ok (.iconst 0, 1) := by decide +kernel
theorem dX2_judge_32 : decode cX2_judge 32 = .ok (.istore_n 3, 1) := by decide +kernel
theorem dX2_judge_33 : decode cX2_judge 33 = .ok (.iload_n 3, 1) := by decide +kernel
theorem dX2_judge_34 : decode cX2_judge 34 = .ok (.aload_n 2, 1) := by decide +kernel
theorem dX2_judge_35 : decode cX2_judge 35 = .ok (.getfield 54, 3) := by decide +kernel
theorem dX2_judge_38 : decode cX2_judge 38 = .ok (.arraylength, 1) := by decide +kernel
theorem dX2_judge_39 : decode cX2_judge 39 = .ok (.if_icmp .ge 19, 3) := by decide +kernel
theorem dX2_judge_42 : decode cX2_judge 42 = .ok (.aload_n 0, 1) := by decide +kernel
theorem dX2_judge_43 : decode cX2_judge 43 = .ok (.aload_n 2, 1) := by decide +kernel
theorem dX2_judge_44 : decode cX2_judge 44 = .ok (.getfield 54, 3) := by decide +kernel
theorem dX2_judge_47 : decode cX2_judge 47 = .ok (.iload_n 3, 1) := by decide +kernel
theorem dX2_judge_48 : decode cX2_judge 48 = .ok (.iaload, 1) := by decide +kernel
theorem dX2_judge_49 : decode cX2_judge 49 = .ok (.invokevirtual 57, 3) := by decide +kernel
theorem dX2_judge_52 : decode cX2_judge 52 = .ok (.iinc 3 1, 3) := by decide +kernel
theorem dX2_judge_55 : decode cX2_judge 55 = .ok (.goto (-22), 3) := by decide +kernel
theorem dX2_judge_58 : decode cX2_judge 58 = .ok (.return_, 1) := by decide +kernel
theorem dX2_inForce_0 : decode cX2_inForce 0 = .ok (.aconst_null, 1) := by decide +kernel
theorem dX2_inForce_1 : decode cX2_inForce 1 = .ok (.astore_n 2, 1) := by decide +kernel
theorem dX2_inForce_2 : decode cX2_inForce 2 = .ok (.sipush 1000, 3) := by decide +kernel
theorem dX2_inForce_5 : decode cX2_inForce 5 = .ok (.istore_n 3, 1) := by decide +kernel
theorem dX2_inForce_6 : decode cX2_inForce 6 = .ok (.iconst 0, 1) := by decide +kernel
theorem dX2_inForce_7 : decode cX2_inForce 7 = .ok (.istore 4, 2) := by decide +kernel
theorem dX2_inForce_9 : decode cX2_inForce 9 = .ok (.iload 4, 2) := by decide +kernel
theorem dX2_inForce_11 : decode cX2_inForce 11 = .ok (.aload_n 0, 1) := by decide +kernel
theorem dX2_inForce_12 : decode cX2_inForce 12 = .ok (.getfield 24, 3) := by decide +kernel
theorem dX2_inForce_15 : decode cX2_inForce 15 = .ok (.if_icmp .ge 50, 3) := by decide +kernel
theorem dX2_inForce_18 : decode cX2_inForce 18 = .ok (.aload_n 0, 1) := by decide +kernel
theorem dX2_inForce_19 : decode cX2_inForce 19 = .ok (.getfield 13, 3) := by decide +kernel
theorem dX2_inForce_22 : decode cX2_inForce 22 = .ok (.iload 4, 2) := by decide +kernel
theorem dX2_inForce_24 : decode cX2_inForce 24 = .ok (.aaload, 1) := by decide +kernel
theorem dX2_inForce_25 : decode cX2_inForce 25 = .ok (.astore 5, 2) := by decide +kernel
theorem dX2_inForce_27 : decode cX2_inForce 27 = .ok (.aload 5, 2) := by decide +kernel
theorem dX2_inForce_29 : decode cX2_inForce 29 = .ok (.ifnull 30, 3) := by decide +kernel
theorem dX2_inForce_32 : decode cX2_inForce 32 = .ok (.aload 5, 2) := by decide +kernel
theorem dX2_inForce_34 : decode cX2_inForce 34 = .ok (.getfield 61, 3) := by decide +kernel
theorem dX2_inForce_37 : decode cX2_inForce 37 = .ok (.iload_n 1, 1) := by decide +kernel
theorem dX2_inForce_38 : decode cX2_inForce 38 = .ok (.if_icmp .gt 21, 3) := by decide +kernel
theorem dX2_inForce_41 : decode cX2_inForce 41 = .ok (.aload 5, 2) := by decide +kernel
theorem dX2_inForce_43 : decode cX2_inForce 43 = .ok (.getfield 61, 3) := by decide +kernel
theorem dX2_inForce_46 : decode cX2_inForce 46 = .ok (.iload_n 3, 1) := by decide +kernel
theorem dX2_inForce_47 : decode cX2_inForce 47 = .ok (.if_icmp .lt 12, 3) := by decide +kernel
theorem dX2_inForce_50 : decode cX2_inForce 50 = .ok (.aload 5, 2) := by decide +kernel
theorem dX2_inForce_52 : decode cX2_inForce 52 = .ok (.astore_n 2, 1) := by decide +kernel
theorem dX2_inForce_53 : decode cX2_inForce 53 = .ok (.aload 5, 2) := by decide +kernel
theorem dX2_inForce_55 : decode cX2_inForce 55 = .ok (.getfield 61, 3) := by decide +kernel
theorem dX2_inForce_58 : decode cX2_inForce 58 = .ok (.istore_n 3, 1) := by decide +kernel
theorem dX2_inForce_59 : decode cX2_inForce 59 = .ok (.iinc 4 1, 3) := by decide +kernel
theorem dX2_inForce_62 : decode cX2_inForce 62 = .ok (.goto (-53), 3) := by decide +kernel
theorem dX2_inForce_65 : decode cX2_inForce 65 = .ok (.aload_n 2, 1) := by decide +kernel
theorem dX2_inForce_66 : decode cX2_inForce 66 = .ok (.areturn, 1) := by decide +kernel
theorem dX2_push_0 : decode cX2_push 0 = .ok (.aload_n 0, 1) := by decide +kernel
theorem dX2_push_1 : decode cX2_push 1 = .ok (.getfield 28, 3) := by decide +kernel
theorem dX2_push_4 : decode cX2_push 4 = .ok (.bipush 24, 2) := by decide +kernel
theorem dX2_push_6 : decode cX2_push 6 = .ok (.if_icmp .ge 23, 3) := by decide +kernel
theorem dX2_push_9 : decode cX2_push 9 = .ok (.aload_n 0, 1) := by decide +kernel
theorem dX2_push_10 : decode cX2_push 10 = .ok (.getfield 21, 3) := by decide +kernel
theorem dX2_push_13 : decode cX2_push 13 = .ok (.aload_n 0, 1) := by decide +kernel
theorem dX2_push_14 : decode cX2_push 14 = .ok (.getfield 28, 3) := by decide +kernel
theorem dX2_push_17 : decode cX2_push 17 = .ok (.iload_n 1, 1) := by decide +kernel
theorem dX2_push_18 : decode cX2_push 18 = .ok (.iastore, 1) := by decide +kernel
theorem dX2_push_19 : decode cX2_push 19 = .ok (.aload_n 0, 1) := by decide +kernel
theorem dX2_push_20 : decode cX2_push 20 = .ok (.dup, 1) := by decide +kernel
theorem dX2_push_21 : decode cX2_push 21 = .ok (.getfield 28, 3) := by decide +kernel
theorem dX2_push_24 : decode cX2_push 24 = .ok (.iconst 1, 1) := by decide +kernel
theorem dX2_push_25 : decode cX2_push 25 = .ok (.iadd, 1) := by decide +kernel
theorem dX2_push_26 : decode cX2_push 26 = .ok (.putfield 28, 3) := by decide +kernel
theorem dX2_push_29 : decode cX2_push 29 = .ok (.return_, 1) := by decide +kernel
theorem dX2_pop_0 : decode cX2_pop 0 = .ok (.aload_n 0, 1) := by decide +kernel
theorem dX2_pop_1 : decode cX2_pop 1 = .ok (.getfield 28, 3) := by decide +kernel
theorem dX2_pop_4 : decode cX2_pop 4 = .ok (.ifCond .gt 5, 3) := by decide +kernel
theorem dX2_pop_7 : decode cX2_pop 7 = .ok (.iconst 0, 1) := by decide +kernel
theorem dX2_pop_8 : decode cX2_pop 8 = .ok (.ireturn, 1) := by decide +kernel
theorem dX2_pop_9 : decode cX2_pop 9 = .ok (.aload_n 0, 1) := by decide +kernel
theorem dX2_pop_10 : decode cX2_pop 10 = .ok (.dup, 1) := by decide +kernel
theorem dX2_pop_11 : decode cX2_pop 11 = .ok (.getfield 28, 3) := by decide +kernel
theorem dX2_pop_14 : decode cX2_pop 14 = .ok (.iconst 1, 1) := by decide +kernel
theorem dX2_pop_15 : decode cX2_pop 15 = .ok (.isub, 1) := by decide +kernel
theorem dX2_pop_16 : decode cX2_pop 16 = .ok (.putfield 28, 3) := by decide +kernel
theorem dX2_pop_19 : decode cX2_pop 19 = .ok (.aload_n 0, 1) := by decide +kernel
theorem dX2_pop_20 : decode cX2_pop 20 = .ok (.getfield 21, 3) := by decide +kernel
theorem dX2_pop_23 : decode cX2_pop 23 = .ok (.aload_n 0, 1) := by decide +kernel
theorem dX2_pop_24 : decode cX2_pop 24 = .ok (.getfield 28, 3) := by decide +kernel
theorem dX2_pop_27 : decode cX2_pop 27 = .ok (.iaload, 1) := by decide +kernel
theorem dX2_pop_28 : decode cX2_pop 28 = .ok (.ireturn, 1) := by decide +kernel
theorem dX2_work_0 : decode cX2_work 0 = .ok (.iload_n 1, 1) := by decide +kernel
theorem dX2_work_1 : decode cX2_work 1 = .ok (.invokestatic 64, 3) := by decide +kernel
theorem dX2_work_4 : decode cX2_work 4 = .ok (.ifCond .eq 15, 3) := by decide +kernel
theorem dX2_work_7 : decode cX2_work 7 = .ok (.aload_n 0, 1) := by decide +kernel
theorem dX2_work_8 : decode cX2_work 8 = .ok (.iload_n 1, 1) := by decide +kernel
theorem dX2_work_9 : decode cX2_work 9 = .ok (.sipush 1000, 3) := by decide +kernel
theorem dX2_work_12 : decode cX2_work 12 = .ok (.isub, 1) := by decide +kernel
theorem dX2_work_13 : decode cX2_work 13 = .ok (.invokevirtual 68, 3) := by decide +kernel
theorem dX2_work_16 : decode cX2_work 16 = .ok (.goto 154, 3) := by decide +kernel
theorem dX2_work_19 : decode cX2_work 19 = .ok (.iload_n 1, 1) := by decide +kernel
theorem dX2_work_20 : decode cX2_work 20 = .ok (.invokestatic 71, 3) := by decide +kernel
theorem dX2_work_23 : decode cX2_work 23 = .ok (.ifCond .eq 15, 3) := by decide +kernel
theorem dX2_work_26 : decode cX2_work 26 = .ok (.aload_n 0, 1) := by decide +kernel
theorem dX2_work_27 : decode cX2_work 27 = .ok (.aload_n 0, 1) := by decide +kernel
theorem dX2_work_28 : decode cX2_work 28 = .ok (.iload_n 1, 1) := by decide +kernel
theorem dX2_work_29 : decode cX2_work 29 = .ok (.invokevirtual 74, 3) := by decide +kernel
theorem dX2_work_32 : decode cX2_work 32 = .ok (.invokevirtual 68, 3) := by decide +kernel
theorem dX2_work_35 : decode cX2_work 35 = .ok (.goto 135, 3) := by decide +kernel
theorem dX2_work_38 : decode cX2_work 38 = .ok (.iload_n 1, 1) := by decide +kernel
theorem dX2_work_39 : decode cX2_work 39 = .ok (.bipush 9, 2) := by decide +kernel
theorem dX2_work_41 : decode cX2_work 41 = .ok (.if_icmp .ne 25, 3) := by decide +kernel
theorem dX2_work_44 : decode cX2_work 44 = .ok (.aload_n 0, 1) := by decide +kernel
theorem dX2_work_45 : decode cX2_work 45 = .ok (.aload_n 0, 1) := by decide +kernel
theorem dX2_work_46 : decode cX2_work 46 = .ok (.invokevirtual 78, 3) := by decide +kernel
theorem dX2_work_49 : decode cX2_work 49 = .ok (.ifCond .ne 7, 3) := by decide +kernel
theorem dX2_work_52 : decode cX2_work 52 = .ok (.iconst 1, 1) := by decide +kernel
theorem dX2_work_53 : decode cX2_work 53 = .ok (.goto 4, 3) := by decide +kernel
theorem dX2_work_56 : decode cX2_work 56 = .ok (.iconst 0, 1) := by decide +kernel
theorem dX2_work_57 : decode cX2_work 57 = .ok (.invokestatic 82, 3) := by decide +kernel
theorem dX2_work_60 : decode cX2_work 60 = .ok (.invokevirtual 68, 3) := by decide +kernel
theorem dX2_work_63 : decode cX2_work 63 = .ok (.goto 107, 3) := by decide +kernel
theorem dX2_work_66 : decode cX2_work 66 = .ok (.iload_n 1, 1) := by decide +kernel
theorem dX2_work_67 : decode cX2_work 67 = .ok (.iconst 4, 1) := by decide +kernel
theorem dX2_work_68 : decode cX2_work 68 = .ok (.if_icmp .ne 29, 3) := by decide +kernel
theorem dX2_work_71 : decode cX2_work 71 = .ok (.aload_n 0, 1) := by decide +kernel
theorem dX2_work_72 : decode cX2_work 72 = .ok (.aload_n 0, 1) := by decide +kernel
theorem dX2_work_73 : decode cX2_work 73 = .ok (.invokevirtual 78, 3) := by decide +kernel
theorem dX2_work_76 : decode cX2_work 76 = .ok (.ifCond .ne 10, 3) := by decide +kernel
theorem dX2_work_79 : decode cX2_work 79 = .ok (.aload_n 0, 1) := by decide +kernel
theorem dX2_work_80 : decode cX2_work 80 = .ok (.getfield 31, 3) := by decide +kernel
theorem dX2_work_83 : decode cX2_work 83 = .ok (.ifCond .eq 7, 3) := by decide +kernel
theorem dX2_work_86 : decode cX2_work 86 = .ok (.iconst 1, 1) := by decide +kernel
theorem dX2_work_87 : decode cX2_work 87 = .ok (.goto 4, 3) := by decide +kernel
theorem dX2_work_90 : decode cX2_work 90 = .ok (.iconst 0, 1) := by decide +kernel
theorem dX2_work_91 : decode cX2_work 91 = .ok (.putfield 31, 3) := by decide +kernel
theorem dX2_work_94 : decode cX2_work 94 = .ok (.goto 76, 3) := by decide +kernel
theorem dX2_work_97 : decode cX2_work 97 = .ok (.iload_n 1, 1) := by decide +kernel
theorem dX2_work_98 : decode cX2_work 98 = .ok (.iconst 5, 1) := by decide +kernel
theorem dX2_work_99 : decode cX2_work 99 = .ok (.if_icmp .ne 29, 3) := by decide +kernel
theorem dX2_work_102 : decode cX2_work 102 = .ok (.aload_n 0, 1) := by decide +kernel
theorem dX2_work_103 : decode cX2_work 103 = .ok (.aload_n 0, 1) := by decide +kernel
theorem dX2_work_104 : decode cX2_work 104 = .ok (.invokevirtual 78, 3) := by decide +kernel
theorem dX2_work_107 : decode cX2_work 107 = .ok (.ifCond .ne 10, 3) := by decide +kernel
theorem dX2_work_110 : decode cX2_work 110 = .ok (.aload_n 0, 1) := by decide +kernel
theorem dX2_work_111 : decode cX2_work 111 = .ok (.getfield 35, 3) := by decide +kernel
theorem dX2_work_114 : decode cX2_work 114 = .ok (.ifCond .eq 7, 3) := by decide +kernel
theorem dX2_work_117 : decode cX2_work 117 = .ok (.iconst 1, 1) := by decide +kernel
theorem dX2_work_118 : decode cX2_work 118 = .ok (.goto 4, 3) := by decide +kernel
theorem dX2_work_121 : decode cX2_work 121 = .ok (.iconst 0, 1) := by decide +kernel
theorem dX2_work_122 : decode cX2_work 122 = .ok (.putfield 35, 3) := by decide +kernel
theorem dX2_work_125 : decode cX2_work 125 = .ok (.goto 45, 3) := by decide +kernel
theorem dX2_work_128 : decode cX2_work 128 = .ok (.iload_n 1, 1) := by decide +kernel
theorem dX2_work_129 : decode cX2_work 129 = .ok (.bipush 6, 2) := by decide +kernel
theorem dX2_work_131 : decode cX2_work 131 = .ok (.if_icmp .ne 19, 3) := by decide +kernel
theorem dX2_work_134 : decode cX2_work 134 = .ok (.aload_n 0, 1) := by decide +kernel
theorem dX2_work_135 : decode cX2_work 135 = .ok (.dup, 1) := by decide +kernel
theorem dX2_work_136 : decode cX2_work 136 = .ok (.getfield 38, 3) := by decide +kernel
theorem dX2_work_139 : decode cX2_work 139 = .ok (.aload_n 0, 1) := by decide +kernel
theorem dX2_work_140 : decode cX2_work 140 = .ok (.invokevirtual 78, 3) := by decide +kernel
theorem dX2_work_143 : decode cX2_work 143 = .ok (.iadd, 1) := by decide +kernel
theorem dX2_work_144 : decode cX2_work 144 = .ok (.putfield 38, 3) := by decide +kernel
theorem dX2_work_147 : decode cX2_work 147 = .ok (.goto 23, 3) := by decide +kernel
theorem dX2_work_150 : decode cX2_work 150 = .ok (.aload_n 0, 1) := by decide +kernel
theorem dX2_work_151 : decode cX2_work 151 = .ok (.invokevirtual 78, 3) := by decide +kernel
theorem dX2_work_154 : decode cX2_work 154 = .ok (.istore_n 2, 1) := by decide +kernel
theorem dX2_work_155 : decode cX2_work 155 = .ok (.aload_n 0, 1) := by decide +kernel
theorem dX2_work_156 : decode cX2_work 156 = .ok (.invokevirtual 78, 3) := by decide +kernel
theorem dX2_work_159 : decode cX2_work 159 = .ok (.istore_n 3, 1) := by decide +kernel
theorem dX2_work_160 : decode cX2_work 160 = .ok (.aload_n 0, 1) := by decide +kernel
theorem dX2_work_161 : decode cX2_work 161 = .ok (.iload_n 1, 1) := by decide +kernel
theorem dX2_work_162 : decode cX2_work 162 = .ok (.iload_n 3, 1) := by decide +kernel
theorem dX2_work_163 : decode cX2_work 163 = .ok (.iload_n 2, 1) := by decide +kernel
theorem dX2_work_164 : decode cX2_work 164 = .ok (.invokestatic 86, 3) := by decide +kernel
theorem dX2_work_167 : decode cX2_work 167 = .ok (.invokevirtual 68, 3) := by decide +kernel
theorem dX2_work_170 : decode cX2_work 170 = .ok (.return_, 1) := by decide +kernel
theorem dX2_joined_0 : decode cX2_joined 0 = .ok (.iload_n 0, 1) := by decide +kernel
theorem dX2_joined_1 : decode cX2_joined 1 = .ok (.lookupswitch 129 #[(7, 95), (8, 112), (43, 59), (45, 63), (60, 67), (61, 81)], 59) := by decide +kernel
theorem dX2_joined_60 : decode cX2_joined 60 = .ok (.iload_n 1, 1) := by decide +kernel
theorem dX2_joined_61 : decode cX2_joined 61 = .ok (.iload_n 2, 1) := by decide +kernel
theorem dX2_joined_62 : decode cX2_joined 62 = .ok (.iadd, 1) := by decide +kernel
theorem dX2_joined_63 : decode cX2_joined 63 = .ok (.ireturn, 1) := by decide +kernel
theorem dX2_joined_64 : decode cX2_joined 64 = .ok (.iload_n 1, 1) := by decide +kernel
theorem dX2_joined_65 : decode cX2_joined 65 = .ok (.iload_n 2, 1) := by decide +kernel
theorem dX2_joined_66 : decode cX2_joined 66 = .ok (.isub, 1) := by decide +kernel
theorem dX2_joined_67 : decode cX2_joined 67 = .ok (.ireturn, 1) := by decide +kernel
theorem dX2_joined_68 : decode cX2_joined 68 = .ok (.iload_n 1, 1) := by decide +kernel
theorem dX2_joined_69 : decode cX2_joined 69 = .ok (.iload_n 2, 1) := by decide +kernel
theorem dX2_joined_70 : decode cX2_joined 70 = .ok (.if_icmp .ge 7, 3) := by decide +kernel
theorem dX2_joined_73 : decode cX2_joined 73 = .ok (.iconst 1, 1) := by decide +kernel
theorem dX2_joined_74 : decode cX2_joined 74 = .ok (.goto 4, 3) := by decide +kernel
theorem dX2_joined_77 : decode cX2_joined 77 = .ok (.iconst 0, 1) := by decide +kernel
theorem dX2_joined_78 : decode cX2_joined 78 = .ok (.invokestatic 82, 3) := by decide +kernel
theorem dX2_joined_81 : decode cX2_joined 81 = .ok (.ireturn, 1) := by decide +kernel
theorem dX2_joined_82 : decode cX2_joined 82 = .ok (.iload_n 1, 1) := by decide +kernel
theorem dX2_joined_83 : decode cX2_joined 83 = .ok (.iload_n 2, 1) := by decide +kernel
theorem dX2_joined_84 : decode cX2_joined 84 = .ok (.if_icmp .ne 7, 3) := by decide +kernel
theorem dX2_joined_87 : decode cX2_joined 87 = .ok (.iconst 1, 1) := by decide +kernel
theorem dX2_joined_88 : decode cX2_joined 88 = .ok (.goto 4, 3) := by decide +kernel
theorem dX2_joined_91 : decode cX2_joined 91 = .ok (.iconst 0, 1) := by decide +kernel
theorem dX2_joined_92 : decode cX2_joined 92 = .ok (.invokestatic 82, 3) := by decide +kernel
theorem dX2_joined_95 : decode cX2_joined 95 = .ok (.ireturn, 1) := by decide +kernel
theorem dX2_joined_96 : decode cX2_joined 96 = .ok (.iload_n 1, 1) := by decide +kernel
theorem dX2_joined_97 : decode cX2_joined 97 = .ok (.ifCond .eq 11, 3) := by decide +kernel
theorem dX2_joined_100 : decode cX2_joined 100 = .ok (.iload_n 2, 1) := by decide +kernel
theorem dX2_joined_101 : decode cX2_joined 101 = .ok (.ifCond .eq 7, 3) := by decide +kernel
theorem dX2_joined_104 : decode cX2_joined 104 = .ok (.iconst 1, 1) := by decide +kernel
theorem dX2_joined_105 : decode cX2_joined 105 = .ok (.goto 4, 3) := by decide +kernel
theorem dX2_joined_108 : decode cX2_joined 108 = .ok (.iconst 0, 1) := by decide +kernel
theorem dX2_joined_109 : decode cX2_joined 109 = .ok (.invokestatic 82, 3) := by decide +kernel
theorem dX2_joined_112 : decode cX2_joined 112 = .ok (.ireturn, 1) := by decide +kernel
theorem dX2_joined_113 : decode cX2_joined 113 = .ok (.iload_n 1, 1) := by decide +kernel
theorem dX2_joined_114 : decode cX2_joined 114 = .ok (.ifCond .ne 7, 3) := by decide +kernel
theorem dX2_joined_117 : decode cX2_joined 117 = .ok (.iload_n 2, 1) := by decide +kernel
theorem dX2_joined_118 : decode cX2_joined 118 = .ok (.ifCond .eq 7, 3) := by decide +kernel
theorem dX2_joined_121 : decode cX2_joined 121 = .ok (.iconst 1, 1) := by decide +kernel
theorem dX2_joined_122 : decode cX2_joined 122 = .ok (.goto 4, 3) := by decide +kernel
theorem dX2_joined_125 : decode cX2_joined 125 = .ok (.iconst 0, 1) := by decide +kernel
theorem dX2_joined_126 : decode cX2_joined 126 = .ok (.invokestatic 82, 3) := by decide +kernel
theorem dX2_joined_129 : decode cX2_joined 129 = .ok (.ireturn, 1) := by decide +kernel
theorem dX2_joined_130 : decode cX2_joined 130 = .ok (.iconst 0, 1) := by decide +kernel
theorem dX2_joined_131 : decode cX2_joined 131 = .ok (.ireturn, 1) := by decide +kernel
