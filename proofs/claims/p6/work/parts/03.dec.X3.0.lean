theorem dX3_init_0 : decode cX3_init 0 = .ok (.aload_n 0, 1) := by decide +kernel
theorem dX3_init_1 : decode cX3_init 1 = .ok (.invokespecial 3, 3) := by decide +kernel
theorem dX3_init_4 : decode cX3_init 4 = .ok (.aload_n 0, 1) := by decide +kernel
theorem dX3_init_5 : decode cX3_init 5 = .ok (.new 9, 3) := by decide +kernel
theorem dX3_init_8 : decode cX3_init 8 = .ok (.dup, 1) := by decide +kernel
theorem dX3_init_9 : decode cX3_init 9 = .ok (.invokespecial 11, 3) := by decide +kernel
theorem dX3_init_12 : decode cX3_init 12 = .ok (.putfield 12, 3) := by decide +kernel
theorem dX3_init_15 : decode cX3_init 15 = .ok (.aload_n 0, 1) := by decide +kernel
theorem dX3_init_16 : decode cX3_init 16 = .ok (.sipush 400, 3) := by decide +kernel
theorem dX3_init_19 : decode cX3_init 19 = .ok (.newarray .int, 2) := by decide +kernel
theorem dX3_init_21 : decode cX3_init 21 = .ok (.putfield 20, 3) := by decide +kernel
theorem dX3_init_24 : decode cX3_init 24 = .ok (.aload_n 0, 1) := by decide +kernel
theorem dX3_init_25 : decode cX3_init 25 = .ok (.iconst 0, 1) := by decide +kernel
theorem dX3_init_26 : decode cX3_init 26 = .ok (.putfield 24, 3) := by decide +kernel
theorem dX3_init_29 : decode cX3_init 29 = .ok (.aload_n 0, 1) := by decide +kernel
theorem dX3_init_30 : decode cX3_init 30 = .ok (.iconst 0, 1) := by decide +kernel
theorem dX3_init_31 : decode cX3_init 31 = .ok (.putfield 28, 3) := by decide +kernel
theorem dX3_init_34 : decode cX3_init 34 = .ok (.aload_n 0, 1) := by decide +kernel
theorem dX3_init_35 : decode cX3_init 35 = .ok (.iconst (-1), 1) := by decide +kernel
theorem dX3_init_36 : decode cX3_init 36 = .ok (.putfield 31, 3) := by decide +kernel
theorem dX3_init_39 : decode cX3_init 39 = .ok (.aload_n 0, 1) := by decide +kernel
theorem dX3_init_40 : decode cX3_init 40 = .ok (.iconst 0, 1) := by decide +kernel
theorem dX3_init_41 : decode cX3_init 41 = .ok (.putfield 34, 3) := by decide +kernel
theorem dX3_init_44 : decode cX3_init 44 = .ok (.aload_n 0, 1) := by decide +kernel
theorem dX3_init_45 : decode cX3_init 45 = .ok (.iconst (-1), 1) := by decide +kernel
theorem dX3_init_46 : decode cX3_init 46 = .ok (.putfield 37, 3) := by decide +kernel
theorem dX3_init_49 : decode cX3_init 49 = .ok (.return_, 1) := by decide +kernel
theorem dX3_parse_0 : decode cX3_parse 0 = .ok (.aload_n 0, 1) := by decide +kernel
theorem dX3_parse_1 : decode cX3_parse 1 = .ok (.getfield 12, 3) := by decide +kernel
theorem dX3_parse_4 : decode cX3_parse 4 = .ok (.aload_n 1, 1) := by decide +kernel
theorem dX3_parse_5 : decode cX3_parse 5 = .ok (.iload_n 2, 1) := by decide +kernel
theorem dX3_parse_6 : decode cX3_parse 6 = .ok (.invokevirtual 40, 3) := by decide +kernel
theorem dX3_parse_9 : decode cX3_parse 9 = .ok (.aload_n 0, 1) := by decide +kernel
theorem dX3_parse_10 : decode cX3_parse 10 = .ok (.iconst 0, 1) := by decide +kernel
theorem dX3_parse_11 : decode cX3_parse 11 = .ok (.putfield 24, 3) := by decide +kernel
theorem dX3_parse_14 : decode cX3_parse 14 = .ok (.aload_n 0, 1) := by decide +kernel
theorem dX3_parse_15 : decode cX3_parse 15 = .ok (.iconst 0, 1) := by decide +kernel
theorem dX3_parse_16 : decode cX3_parse 16 = .ok (.putfield 34, 3) := by decide +kernel
theorem dX3_parse_19 : decode cX3_parse 19 = .ok (.aload_n 0, 1) := by decide +kernel
theorem dX3_parse_20 : decode cX3_parse 20 = .ok (.iconst (-1), 1) := by decide +kernel
theorem dX3_parse_21 : decode cX3_parse 21 = .ok (.putfield 37, 3) := by decide +kernel
theorem dX3_parse_24 : decode cX3_parse 24 = .ok (.aload_n 0, 1) := by decide +kernel
theorem dX3_parse_25 : decode cX3_parse 25 = .ok (.iconst 0, 1) := by decide +kernel
theorem dX3_parse_26 : decode cX3_parse 26 = .ok (.putfield 28, 3) := by decide +kernel
theorem dX3_parse_29 : decode cX3_parse 29 = .ok (.aload_n 0, 1) := by decide +kernel
theorem dX3_parse_30 : decode cX3_parse 30 = .ok (.aload_n 0, 1) := by decide +kernel
theorem dX3_parse_31 : decode cX3_parse 31 = .ok (.getfield 12, 3) := by decide +kernel
theorem dX3_parse_34 : decode cX3_parse 34 = .ok (.getfield 44, 3) := by decide +kernel
theorem dX3_parse_37 : decode cX3_parse 37 = .ok (.aload_n 0, 1) := by decide +kernel
theorem dX3_parse_38 : decode cX3_parse 38 = .ok (.getfield 28, 3) := by decide +kernel
theorem dX3_parse_41 : decode cX3_parse 41 = .ok (.iaload, 1) := by decide +kernel
theorem dX3_parse_42 : decode cX3_parse 42 = .ok (.putfield 31, 3) := by decide +kernel
theorem dX3_parse_45 : decode cX3_parse 45 = .ok (.iconst 0, 1) := by decide +kernel
theorem dX3_parse_46 : decode cX3_parse 46 = .ok (.istore_n 3, 1) := by decide +kernel
theorem dX3_parse_47 : decode cX3_parse 47 = .ok (.iload_n 3, 1) := by decide +kernel
theorem dX3_parse_48 : decode cX3_parse 48 = .ok (.bipush 12, 2) := by decide +kernel
theorem dX3_parse_50 : decode cX3_parse 50 = .ok (.if_icmp .gt 28, 3) := by decide +kernel
theorem dX3_parse_53 : decode cX3_parse 53 = .ok (.aload_n 0, 1) := by decide +kernel
theorem dX3_parse_54 : decode cX3_parse 54 = .ok (.getfield 31, 3) := by decide +kernel
theorem dX3_parse_57 : decode cX3_parse 57 = .ok (.ifCond .eq 21, 3) := by decide +kernel
theorem dX3_parse_60 : decode cX3_parse 60 = .ok (.aload_n 0, 1) := by decide +kernel
theorem dX3_parse_61 : decode cX3_parse 61 = .ok (.getfield 34, 3) := by decide +kernel
theorem dX3_parse_64 : decode cX3_parse 64 = .ok (.ifCond .ne 14, 3) := by decide +kernel
theorem dX3_parse_67 : decode cX3_parse 67 = .ok (.aload_n 0, 1) := by decide +kernel
theorem dX3_parse_68 : decode cX3_parse 68 = .ok (.iload_n 3, 1) := by decide +kernel
theorem dX3_parse_69 : decode cX3_parse 69 = .ok (.invokevirtual 47, 3) := by decide +kernel
theorem dX3_parse_72 : decode cX3_parse 72 = .ok (.iinc 3 1, 3) := by decide +kernel
theorem dX3_parse_75 : decode cX3_parse 75 = .ok (.goto (-28), 3) := by decide +kernel
theorem dX3_parse_78 : decode cX3_parse 78 = .ok (.return_, 1) := by decide +kernel
theorem dX3_code_0 : decode cX3_code 0 = .ok (.aload_n 0, 1) := by decide +kernel
theorem dX3_code_1 : decode cX3_code 1 = .ok (.getfield 20, 3) := by decide +kernel
theorem dX3_code_4 : decode cX3_code 4 = .ok (.aload_n 0, 1) := by decide +kernel
theorem dX3_code_5 : decode cX3_code 5 = .ok (.getfield 24, 3) := by decide +kernel
theorem dX3_code_8 : decode cX3_code 8 = .ok (.invokestatic 51, 3) := by decide +kernel
theorem dX3_code_11 : decode cX3_code 11 = .ok (.areturn, 1) := by decide +kernel
theorem dX3_advance_0 : decode cX3_advance 0 = .ok (.aload_n 0, 1) := by decide +kernel
theorem dX3_advance_1 : decode cX3_advance 1 = .ok (.aload_n 0, 1) := by decide +kernel
theorem dX3_advance_2 : decode cX3_advance 2 = .ok (.getfield 28, 3) := by decide +kernel
theorem dX3_advance_5 : decode cX3_advance 5 = .ok (.iconst 1, 1) := by decide +kernel
theorem dX3_advance_6 : decode cX3_advance 6 = .ok (.iadd, 1) := by decide +kernel
theorem dX3_advance_7 : decode cX3_advance 7 = .ok (.sipush 400, 3) := by decide +kernel
theorem dX3_advance_10 : decode cX3_advance 10 = .ok (.invokestatic 57, 3) := by decide +kernel
theorem dX3_advance_13 : decode cX3_advance 13 = .ok (.putfield 28, 3) := by decide +kernel
theorem dX3_advance_16 : decode cX3_advance 16 = .ok (.aload_n 0, 1) := by decide +kernel
theorem dX3_advance_17 : decode cX3_advance 17 = .ok (.aload_n 0, 1) := by decide +kernel
theorem dX3_advance_18 : decode cX3_advance 18 = .ok (.getfield 12, 3) := by decide +kernel
theorem dX3_advance_21 : decode cX3_advance 21 = .ok (.getfield 44, 3) := by decide +kernel
theorem dX3_advance_24 : decode cX3_advance 24 = .ok (.aload_n 0, 1) := by decide +kernel
theorem dX3_advance_25 : decode cX3_advance 25 = .ok (.getfield 28, 3) := by decide +kernel
theorem dX3_advance_28 : decode cX3_advance 28 = .ok (.iaload, 1) := by decide +kernel
theorem dX3_advance_29 : decode cX3_advance 29 = .ok (.putfield 31, 3) := by decide +kernel
theorem dX3_advance_32 : decode cX3_advance 32 = .ok (.return_, 1) := by decide +kernel
theorem dX3_blame_0 : decode cX3_blame 0 = .ok (.aload_n 0, 1) := by decide +kernel
theorem dX3_blame_1 : decode cX3_blame 1 = .ok (.getfield 34, 3) := by decide +kernel
theorem dX3_blame_4 : decode cX3_blame 4 = .ok (.ifCond .ne 29, 3) := by decide +kernel
theorem dX3_blame_7 : decode cX3_blame 7 = .ok (.aload_n 0, 1) := by decide +kernel
theorem dX3_blame_8 : decode cX3_blame 8 = .ok (.iload_n 1, 1) := by decide +kernel
theorem dX3_blame_9 : decode cX3_blame 9 = .ok (.putfield 34, 3) := by decide +kernel
theorem dX3_blame_12 : decode cX3_blame 12 = .ok (.aload_n 0, 1) := by decide +kernel
theorem dX3_blame_13 : decode cX3_blame 13 = .ok (.aload_n 0, 1) := by decide +kernel
theorem dX3_blame_14 : decode cX3_blame 14 = .ok (.getfield 12, 3) := by decide +kernel
theorem dX3_blame_17 : decode cX3_blame 17 = .ok (.getfield 63, 3) := by decide +kernel
theorem dX3_blame_20 : decode cX3_blame 20 = .ok (.aload_n 0, 1) := by decide +kernel
theorem dX3_blame_21 : decode cX3_blame 21 = .ok (.getfield 28, 3) := by decide +kernel
theorem dX3_blame_24 : decode cX3_blame 24 = .ok (.iaload, 1) := by decide +kernel
theorem dX3_blame_25 : decode cX3_blame 25 = .ok (.putfield 37, 3) := by decide +kernel
theorem dX3_blame_28 : decode cX3_blame 28 = .ok (.aload_n 0, 1) := by decide +kernel
theorem dX3_blame_29 : decode cX3_blame 29 = .ok (.iconst (-1), 1) := by decide +kernel
theorem dX3_blame_30 : decode cX3_blame 30 = .ok (.putfield 31, 3) := by decide +kernel
theorem dX3_blame_33 : decode cX3_blame 33 = .ok (.return_, 1) := by decide +kernel
theorem dX3_emit_0 : decode cX3_emit 0 = .ok (.aload_n 0, 1) := by decide +kernel
theorem dX3_emit_1 : decode cX3_emit 1 = .ok (.getfield 24, 3) := by decide +kernel
theorem dX3_emit_4 : decode cX3_emit 4 = .ok (.sipush 400, 3) := by decide +kernel
theorem dX3_emit_7 : decode cX3_emit 7 = .ok (.if_icmp .ge 23, 3) := by decide +kernel
theorem dX3_emit_10 : decode cX3_emit 10 = .ok (.aload_n 0, 1) := by decide +kernel
theorem dX3_emit_11 : decode cX3_emit 11 = .ok (.getfield 20, 3) := by decide +kernel
theorem dX3_emit_14 : decode cX3_emit 14 = .ok (.aload_n 0, 1) := by decide +kernel
theorem dX3_emit_15 : decode cX3_emit 15 = .ok (.getfield 24, 3) := by decide +kernel
theorem dX3_emit_18 : decode cX3_emit 18 = .ok (.iload_n 1, 1) := by decide +kernel
theorem dX3_emit_19 : decode cX3_emit 19 = .ok (.iastore, 1) := by decide +kernel
theorem dX3_emit_20 : decode cX3_emit 20 = .ok (.aload_n 0, 1) := by decide +kernel
theorem dX3_emit_21 : decode cX3_emit 21 = .ok (.dup, 1) := by decide +kernel
theorem dX3_emit_22 : decode cX3_emit 22 = .ok (.getfield 24, 3) := by decide +kernel
theorem dX3_emit_25 : decode cX3_emit 25 = .ok (.iconst 1, 1) := by decide +kernel
theorem dX3_emit_26 : decode cX3_emit 26 = .ok (.iadd, 1) := by decide +kernel
theorem dX3_emit_27 : decode cX3_emit 27 = .ok (.putfield 24, 3) := by decide +kernel
theorem dX3_emit_30 : decode cX3_emit 30 = .ok (.return_, 1) := by decide +kernel
theorem dX3_readRule_0 : decode cX3_readRule 0 = .ok (.aload_n 0, 1) := by decide +kernel
theorem dX3_readRule_1 : decode cX3_readRule 1 = .ok (.getfield 31, 3) := by decide +kernel
theorem dX3_readRule_4 : decode cX3_readRule 4 = .ok (.istore_n 2, 1) := by decide +kernel
theorem dX3_readRule_5 : decode cX3_readRule 5 = .ok (.iload_n 2, 1) := by decide +kernel
theorem dX3_readRule_6 : decode cX3_readRule 6 = .ok (.iconst 4, 1) := by decide +kernel
theorem dX3_readRule_7 : decode cX3_readRule 7 = .ok (.if_icmp .eq 20, 3) := by decide +kernel
theorem dX3_readRule_10 : decode cX3_readRule 10 = .ok (.iload_n 2, 1) := by decide +kernel
theorem dX3_readRule_11 : decode cX3_readRule 11 = .ok (.iconst 5, 1) := by decide +kernel
theorem dX3_readRule_12 : decode cX3_readRule 12 = .ok (.if_icmp .eq 15, 3) := by decide +kernel
theorem dX3_readRule_15 : decode cX3_readRule 15 = .ok (.iload_n 2, 1) := by decide +kernel
theorem dX3_readRule_16 : decode cX3_readRule 16 = .ok (.bipush 6, 2) := by decide +kernel
theorem dX3_readRule_18 : decode cX3_readRule 18 = .ok (.if_icmp .eq 9, 3) := by decide +kernel
theorem dX3_readRule_21 : decode cX3_readRule 21 = .ok (.aload_n 0, 1) := by decide +kernel
theorem dX3_readRule_22 : decode cX3_readRule 22 = .ok (.iconst 1, 1) := by decide +kernel
theorem dX3_readRule_23 : decode cX3_readRule 23 = .ok (.invokevirtual 66, 3) := by decide +kernel
theorem dX3_readRule_26 : decode cX3_readRule 26 = .ok (.return_, 1) := by decide +kernel
theorem dX3_readRule_27 : decode cX3_readRule 27 = .ok (.iload_n 1, 1) := by decide +kernel
theorem dX3_readRule_28 : decode cX3_readRule 28 = .ok (.bipush 12, 2) := by decide +kernel
theorem dX3_readRule_30 : decode cX3_readRule 30 = .ok (.if_icmp .lt 9, 3) := by decide +kernel
theorem dX3_readRule_33 : decode cX3_readRule 33 = .ok (.aload_n 0, 1) := by decide +kernel
theorem dX3_readRule_34 : decode cX3_readRule 34 = .ok (.iconst 2, 1) := by decide +kernel
theorem dX3_readRule_35 : decode cX3_readRule 35 = .ok (.invokevirtual 66, 3) := by decide +kernel
theorem dX3_readRule_38 : decode cX3_readRule 38 = .ok (.return_, 1) := by decide +kernel
theorem dX3_readRule_39 : decode cX3_readRule 39 = .ok (.aload_n 0, 1) := by decide +kernel
theorem dX3_readRule_40 : decode cX3_readRule 40 = .ok (.invokevirtual 69, 3) := by decide +kernel
theorem dX3_readRule_43 : decode cX3_readRule 43 = .ok (.aload_n 0, 1) := by decide +kernel
theorem dX3_readRule_44 : decode cX3_readRule 44 = .ok (.iconst 0, 1) := by decide +kernel
theorem dX3_readRule_45 : decode cX3_readRule 45 = .ok (.invokevirtual 72, 3) := by decide +kernel
theorem dX3_readRule_48 : decode cX3_readRule 48 = .ok (.aload_n 0, 1) := by decide +kernel
theorem dX3_readRule_49 : decode cX3_readRule 49 = .ok (.getfield 31, 3) := by decide +kernel
theorem dX3_readRule_52 : decode cX3_readRule 52 = .ok (.bipush 59, 2) := by decide +kernel
theorem dX3_readRule_54 : decode cX3_readRule 54 = .ok (.if_icmp .eq 9, 3) := by decide +kernel
theorem dX3_readRule_57 : decode cX3_readRule 57 = .ok (.aload_n 0, 1) := by decide +kernel
theorem dX3_readRule_58 : decode cX3_readRule 58 = .ok (.iconst 1, 1) := by decide +kernel
theorem dX3_readRule_59 : decode cX3_readRule 59 = .ok (.invokevirtual 66, 3) := by decide +kernel
theorem dX3_readRule_62 : decode cX3_readRule 62 = .ok (.return_, 1) := by decide +kernel
theorem dX3_readRule_63 : decode cX3_readRule 63 = .ok (.aload_n 0, 1) := by decide +kernel
theorem dX3_readRule_64 : decode cX3_readRule 64 = .ok (.invokevirtual 69, 3) := by decide +kernel
theorem dX3_readRule_67 : decode cX3_readRule 67 = .ok (.aload_n 0, 1) := by decide +kernel
theorem dX3_readRule_68 : decode cX3_readRule 68 = .ok (.iload_n 2, 1) := by decide +kernel
theorem dX3_readRule_69 : decode cX3_readRule 69 = .ok (.invokevirtual 75, 3) := by decide +kernel
theorem dX3_readRule_72 : decode cX3_readRule 72 = .ok (.return_, 1) := by decide +kernel
theorem dX3_readExpression_0 : decode cX3_readExpression 0 = .ok (.iload_n 1, 1) := by decide +kernel
theorem dX3_readExpression_1 : decode cX3_readExpression 1 = .ok (.iconst 5, 1) := by decide +kernel
theorem dX3_readExpression_2 : decode cX3_readExpression 2 = .ok (.if_icmp .le 23, 3) := by decide +kernel
theorem dX3_readExpression_5 : decode cX3_readExpression 5 = .ok (.aload_n 0, 1) := by decide +kernel
theorem dX3_readExpression_6 : decode cX3_readExpression 6 = .ok (.aload_n 0, 1) := by decide +kernel
theorem dX3_readExpression_7 : decode cX3_readExpression 7 = .ok (.invokevirtual 78, 3) := by decide +kernel
theorem dX3_readExpression_10 : decode cX3_readExpression 10 = .ok (.ifCond .eq 7, 3) := by decide +kernel
theorem dX3_readExpression_13 : decode cX3_readExpression 13 = .ok (.iconst 2, 1) := by decide +kernel
theorem dX3_readExpression_14 : decode cX3_readExpression 14 = .ok (.goto 7, 3) := by decide +kernel
theorem dX3_readExpression_17 : decode cX3_readExpression 17 = .ok (.aload_n 0, 1) := by decide +kernel
theorem dX3_readExpression_18 : decode cX3_readExpression 18 = .ok (.invokevirtual 82, 3) := by decide +kernel
theorem dX3_readExpression_21 : decode cX3_readExpression 21 = .ok (.invokevirtual 66, 3) := by decide +kernel
theorem dX3_readExpression_24 : decode cX3_readExpression 24 = .ok (.return_, 1) := by decide +kernel
theorem dX3_readExpression_25 : decode cX3_readExpression 25 = .ok (.aload_n 0, 1) := by decide +kernel
theorem dX3_readExpression_26 : decode cX3_readExpression 26 = .ok (.iload_n 1, 1) := by decide +kernel
theorem dX3_readExpression_27 : decode cX3_readExpression 27 = .ok (.invokevirtual 86, 3) := by decide +kernel
theorem dX3_readExpression_30 : decode cX3_readExpression 30 = .ok (.iconst 0, 1) := by decide +kernel
theorem dX3_readExpression_31 : decode cX3_readExpression 31 = .ok (.istore_n 2, 1) := by decide +kernel
theorem dX3_readExpression_32 : decode cX3_readExpression 32 = .ok (.iload_n 2, 1) := by decide +kernel
theorem dX3_readExpression_33 : decode cX3_readExpression 33 = .ok (.sipush 400, 3) := by decide +kernel
theorem dX3_readExpression_36 : decode cX3_readExpression 36 = .ok (.if_icmp .ge 46, 3) := by decide +kernel
theorem dX3_readExpression_39 : decode cX3_readExpression 39 = .ok (.aload_n 0, 1) := by decide +kernel
theorem dX3_readExpression_40 : decode cX3_readExpression 40 = .ok (.getfield 31, 3) := by decide +kernel
theorem dX3_readExpression_43 : decode cX3_readExpression 43 = .ok (.bipush 7, 2) := by decide +kernel
theorem dX3_readExpression_45 : decode cX3_readExpression 45 = .ok (.if_icmp .eq 12, 3) := by decide +kernel
theorem dX3_readExpression_48 : decode cX3_readExpression 48 = .ok (.aload_n 0, 1) := by decide +kernel
theorem dX3_readExpression_49 : decode cX3_readExpression 49 = .ok (.getfield 31, 3) := by decide +kernel
theorem dX3_readExpression_52 : decode cX3_readExpression 52 = .ok (.bipush 8, 2) := by decide +kernel
theorem dX3_readExpression_54 : decode cX3_readExpression 54 = .ok (.if_icmp .ne 28, 3) := by decide +kernel
theorem dX3_readExpression_57 : decode cX3_readExpression 57 = .ok (.aload_n 0, 1) := by decide +kernel
theorem dX3_readExpression_58 : decode cX3_readExpression 58 = .ok (.getfield 31, 3) := by decide +kernel
theorem dX3_readExpression_61 : decode cX3_readExpression 61 = .ok (.istore_n 3, 1) := by decide +kernel
theorem dX3_readExpression_62 : decode cX3_readExpression 62 = .ok (.aload_n 0, 1) := by decide +kernel
theorem dX3_readExpression_63 : decode cX3_readExpression 63 = .ok (.invokevirtual 69, 3) := by decide +kernel
theorem dX3_readExpression_66 : decode cX3_readExpression 66 = .ok (.aload_n 0, 1) := by decide +kernel
theorem dX3_readExpression_67 : decode cX3_readExpression 67 = .ok (.iload_n 1, 1) := by decide +kernel
theorem dX3_readExpression_68 : decode cX3_readExpression 68 = .ok (.invokevirtual 86, 3) := by decide +kernel
theorem dX3_readExpression_71 : decode cX3_readExpression 71 = .ok (.aload_n 0, 1) := by decide +kernel
theorem dX3_readExpression_72 : decode cX3_readExpression 72 = .ok (.iload_n 3, 1) := by decide +kernel
theorem dX3_readExpression_73 : decode cX3_readExpression 73 = .ok (.invokevirtual 75, 3) := by decide +kernel
theorem dX3_readExpression_76 : decode cX3_readExpression 76 = .ok (.iinc 2 1, 3) := by decide +kernel
theorem dX3_readExpression_79 : decode cX3_readExpression 79 = .ok (.goto (-47), 3) := by decide +kernel
theorem dX3_readExpression_82 : decode cX3_readExpression 82 = .ok (.return_, 1) := by decide +kernel
theorem dX3_canBeginExpression_0 : decode cX3_canBeginExpression 0 = .ok (.aload_n 0, 1) := by decide +kernel
theorem dX3_canBeginExpression_1 : decode cX3_canBeginExpression 1 = .ok (.getfield 31, 3) := by decide +kernel
theorem dX3_canBeginExpression_4 : decode cX3_canBeginExpression 4 = .ok (.bipush 40, 2) := by decide +kernel
theorem dX3_canBeginExpression_6 : decode cX3_canBeginExpression 6 = .ok (.if_icmp .eq 32, 3) := by decide +kernel
theorem dX3_canBeginExpression_9 : decode cX3_canBeginExpression 9 = .ok (.aload_n 0, 1) := by decide +kernel
theorem dX3_canBeginExpression_10 : decode cX3_canBeginExpression 10 = .ok (.getfield 31, 3) := by decide +kernel
theorem dX3_canBeginExpression_13 : decode cX3_canBeginExpression 13 = .ok (.bipush 9, 2) := by decide +kernel
theorem dX3_canBeginExpression_15 : decode cX3_canBeginExpression 15 = .ok (.if_icmp .eq 23, 3) := by decide +kernel
theorem dX3_canBeginExpression_18 : decode cX3_canBeginExpression 18 = .ok (.aload_n 0, 1) := by decide +kernel
theorem dX3_canBeginExpression_19 : decode cX3_canBeginExpression 19 = .ok (.getfield 31, 3) := by decide +kernel
theorem dX3_canBeginExpression_22 : decode cX3_canBeginExpression 22 = .ok (.invokestatic 89, 3) := by decide +kernel
theorem dX3_canBeginExpression_25 : decode cX3_canBeginExpression 25 = .ok (.ifCond .ne 13, 3) := by decide +kernel
theorem dX3_canBeginExpression_28 : decode cX3_canBeginExpression 28 = .ok (.aload_n 0, 1) := by decide +kernel
theorem dX3_canBeginExpression_29 : decode cX3_canBeginExpression 29 = .ok (.getfield 31, 3) := by decide +kernel
theorem dX3_canBeginExpression_32 : decode cX3_canBeginExpression 32 = .ok (.invokestatic 93, 3) := by decide +kernel
theorem dX3_canBeginExpression_35 : decode cX3_canBeginExpression 35 = .ok (.ifCond .eq 7, 3) := by decide +kernel
theorem dX3_canBeginExpression_38 : decode cX3_canBeginExpression 38 = .ok (.iconst 1, 1) := by decide +kernel
theorem dX3_canBeginExpression_39 : decode cX3_canBeginExpression 39 = .ok (.goto 4, 3) := by decide +kernel
theorem dX3_canBeginExpression_42 : decode cX3_canBeginExpression 42 = .ok (.iconst 0, 1) := by decide +kernel
theorem dX3_canBeginExpression_43 : decode cX3_canBeginExpression 43 = .ok (.ireturn, 1) := by decide +kernel
theorem dX3_readTest_0 : decode cX3_readTest 0 = .ok (.aload_n 0, 1) := by decide +kernel
theorem dX3_readTest_1 : decode cX3_readTest 1 = .ok (.getfield 31, 3) := by decide +kernel
theorem dX3_readTest_4 : decode cX3_readTest 4 = .ok (.bipush 9, 2) := by decide +kernel
theorem dX3_readTest_6 : decode cX3_readTest 6 = .ok (.if_icmp .ne 7, 3) := by decide +kernel
theorem dX3_readTest_9 : decode cX3_readTest 9 = .ok (.iconst 1, 1) := by decide +kernel
theorem dX3_readTest_10 : decode cX3_readTest 10 = .ok (.goto 4, 3) := by decide +kernel
theorem dX3_readTest_13 : decode cX3_readTest 13 = .ok (.iconst 0, 1) := by decide +kernel
theorem dX3_readTest_14 : decode cX3_readTest 14 = .ok (.istore_n 2, 1) := by decide +kernel
theorem dX3_readTest_15 : decode cX3_readTest 15 = .ok (.iload_n 2, 1) := by decide +kernel
theorem dX3_readTest_16 : decode cX3_readTest 16 = .ok (.ifCond .eq 7, 3) := by decide +kernel
theorem dX3_readTest_19 : decode cX3_readTest 19 = .ok (.aload_n 0, 1) := by decide +kernel
theorem dX3_readTest_20 : decode cX3_readTest 20 = .ok (.invokevirtual 69, 3) := by decide +kernel
theorem dX3_readTest_23 : decode cX3_readTest 23 = .ok (.aload_n 0, 1) := by decide +kernel
theorem dX3_readTest_24 : decode cX3_readTest 24 = .ok (.iload_n 1, 1) := by decide +kernel
theorem dX3_readTest_25 : decode cX3_readTest 25 = .ok (.invokevirtual 96, 3) := by decide +kernel
theorem dX3_readTest_28 : decode cX3_readTest 28 = .ok (.aload_n 0, 1) := by decide +kernel
theorem dX3_readTest_29 : decode cX3_readTest 29 = .ok (.getfield 31, 3) := by decide +kernel
theorem dX3_readTest_32 : decode cX3_readTest 32 = .ok (.bipush 60, 2) := by decide +kernel
theorem dX3_readTest_34 : decode cX3_readTest 34 = .ok (.if_icmp .eq 12, 3) := by decide +kernel
theorem dX3_readTest_37 : decode cX3_readTest 37 = .ok (.aload_n 0, 1) := by decide +kernel
theorem dX3_readTest_38 : decode cX3_readTest 38 = .ok (.getfield 31, 3) := by decide +kernel
theorem dX3_readTest_41 : decode cX3_readTest 41 = .ok (.bipush 61, 2) := by decide +kernel
theorem dX3_readTest_43 : decode cX3_readTest 43 = .ok (.if_icmp .ne 22, 3) := by decide +kernel
theorem dX3_readTest_46 : decode cX3_readTest 46 = .ok (.aload_n 0, 1) := by decide +kernel
theorem dX3_readTest_47 : decode cX3_readTest 47 = .ok (.getfield 31, 3) := by decide +kernel
theorem dX3_readTest_50 : decode cX3_readTest 50 = .ok (.istore_n 3, 1) := by decide +kernel
theorem dX3_readTest_51 : decode cX3_readTest 51 = .ok (.aload_n 0, 1) := by decide +kernel
theorem dX3_readTest_52 : decode cX3_readTest 52 = .ok (.invokevirtual 69, 3) := by decide +kernel
theorem dX3_readTest_55 : decode cX3_readTest 55 = .ok (.aload_n 0, 1) := by decide +kernel
theorem dX3_readTest_56 : decode cX3_readTest 56 = .ok (.iload_n 1, 1) := by decide +kernel
theorem dX3_readTest_57 : decode cX3_readTest 57 = .ok (.invokevirtual 96, 3) := by decide +kernel
theorem dX3_readTest_60 : decode cX3_readTest 60 = .ok (.aload_n 0, 1) := by decide +kernel
theorem dX3_readTest_61 : decode cX3_readTest 61 = .ok (.iload_n 3, 1) := by decide +kernel
theorem dX3_readTest_62 : decode cX3_readTest 62 = .ok (.invokevirtual 75, 3) := by decide +kernel
theorem dX3_readTest_65 : decode cX3_readTest 65 = .ok (.iload_n 2, 1) := by decide +kernel
theorem dX3_readTest_66 : decode cX3_readTest 66 = .ok (.ifCond .eq 9, 3) := by decide +kernel
theorem dX3_readTest_69 : decode cX3_readTest 69 = .ok (.aload_n 0, 1) := by decide +kernel
theorem dX3_readTest_70 : decode cX3_readTest 70 = .ok (.bipush 9, 2) := by decide +kernel
theorem dX3_readTest_72 : decode cX3_readTest 72 = .ok (.invokevirtual 75, 3) := by decide +kernel
theorem dX3_readTest_75 : decode cX3_readTest 75 = .ok (.return_, 1) := by decide +kernel
theorem dX3_readSum_0 : decode cX3_readSum 0 = .ok (.aload_n 0, 1) := by decide +kernel
theorem dX3_readSum_1 : decode cX3_readSum 1 = .ok (.iload_n 1, 1) := by decide +kernel
theorem dX3_readSum_2 : decode cX3_readSum 2 = .ok (.invokevirtual 99, 3) := by decide +kernel
theorem dX3_readSum_5 : decode cX3_readSum 5 = .ok (.iconst 0, 1) := by decide +kernel
theorem dX3_readSum_6 : decode cX3_readSum 6 = .ok (.istore_n 2, 1) := by decide +kernel
theorem dX3_readSum_7 : decode cX3_readSum 7 = .ok (.iload_n 2, 1) := by decide +kernel
theorem dX3_readSum_8 : decode cX3_readSum 8 = .ok (.sipush 400, 3) := by decide +kernel
theorem dX3_readSum_11 : decode cX3_readSum 11 = .ok (.if_icmp .ge 46, 3) := by decide +kernel
theorem dX3_readSum_14 : decode cX3_readSum 14 = .ok (.aload_n 0, 1) := by decide +kernel
theorem dX3_readSum_15 : decode cX3_readSum 15 = .ok (.getfield 31, 3) := by decide +kernel
theorem dX3_readSum_18 : decode cX3_readSum 18 = .ok (.bipush 43, 2) := by decide +kernel
theorem dX3_readSum_20 : decode cX3_readSum 20 = .ok (.if_icmp .eq 12, 3) := by decide +kernel
theorem dX3_readSum_23 : decode cX3_readSum 23 = .ok (.aload_n 0, 1) := by decide +kernel
theorem dX3_readSum_24 : decode cX3_readSum 24 = .ok (.getfield 31, 3) := by decide +kernel
theorem dX3_readSum_27 : decode cX3_readSum 27 = .ok (.bipush 45, 2) := by decide +kernel
theorem dX3_readSum_29 : decode cX3_readSum 29 = .ok (.if_icmp .ne 28, 3) := by decide +kernel
theorem dX3_readSum_32 : decode cX3_readSum 32 = .ok (.aload_n 0, 1) := by decide +kernel
theorem dX3_readSum_33 : decode cX3_readSum 33 = .ok (.getfield 31, 3) := by decide +kernel
theorem dX3_readSum_36 : decode cX3_readSum 36 = .ok (.istore_n 3, 1) := by decide +kernel
theorem dX3_readSum_37 : decode cX3_readSum 37 = .ok (.aload_n 0, 1) := by decide +kernel
theorem dX3_readSum_38 : decode cX3_readSum 38 = .ok (.invokevirtual 69, 3) := by decide +kernel
theorem dX3_readSum_41 : decode cX3_readSum 41 = .ok (.aload_n 0, 1) := by decide +kernel
theorem dX3_readSum_42 : decode cX3_readSum 42 = .ok (.iload_n 1, 1) := by decide +kernel
theorem dX3_readSum_43 : decode cX3_readSum 43 = .ok (.invokevirtual 99, 3) := by decide +kernel
theorem dX3_readSum_46 : decode cX3_readSum 46 = .ok (.aload_n 0, 1) := by decide +kernel
theorem dX3_readSum_47 : decode cX3_readSum 47 = .ok (.iload_n 3, 1) := by decide +kernel
theorem dX3_readSum_48 : decode cX3_readSum 48 = .ok (.invokevirtual 75, 3) := by decide +kernel
theorem dX3_readSum_51 : decode cX3_readSum 51 = .ok (.iinc 2 1, 3) := by decide +kernel
theorem dX3_readSum_54 : decode cX3_readSum 54 = .ok (.goto (-47), 3) := by decide +kernel
theorem dX3_readSum_57 : decode cX3_readSum 57 = .ok (.return_, 1) := by decide +kernel
theorem dX3_readPart_0 : decode cX3_readPart 0 = .ok (.aload_n 0, 1) := by decide +kernel
theorem dX3_readPart_1 : decode cX3_readPart 1 = .ok (.getfield 31, 3) := by decide +kernel
theorem dX3_readPart_4 : decode cX3_readPart 4 = .ok (.invokestatic 89, 3) := by decide +kernel
theorem dX3_readPart_7 : decode cX3_readPart 7 = .ok (.ifCond .ne 13, 3) := by decide +kernel
theorem dX3_readPart_10 : decode cX3_readPart 10 = .ok (.aload_n 0, 1) := by decide +kernel
theorem dX3_readPart_11 : decode cX3_readPart 11 = .ok (.getfield 31, 3) := by decide +kernel
theorem dX3_readPart_14 : decode cX3_readPart 14 = .ok (.invokestatic 93, 3) := by decide +kernel
theorem dX3_readPart_17 : decode cX3_readPart 17 = .ok (.ifCond .eq 18, 3) := by decide +kernel
theorem dX3_readPart_20 : decode cX3_readPart 20 = .ok (.aload_n 0, 1) := by decide +kernel
theorem dX3_readPart_21 : decode cX3_readPart 21 = .ok (.aload_n 0, 1) := by decide +kernel
theorem dX3_readPart_22 : decode cX3_readPart 22 = .ok (.getfield 31, 3) := by decide +kernel
theorem dX3_readPart_25 : decode cX3_readPart 25 = .ok (.invokevirtual 75, 3) := by decide +kernel
theorem dX3_readPart_28 : decode cX3_readPart 28 = .ok (.aload_n 0, 1) := by decide +kernel
theorem dX3_readPart_29 : decode cX3_readPart 29 = .ok (.invokevirtual 69, 3) := by decide +kernel
theorem dX3_readPart_32 : decode cX3_readPart 32 = .ok (.goto 55, 3) := by decide +kernel
theorem dX3_readPart_35 : decode cX3_readPart 35 = .ok (.aload_n 0, 1) := by decide +kernel
theorem dX3_readPart_36 : decode cX3_readPart 36 = .ok (.getfield 31, 3) := by decide +kernel
theorem dX3_readPart_39 : decode cX3_readPart 39 = .ok (.bipush 40, 2) := by decide +kernel
theorem dX3_readPart_41 : decode cX3_readPart 41 = .ok (.if_icmp .ne 38, 3) := by decide +kernel
theorem dX3_readPart_44 : decode cX3_readPart 44 = .ok (.aload_n 0, 1) := by decide +kernel
theorem dX3_readPart_45 : decode cX3_readPart 45 = .ok (.invokevirtual 69, 3) := by decide +kernel
theorem dX3_readPart_48 : decode cX3_readPart 48 = .ok (.aload_n 0, 1) := by decide +kernel
theorem dX3_readPart_49 : decode cX3_readPart 49 = .ok (.iload_n 1, 1) := by decide +kernel
theorem dX3_readPart_50 : decode cX3_readPart 50 = .ok (.iconst 1, 1) := by decide +kernel
theorem dX3_readPart_51 : decode cX3_readPart 51 = .ok (.iadd, 1) := by decide +kernel
theorem dX3_readPart_52 : decode cX3_readPart 52 = .ok (.invokevirtual 72, 3) := by decide +kernel
theorem dX3_readPart_55 : decode cX3_readPart 55 = .ok (.aload_n 0, 1) := by decide +kernel
theorem dX3_readPart_56 : decode cX3_readPart 56 = .ok (.getfield 31, 3) := by decide +kernel
theorem dX3_readPart_59 : decode cX3_readPart 59 = .ok (.bipush 41, 2) := by decide +kernel
theorem dX3_readPart_61 : decode cX3_readPart 61 = .ok (.if_icmp .ne 10, 3) := by decide +kernel
theorem dX3_readPart_64 : decode cX3_readPart 64 = .ok (.aload_n 0, 1) := by decide +kernel
theorem dX3_readPart_65 : decode cX3_readPart 65 = .ok (.invokevirtual 69, 3) := by decide +kernel
theorem dX3_readPart_68 : decode cX3_readPart 68 = .ok (.goto 19, 3) := by decide +kernel
theorem dX3_readPart_71 : decode cX3_readPart 71 = .ok (.aload_n 0, 1) := by decide +kernel
theorem dX3_readPart_72 : decode cX3_readPart 72 = .ok (.iconst 1, 1) := by decide +kernel
theorem dX3_readPart_73 : decode cX3_readPart 73 = .ok (.invokevirtual 66, 3) := by decide +kernel
theorem dX3_readPart_76 : decode cX3_readPart 76 = .ok (.goto 11, 3) := by decide +kernel
theorem dX3_readPart_79 : decode cX3_readPart 79 = .ok (.aload_n 0, 1) := by decide +kernel
theorem dX3_readPart_80 : decode cX3_readPart 80 = .ok (.aload_n 0, 1) := by decide +kernel
theorem dX3_readPart_81 : decode cX3_readPart 81 = .ok (.invokevirtual 82, 3) := by decide +kernel
theorem dX3_readPart_84 : decode cX3_readPart 84 = .ok (.invokevirtual 66, 3) := by decide +kernel
theorem dX3_readPart_87 : decode cX3_readPart 87 = .ok (.return_, 1) := by decide +kernel
theorem dX3_faultWithoutPart_0 : decode cX3_faultWithoutPart 0 = .ok (.aload_n 0, 1) := by decide +kernel
theorem dX3_faultWithoutPart_1 : decode cX3_faultWithoutPart 1 = .ok (.getfield 31, 3) := by decide +kernel
theorem dX3_faultWithoutPart_4 : decode cX3_faultWithoutPart 4 = .ok (.iconst 2, 1) := by decide +kernel
theorem dX3_faultWithoutPart_5 : decode cX3_faultWithoutPart 5 = .ok (.if_icmp .ne 5, 3) := by decide +kernel
theorem dX3_faultWithoutPart_8 : decode cX3_faultWithoutPart 8 = .ok (.iconst 2, 1) := by decide +kernel
theorem dX3_faultWithoutPart_9 : decode cX3_faultWithoutPart 9 = .ok (.ireturn, 1) := by decide +kernel
theorem dX3_faultWithoutPart_10 : decode cX3_faultWithoutPart 10 = .ok (.aload_n 0, 1) := by decide +kernel
theorem dX3_faultWithoutPart_11 : decode cX3_faultWithoutPart 11 = .ok (.getfield 31, 3) := by decide +kernel
theorem dX3_faultWithoutPart_14 : decode cX3_faultWithoutPart 14 = .ok (.iconst 3, 1) := by decide +kernel
theorem dX3_faultWithoutPart_15 : decode cX3_faultWithoutPart 15 = .ok (.if_icmp .lt 16, 3) := by decide +kernel
theorem dX3_faultWithoutPart_18 : decode cX3_faultWithoutPart 18 = .ok (.aload_n 0, 1) := by decide +kernel
theorem dX3_faultWithoutPart_19 : decode cX3_faultWithoutPart 19 = .ok (.getfield 31, 3) := by decide +kernel
theorem dX3_faultWithoutPart_22 : decode cX3_faultWithoutPart 22 = .ok (.bipush 9, 2) := by decide +kernel
theorem dX3_faultWithoutPart_24 : decode cX3_faultWithoutPart 24 = .ok (.if_icmp .gt 7, 3) := by decide +kernel
theorem dX3_faultWithoutPart_27 : decode cX3_faultWithoutPart 27 = .ok (.iconst 1, 1) := by decide +kernel
theorem dX3_faultWithoutPart_28 : decode cX3_faultWithoutPart 28 = .ok (.goto 4, 3) := by decide +kernel
theorem dX3_faultWithoutPart_31 : decode cX3_faultWithoutPart 31 = .ok (.iconst 0, 1) := by decide +kernel
theorem dX3_faultWithoutPart_32 : decode cX3_faultWithoutPart 32 = .ok (.istore_n 1, 1) := by decide +kernel
theorem dX3_faultWithoutPart_33 : decode cX3_faultWithoutPart 33 = .ok (.iload_n 1, 1) := by decide +kernel
theorem dX3_faultWithoutPart_34 : decode cX3_faultWithoutPart 34 = .ok (.ifCond .eq 7, 3) := by decide +kernel
theorem dX3_faultWithoutPart_37 : decode cX3_faultWithoutPart 37 = .ok (.iconst 3, 1) := by decide +kernel
theorem dX3_faultWithoutPart_38 : decode cX3_faultWithoutPart 38 = .ok (.goto 4, 3) := by decide +kernel
theorem dX3_faultWithoutPart_41 : decode cX3_faultWithoutPart 41 = .ok (.iconst 1, 1) := by decide +kernel
theorem dX3_faultWithoutPart_42 : decode cX3_faultWithoutPart 42 = .ok (.ireturn, 1) := by decide +kernel
