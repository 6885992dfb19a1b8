theorem dX11_emit_21 : decode cX11_emit 21 = .ok (.getfield 243, 3) := by decide +kernel
theorem dX11_emit_24 : decode cX11_emit 24 = .ok (.iadd, 1) := by decide +kernel
theorem dX11_emit_25 : decode cX11_emit 25 = .ok (.iload_n 1, 1) := by decide +kernel
theorem dX11_emit_26 : decode cX11_emit 26 = .ok (.iastore, 1) := by decide +kernel
theorem dX11_emit_27 : decode cX11_emit 27 = .ok (.aload_n 0, 1) := by decide +kernel
theorem dX11_emit_28 : decode cX11_emit 28 = .ok (.dup, 1) := by decide +kernel
theorem dX11_emit_29 : decode cX11_emit 29 = .ok (.getfield 243, 3) := by decide +kernel
theorem dX11_emit_32 : decode cX11_emit 32 = .ok (.iconst 1, 1) := by decide +kernel
theorem dX11_emit_33 : decode cX11_emit 33 = .ok (.iadd, 1) := by decide +kernel
theorem dX11_emit_34 : decode cX11_emit 34 = .ok (.putfield 243, 3) := by decide +kernel
theorem dX11_emit_37 : decode cX11_emit 37 = .ok (.return_, 1) := by decide +kernel
theorem dX11_readText_0 : decode cX11_readText 0 = .ok (.aload_n 0, 1) := by decide +kernel
theorem dX11_readText_1 : decode cX11_readText 1 = .ok (.invokevirtual 246, 3) := by decide +kernel
theorem dX11_readText_4 : decode cX11_readText 4 = .ok (.iconst 0, 1) := by decide +kernel
theorem dX11_readText_5 : decode cX11_readText 5 = .ok (.istore_n 1, 1) := by decide +kernel
theorem dX11_readText_6 : decode cX11_readText 6 = .ok (.aload_n 0, 1) := by decide +kernel
theorem dX11_readText_7 : decode cX11_readText 7 = .ok (.getfield 234, 3) := by decide +kernel
theorem dX11_readText_10 : decode cX11_readText 10 = .ok (.ifCond .ne 164, 3) := by decide +kernel
theorem dX11_readText_13 : decode cX11_readText 13 = .ok (.aload_n 0, 1) := by decide +kernel
theorem dX11_readText_14 : decode cX11_readText 14 = .ok (.getfield 215, 3) := by decide +kernel
theorem dX11_readText_17 : decode cX11_readText 17 = .ok (.ifCond .eq 157, 3) := by decide +kernel
theorem dX11_readText_20 : decode cX11_readText 20 = .ok (.aload_n 0, 1) := by decide +kernel
theorem dX11_readText_21 : decode cX11_readText 21 = .ok (.ldc 249, 2) := by decide +kernel
theorem dX11_readText_23 : decode cX11_readText 23 = .ok (.invokevirtual 251, 3) := by decide +kernel
theorem dX11_readText_26 : decode cX11_readText 26 = .ok (.ifCond .eq 7, 3) := by decide +kernel
theorem dX11_readText_29 : decode cX11_readText 29 = .ok (.iconst 0, 1) := by decide +kernel
theorem dX11_readText_30 : decode cX11_readText 30 = .ok (.goto 31, 3) := by decide +kernel
theorem dX11_readText_33 : decode cX11_readText 33 = .ok (.aload_n 0, 1) := by decide +kernel
theorem dX11_readText_34 : decode cX11_readText 34 = .ok (.ldc 255, 2) := by decide +kernel
theorem dX11_readText_36 : decode cX11_readText 36 = .ok (.invokevirtual 251, 3) := by decide +kernel
theorem dX11_readText_39 : decode cX11_readText 39 = .ok (.ifCond .eq 7, 3) := by decide +kernel
theorem dX11_readText_42 : decode cX11_readText 42 = .ok (.iconst 1, 1) := by decide +kernel
theorem dX11_readText_43 : decode cX11_readText 43 = .ok (.goto 18, 3) := by decide +kernel
theorem dX11_readText_46 : decode cX11_readText 46 = .ok (.aload_n 0, 1) := by decide +kernel
theorem dX11_readText_47 : decode cX11_readText 47 = .ok (.ldc_w 257, 3) := by decide +kernel
theorem dX11_readText_50 : decode cX11_readText 50 = .ok (.invokevirtual 251, 3) := by decide +kernel
theorem dX11_readText_53 : decode cX11_readText 53 = .ok (.ifCond .eq 7, 3) := by decide +kernel
theorem dX11_readText_56 : decode cX11_readText 56 = .ok (.iconst 2, 1) := by decide +kernel
theorem dX11_readText_57 : decode cX11_readText 57 = .ok (.goto 4, 3) := by decide +kernel
theorem dX11_readText_60 : decode cX11_readText 60 = .ok (.iconst (-1), 1) := by decide +kernel
theorem dX11_readText_61 : decode cX11_readText 61 = .ok (.istore_n 2, 1) := by decide +kernel
theorem dX11_readText_62 : decode cX11_readText 62 = .ok (.iload_n 2, 1) := by decide +kernel
theorem dX11_readText_63 : decode cX11_readText 63 = .ok (.iconst (-1), 1) := by decide +kernel
theorem dX11_readText_64 : decode cX11_readText 64 = .ok (.if_icmp .ne 11, 3) := by decide +kernel
theorem dX11_readText_67 : decode cX11_readText 67 = .ok (.aload_n 0, 1) := by decide +kernel
theorem dX11_readText_68 : decode cX11_readText 68 = .ok (.iconst 1, 1) := by decide +kernel
theorem dX11_readText_69 : decode cX11_readText 69 = .ok (.invokevirtual 259, 3) := by decide +kernel
theorem dX11_readText_72 : decode cX11_readText 72 = .ok (.goto 14, 3) := by decide +kernel
theorem dX11_readText_75 : decode cX11_readText 75 = .ok (.iload_n 1, 1) := by decide +kernel
theorem dX11_readText_76 : decode cX11_readText 76 = .ok (.bipush 12, 2) := by decide +kernel
theorem dX11_readText_78 : decode cX11_readText 78 = .ok (.if_icmp .ne 8, 3) := by decide +kernel
theorem dX11_readText_81 : decode cX11_readText 81 = .ok (.aload_n 0, 1) := by decide +kernel
theorem dX11_readText_82 : decode cX11_readText 82 = .ok (.iconst 2, 1) := by decide +kernel
theorem dX11_readText_83 : decode cX11_readText 83 = .ok (.invokevirtual 259, 3) := by decide +kernel
theorem dX11_readText_86 : decode cX11_readText 86 = .ok (.aload_n 0, 1) := by decide +kernel
theorem dX11_readText_87 : decode cX11_readText 87 = .ok (.getfield 234, 3) := by decide +kernel
theorem dX11_readText_90 : decode cX11_readText 90 = .ok (.ifCond .eq 4, 3) := by decide +kernel
theorem dX11_readText_93 : decode cX11_readText 93 = .ok (.return_, 1) := by decide +kernel
theorem dX11_readText_94 : decode cX11_readText 94 = .ok (.aload_n 0, 1) := by decide +kernel
theorem dX11_readText_95 : decode cX11_readText 95 = .ok (.getfield 90, 3) := by decide +kernel
theorem dX11_readText_98 : decode cX11_readText 98 = .ok (.bipush 12, 2) := by decide +kernel
theorem dX11_readText_100 : decode cX11_readText 100 = .ok (.aload_n 0, 1) := by decide +kernel
theorem dX11_readText_101 : decode cX11_readText 101 = .ok (.getfield 240, 3) := by decide +kernel
theorem dX11_readText_104 : decode cX11_readText 104 = .ok (.imul, 1) := by decide +kernel
theorem dX11_readText_105 : decode cX11_readText 105 = .ok (.iload_n 1, 1) := by decide +kernel
theorem dX11_readText_106 : decode cX11_readText 106 = .ok (.iadd, 1) := by decide +kernel
theorem dX11_readText_107 : decode cX11_readText 107 = .ok (.iload_n 2, 1) := by decide +kernel
theorem dX11_readText_108 : decode cX11_readText 108 = .ok (.iastore, 1) := by decide +kernel
theorem dX11_readText_109 : decode cX11_readText 109 = .ok (.aload_n 0, 1) := by decide +kernel
theorem dX11_readText_110 : decode cX11_readText 110 = .ok (.getfield 81, 3) := by decide +kernel
theorem dX11_readText_113 : decode cX11_readText 113 = .ok (.bipush 13, 2) := by decide +kernel
theorem dX11_readText_115 : decode cX11_readText 115 = .ok (.aload_n 0, 1) := by decide +kernel
theorem dX11_readText_116 : decode cX11_readText 116 = .ok (.getfield 240, 3) := by decide +kernel
theorem dX11_readText_119 : decode cX11_readText 119 = .ok (.imul, 1) := by decide +kernel
theorem dX11_readText_120 : decode cX11_readText 120 = .ok (.iload_n 1, 1) := by decide +kernel
theorem dX11_readText_121 : decode cX11_readText 121 = .ok (.iadd, 1) := by decide +kernel
theorem dX11_readText_122 : decode cX11_readText 122 = .ok (.aload_n 0, 1) := by decide +kernel
theorem dX11_readText_123 : decode cX11_readText 123 = .ok (.getfield 243, 3) := by decide +kernel
theorem dX11_readText_126 : decode cX11_readText 126 = .ok (.iastore, 1) := by decide +kernel
theorem dX11_readText_127 : decode cX11_readText 127 = .ok (.iinc 1 1, 3) := by decide +kernel
theorem dX11_readText_130 : decode cX11_readText 130 = .ok (.aload_n 0, 1) := by decide +kernel
theorem dX11_readText_131 : decode cX11_readText 131 = .ok (.invokevirtual 246, 3) := by decide +kernel
theorem dX11_readText_134 : decode cX11_readText 134 = .ok (.aload_n 0, 1) := by decide +kernel
theorem dX11_readText_135 : decode cX11_readText 135 = .ok (.iconst 0, 1) := by decide +kernel
theorem dX11_readText_136 : decode cX11_readText 136 = .ok (.invokevirtual 262, 3) := by decide +kernel
theorem dX11_readText_139 : decode cX11_readText 139 = .ok (.aload_n 0, 1) := by decide +kernel
theorem dX11_readText_140 : decode cX11_readText 140 = .ok (.getfield 234, 3) := by decide +kernel
theorem dX11_readText_143 : decode cX11_readText 143 = .ok (.ifCond .ne 17, 3) := by decide +kernel
theorem dX11_readText_146 : decode cX11_readText 146 = .ok (.aload_n 0, 1) := by decide +kernel
theorem dX11_readText_147 : decode cX11_readText 147 = .ok (.bipush 59, 2) := by decide +kernel
theorem dX11_readText_149 : decode cX11_readText 149 = .ok (.invokevirtual 265, 3) := by decide +kernel
theorem dX11_readText_152 : decode cX11_readText 152 = .ok (.ifCond .ne 8, 3) := by decide +kernel
theorem dX11_readText_155 : decode cX11_readText 155 = .ok (.aload_n 0, 1) := by decide +kernel
theorem dX11_readText_156 : decode cX11_readText 156 = .ok (.iconst 1, 1) := by decide +kernel
theorem dX11_readText_157 : decode cX11_readText 157 = .ok (.invokevirtual 259, 3) := by decide +kernel
theorem dX11_readText_160 : decode cX11_readText 160 = .ok (.aload_n 0, 1) := by decide +kernel
theorem dX11_readText_161 : decode cX11_readText 161 = .ok (.getfield 234, 3) := by decide +kernel
theorem dX11_readText_164 : decode cX11_readText 164 = .ok (.ifCond .ne 7, 3) := by decide +kernel
theorem dX11_readText_167 : decode cX11_readText 167 = .ok (.aload_n 0, 1) := by decide +kernel
theorem dX11_readText_168 : decode cX11_readText 168 = .ok (.invokevirtual 246, 3) := by decide +kernel
theorem dX11_readText_171 : decode cX11_readText 171 = .ok (.goto (-165), 3) := by decide +kernel
theorem dX11_readText_174 : decode cX11_readText 174 = .ok (.aload_n 0, 1) := by decide +kernel
theorem dX11_readText_175 : decode cX11_readText 175 = .ok (.getfield 81, 3) := by decide +kernel
theorem dX11_readText_178 : decode cX11_readText 178 = .ok (.bipush 13, 2) := by decide +kernel
theorem dX11_readText_180 : decode cX11_readText 180 = .ok (.aload_n 0, 1) := by decide +kernel
theorem dX11_readText_181 : decode cX11_readText 181 = .ok (.getfield 240, 3) := by decide +kernel
theorem dX11_readText_184 : decode cX11_readText 184 = .ok (.imul, 1) := by decide +kernel
theorem dX11_readText_185 : decode cX11_readText 185 = .ok (.iload_n 1, 1) := by decide +kernel
theorem dX11_readText_186 : decode cX11_readText 186 = .ok (.iadd, 1) := by decide +kernel
theorem dX11_readText_187 : decode cX11_readText 187 = .ok (.aload_n 0, 1) := by decide +kernel
theorem dX11_readText_188 : decode cX11_readText 188 = .ok (.getfield 243, 3) := by decide +kernel
theorem dX11_readText_191 : decode cX11_readText 191 = .ok (.iastore, 1) := by decide +kernel
theorem dX11_readText_192 : decode cX11_readText 192 = .ok (.aload_n 0, 1) := by decide +kernel
theorem dX11_readText_193 : decode cX11_readText 193 = .ok (.getfield 78, 3) := by decide +kernel
theorem dX11_readText_196 : decode cX11_readText 196 = .ok (.aload_n 0, 1) := by decide +kernel
theorem dX11_readText_197 : decode cX11_readText 197 = .ok (.getfield 240, 3) := by decide +kernel
theorem dX11_readText_200 : decode cX11_readText 200 = .ok (.iload_n 1, 1) := by decide +kernel
theorem dX11_readText_201 : decode cX11_readText 201 = .ok (.iastore, 1) := by decide +kernel
theorem dX11_readText_202 : decode cX11_readText 202 = .ok (.return_, 1) := by decide +kernel
theorem dX11_readExpression_0 : decode cX11_readExpression 0 = .ok (.aload_n 0, 1) := by decide +kernel
theorem dX11_readExpression_1 : decode cX11_readExpression 1 = .ok (.getfield 215, 3) := by decide +kernel
theorem dX11_readExpression_4 : decode cX11_readExpression 4 = .ok (.iconst 1, 1) := by decide +kernel
theorem dX11_readExpression_5 : decode cX11_readExpression 5 = .ok (.if_icmp .eq 20, 3) := by decide +kernel
theorem dX11_readExpression_8 : decode cX11_readExpression 8 = .ok (.aload_n 0, 1) := by decide +kernel
theorem dX11_readExpression_9 : decode cX11_readExpression 9 = .ok (.getfield 215, 3) := by decide +kernel
theorem dX11_readExpression_12 : decode cX11_readExpression 12 = .ok (.iconst 2, 1) := by decide +kernel
theorem dX11_readExpression_13 : decode cX11_readExpression 13 = .ok (.if_icmp .eq 12, 3) := by decide +kernel
theorem dX11_readExpression_16 : decode cX11_readExpression 16 = .ok (.aload_n 0, 1) := by decide +kernel
theorem dX11_readExpression_17 : decode cX11_readExpression 17 = .ok (.bipush 40, 2) := by decide +kernel
theorem dX11_readExpression_19 : decode cX11_readExpression 19 = .ok (.invokevirtual 265, 3) := by decide +kernel
theorem dX11_readExpression_22 : decode cX11_readExpression 22 = .ok (.ifCond .eq 7, 3) := by decide +kernel
theorem dX11_readExpression_25 : decode cX11_readExpression 25 = .ok (.iconst 1, 1) := by decide +kernel
theorem dX11_readExpression_26 : decode cX11_readExpression 26 = .ok (.goto 4, 3) := by decide +kernel
theorem dX11_readExpression_29 : decode cX11_readExpression 29 = .ok (.iconst 0, 1) := by decide +kernel
theorem dX11_readExpression_30 : decode cX11_readExpression 30 = .ok (.istore_n 2, 1) := by decide +kernel
theorem dX11_readExpression_31 : decode cX11_readExpression 31 = .ok (.iload_n 2, 1) := by decide +kernel
theorem dX11_readExpression_32 : decode cX11_readExpression 32 = .ok (.ifCond .ne 11, 3) := by decide +kernel
theorem dX11_readExpression_35 : decode cX11_readExpression 35 = .ok (.aload_n 0, 1) := by decide +kernel
theorem dX11_readExpression_36 : decode cX11_readExpression 36 = .ok (.iconst 1, 1) := by decide +kernel
theorem dX11_readExpression_37 : decode cX11_readExpression 37 = .ok (.invokevirtual 259, 3) := by decide +kernel
theorem dX11_readExpression_40 : decode cX11_readExpression 40 = .ok (.goto 14, 3) := by decide +kernel
theorem dX11_readExpression_43 : decode cX11_readExpression 43 = .ok (.iload_n 1, 1) := by decide +kernel
theorem dX11_readExpression_44 : decode cX11_readExpression 44 = .ok (.bipush 6, 2) := by decide +kernel
theorem dX11_readExpression_46 : decode cX11_readExpression 46 = .ok (.if_icmp .ne 8, 3) := by decide +kernel
theorem dX11_readExpression_49 : decode cX11_readExpression 49 = .ok (.aload_n 0, 1) := by decide +kernel
theorem dX11_readExpression_50 : decode cX11_readExpression 50 = .ok (.iconst 2, 1) := by decide +kernel
theorem dX11_readExpression_51 : decode cX11_readExpression 51 = .ok (.invokevirtual 259, 3) := by decide +kernel
theorem dX11_readExpression_54 : decode cX11_readExpression 54 = .ok (.aload_n 0, 1) := by decide +kernel
theorem dX11_readExpression_55 : decode cX11_readExpression 55 = .ok (.getfield 234, 3) := by decide +kernel
theorem dX11_readExpression_58 : decode cX11_readExpression 58 = .ok (.ifCond .eq 4, 3) := by decide +kernel
theorem dX11_readExpression_61 : decode cX11_readExpression 61 = .ok (.return_, 1) := by decide +kernel
theorem dX11_readExpression_62 : decode cX11_readExpression 62 = .ok (.aload_n 0, 1) := by decide +kernel
theorem dX11_readExpression_63 : decode cX11_readExpression 63 = .ok (.iload_n 1, 1) := by decide +kernel
theorem dX11_readExpression_64 : decode cX11_readExpression 64 = .ok (.invokevirtual 268, 3) := by decide +kernel
theorem dX11_readExpression_67 : decode cX11_readExpression 67 = .ok (.aload_n 0, 1) := by decide +kernel
theorem dX11_readExpression_68 : decode cX11_readExpression 68 = .ok (.getfield 234, 3) := by decide +kernel
theorem dX11_readExpression_71 : decode cX11_readExpression 71 = .ok (.ifCond .ne 57, 3) := by decide +kernel
theorem dX11_readExpression_74 : decode cX11_readExpression 74 = .ok (.aload_n 0, 1) := by decide +kernel
theorem dX11_readExpression_75 : decode cX11_readExpression 75 = .ok (.ldc_w 271, 3) := by decide +kernel
theorem dX11_readExpression_78 : decode cX11_readExpression 78 = .ok (.invokevirtual 251, 3) := by decide +kernel
theorem dX11_readExpression_81 : decode cX11_readExpression 81 = .ok (.ifCond .ne 13, 3) := by decide +kernel
theorem dX11_readExpression_84 : decode cX11_readExpression 84 = .ok (.aload_n 0, 1) := by decide +kernel
theorem dX11_readExpression_85 : decode cX11_readExpression 85 = .ok (.ldc_w 273, 3) := by decide +kernel
theorem dX11_readExpression_88 : decode cX11_readExpression 88 = .ok (.invokevirtual 251, 3) := by decide +kernel
theorem dX11_readExpression_91 : decode cX11_readExpression 91 = .ok (.ifCond .eq 37, 3) := by decide +kernel
theorem dX11_readExpression_94 : decode cX11_readExpression 94 = .ok (.aload_n 0, 1) := by decide +kernel
theorem dX11_readExpression_95 : decode cX11_readExpression 95 = .ok (.ldc_w 271, 3) := by decide +kernel
theorem dX11_readExpression_98 : decode cX11_readExpression 98 = .ok (.invokevirtual 251, 3) := by decide +kernel
theorem dX11_readExpression_101 : decode cX11_readExpression 101 = .ok (.ifCond .eq 7, 3) := by decide +kernel
theorem dX11_readExpression_104 : decode cX11_readExpression 104 = .ok (.iconst 5, 1) := by decide +kernel
theorem dX11_readExpression_105 : decode cX11_readExpression 105 = .ok (.goto 5, 3) := by decide +kernel
theorem dX11_readExpression_108 : decode cX11_readExpression 108 = .ok (.bipush 6, 2) := by decide +kernel
theorem dX11_readExpression_110 : decode cX11_readExpression 110 = .ok (.istore_n 3, 1) := by decide +kernel
theorem dX11_readExpression_111 : decode cX11_readExpression 111 = .ok (.aload_n 0, 1) := by decide +kernel
theorem dX11_readExpression_112 : decode cX11_readExpression 112 = .ok (.invokevirtual 246, 3) := by decide +kernel
theorem dX11_readExpression_115 : decode cX11_readExpression 115 = .ok (.aload_n 0, 1) := by decide +kernel
theorem dX11_readExpression_116 : decode cX11_readExpression 116 = .ok (.iload_n 1, 1) := by decide +kernel
theorem dX11_readExpression_117 : decode cX11_readExpression 117 = .ok (.invokevirtual 268, 3) := by decide +kernel
theorem dX11_readExpression_120 : decode cX11_readExpression 120 = .ok (.aload_n 0, 1) := by decide +kernel
theorem dX11_readExpression_121 : decode cX11_readExpression 121 = .ok (.iload_n 3, 1) := by decide +kernel
theorem dX11_readExpression_122 : decode cX11_readExpression 122 = .ok (.invokevirtual 275, 3) := by decide +kernel
theorem dX11_readExpression_125 : decode cX11_readExpression 125 = .ok (.goto (-58), 3) := by decide +kernel
theorem dX11_readExpression_128 : decode cX11_readExpression 128 = .ok (.return_, 1) := by decide +kernel
theorem dX11_readTest_0 : decode cX11_readTest 0 = .ok (.aload_n 0, 1) := by decide +kernel
theorem dX11_readTest_1 : decode cX11_readTest 1 = .ok (.ldc_w 278, 3) := by decide +kernel
theorem dX11_readTest_4 : decode cX11_readTest 4 = .ok (.invokevirtual 251, 3) := by decide +kernel
theorem dX11_readTest_7 : decode cX11_readTest 7 = .ok (.istore_n 2, 1) := by decide +kernel
theorem dX11_readTest_8 : decode cX11_readTest 8 = .ok (.iload_n 2, 1) := by decide +kernel
theorem dX11_readTest_9 : decode cX11_readTest 9 = .ok (.ifCond .eq 7, 3) := by decide +kernel
theorem dX11_readTest_12 : decode cX11_readTest 12 = .ok (.aload_n 0, 1) := by decide +kernel
theorem dX11_readTest_13 : decode cX11_readTest 13 = .ok (.invokevirtual 246, 3) := by decide +kernel
theorem dX11_readTest_16 : decode cX11_readTest 16 = .ok (.aload_n 0, 1) := by decide +kernel
theorem dX11_readTest_17 : decode cX11_readTest 17 = .ok (.iload_n 1, 1) := by decide +kernel
theorem dX11_readTest_18 : decode cX11_readTest 18 = .ok (.invokevirtual 280, 3) := by decide +kernel
theorem dX11_readTest_21 : decode cX11_readTest 21 = .ok (.aload_n 0, 1) := by decide +kernel
theorem dX11_readTest_22 : decode cX11_readTest 22 = .ok (.getfield 234, 3) := by decide +kernel
theorem dX11_readTest_25 : decode cX11_readTest 25 = .ok (.ifCond .ne 50, 3) := by decide +kernel
theorem dX11_readTest_28 : decode cX11_readTest 28 = .ok (.aload_n 0, 1) := by decide +kernel
theorem dX11_readTest_29 : decode cX11_readTest 29 = .ok (.bipush 60, 2) := by decide +kernel
theorem dX11_readTest_31 : decode cX11_readTest 31 = .ok (.invokevirtual 265, 3) := by decide +kernel
theorem dX11_readTest_34 : decode cX11_readTest 34 = .ok (.ifCond .ne 12, 3) := by decide +kernel
theorem dX11_readTest_37 : decode cX11_readTest 37 = .ok (.aload_n 0, 1) := by decide +kernel
theorem dX11_readTest_38 : decode cX11_readTest 38 = .ok (.bipush 61, 2) := by decide +kernel
theorem dX11_readTest_40 : decode cX11_readTest 40 = .ok (.invokevirtual 265, 3) := by decide +kernel
theorem dX11_readTest_43 : decode cX11_readTest 43 = .ok (.ifCond .eq 32, 3) := by decide +kernel
theorem dX11_readTest_46 : decode cX11_readTest 46 = .ok (.aload_n 0, 1) := by decide +kernel
theorem dX11_readTest_47 : decode cX11_readTest 47 = .ok (.bipush 60, 2) := by decide +kernel
theorem dX11_readTest_49 : decode cX11_readTest 49 = .ok (.invokevirtual 265, 3) := by decide +kernel
theorem dX11_readTest_52 : decode cX11_readTest 52 = .ok (.ifCond .eq 7, 3) := by decide +kernel
theorem dX11_readTest_55 : decode cX11_readTest 55 = .ok (.iconst 3, 1) := by decide +kernel
theorem dX11_readTest_56 : decode cX11_readTest 56 = .ok (.goto 4, 3) := by decide +kernel
theorem dX11_readTest_59 : decode cX11_readTest 59 = .ok (.iconst 4, 1) := by decide +kernel
theorem dX11_readTest_60 : decode cX11_readTest 60 = .ok (.istore_n 3, 1) := by decide +kernel
theorem dX11_readTest_61 : decode cX11_readTest 61 = .ok (.aload_n 0, 1) := by decide +kernel
theorem dX11_readTest_62 : decode cX11_readTest 62 = .ok (.invokevirtual 246, 3) := by decide +kernel
theorem dX11_readTest_65 : decode cX11_readTest 65 = .ok (.aload_n 0, 1) := by decide +kernel
theorem dX11_readTest_66 : decode cX11_readTest 66 = .ok (.iload_n 1, 1) := by decide +kernel
theorem dX11_readTest_67 : decode cX11_readTest 67 = .ok (.invokevirtual 280, 3) := by decide +kernel
theorem dX11_readTest_70 : decode cX11_readTest 70 = .ok (.aload_n 0, 1) := by decide +kernel
theorem dX11_readTest_71 : decode cX11_readTest 71 = .ok (.iload_n 3, 1) := by decide +kernel
theorem dX11_readTest_72 : decode cX11_readTest 72 = .ok (.invokevirtual 275, 3) := by decide +kernel
theorem dX11_readTest_75 : decode cX11_readTest 75 = .ok (.iload_n 2, 1) := by decide +kernel
theorem dX11_readTest_76 : decode cX11_readTest 76 = .ok (.ifCond .eq 9, 3) := by decide +kernel
theorem dX11_readTest_79 : decode cX11_readTest 79 = .ok (.aload_n 0, 1) := by decide +kernel
theorem dX11_readTest_80 : decode cX11_readTest 80 = .ok (.bipush 7, 2) := by decide +kernel
theorem dX11_readTest_82 : decode cX11_readTest 82 = .ok (.invokevirtual 275, 3) := by decide +kernel
theorem dX11_readTest_85 : decode cX11_readTest 85 = .ok (.return_, 1) := by decide +kernel
theorem dX11_readSum_0 : decode cX11_readSum 0 = .ok (.aload_n 0, 1) := by decide +kernel
theorem dX11_readSum_1 : decode cX11_readSum 1 = .ok (.iload_n 1, 1) := by decide +kernel
theorem dX11_readSum_2 : decode cX11_readSum 2 = .ok (.invokevirtual 283, 3) := by decide +kernel
theorem dX11_readSum_5 : decode cX11_readSum 5 = .ok (.aload_n 0, 1) := by decide +kernel
theorem dX11_readSum_6 : decode cX11_readSum 6 = .ok (.getfield 234, 3) := by decide +kernel
theorem dX11_readSum_9 : decode cX11_readSum 9 = .ok (.ifCond .ne 53, 3) := by decide +kernel
theorem dX11_readSum_12 : decode cX11_readSum 12 = .ok (.aload_n 0, 1) := by decide +kernel
theorem dX11_readSum_13 : decode cX11_readSum 13 = .ok (.bipush 43, 2) := by decide +kernel
theorem dX11_readSum_15 : decode cX11_readSum 15 = .ok (.invokevirtual 265, 3) := by decide +kernel
theorem dX11_readSum_18 : decode cX11_readSum 18 = .ok (.ifCond .ne 12, 3) := by decide +kernel
theorem dX11_readSum_21 : decode cX11_readSum 21 = .ok (.aload_n 0, 1) := by decide +kernel
theorem dX11_readSum_22 : decode cX11_readSum 22 = .ok (.bipush 45, 2) := by decide +kernel
theorem dX11_readSum_24 : decode cX11_readSum 24 = .ok (.invokevirtual 265, 3) := by decide +kernel
theorem dX11_readSum_27 : decode cX11_readSum 27 = .ok (.ifCond .eq 35, 3) := by decide +kernel
theorem dX11_readSum_30 : decode cX11_readSum 30 = .ok (.aload_n 0, 1) := by decide +kernel
theorem dX11_readSum_31 : decode cX11_readSum 31 = .ok (.bipush 43, 2) := by decide +kernel
theorem dX11_readSum_33 : decode cX11_readSum 33 = .ok (.invokevirtual 265, 3) := by decide +kernel
theorem dX11_readSum_36 : decode cX11_readSum 36 = .ok (.ifCond .eq 7, 3) := by decide +kernel
theorem dX11_readSum_39 : decode cX11_readSum 39 = .ok (.iconst 1, 1) := by decide +kernel
theorem dX11_readSum_40 : decode cX11_readSum 40 = .ok (.goto 4, 3) := by decide +kernel
theorem dX11_readSum_43 : decode cX11_readSum 43 = .ok (.iconst 2, 1) := by decide +kernel
theorem dX11_readSum_44 : decode cX11_readSum 44 = .ok (.istore_n 2, 1) := by decide +kernel
theorem dX11_readSum_45 : decode cX11_readSum 45 = .ok (.aload_n 0, 1) := by decide +kernel
theorem dX11_readSum_46 : decode cX11_readSum 46 = .ok (.invokevirtual 246, 3) := by decide +kernel
theorem dX11_readSum_49 : decode cX11_readSum 49 = .ok (.aload_n 0, 1) := by decide +kernel
theorem dX11_readSum_50 : decode cX11_readSum 50 = .ok (.iload_n 1, 1) := by decide +kernel
theorem dX11_readSum_51 : decode cX11_readSum 51 = .ok (.invokevirtual 283, 3) := by decide +kernel
theorem dX11_readSum_54 : decode cX11_readSum 54 = .ok (.aload_n 0, 1) := by decide +kernel
theorem dX11_readSum_55 : decode cX11_readSum 55 = .ok (.iload_n 2, 1) := by decide +kernel
theorem dX11_readSum_56 : decode cX11_readSum 56 = .ok (.invokevirtual 275, 3) := by decide +kernel
theorem dX11_readSum_59 : decode cX11_readSum 59 = .ok (.goto (-54), 3) := by decide +kernel
theorem dX11_readSum_62 : decode cX11_readSum 62 = .ok (.return_, 1) := by decide +kernel
theorem dX11_readPart_0 : decode cX11_readPart 0 = .ok (.aload_n 0, 1) := by decide +kernel
theorem dX11_readPart_1 : decode cX11_readPart 1 = .ok (.getfield 234, 3) := by decide +kernel
theorem dX11_readPart_4 : decode cX11_readPart 4 = .ok (.ifCond .eq 4, 3) := by decide +kernel
theorem dX11_readPart_7 : decode cX11_readPart 7 = .ok (.return_, 1) := by decide +kernel
theorem dX11_readPart_8 : decode cX11_readPart 8 = .ok (.aload_n 0, 1) := by decide +kernel
theorem dX11_readPart_9 : decode cX11_readPart 9 = .ok (.getfield 215, 3) := by decide +kernel
theorem dX11_readPart_12 : decode cX11_readPart 12 = .ok (.iconst 2, 1) := by decide +kernel
theorem dX11_readPart_13 : decode cX11_readPart 13 = .ok (.if_icmp .ne 77, 3) := by decide +kernel
theorem dX11_readPart_16 : decode cX11_readPart 16 = .ok (.aload_n 0, 1) := by decide +kernel
theorem dX11_readPart_17 : decode cX11_readPart 17 = .ok (.getfield 224, 3) := by decide +kernel
theorem dX11_readPart_20 : decode cX11_readPart 20 = .ok (.aload_n 0, 1) := by decide +kernel
theorem dX11_readPart_21 : decode cX11_readPart 21 = .ok (.getfield 209, 3) := by decide +kernel
theorem dX11_readPart_24 : decode cX11_readPart 24 = .ok (.isub, 1) := by decide +kernel
theorem dX11_readPart_25 : decode cX11_readPart 25 = .ok (.iconst 4, 1) := by decide +kernel
theorem dX11_readPart_26 : decode cX11_readPart 26 = .ok (.if_icmp .le 8, 3) := by decide +kernel
theorem dX11_readPart_29 : decode cX11_readPart 29 = .ok (.aload_n 0, 1) := by decide +kernel
theorem dX11_readPart_30 : decode cX11_readPart 30 = .ok (.iconst 2, 1) := by decide +kernel
theorem dX11_readPart_31 : decode cX11_readPart 31 = .ok (.invokevirtual 259, 3) := by decide +kernel
theorem dX11_readPart_34 : decode cX11_readPart 34 = .ok (.iconst 0, 1) := by decide +kernel
theorem dX11_readPart_35 : decode cX11_readPart 35 = .ok (.istore_n 2, 1) := by decide +kernel
theorem dX11_readPart_36 : decode cX11_readPart 36 = .ok (.aload_n 0, 1) := by decide +kernel
theorem dX11_readPart_37 : decode cX11_readPart 37 = .ok (.getfield 209, 3) := by decide +kernel
theorem dX11_readPart_40 : decode cX11_readPart 40 = .ok (.istore_n 3, 1) := by decide +kernel
theorem dX11_readPart_41 : decode cX11_readPart 41 = .ok (.iload_n 3, 1) := by decide +kernel
theorem dX11_readPart_42 : decode cX11_readPart 42 = .ok (.aload_n 0, 1) := by decide +kernel
theorem dX11_readPart_43 : decode cX11_readPart 43 = .ok (.getfield 224, 3) := by decide +kernel
theorem dX11_readPart_46 : decode cX11_readPart 46 = .ok (.if_icmp .ge 31, 3) := by decide +kernel
theorem dX11_readPart_49 : decode cX11_readPart 49 = .ok (.aload_n 0, 1) := by decide +kernel
theorem dX11_readPart_50 : decode cX11_readPart 50 = .ok (.getfield 234, 3) := by decide +kernel
theorem dX11_readPart_53 : decode cX11_readPart 53 = .ok (.ifCond .ne 24, 3) := by decide +kernel
theorem dX11_readPart_56 : decode cX11_readPart 56 = .ok (.bipush 10, 2) := by decide +kernel
theorem dX11_readPart_58 : decode cX11_readPart 58 = .ok (.iload_n 2, 1) := by decide +kernel
theorem dX11_readPart_59 : decode cX11_readPart 59 = .ok (.imul, 1) := by decide +kernel
theorem dX11_readPart_60 : decode cX11_readPart 60 = .ok (.aload_n 0, 1) := by decide +kernel
theorem dX11_readPart_61 : decode cX11_readPart 61 = .ok (.getfield 72, 3) := by decide +kernel
theorem dX11_readPart_64 : decode cX11_readPart 64 = .ok (.iload_n 3, 1) := by decide +kernel
theorem dX11_readPart_65 : decode cX11_readPart 65 = .ok (.iaload, 1) := by decide +kernel
theorem dX11_readPart_66 : decode cX11_readPart 66 = .ok (.iadd, 1) := by decide +kernel
theorem dX11_readPart_67 : decode cX11_readPart 67 = .ok (.bipush 48, 2) := by decide +kernel
theorem dX11_readPart_69 : decode cX11_readPart 69 = .ok (.isub, 1) := by decide +kernel
theorem dX11_readPart_70 : decode cX11_readPart 70 = .ok (.istore_n 2, 1) := by decide +kernel
theorem dX11_readPart_71 : decode cX11_readPart 71 = .ok (.iinc 3 1, 3) := by decide +kernel
theorem dX11_readPart_74 : decode cX11_readPart 74 = .ok (.goto (-33), 3) := by decide +kernel
theorem dX11_readPart_77 : decode cX11_readPart 77 = .ok (.aload_n 0, 1) := by decide +kernel
theorem dX11_readPart_78 : decode cX11_readPart 78 = .ok (.iconst 0, 1) := by decide +kernel
theorem dX11_readPart_79 : decode cX11_readPart 79 = .ok (.invokevirtual 275, 3) := by decide +kernel
theorem dX11_readPart_82 : decode cX11_readPart 82 = .ok (.aload_n 0, 1) := by decide +kernel
theorem dX11_readPart_83 : decode cX11_readPart 83 = .ok (.iload_n 2, 1) := by decide +kernel
theorem dX11_readPart_84 : decode cX11_readPart 84 = .ok (.invokevirtual 275, 3) := by decide +kernel
theorem dX11_readPart_87 : decode cX11_readPart 87 = .ok (.goto 112, 3) := by decide +kernel
theorem dX11_readPart_90 : decode cX11_readPart 90 = .ok (.aload_n 0, 1) := by decide +kernel
theorem dX11_readPart_91 : decode cX11_readPart 91 = .ok (.getfield 215, 3) := by decide +kernel
theorem dX11_readPart_94 : decode cX11_readPart 94 = .ok (.iconst 1, 1) := by decide +kernel
theorem dX11_readPart_95 : decode cX11_readPart 95 = .ok (.if_icmp .ne 55, 3) := by decide +kernel
theorem dX11_readPart_98 : decode cX11_readPart 98 = .ok (.iconst (-1), 1) := by decide +kernel
theorem dX11_readPart_99 : decode cX11_readPart 99 = .ok (.istore_n 2, 1) := by decide +kernel
theorem dX11_readPart_100 : decode cX11_readPart 100 = .ok (.iconst 0, 1) := by decide +kernel
theorem dX11_readPart_101 : decode cX11_readPart 101 = .ok (.istore_n 3, 1) := by decide +kernel
theorem dX11_readPart_102 : decode cX11_readPart 102 = .ok (.iload_n 3, 1) := by decide +kernel
theorem dX11_readPart_103 : decode cX11_readPart 103 = .ok (.bipush 8, 2) := by decide +kernel
theorem dX11_readPart_105 : decode cX11_readPart 105 = .ok (.if_icmp .ge 24, 3) := by decide +kernel
theorem dX11_readPart_108 : decode cX11_readPart 108 = .ok (.aload_n 0, 1) := by decide +kernel
theorem dX11_readPart_109 : decode cX11_readPart 109 = .ok (.aload_n 0, 1) := by decide +kernel
theorem dX11_readPart_110 : decode cX11_readPart 110 = .ok (.getfield 25, 3) := by decide +kernel
theorem dX11_readPart_113 : decode cX11_readPart 113 = .ok (.iload_n 3, 1) := by decide +kernel
theorem dX11_readPart_114 : decode cX11_readPart 114 = .ok (.aaload, 1) := by decide +kernel
theorem dX11_readPart_115 : decode cX11_readPart 115 = .ok (.invokevirtual 251, 3) := by decide +kernel
theorem dX11_readPart_118 : decode cX11_readPart 118 = .ok (.ifCond .eq 5, 3) := by decide +kernel
theorem dX11_readPart_121 : decode cX11_readPart 121 = .ok (.iload_n 3, 1) := by decide +kernel
theorem dX11_readPart_122 : decode cX11_readPart 122 = .ok (.istore_n 2, 1) := by decide +kernel
theorem dX11_readPart_123 : decode cX11_readPart 123 = .ok (.iinc 3 1, 3) := by decide +kernel
theorem dX11_readPart_126 : decode cX11_readPart 126 = .ok (.goto (-24), 3) := by decide +kernel
theorem dX11_readPart_129 : decode cX11_readPart 129 = .ok (.iload_n 2, 1) := by decide +kernel
theorem dX11_readPart_130 : decode cX11_readPart 130 = .ok (.iconst (-1), 1) := by decide +kernel
theorem dX11_readPart_131 : decode cX11_readPart 131 = .ok (.if_icmp .ne 8, 3) := by decide +kernel
theorem dX11_readPart_134 : decode cX11_readPart 134 = .ok (.aload_n 0, 1) := by decide +kernel
theorem dX11_readPart_135 : decode cX11_readPart 135 = .ok (.iconst 3, 1) := by decide +kernel
theorem dX11_readPart_136 : decode cX11_readPart 136 = .ok (.invokevirtual 259, 3) := by decide +kernel
theorem dX11_readPart_139 : decode cX11_readPart 139 = .ok (.aload_n 0, 1) := by decide +kernel
theorem dX11_readPart_140 : decode cX11_readPart 140 = .ok (.bipush 20, 2) := by decide +kernel
theorem dX11_readPart_142 : decode cX11_readPart 142 = .ok (.iload_n 2, 1) := by decide +kernel
theorem dX11_readPart_143 : decode cX11_readPart 143 = .ok (.iadd, 1) := by decide +kernel
theorem dX11_readPart_144 : decode cX11_readPart 144 = .ok (.invokevirtual 275, 3) := by decide +kernel
theorem dX11_readPart_147 : decode cX11_readPart 147 = .ok (.goto 52, 3) := by decide +kernel
theorem dX11_readPart_150 : decode cX11_readPart 150 = .ok (.aload_n 0, 1) := by decide +kernel
theorem dX11_readPart_151 : decode cX11_readPart 151 = .ok (.bipush 40, 2) := by decide +kernel
theorem dX11_readPart_153 : decode cX11_readPart 153 = .ok (.invokevirtual 265, 3) := by decide +kernel
theorem dX11_readPart_156 : decode cX11_readPart 156 = .ok (.ifCond .eq 38, 3) := by decide +kernel
theorem dX11_readPart_159 : decode cX11_readPart 159 = .ok (.aload_n 0, 1) := by decide +kernel
theorem dX11_readPart_160 : decode cX11_readPart 160 = .ok (.invokevirtual 246, 3) := by decide +kernel
theorem dX11_readPart_163 : decode cX11_readPart 163 = .ok (.aload_n 0, 1) := by decide +kernel
theorem dX11_readPart_164 : decode cX11_readPart 164 = .ok (.iload_n 1, 1) := by decide +kernel
theorem dX11_readPart_165 : decode cX11_readPart 165 = .ok (.iconst 1, 1) := by decide +kernel
theorem dX11_readPart_166 : decode cX11_readPart 166 = .ok (.iadd, 1) := by decide +kernel
theorem dX11_readPart_167 : decode cX11_readPart 167 = .ok (.invokevirtual 262, 3) := by decide +kernel
theorem dX11_readPart_170 : decode cX11_readPart 170 = .ok (.aload_n 0, 1) := by decide +kernel
theorem dX11_readPart_171 : decode cX11_readPart 171 = .ok (.getfield 234, 3) := by decide +kernel
theorem dX11_readPart_174 : decode cX11_readPart 174 = .ok (.ifCond .ne 25, 3) := by decide +kernel
theorem dX11_readPart_177 : decode cX11_readPart 177 = .ok (.aload_n 0, 1) := by decide +kernel
theorem dX11_readPart_178 : decode cX11_readPart 178 = .ok (.bipush 41, 2) := by decide +kernel
theorem dX11_readPart_180 : decode cX11_readPart 180 = .ok (.invokevirtual 265, 3) := by decide +kernel
theorem dX11_readPart_183 : decode cX11_readPart 183 = .ok (.ifCond .ne 16, 3) := by decide +kernel
theorem dX11_readPart_186 : decode cX11_readPart 186 = .ok (.aload_n 0, 1) := by decide +kernel
theorem dX11_readPart_187 : decode cX11_readPart 187 = .ok (.iconst 1, 1) := by decide +kernel
theorem dX11_readPart_188 : decode cX11_readPart 188 = .ok (.invokevirtual 259, 3) := by decide +kernel
theorem dX11_readPart_191 : decode cX11_readPart 191 = .ok (.goto 8, 3) := by decide +kernel
theorem dX11_readPart_194 : decode cX11_readPart 194 = .ok (.aload_n 0, 1) := by decide +kernel
theorem dX11_readPart_195 : decode cX11_readPart 195 = .ok (.iconst 1, 1) := by decide +kernel
theorem dX11_readPart_196 : decode cX11_readPart 196 = .ok (.invokevirtual 259, 3) := by decide +kernel
theorem dX11_readPart_199 : decode cX11_readPart 199 = .ok (.aload_n 0, 1) := by decide +kernel
theorem dX11_readPart_200 : decode cX11_readPart 200 = .ok (.getfield 234, 3) := by decide +kernel
theorem dX11_readPart_203 : decode cX11_readPart 203 = .ok (.ifCond .ne 7, 3) := by decide +kernel
theorem dX11_readPart_206 : decode cX11_readPart 206 = .ok (.aload_n 0, 1) := by decide +kernel
theorem dX11_readPart_207 : decode cX11_readPart 207 = .ok (.invokevirtual 246, 3) := by decide +kernel
theorem dX11_readPart_210 : decode cX11_readPart 210 = .ok (.return_, 1) := by decide +kernel
theorem dX11_text_0 : decode cX11_text 0 = .ok (.aload_n 0, 1) := by decide +kernel
theorem dX11_text_1 : decode cX11_text 1 = .ok (.iconst 0, 1) := by decide +kernel
theorem dX11_text_2 : decode cX11_text 2 = .ok (.putfield 110, 3) := by decide +kernel
theorem dX11_text_5 : decode cX11_text 5 = .ok (.iload_n 1, 1) := by decide +kernel
theorem dX11_text_6 : decode cX11_text 6 = .ok (.ifCond .lt 18, 3) := by decide +kernel
theorem dX11_text_9 : decode cX11_text 9 = .ok (.iload_n 1, 1) := by decide +kernel
theorem dX11_text_10 : decode cX11_text 10 = .ok (.aload_n 0, 1) := by decide +kernel
theorem dX11_text_11 : decode cX11_text 11 = .ok (.getfield 197, 3) := by decide +kernel
theorem dX11_text_14 : decode cX11_text 14 = .ok (.if_icmp .gt 10, 3) := by decide +kernel
theorem dX11_text_17 : decode cX11_text 17 = .ok (.iload_n 2, 1) := by decide +kernel
theorem dX11_text_18 : decode cX11_text 18 = .ok (.invokestatic 116, 3) := by decide +kernel
theorem dX11_text_21 : decode cX11_text 21 = .ok (.ifCond .ne 8, 3) := by decide +kernel
theorem dX11_text_24 : decode cX11_text 24 = .ok (.aload_n 0, 1) := by decide +kernel
theorem dX11_text_25 : decode cX11_text 25 = .ok (.invokevirtual 127, 3) := by decide +kernel
theorem dX11_text_28 : decode cX11_text 28 = .ok (.ireturn, 1) := by decide +kernel
theorem dX11_text_29 : decode cX11_text 29 = .ok (.aload_n 0, 1) := by decide +kernel
theorem dX11_text_30 : decode cX11_text 30 = .ok (.iconst 0, 1) := by decide +kernel
theorem dX11_text_31 : decode cX11_text 31 = .ok (.putfield 197, 3) := by decide +kernel
theorem dX11_text_34 : decode cX11_text 34 = .ok (.aload_n 0, 1) := by decide +kernel
theorem dX11_text_35 : decode cX11_text 35 = .ok (.iconst (-1), 1) := by decide +kernel
theorem dX11_text_36 : decode cX11_text 36 = .ok (.putfield 31, 3) := by decide +kernel
theorem dX11_text_39 : decode cX11_text 39 = .ok (.aload_n 0, 1) := by decide +kernel
theorem dX11_text_40 : decode cX11_text 40 = .ok (.getfield 240, 3) := by decide +kernel
theorem dX11_text_43 : decode cX11_text 43 = .ok (.bipush 6, 2) := by decide +kernel
theorem dX11_text_45 : decode cX11_text 45 = .ok (.if_icmp .ne 6, 3) := by decide +kernel
theorem dX11_text_48 : decode cX11_text 48 = .ok (.bipush (-9), 2) := by decide +kernel
theorem dX11_text_50 : decode cX11_text 50 = .ok (.ireturn, 1) := by decide +kernel
theorem dX11_text_51 : decode cX11_text 51 = .ok (.aload_n 0, 1) := by decide +kernel
theorem dX11_text_52 : decode cX11_text 52 = .ok (.iload_n 1, 1) := by decide +kernel
theorem dX11_text_53 : decode cX11_text 53 = .ok (.putfield 200, 3) := by decide +kernel
theorem dX11_text_56 : decode cX11_text 56 = .ok (.aload_n 0, 1) := by decide +kernel
theorem dX11_text_57 : decode cX11_text 57 = .ok (.iconst 0, 1) := by decide +kernel
theorem dX11_text_58 : decode cX11_text 58 = .ok (.putfield 203, 3) := by decide +kernel
theorem dX11_text_61 : decode cX11_text 61 = .ok (.aload_n 0, 1) := by decide +kernel
theorem dX11_text_62 : decode cX11_text 62 = .ok (.iconst 0, 1) := by decide +kernel
theorem dX11_text_63 : decode cX11_text 63 = .ok (.putfield 234, 3) := by decide +kernel
theorem dX11_text_66 : decode cX11_text 66 = .ok (.aload_n 0, 1) := by decide +kernel
theorem dX11_text_67 : decode cX11_text 67 = .ok (.iconst 0, 1) := by decide +kernel
theorem dX11_text_68 : decode cX11_text 68 = .ok (.putfield 243, 3) := by decide +kernel
theorem dX11_text_71 : decode cX11_text 71 = .ok (.aload_n 0, 1) := by decide +kernel
theorem dX11_text_72 : decode cX11_text 72 = .ok (.invokevirtual 286, 3) := by decide +kernel
theorem dX11_text_75 : decode cX11_text 75 = .ok (.aload_n 0, 1) := by decide +kernel
theorem dX11_text_76 : decode cX11_text 76 = .ok (.getfield 234, 3) := by decide +kernel
theorem dX11_text_79 : decode cX11_text 79 = .ok (.ifCond .eq 18, 3) := by decide +kernel
theorem dX11_text_82 : decode cX11_text 82 = .ok (.aload_n 0, 1) := by decide +kernel
theorem dX11_text_83 : decode cX11_text 83 = .ok (.aload_n 0, 1) := by decide +kernel
theorem dX11_text_84 : decode cX11_text 84 = .ok (.getfield 237, 3) := by decide +kernel
theorem dX11_text_87 : decode cX11_text 87 = .ok (.putfield 31, 3) := by decide +kernel
theorem dX11_text_90 : decode cX11_text 90 = .ok (.iconst (-1), 1) := by decide +kernel
theorem dX11_text_91 : decode cX11_text 91 = .ok (.aload_n 0, 1) := by decide +kernel
theorem dX11_text_92 : decode cX11_text 92 = .ok (.getfield 234, 3) := by decide +kernel
theorem dX11_text_95 : decode cX11_text 95 = .ok (.isub, 1) := by decide +kernel
theorem dX11_text_96 : decode cX11_text 96 = .ok (.ireturn, 1) := by decide +kernel
theorem dX11_text_97 : decode cX11_text 97 = .ok (.aload_n 0, 1) := by decide +kernel
theorem dX11_text_98 : decode cX11_text 98 = .ok (.getfield 75, 3) := by decide +kernel
theorem dX11_text_101 : decode cX11_text 101 = .ok (.aload_n 0, 1) := by decide +kernel
theorem dX11_text_102 : decode cX11_text 102 = .ok (.getfield 240, 3) := by decide +kernel
theorem dX11_text_105 : decode cX11_text 105 = .ok (.iload_n 2, 1) := by decide +kernel
theorem dX11_text_106 : decode cX11_text 106 = .ok (.iastore, 1) := by decide +kernel
theorem dX11_text_107 : decode cX11_text 107 = .ok (.aload_n 0, 1) := by decide +kernel
theorem dX11_text_108 : decode cX11_text 108 = .ok (.dup, 1) := by decide +kernel
theorem dX11_text_109 : decode cX11_text 109 = .ok (.getfield 240, 3) := by decide +kernel
theorem dX11_text_112 : decode cX11_text 112 = .ok (.iconst 1, 1) := by decide +kernel
theorem dX11_text_113 : decode cX11_text 113 = .ok (.iadd, 1) := by decide +kernel
theorem dX11_text_114 : decode cX11_text 114 = .ok (.putfield 240, 3) := by decide +kernel
theorem dX11_text_117 : decode cX11_text 117 = .ok (.aload_n 0, 1) := by decide +kernel
theorem dX11_text_118 : decode cX11_text 118 = .ok (.getfield 240, 3) := by decide +kernel
theorem dX11_text_121 : decode cX11_text 121 = .ok (.iconst 1, 1) := by decide +kernel
theorem dX11_text_122 : decode cX11_text 122 = .ok (.isub, 1) := by decide +kernel
theorem dX11_text_123 : decode cX11_text 123 = .ok (.ireturn, 1) := by decide +kernel
theorem dX11_fault_0 : decode cX11_fault 0 = .ok (.aload_n 0, 1) := by decide +kernel
theorem dX11_fault_1 : decode cX11_fault 1 = .ok (.iconst 0, 1) := by decide +kernel
theorem dX11_fault_2 : decode cX11_fault 2 = .ok (.putfield 110, 3) := by decide +kernel
theorem dX11_fault_5 : decode cX11_fault 5 = .ok (.aload_n 0, 1) := by decide +kernel
theorem dX11_fault_6 : decode cX11_fault 6 = .ok (.getfield 31, 3) := by decide +kernel
theorem dX11_fault_9 : decode cX11_fault 9 = .ok (.ireturn, 1) := by decide +kernel
theorem dX11_value_0 : decode cX11_value 0 = .ok (.iload_n 1, 1) := by decide +kernel
theorem dX11_value_1 : decode cX11_value 1 = .ok (.tableswitch 95 0 6 #[43, 50, 57, 59, 66, 81, 88], 43) := by decide +kernel
theorem dX11_value_44 : decode cX11_value 44 = .ok (.aload_n 0, 1) := by decide +kernel
theorem dX11_value_45 : decode cX11_value 45 = .ok (.iload_n 2, 1) := by decide +kernel
theorem dX11_value_46 : decode cX11_value 46 = .ok (.iload_n 3, 1) := by decide +kernel
theorem dX11_value_47 : decode cX11_value 47 = .ok (.invokevirtual 172, 3) := by decide +kernel
theorem dX11_value_50 : decode cX11_value 50 = .ok (.ireturn, 1) := by decide +kernel
theorem dX11_value_51 : decode cX11_value 51 = .ok (.aload_n 0, 1) := by decide +kernel
theorem dX11_value_52 : decode cX11_value 52 = .ok (.iload_n 2, 1) := by decide +kernel
theorem dX11_value_53 : decode cX11_value 53 = .ok (.iload_n 3, 1) := by decide +kernel
theorem dX11_value_54 : decode cX11_value 54 = .ok (.invokevirtual 160, 3) := by decide +kernel
theorem dX11_value_57 : decode cX11_value 57 = .ok (.ireturn, 1) := by decide +kernel
theorem dX11_value_58 : decode cX11_value 58 = .ok (.iload_n 3, 1) := by decide +kernel
theorem dX11_value_59 : decode cX11_value 59 = .ok (.ireturn, 1) := by decide +kernel
theorem dX11_value_60 : decode cX11_value 60 = .ok (.aload_n 0, 1) := by decide +kernel
theorem dX11_value_61 : decode cX11_value 61 = .ok (.getfield 39, 3) := by decide +kernel
theorem dX11_value_64 : decode cX11_value 64 = .ok (.iload_n 2, 1) := by decide +kernel
theorem dX11_value_65 : decode cX11_value 65 = .ok (.iaload, 1) := by decide +kernel
theorem dX11_value_66 : decode cX11_value 66 = .ok (.ireturn, 1) := by decide +kernel
theorem dX11_value_67 : decode cX11_value 67 = .ok (.aload_n 0, 1) := by decide +kernel
theorem dX11_value_68 : decode cX11_value 68 = .ok (.getfield 35, 3) := by decide +kernel
theorem dX11_value_71 : decode cX11_value 71 = .ok (.iload_n 2, 1) := by decide +kernel
theorem dX11_value_72 : decode cX11_value 72 = .ok (.baload, 1) := by decide +kernel
theorem dX11_value_73 : decode cX11_value 73 = .ok (.ifCond .eq 7, 3) := by decide +kernel
theorem dX11_value_76 : decode cX11_value 76 = .ok (.iconst 1, 1) := by decide +kernel
theorem dX11_value_77 : decode cX11_value 77 = .ok (.goto 4, 3) := by decide +kernel
theorem dX11_value_80 : decode cX11_value 80 = .ok (.iconst 0, 1) := by decide +kernel
theorem dX11_value_81 : decode cX11_value 81 = .ok (.ireturn, 1) := by decide +kernel
theorem dX11_value_82 : decode cX11_value 82 = .ok (.aload_n 0, 1) := by decide +kernel
theorem dX11_value_83 : decode cX11_value 83 = .ok (.iload_n 2, 1) := by decide +kernel
theorem dX11_value_84 : decode cX11_value 84 = .ok (.iload_n 3, 1) := by decide +kernel
theorem dX11_value_85 : decode cX11_value 85 = .ok (.invokevirtual 178, 3) := by decide +kernel
theorem dX11_value_88 : decode cX11_value 88 = .ok (.ireturn, 1) := by decide +kernel
theorem dX11_value_89 : decode cX11_value 89 = .ok (.aload_n 0, 1) := by decide +kernel
theorem dX11_value_90 : decode cX11_value 90 = .ok (.iload_n 2, 1) := by decide +kernel
theorem dX11_value_91 : decode cX11_value 91 = .ok (.iload_n 3, 1) := by decide +kernel
theorem dX11_value_92 : decode cX11_value 92 = .ok (.invokevirtual 191, 3) := by decide +kernel
theorem dX11_value_95 : decode cX11_value 95 = .ok (.ireturn, 1) := by decide +kernel
theorem dX11_value_96 : decode cX11_value 96 = .ok (.aload_n 0, 1) := by decide +kernel
theorem dX11_value_97 : decode cX11_value 97 = .ok (.iload_n 2, 1) := by decide +kernel
theorem dX11_value_98 : decode cX11_value 98 = .ok (.iload_n 3, 1) := by decide +kernel
theorem dX11_value_99 : decode cX11_value 99 = .ok (.invokevirtual 188, 3) := by decide +kernel
theorem dX11_value_102 : decode cX11_value 102 = .ok (.ireturn, 1) := by decide +kernel
theorem dX11_two_0 : decode cX11_two 0 = .ok (.iload_n 0, 1) := by decide +kernel
theorem dX11_two_1 : decode cX11_two 1 = .ok (.tableswitch 79 1 5 #[35, 39, 43, 54, 65], 35) := by decide +kernel
theorem dX11_two_36 : decode cX11_two 36 = .ok (.iload_n 1, 1) := by decide +kernel
theorem dX11_two_37 : decode cX11_two 37 = .ok (.iload_n 2, 1) := by decide +kernel
theorem dX11_two_38 : decode cX11_two 38 = .ok (.iadd, 1) := by decide +kernel
theorem dX11_two_39 : decode cX11_two 39 = .ok (.ireturn, 1) := by decide +kernel
theorem dX11_two_40 : decode cX11_two 40 = .ok (.iload_n 1, 1) := by decide +kernel
theorem dX11_two_41 : decode cX11_two 41 = .ok (.iload_n 2, 1) := by decide +kernel
theorem dX11_two_42 : decode cX11_two 42 = .ok (.isub, 1) := by decide +kernel
theorem dX11_two_43 : decode cX11_two 43 = .ok (.ireturn, 1) := by decide +kernel
theorem dX11_two_44 : decode cX11_two 44 = .ok (.iload_n 1, 1) := by decide +kernel
theorem dX11_two_45 : decode cX11_two 45 = .ok (.iload_n 2, 1) := by decide +kernel
theorem dX11_two_46 : decode cX11_two 46 = .ok (.if_icmp .ge 7, 3) := by decide +kernel
theorem dX11_two_49 : decode cX11_two 49 = .ok (.iconst 1, 1) := by decide +kernel
theorem dX11_two_50 : decode cX11_two 50 = .ok (.goto 4, 3) := by decide +kernel
theorem dX11_two_53 : decode cX11_two 53 = .ok (.iconst 0, 1) := by decide +kernel
theorem dX11_two_54 : decode cX11_two 54 = .ok (.ireturn, 1) := by decide +kernel
theorem dX11_two_55 : decode cX11_two 55 = .ok (.iload_n 1, 1) := by decide +kernel
theorem dX11_two_56 : decode cX11_two 56 = .ok (.iload_n 2, 1) := by decide +kernel
theorem dX11_two_57 : decode cX11_two 57 = .ok (.if_icmp .ne 7, 3) := by decide +kernel
theorem dX11_two_60 : decode cX11_two 60 = .ok (.iconst 1, 1) := by decide +kernel
theorem dX11_two_61 : decode cX11_two 61 = .ok (.goto 4, 3) := by decide +kernel
theorem dX11_two_64 : decode cX11_two 64 = .ok (.iconst 0, 1) := by decide +kernel
theorem dX11_two_65 : decode cX11_two 65 = .ok (.ireturn, 1) := by decide +kernel
theorem dX11_two_66 : decode cX11_two 66 = .ok (.iload_n 1, 1) := by decide +kernel
theorem dX11_two_67 : decode cX11_two 67 = .ok (.ifCond .eq 11, 3) := by decide +kernel
theorem dX11_two_70 : decode cX11_two 70 = .ok (.iload_n 2, 1) := by decide +kernel
theorem dX11_two_71 : decode cX11_two 71 = .ok (.ifCond .eq 7, 3) := by decide +kernel
theorem dX11_two_74 : decode cX11_two 74 = .ok (.iconst 1, 1) := by decide +kernel
theorem dX11_two_75 : decode cX11_two 75 = .ok (.goto 4, 3) := by decide +kernel
theorem dX11_two_78 : decode cX11_two 78 = .ok (.iconst 0, 1) := by decide +kernel
theorem dX11_two_79 : decode cX11_two 79 = .ok (.ireturn, 1) := by decide +kernel
theorem dX11_two_80 : decode cX11_two 80 = .ok (.iload_n 1, 1) := by decide +kernel
theorem dX11_two_81 : decode cX11_two 81 = .ok (.ifCond .ne 7, 3) := by decide +kernel
theorem dX11_two_84 : decode cX11_two 84 = .ok (.iload_n 2, 1) := by decide +kernel
theorem dX11_two_85 : decode cX11_two 85 = .ok (.ifCond .eq 7, 3) := by decide +kernel
theorem dX11_two_88 : decode cX11_two 88 = .ok (.iconst 1, 1) := by decide +kernel
theorem dX11_two_89 : decode cX11_two 89 = .ok (.goto 4, 3) := by decide +kernel
theorem dX11_two_92 : decode cX11_two 92 = .ok (.iconst 0, 1) := by decide +kernel
theorem dX11_two_93 : decode cX11_two 93 = .ok (.ireturn, 1) := by decide +kernel
theorem dX11_told_0 : decode cX11_told 0 = .ok (.aload_n 0, 1) := by decide +kernel
theorem dX11_told_1 : decode cX11_told 1 = .ok (.iconst 0, 1) := by decide +kernel
theorem dX11_told_2 : decode cX11_told 2 = .ok (.putfield 289, 3) := by decide +kernel
theorem dX11_told_5 : decode cX11_told 5 = .ok (.iload_n 1, 1) := by decide +kernel
theorem dX11_told_6 : decode cX11_told 6 = .ok (.istore 5, 2) := by decide +kernel
theorem dX11_told_8 : decode cX11_told 8 = .ok (.iload 5, 2) := by decide +kernel
theorem dX11_told_10 : decode cX11_told 10 = .ok (.iload_n 2, 1) := by decide +kernel
theorem dX11_told_11 : decode cX11_told 11 = .ok (.if_icmp .ge 182, 3) := by decide +kernel
theorem dX11_told_14 : decode cX11_told 14 = .ok (.aload_n 0, 1) := by decide +kernel
theorem dX11_told_15 : decode cX11_told 15 = .ok (.getfield 84, 3) := by decide +kernel
theorem dX11_told_18 : decode cX11_told 18 = .ok (.iload 5, 2) := by decide +kernel
theorem dX11_told_20 : decode cX11_told 20 = .ok (.iaload, 1) := by decide +kernel
theorem dX11_told_21 : decode cX11_told 21 = .ok (.istore 6, 2) := by decide +kernel
theorem dX11_told_23 : decode cX11_told 23 = .ok (.iload 6, 2) := by decide +kernel
theorem dX11_told_25 : decode cX11_told 25 = .ok (.ifCond .ne 35, 3) := by decide +kernel
theorem dX11_told_28 : decode cX11_told 28 = .ok (.iinc 5 1, 3) := by decide +kernel
theorem dX11_told_31 : decode cX11_told 31 = .ok (.aload_n 0, 1) := by decide +kernel
theorem dX11_told_32 : decode cX11_told 32 = .ok (.getfield 87, 3) := by decide +kernel
theorem dX11_told_35 : decode cX11_told 35 = .ok (.aload_n 0, 1) := by decide +kernel
theorem dX11_told_36 : decode cX11_told 36 = .ok (.getfield 289, 3) := by decide +kernel
theorem dX11_told_39 : decode cX11_told 39 = .ok (.aload_n 0, 1) := by decide +kernel
theorem dX11_told_40 : decode cX11_told 40 = .ok (.getfield 84, 3) := by decide +kernel
theorem dX11_told_43 : decode cX11_told 43 = .ok (.iload 5, 2) := by decide +kernel
theorem dX11_told_45 : decode cX11_told 45 = .ok (.iaload, 1) := by decide +kernel
theorem dX11_told_46 : decode cX11_told 46 = .ok (.iastore, 1) := by decide +kernel
theorem dX11_told_47 : decode cX11_told 47 = .ok (.aload_n 0, 1) := by decide +kernel
theorem dX11_told_48 : decode cX11_told 48 = .ok (.dup, 1) := by decide +kernel
theorem dX11_told_49 : decode cX11_told 49 = .ok (.getfield 289, 3) := by decide +kernel
theorem dX11_told_52 : decode cX11_told 52 = .ok (.iconst 1, 1) := by decide +kernel
theorem dX11_told_53 : decode cX11_told 53 = .ok (.iadd, 1) := by decide +kernel
theorem dX11_told_54 : decode cX11_told 54 = .ok (.putfield 289, 3) := by decide +kernel
theorem dX11_told_57 : decode cX11_told 57 = .ok (.goto 130, 3) := by decide +kernel
theorem dX11_told_60 : decode cX11_told 60 = .ok (.iload 6, 2) := by decide +kernel
theorem dX11_told_62 : decode cX11_told 62 = .ok (.bipush 20, 2) := by decide +kernel
theorem dX11_told_64 : decode cX11_told 64 = .ok (.if_icmp .lt 37, 3) := by decide +kernel
theorem dX11_told_67 : decode cX11_told 67 = .ok (.aload_n 0, 1) := by decide +kernel
theorem dX11_told_68 : decode cX11_told 68 = .ok (.getfield 87, 3) := by decide +kernel
theorem dX11_told_71 : decode cX11_told 71 = .ok (.aload_n 0, 1) := by decide +kernel
theorem dX11_told_72 : decode cX11_told 72 = .ok (.getfield 289, 3) := by decide +kernel
theorem dX11_told_75 : decode cX11_told 75 = .ok (.aload_n 0, 1) := by decide +kernel
theorem dX11_told_76 : decode cX11_told 76 = .ok (.iload 6, 2) := by decide +kernel
theorem dX11_told_78 : decode cX11_told 78 = .ok (.bipush 20, 2) := by decide +kernel
theorem dX11_told_80 : decode cX11_told 80 = .ok (.isub, 1) := by decide +kernel
theorem dX11_told_81 : decode cX11_told 81 = .ok (.iload_n 3, 1) := by decide +kernel
theorem dX11_told_82 : decode cX11_told 82 = .ok (.iload 4, 2) := by decide +kernel
theorem dX11_told_84 : decode cX11_told 84 = .ok (.invokevirtual 292, 3) := by decide +kernel
theorem dX11_told_87 : decode cX11_told 87 = .ok (.iastore, 1) := by decide +kernel
theorem dX11_told_88 : decode cX11_told 88 = .ok (.aload_n 0, 1) := by decide +kernel
theorem dX11_told_89 : decode cX11_told 89 = .ok (.dup, 1) := by decide +kernel
theorem dX11_told_90 : decode cX11_told 90 = .ok (.getfield 289, 3) := by decide +kernel
theorem dX11_told_93 : decode cX11_told 93 = .ok (.iconst 1, 1) := by decide +kernel
theorem dX11_told_94 : decode cX11_told 94 = .ok (.iadd, 1) := by decide +kernel
theorem dX11_told_95 : decode cX11_told 95 = .ok (.putfield 289, 3) := by decide +kernel
theorem dX11_told_98 : decode cX11_told 98 = .ok (.goto 89, 3) := by decide +kernel
theorem dX11_told_101 : decode cX11_told 101 = .ok (.iload 6, 2) := by decide +kernel
theorem dX11_told_103 : decode cX11_told 103 = .ok (.bipush 7, 2) := by decide +kernel
theorem dX11_told_105 : decode cX11_told 105 = .ok (.if_icmp .ne 36, 3) := by decide +kernel
theorem dX11_told_108 : decode cX11_told 108 = .ok (.aload_n 0, 1) := by decide +kernel
theorem dX11_told_109 : decode cX11_told 109 = .ok (.getfield 87, 3) := by decide +kernel
theorem dX11_told_112 : decode cX11_told 112 = .ok (.aload_n 0, 1) := by decide +kernel
theorem dX11_told_113 : decode cX11_told 113 = .ok (.getfield 289, 3) := by decide +kernel
theorem dX11_told_116 : decode cX11_told 116 = .ok (.iconst 1, 1) := by decide +kernel
theorem dX11_told_117 : decode cX11_told 117 = .ok (.isub, 1) := by decide +kernel
theorem dX11_told_118 : decode cX11_told 118 = .ok (.aload_n 0, 1) := by decide +kernel
theorem dX11_told_119 : decode cX11_told 119 = .ok (.getfield 87, 3) := by decide +kernel
theorem dX11_told_122 : decode cX11_told 122 = .ok (.aload_n 0, 1) := by decide +kernel
theorem dX11_told_123 : decode cX11_told 123 = .ok (.getfield 289, 3) := by decide +kernel
