theorem dX11_told_126 : decode cX11_told 126 = .ok (.iconst 1, 1) := by decide +kernel
theorem dX11_told_127 : decode cX11_told 127 = .ok (.isub, 1) := by decide +kernel
theorem dX11_told_128 : decode cX11_told 128 = .ok (.iaload, 1) := by decide +kernel
theorem dX11_told_129 : decode cX11_told 129 = .ok (.ifCond .ne 7, 3) := by decide +kernel
theorem dX11_told_132 : decode cX11_told 132 = .ok (.iconst 1, 1) := by decide +kernel
theorem dX11_told_133 : decode cX11_told 133 = .ok (.goto 4, 3) := by decide +kernel
theorem dX11_told_136 : decode cX11_told 136 = .ok (.iconst 0, 1) := by decide +kernel
theorem dX11_told_137 : decode cX11_told 137 = .ok (.iastore, 1) := by decide +kernel
theorem dX11_told_138 : decode cX11_told 138 = .ok (.goto 49, 3) := by decide +kernel
theorem dX11_told_141 : decode cX11_told 141 = .ok (.aload_n 0, 1) := by decide +kernel
theorem dX11_told_142 : decode cX11_told 142 = .ok (.dup, 1) := by decide +kernel
theorem dX11_told_143 : decode cX11_told 143 = .ok (.getfield 289, 3) := by decide +kernel
theorem dX11_told_146 : decode cX11_told 146 = .ok (.iconst 1, 1) := by decide +kernel
theorem dX11_told_147 : decode cX11_told 147 = .ok (.isub, 1) := by decide +kernel
theorem dX11_told_148 : decode cX11_told 148 = .ok (.putfield 289, 3) := by decide +kernel
theorem dX11_told_151 : decode cX11_told 151 = .ok (.aload_n 0, 1) := by decide +kernel
theorem dX11_told_152 : decode cX11_told 152 = .ok (.getfield 87, 3) := by decide +kernel
theorem dX11_told_155 : decode cX11_told 155 = .ok (.aload_n 0, 1) := by decide +kernel
theorem dX11_told_156 : decode cX11_told 156 = .ok (.getfield 289, 3) := by decide +kernel
theorem dX11_told_159 : decode cX11_told 159 = .ok (.iconst 1, 1) := by decide +kernel
theorem dX11_told_160 : decode cX11_told 160 = .ok (.isub, 1) := by decide +kernel
theorem dX11_told_161 : decode cX11_told 161 = .ok (.iload 6, 2) := by decide +kernel
theorem dX11_told_163 : decode cX11_told 163 = .ok (.aload_n 0, 1) := by decide +kernel
theorem dX11_told_164 : decode cX11_told 164 = .ok (.getfield 87, 3) := by decide +kernel
theorem dX11_told_167 : decode cX11_told 167 = .ok (.aload_n 0, 1) := by decide +kernel
theorem dX11_told_168 : decode cX11_told 168 = .ok (.getfield 289, 3) := by decide +kernel
theorem dX11_told_171 : decode cX11_told 171 = .ok (.iconst 1, 1) := by decide +kernel
theorem dX11_told_172 : decode cX11_told 172 = .ok (.isub, 1) := by decide +kernel
theorem dX11_told_173 : decode cX11_told 173 = .ok (.iaload, 1) := by decide +kernel
theorem dX11_told_174 : decode cX11_told 174 = .ok (.aload_n 0, 1) := by decide +kernel
theorem dX11_told_175 : decode cX11_told 175 = .ok (.getfield 87, 3) := by decide +kernel
theorem dX11_told_178 : decode cX11_told 178 = .ok (.aload_n 0, 1) := by decide +kernel
theorem dX11_told_179 : decode cX11_told 179 = .ok (.getfield 289, 3) := by decide +kernel
theorem dX11_told_182 : decode cX11_told 182 = .ok (.iaload, 1) := by decide +kernel
theorem dX11_told_183 : decode cX11_told 183 = .ok (.invokestatic 296, 3) := by decide +kernel
theorem dX11_told_186 : decode cX11_told 186 = .ok (.iastore, 1) := by decide +kernel
theorem dX11_told_187 : decode cX11_told 187 = .ok (.iinc 5 1, 3) := by decide +kernel
theorem dX11_told_190 : decode cX11_told 190 = .ok (.goto (-182), 3) := by decide +kernel
theorem dX11_told_193 : decode cX11_told 193 = .ok (.aload_n 0, 1) := by decide +kernel
theorem dX11_told_194 : decode cX11_told 194 = .ok (.getfield 87, 3) := by decide +kernel
theorem dX11_told_197 : decode cX11_told 197 = .ok (.iconst 0, 1) := by decide +kernel
theorem dX11_told_198 : decode cX11_told 198 = .ok (.iaload, 1) := by decide +kernel
theorem dX11_told_199 : decode cX11_told 199 = .ok (.ireturn, 1) := by decide +kernel
theorem dX11_ruled_0 : decode cX11_ruled 0 = .ok (.iconst (-1), 1) := by decide +kernel
theorem dX11_ruled_1 : decode cX11_ruled 1 = .ok (.istore 4, 2) := by decide +kernel
theorem dX11_ruled_3 : decode cX11_ruled 3 = .ok (.iconst 0, 1) := by decide +kernel
theorem dX11_ruled_4 : decode cX11_ruled 4 = .ok (.istore 5, 2) := by decide +kernel
theorem dX11_ruled_6 : decode cX11_ruled 6 = .ok (.iload 5, 2) := by decide +kernel
theorem dX11_ruled_8 : decode cX11_ruled 8 = .ok (.aload_n 0, 1) := by decide +kernel
theorem dX11_ruled_9 : decode cX11_ruled 9 = .ok (.getfield 240, 3) := by decide +kernel
theorem dX11_ruled_12 : decode cX11_ruled 12 = .ok (.if_icmp .ge 47, 3) := by decide +kernel
theorem dX11_ruled_15 : decode cX11_ruled 15 = .ok (.aload_n 0, 1) := by decide +kernel
theorem dX11_ruled_16 : decode cX11_ruled 16 = .ok (.getfield 75, 3) := by decide +kernel
theorem dX11_ruled_19 : decode cX11_ruled 19 = .ok (.iload 5, 2) := by decide +kernel
theorem dX11_ruled_21 : decode cX11_ruled 21 = .ok (.iaload, 1) := by decide +kernel
theorem dX11_ruled_22 : decode cX11_ruled 22 = .ok (.iload_n 3, 1) := by decide +kernel
theorem dX11_ruled_23 : decode cX11_ruled 23 = .ok (.if_icmp .gt 30, 3) := by decide +kernel
theorem dX11_ruled_26 : decode cX11_ruled 26 = .ok (.iload 4, 2) := by decide +kernel
theorem dX11_ruled_28 : decode cX11_ruled 28 = .ok (.iconst (-1), 1) := by decide +kernel
theorem dX11_ruled_29 : decode cX11_ruled 29 = .ok (.if_icmp .eq 20, 3) := by decide +kernel
theorem dX11_ruled_32 : decode cX11_ruled 32 = .ok (.aload_n 0, 1) := by decide +kernel
theorem dX11_ruled_33 : decode cX11_ruled 33 = .ok (.getfield 75, 3) := by decide +kernel
theorem dX11_ruled_36 : decode cX11_ruled 36 = .ok (.iload 5, 2) := by decide +kernel
theorem dX11_ruled_38 : decode cX11_ruled 38 = .ok (.iaload, 1) := by decide +kernel
theorem dX11_ruled_39 : decode cX11_ruled 39 = .ok (.aload_n 0, 1) := by decide +kernel
theorem dX11_ruled_40 : decode cX11_ruled 40 = .ok (.getfield 75, 3) := by decide +kernel
theorem dX11_ruled_43 : decode cX11_ruled 43 = .ok (.iload 4, 2) := by decide +kernel
theorem dX11_ruled_45 : decode cX11_ruled 45 = .ok (.iaload, 1) := by decide +kernel
theorem dX11_ruled_46 : decode cX11_ruled 46 = .ok (.if_icmp .lt 7, 3) := by decide +kernel
theorem dX11_ruled_49 : decode cX11_ruled 49 = .ok (.iload 5, 2) := by decide +kernel
theorem dX11_ruled_51 : decode cX11_ruled 51 = .ok (.istore 4, 2) := by decide +kernel
theorem dX11_ruled_53 : decode cX11_ruled 53 = .ok (.iinc 5 1, 3) := by decide +kernel
theorem dX11_ruled_56 : decode cX11_ruled 56 = .ok (.goto (-50), 3) := by decide +kernel
theorem dX11_ruled_59 : decode cX11_ruled 59 = .ok (.iconst 0, 1) := by decide +kernel
theorem dX11_ruled_60 : decode cX11_ruled 60 = .ok (.istore 5, 2) := by decide +kernel
theorem dX11_ruled_62 : decode cX11_ruled 62 = .ok (.iconst 0, 1) := by decide +kernel
theorem dX11_ruled_63 : decode cX11_ruled 63 = .ok (.istore 6, 2) := by decide +kernel
theorem dX11_ruled_65 : decode cX11_ruled 65 = .ok (.iload 4, 2) := by decide +kernel
theorem dX11_ruled_67 : decode cX11_ruled 67 = .ok (.iconst (-1), 1) := by decide +kernel
theorem dX11_ruled_68 : decode cX11_ruled 68 = .ok (.if_icmp .eq 115, 3) := by decide +kernel
theorem dX11_ruled_71 : decode cX11_ruled 71 = .ok (.iload 6, 2) := by decide +kernel
theorem dX11_ruled_73 : decode cX11_ruled 73 = .ok (.aload_n 0, 1) := by decide +kernel
theorem dX11_ruled_74 : decode cX11_ruled 74 = .ok (.getfield 78, 3) := by decide +kernel
theorem dX11_ruled_77 : decode cX11_ruled 77 = .ok (.iload 4, 2) := by decide +kernel
theorem dX11_ruled_79 : decode cX11_ruled 79 = .ok (.iaload, 1) := by decide +kernel
theorem dX11_ruled_80 : decode cX11_ruled 80 = .ok (.if_icmp .ge 103, 3) := by decide +kernel
theorem dX11_ruled_83 : decode cX11_ruled 83 = .ok (.aload_n 0, 1) := by decide +kernel
theorem dX11_ruled_84 : decode cX11_ruled 84 = .ok (.getfield 90, 3) := by decide +kernel
theorem dX11_ruled_87 : decode cX11_ruled 87 = .ok (.bipush 12, 2) := by decide +kernel
theorem dX11_ruled_89 : decode cX11_ruled 89 = .ok (.iload 4, 2) := by decide +kernel
theorem dX11_ruled_91 : decode cX11_ruled 91 = .ok (.imul, 1) := by decide +kernel
theorem dX11_ruled_92 : decode cX11_ruled 92 = .ok (.iload 6, 2) := by decide +kernel
theorem dX11_ruled_94 : decode cX11_ruled 94 = .ok (.iadd, 1) := by decide +kernel
theorem dX11_ruled_95 : decode cX11_ruled 95 = .ok (.iaload, 1) := by decide +kernel
theorem dX11_ruled_96 : decode cX11_ruled 96 = .ok (.iload_n 1, 1) := by decide +kernel
theorem dX11_ruled_97 : decode cX11_ruled 97 = .ok (.if_icmp .eq 6, 3) := by decide +kernel
theorem dX11_ruled_100 : decode cX11_ruled 100 = .ok (.goto 77, 3) := by decide +kernel
theorem dX11_ruled_103 : decode cX11_ruled 103 = .ok (.bipush 13, 2) := by decide +kernel
theorem dX11_ruled_105 : decode cX11_ruled 105 = .ok (.iload 4, 2) := by decide +kernel
theorem dX11_ruled_107 : decode cX11_ruled 107 = .ok (.imul, 1) := by decide +kernel
theorem dX11_ruled_108 : decode cX11_ruled 108 = .ok (.iload 6, 2) := by decide +kernel
theorem dX11_ruled_110 : decode cX11_ruled 110 = .ok (.iadd, 1) := by decide +kernel
theorem dX11_ruled_111 : decode cX11_ruled 111 = .ok (.istore 7, 2) := by decide +kernel
theorem dX11_ruled_113 : decode cX11_ruled 113 = .ok (.aload_n 0, 1) := by decide +kernel
theorem dX11_ruled_114 : decode cX11_ruled 114 = .ok (.sipush 700, 3) := by decide +kernel
theorem dX11_ruled_117 : decode cX11_ruled 117 = .ok (.iload 4, 2) := by decide +kernel
theorem dX11_ruled_119 : decode cX11_ruled 119 = .ok (.imul, 1) := by decide +kernel
theorem dX11_ruled_120 : decode cX11_ruled 120 = .ok (.aload_n 0, 1) := by decide +kernel
theorem dX11_ruled_121 : decode cX11_ruled 121 = .ok (.getfield 81, 3) := by decide +kernel
theorem dX11_ruled_124 : decode cX11_ruled 124 = .ok (.iload 7, 2) := by decide +kernel
theorem dX11_ruled_126 : decode cX11_ruled 126 = .ok (.iaload, 1) := by decide +kernel
theorem dX11_ruled_127 : decode cX11_ruled 127 = .ok (.iadd, 1) := by decide +kernel
theorem dX11_ruled_128 : decode cX11_ruled 128 = .ok (.sipush 700, 3) := by decide +kernel
theorem dX11_ruled_131 : decode cX11_ruled 131 = .ok (.iload 4, 2) := by decide +kernel
theorem dX11_ruled_133 : decode cX11_ruled 133 = .ok (.imul, 1) := by decide +kernel
theorem dX11_ruled_134 : decode cX11_ruled 134 = .ok (.aload_n 0, 1) := by decide +kernel
theorem dX11_ruled_135 : decode cX11_ruled 135 = .ok (.getfield 81, 3) := by decide +kernel
theorem dX11_ruled_138 : decode cX11_ruled 138 = .ok (.iload 7, 2) := by decide +kernel
theorem dX11_ruled_140 : decode cX11_ruled 140 = .ok (.iconst 1, 1) := by decide +kernel
theorem dX11_ruled_141 : decode cX11_ruled 141 = .ok (.iadd, 1) := by decide +kernel
theorem dX11_ruled_142 : decode cX11_ruled 142 = .ok (.iaload, 1) := by decide +kernel
theorem dX11_ruled_143 : decode cX11_ruled 143 = .ok (.iadd, 1) := by decide +kernel
theorem dX11_ruled_144 : decode cX11_ruled 144 = .ok (.iload_n 2, 1) := by decide +kernel
theorem dX11_ruled_145 : decode cX11_ruled 145 = .ok (.iload_n 3, 1) := by decide +kernel
theorem dX11_ruled_146 : decode cX11_ruled 146 = .ok (.invokevirtual 299, 3) := by decide +kernel
theorem dX11_ruled_149 : decode cX11_ruled 149 = .ok (.istore 8, 2) := by decide +kernel
theorem dX11_ruled_151 : decode cX11_ruled 151 = .ok (.iload_n 1, 1) := by decide +kernel
theorem dX11_ruled_152 : decode cX11_ruled 152 = .ok (.iconst 2, 1) := by decide +kernel
theorem dX11_ruled_153 : decode cX11_ruled 153 = .ok (.if_icmp .ne 11, 3) := by decide +kernel
theorem dX11_ruled_156 : decode cX11_ruled 156 = .ok (.iload 5, 2) := by decide +kernel
theorem dX11_ruled_158 : decode cX11_ruled 158 = .ok (.iload 8, 2) := by decide +kernel
theorem dX11_ruled_160 : decode cX11_ruled 160 = .ok (.iadd, 1) := by decide +kernel
theorem dX11_ruled_161 : decode cX11_ruled 161 = .ok (.goto 14, 3) := by decide +kernel
theorem dX11_ruled_164 : decode cX11_ruled 164 = .ok (.iload 8, 2) := by decide +kernel
theorem dX11_ruled_166 : decode cX11_ruled 166 = .ok (.ifCond .eq 7, 3) := by decide +kernel
theorem dX11_ruled_169 : decode cX11_ruled 169 = .ok (.iconst 1, 1) := by decide +kernel
theorem dX11_ruled_170 : decode cX11_ruled 170 = .ok (.goto 5, 3) := by decide +kernel
theorem dX11_ruled_173 : decode cX11_ruled 173 = .ok (.iload 5, 2) := by decide +kernel
theorem dX11_ruled_175 : decode cX11_ruled 175 = .ok (.istore 5, 2) := by decide +kernel
theorem dX11_ruled_177 : decode cX11_ruled 177 = .ok (.iinc 6 1, 3) := by decide +kernel
theorem dX11_ruled_180 : decode cX11_ruled 180 = .ok (.goto (-115), 3) := by decide +kernel
theorem dX11_ruled_183 : decode cX11_ruled 183 = .ok (.iload 5, 2) := by decide +kernel
theorem dX11_ruled_185 : decode cX11_ruled 185 = .ok (.ireturn, 1) := by decide +kernel
theorem dX11_claim_0 : decode cX11_claim 0 = .ok (.aload_n 0, 1) := by decide +kernel
theorem dX11_claim_1 : decode cX11_claim 1 = .ok (.iconst 0, 1) := by decide +kernel
theorem dX11_claim_2 : decode cX11_claim 2 = .ok (.putfield 110, 3) := by decide +kernel
theorem dX11_claim_5 : decode cX11_claim 5 = .ok (.aload_n 0, 1) := by decide +kernel
theorem dX11_claim_6 : decode cX11_claim 6 = .ok (.iload_n 1, 1) := by decide +kernel
theorem dX11_claim_7 : decode cX11_claim 7 = .ok (.invokevirtual 124, 3) := by decide +kernel
theorem dX11_claim_10 : decode cX11_claim 10 = .ok (.ifCond .ne 8, 3) := by decide +kernel
theorem dX11_claim_13 : decode cX11_claim 13 = .ok (.aload_n 0, 1) := by decide +kernel
theorem dX11_claim_14 : decode cX11_claim 14 = .ok (.invokevirtual 127, 3) := by decide +kernel
theorem dX11_claim_17 : decode cX11_claim 17 = .ok (.ireturn, 1) := by decide +kernel
theorem dX11_claim_18 : decode cX11_claim 18 = .ok (.aload_n 0, 1) := by decide +kernel
theorem dX11_claim_19 : decode cX11_claim 19 = .ok (.iload_n 1, 1) := by decide +kernel
theorem dX11_claim_20 : decode cX11_claim 20 = .ok (.iload_n 3, 1) := by decide +kernel
theorem dX11_claim_21 : decode cX11_claim 21 = .ok (.invokevirtual 169, 3) := by decide +kernel
theorem dX11_claim_24 : decode cX11_claim 24 = .ok (.istore 4, 2) := by decide +kernel
theorem dX11_claim_26 : decode cX11_claim 26 = .ok (.iload 4, 2) := by decide +kernel
theorem dX11_claim_28 : decode cX11_claim 28 = .ok (.iconst (-1), 1) := by decide +kernel
theorem dX11_claim_29 : decode cX11_claim 29 = .ok (.if_icmp .eq 9, 3) := by decide +kernel
theorem dX11_claim_32 : decode cX11_claim 32 = .ok (.iload 4, 2) := by decide +kernel
theorem dX11_claim_34 : decode cX11_claim 34 = .ok (.iload_n 2, 1) := by decide +kernel
theorem dX11_claim_35 : decode cX11_claim 35 = .ok (.if_icmp .eq 5, 3) := by decide +kernel
theorem dX11_claim_38 : decode cX11_claim 38 = .ok (.iconst 1, 1) := by decide +kernel
theorem dX11_claim_39 : decode cX11_claim 39 = .ok (.ireturn, 1) := by decide +kernel
theorem dX11_claim_40 : decode cX11_claim 40 = .ok (.aload_n 0, 1) := by decide +kernel
theorem dX11_claim_41 : decode cX11_claim 41 = .ok (.iload_n 1, 1) := by decide +kernel
theorem dX11_claim_42 : decode cX11_claim 42 = .ok (.iload_n 3, 1) := by decide +kernel
theorem dX11_claim_43 : decode cX11_claim 43 = .ok (.invokevirtual 131, 3) := by decide +kernel
theorem dX11_claim_46 : decode cX11_claim 46 = .ok (.ifCond .ne 5, 3) := by decide +kernel
theorem dX11_claim_49 : decode cX11_claim 49 = .ok (.iconst 2, 1) := by decide +kernel
theorem dX11_claim_50 : decode cX11_claim 50 = .ok (.ireturn, 1) := by decide +kernel
theorem dX11_claim_51 : decode cX11_claim 51 = .ok (.aload_n 0, 1) := by decide +kernel
theorem dX11_claim_52 : decode cX11_claim 52 = .ok (.iconst 0, 1) := by decide +kernel
theorem dX11_claim_53 : decode cX11_claim 53 = .ok (.iload_n 1, 1) := by decide +kernel
theorem dX11_claim_54 : decode cX11_claim 54 = .ok (.iload_n 3, 1) := by decide +kernel
theorem dX11_claim_55 : decode cX11_claim 55 = .ok (.invokevirtual 303, 3) := by decide +kernel
theorem dX11_claim_58 : decode cX11_claim 58 = .ok (.ifCond .eq 5, 3) := by decide +kernel
theorem dX11_claim_61 : decode cX11_claim 61 = .ok (.iconst 3, 1) := by decide +kernel
theorem dX11_claim_62 : decode cX11_claim 62 = .ok (.ireturn, 1) := by decide +kernel
theorem dX11_claim_63 : decode cX11_claim 63 = .ok (.aload_n 0, 1) := by decide +kernel
theorem dX11_claim_64 : decode cX11_claim 64 = .ok (.iload_n 1, 1) := by decide +kernel
theorem dX11_claim_65 : decode cX11_claim 65 = .ok (.iload_n 3, 1) := by decide +kernel
theorem dX11_claim_66 : decode cX11_claim 66 = .ok (.invokevirtual 178, 3) := by decide +kernel
theorem dX11_claim_69 : decode cX11_claim 69 = .ok (.ifCond .le 17, 3) := by decide +kernel
theorem dX11_claim_72 : decode cX11_claim 72 = .ok (.aload_n 0, 1) := by decide +kernel
theorem dX11_claim_73 : decode cX11_claim 73 = .ok (.iconst 1, 1) := by decide +kernel
theorem dX11_claim_74 : decode cX11_claim 74 = .ok (.iload_n 1, 1) := by decide +kernel
theorem dX11_claim_75 : decode cX11_claim 75 = .ok (.iload_n 3, 1) := by decide +kernel
theorem dX11_claim_76 : decode cX11_claim 76 = .ok (.invokevirtual 303, 3) := by decide +kernel
theorem dX11_claim_79 : decode cX11_claim 79 = .ok (.ifCond .eq 7, 3) := by decide +kernel
theorem dX11_claim_82 : decode cX11_claim 82 = .ok (.iconst 4, 1) := by decide +kernel
theorem dX11_claim_83 : decode cX11_claim 83 = .ok (.goto 4, 3) := by decide +kernel
theorem dX11_claim_86 : decode cX11_claim 86 = .ok (.iconst 0, 1) := by decide +kernel
theorem dX11_claim_87 : decode cX11_claim 87 = .ok (.ireturn, 1) := by decide +kernel
theorem dX11_fee_0 : decode cX11_fee 0 = .ok (.aload_n 0, 1) := by decide +kernel
theorem dX11_fee_1 : decode cX11_fee 1 = .ok (.iconst 0, 1) := by decide +kernel
theorem dX11_fee_2 : decode cX11_fee 2 = .ok (.putfield 110, 3) := by decide +kernel
theorem dX11_fee_5 : decode cX11_fee 5 = .ok (.aload_n 0, 1) := by decide +kernel
theorem dX11_fee_6 : decode cX11_fee 6 = .ok (.iload_n 1, 1) := by decide +kernel
theorem dX11_fee_7 : decode cX11_fee 7 = .ok (.invokevirtual 124, 3) := by decide +kernel
theorem dX11_fee_10 : decode cX11_fee 10 = .ok (.ifCond .ne 8, 3) := by decide +kernel
theorem dX11_fee_13 : decode cX11_fee 13 = .ok (.aload_n 0, 1) := by decide +kernel
theorem dX11_fee_14 : decode cX11_fee 14 = .ok (.invokevirtual 127, 3) := by decide +kernel
theorem dX11_fee_17 : decode cX11_fee 17 = .ok (.ireturn, 1) := by decide +kernel
theorem dX11_fee_18 : decode cX11_fee 18 = .ok (.aload_n 0, 1) := by decide +kernel
theorem dX11_fee_19 : decode cX11_fee 19 = .ok (.iload_n 1, 1) := by decide +kernel
theorem dX11_fee_20 : decode cX11_fee 20 = .ok (.iload_n 2, 1) := by decide +kernel
theorem dX11_fee_21 : decode cX11_fee 21 = .ok (.invokevirtual 145, 3) := by decide +kernel
theorem dX11_fee_24 : decode cX11_fee 24 = .ok (.iconst (-1), 1) := by decide +kernel
theorem dX11_fee_25 : decode cX11_fee 25 = .ok (.if_icmp .ne 7, 3) := by decide +kernel
theorem dX11_fee_28 : decode cX11_fee 28 = .ok (.iconst 0, 1) := by decide +kernel
theorem dX11_fee_29 : decode cX11_fee 29 = .ok (.goto 10, 3) := by decide +kernel
theorem dX11_fee_32 : decode cX11_fee 32 = .ok (.aload_n 0, 1) := by decide +kernel
theorem dX11_fee_33 : decode cX11_fee 33 = .ok (.iconst 2, 1) := by decide +kernel
theorem dX11_fee_34 : decode cX11_fee 34 = .ok (.iload_n 1, 1) := by decide +kernel
theorem dX11_fee_35 : decode cX11_fee 35 = .ok (.iload_n 2, 1) := by decide +kernel
theorem dX11_fee_36 : decode cX11_fee 36 = .ok (.invokevirtual 303, 3) := by decide +kernel
theorem dX11_fee_39 : decode cX11_fee 39 = .ok (.ireturn, 1) := by decide +kernel
theorem dX11_copy_0 : decode cX11_copy 0 = .ok (.aload_n 0, 1) := by decide +kernel
theorem dX11_copy_1 : decode cX11_copy 1 = .ok (.iconst 0, 1) := by decide +kernel
theorem dX11_copy_2 : decode cX11_copy 2 = .ok (.putfield 110, 3) := by decide +kernel
theorem dX11_copy_5 : decode cX11_copy 5 = .ok (.aload_n 0, 1) := by decide +kernel
theorem dX11_copy_6 : decode cX11_copy 6 = .ok (.getfield 306, 3) := by decide +kernel
theorem dX11_copy_9 : decode cX11_copy 9 = .ok (.bipush 40, 2) := by decide +kernel
theorem dX11_copy_11 : decode cX11_copy 11 = .ok (.if_icmp .eq 10, 3) := by decide +kernel
theorem dX11_copy_14 : decode cX11_copy 14 = .ok (.iload_n 1, 1) := by decide +kernel
theorem dX11_copy_15 : decode cX11_copy 15 = .ok (.invokestatic 116, 3) := by decide +kernel
theorem dX11_copy_18 : decode cX11_copy 18 = .ok (.ifCond .ne 5, 3) := by decide +kernel
theorem dX11_copy_21 : decode cX11_copy 21 = .ok (.iconst (-1), 1) := by decide +kernel
theorem dX11_copy_22 : decode cX11_copy 22 = .ok (.ireturn, 1) := by decide +kernel
theorem dX11_copy_23 : decode cX11_copy 23 = .ok (.aload_n 0, 1) := by decide +kernel
theorem dX11_copy_24 : decode cX11_copy 24 = .ok (.getfield 66, 3) := by decide +kernel
theorem dX11_copy_27 : decode cX11_copy 27 = .ok (.aload_n 0, 1) := by decide +kernel
theorem dX11_copy_28 : decode cX11_copy 28 = .ok (.getfield 306, 3) := by decide +kernel
theorem dX11_copy_31 : decode cX11_copy 31 = .ok (.iload_n 1, 1) := by decide +kernel
theorem dX11_copy_32 : decode cX11_copy 32 = .ok (.iastore, 1) := by decide +kernel
theorem dX11_copy_33 : decode cX11_copy 33 = .ok (.aload_n 0, 1) := by decide +kernel
theorem dX11_copy_34 : decode cX11_copy 34 = .ok (.getfield 69, 3) := by decide +kernel
theorem dX11_copy_37 : decode cX11_copy 37 = .ok (.aload_n 0, 1) := by decide +kernel
theorem dX11_copy_38 : decode cX11_copy 38 = .ok (.getfield 306, 3) := by decide +kernel
theorem dX11_copy_41 : decode cX11_copy 41 = .ok (.iload_n 2, 1) := by decide +kernel
theorem dX11_copy_42 : decode cX11_copy 42 = .ok (.iastore, 1) := by decide +kernel
theorem dX11_copy_43 : decode cX11_copy 43 = .ok (.aload_n 0, 1) := by decide +kernel
theorem dX11_copy_44 : decode cX11_copy 44 = .ok (.dup, 1) := by decide +kernel
theorem dX11_copy_45 : decode cX11_copy 45 = .ok (.getfield 306, 3) := by decide +kernel
theorem dX11_copy_48 : decode cX11_copy 48 = .ok (.iconst 1, 1) := by decide +kernel
theorem dX11_copy_49 : decode cX11_copy 49 = .ok (.iadd, 1) := by decide +kernel
theorem dX11_copy_50 : decode cX11_copy 50 = .ok (.putfield 306, 3) := by decide +kernel
theorem dX11_copy_53 : decode cX11_copy 53 = .ok (.aload_n 0, 1) := by decide +kernel
theorem dX11_copy_54 : decode cX11_copy 54 = .ok (.getfield 306, 3) := by decide +kernel
theorem dX11_copy_57 : decode cX11_copy 57 = .ok (.iconst 1, 1) := by decide +kernel
theorem dX11_copy_58 : decode cX11_copy 58 = .ok (.isub, 1) := by decide +kernel
theorem dX11_copy_59 : decode cX11_copy 59 = .ok (.ireturn, 1) := by decide +kernel
theorem dX11_unlike_0 : decode cX11_unlike 0 = .ok (.iconst 0, 1) := by decide +kernel
theorem dX11_unlike_1 : decode cX11_unlike 1 = .ok (.istore_n 3, 1) := by decide +kernel
theorem dX11_unlike_2 : decode cX11_unlike 2 = .ok (.iconst 0, 1) := by decide +kernel
theorem dX11_unlike_3 : decode cX11_unlike 3 = .ok (.istore 4, 2) := by decide +kernel
theorem dX11_unlike_5 : decode cX11_unlike 5 = .ok (.iload 4, 2) := by decide +kernel
theorem dX11_unlike_7 : decode cX11_unlike 7 = .ok (.bipush 8, 2) := by decide +kernel
theorem dX11_unlike_9 : decode cX11_unlike 9 = .ok (.if_icmp .ge 48, 3) := by decide +kernel
theorem dX11_unlike_12 : decode cX11_unlike 12 = .ok (.iload_n 3, 1) := by decide +kernel
theorem dX11_unlike_13 : decode cX11_unlike 13 = .ok (.aload_n 0, 1) := by decide +kernel
theorem dX11_unlike_14 : decode cX11_unlike 14 = .ok (.getfield 69, 3) := by decide +kernel
theorem dX11_unlike_17 : decode cX11_unlike 17 = .ok (.iload_n 1, 1) := by decide +kernel
theorem dX11_unlike_18 : decode cX11_unlike 18 = .ok (.iaload, 1) := by decide +kernel
theorem dX11_unlike_19 : decode cX11_unlike 19 = .ok (.iconst 4, 1) := by decide +kernel
theorem dX11_unlike_20 : decode cX11_unlike 20 = .ok (.iload 4, 2) := by decide +kernel
theorem dX11_unlike_22 : decode cX11_unlike 22 = .ok (.imul, 1) := by decide +kernel
theorem dX11_unlike_23 : decode cX11_unlike 23 = .ok (.ishr, 1) := by decide +kernel
theorem dX11_unlike_24 : decode cX11_unlike 24 = .ok (.bipush 15, 2) := by decide +kernel
theorem dX11_unlike_26 : decode cX11_unlike 26 = .ok (.iand, 1) := by decide +kernel
theorem dX11_unlike_27 : decode cX11_unlike 27 = .ok (.aload_n 0, 1) := by decide +kernel
theorem dX11_unlike_28 : decode cX11_unlike 28 = .ok (.getfield 69, 3) := by decide +kernel
theorem dX11_unlike_31 : decode cX11_unlike 31 = .ok (.iload_n 2, 1) := by decide +kernel
theorem dX11_unlike_32 : decode cX11_unlike 32 = .ok (.iaload, 1) := by decide +kernel
theorem dX11_unlike_33 : decode cX11_unlike 33 = .ok (.iconst 4, 1) := by decide +kernel
theorem dX11_unlike_34 : decode cX11_unlike 34 = .ok (.iload 4, 2) := by decide +kernel
theorem dX11_unlike_36 : decode cX11_unlike 36 = .ok (.imul, 1) := by decide +kernel
theorem dX11_unlike_37 : decode cX11_unlike 37 = .ok (.ishr, 1) := by decide +kernel
theorem dX11_unlike_38 : decode cX11_unlike 38 = .ok (.bipush 15, 2) := by decide +kernel
theorem dX11_unlike_40 : decode cX11_unlike 40 = .ok (.iand, 1) := by decide +kernel
theorem dX11_unlike_41 : decode cX11_unlike 41 = .ok (.if_icmp .ne 7, 3) := by decide +kernel
theorem dX11_unlike_44 : decode cX11_unlike 44 = .ok (.iconst 0, 1) := by decide +kernel
theorem dX11_unlike_45 : decode cX11_unlike 45 = .ok (.goto 4, 3) := by decide +kernel
theorem dX11_unlike_48 : decode cX11_unlike 48 = .ok (.iconst 1, 1) := by decide +kernel
theorem dX11_unlike_49 : decode cX11_unlike 49 = .ok (.iadd, 1) := by decide +kernel
theorem dX11_unlike_50 : decode cX11_unlike 50 = .ok (.istore_n 3, 1) := by decide +kernel
theorem dX11_unlike_51 : decode cX11_unlike 51 = .ok (.iinc 4 1, 3) := by decide +kernel
theorem dX11_unlike_54 : decode cX11_unlike 54 = .ok (.goto (-49), 3) := by decide +kernel
theorem dX11_unlike_57 : decode cX11_unlike 57 = .ok (.iload_n 3, 1) := by decide +kernel
theorem dX11_unlike_58 : decode cX11_unlike 58 = .ok (.ireturn, 1) := by decide +kernel
theorem dX11_takenFrom_0 : decode cX11_takenFrom 0 = .ok (.iconst (-1), 1) := by decide +kernel
theorem dX11_takenFrom_1 : decode cX11_takenFrom 1 = .ok (.istore_n 2, 1) := by decide +kernel
theorem dX11_takenFrom_2 : decode cX11_takenFrom 2 = .ok (.iconst 0, 1) := by decide +kernel
theorem dX11_takenFrom_3 : decode cX11_takenFrom 3 = .ok (.istore_n 3, 1) := by decide +kernel
theorem dX11_takenFrom_4 : decode cX11_takenFrom 4 = .ok (.iload_n 3, 1) := by decide +kernel
theorem dX11_takenFrom_5 : decode cX11_takenFrom 5 = .ok (.aload_n 0, 1) := by decide +kernel
theorem dX11_takenFrom_6 : decode cX11_takenFrom 6 = .ok (.getfield 306, 3) := by decide +kernel
theorem dX11_takenFrom_9 : decode cX11_takenFrom 9 = .ok (.if_icmp .ge 83, 3) := by decide +kernel
theorem dX11_takenFrom_12 : decode cX11_takenFrom 12 = .ok (.aload_n 0, 1) := by decide +kernel
theorem dX11_takenFrom_13 : decode cX11_takenFrom 13 = .ok (.getfield 66, 3) := by decide +kernel
theorem dX11_takenFrom_16 : decode cX11_takenFrom 16 = .ok (.iload_n 3, 1) := by decide +kernel
theorem dX11_takenFrom_17 : decode cX11_takenFrom 17 = .ok (.iaload, 1) := by decide +kernel
theorem dX11_takenFrom_18 : decode cX11_takenFrom 18 = .ok (.aload_n 0, 1) := by decide +kernel
theorem dX11_takenFrom_19 : decode cX11_takenFrom 19 = .ok (.getfield 66, 3) := by decide +kernel
theorem dX11_takenFrom_22 : decode cX11_takenFrom 22 = .ok (.iload_n 1, 1) := by decide +kernel
theorem dX11_takenFrom_23 : decode cX11_takenFrom 23 = .ok (.iaload, 1) := by decide +kernel
theorem dX11_takenFrom_24 : decode cX11_takenFrom 24 = .ok (.if_icmp .lt 6, 3) := by decide +kernel
theorem dX11_takenFrom_27 : decode cX11_takenFrom 27 = .ok (.goto 59, 3) := by decide +kernel
theorem dX11_takenFrom_30 : decode cX11_takenFrom 30 = .ok (.iload_n 2, 1) := by decide +kernel
theorem dX11_takenFrom_31 : decode cX11_takenFrom 31 = .ok (.iconst (-1), 1) := by decide +kernel
theorem dX11_takenFrom_32 : decode cX11_takenFrom 32 = .ok (.if_icmp .ne 7, 3) := by decide +kernel
theorem dX11_takenFrom_35 : decode cX11_takenFrom 35 = .ok (.iconst 0, 1) := by decide +kernel
theorem dX11_takenFrom_36 : decode cX11_takenFrom 36 = .ok (.goto 16, 3) := by decide +kernel
theorem dX11_takenFrom_39 : decode cX11_takenFrom 39 = .ok (.aload_n 0, 1) := by decide +kernel
theorem dX11_takenFrom_40 : decode cX11_takenFrom 40 = .ok (.iload_n 1, 1) := by decide +kernel
theorem dX11_takenFrom_41 : decode cX11_takenFrom 41 = .ok (.iload_n 3, 1) := by decide +kernel
theorem dX11_takenFrom_42 : decode cX11_takenFrom 42 = .ok (.invokevirtual 309, 3) := by decide +kernel
theorem dX11_takenFrom_45 : decode cX11_takenFrom 45 = .ok (.aload_n 0, 1) := by decide +kernel
theorem dX11_takenFrom_46 : decode cX11_takenFrom 46 = .ok (.iload_n 1, 1) := by decide +kernel
theorem dX11_takenFrom_47 : decode cX11_takenFrom 47 = .ok (.iload_n 2, 1) := by decide +kernel
theorem dX11_takenFrom_48 : decode cX11_takenFrom 48 = .ok (.invokevirtual 309, 3) := by decide +kernel
theorem dX11_takenFrom_51 : decode cX11_takenFrom 51 = .ok (.isub, 1) := by decide +kernel
theorem dX11_takenFrom_52 : decode cX11_takenFrom 52 = .ok (.istore 4, 2) := by decide +kernel
theorem dX11_takenFrom_54 : decode cX11_takenFrom 54 = .ok (.iload_n 2, 1) := by decide +kernel
theorem dX11_takenFrom_55 : decode cX11_takenFrom 55 = .ok (.iconst (-1), 1) := by decide +kernel
theorem dX11_takenFrom_56 : decode cX11_takenFrom 56 = .ok (.if_icmp .eq 28, 3) := by decide +kernel
theorem dX11_takenFrom_59 : decode cX11_takenFrom 59 = .ok (.iload 4, 2) := by decide +kernel
theorem dX11_takenFrom_61 : decode cX11_takenFrom 61 = .ok (.ifCond .lt 23, 3) := by decide +kernel
theorem dX11_takenFrom_64 : decode cX11_takenFrom 64 = .ok (.iload 4, 2) := by decide +kernel
theorem dX11_takenFrom_66 : decode cX11_takenFrom 66 = .ok (.ifCond .ne 20, 3) := by decide +kernel
theorem dX11_takenFrom_69 : decode cX11_takenFrom 69 = .ok (.aload_n 0, 1) := by decide +kernel
theorem dX11_takenFrom_70 : decode cX11_takenFrom 70 = .ok (.getfield 66, 3) := by decide +kernel
theorem dX11_takenFrom_73 : decode cX11_takenFrom 73 = .ok (.iload_n 3, 1) := by decide +kernel
theorem dX11_takenFrom_74 : decode cX11_takenFrom 74 = .ok (.iaload, 1) := by decide +kernel
theorem dX11_takenFrom_75 : decode cX11_takenFrom 75 = .ok (.aload_n 0, 1) := by decide +kernel
theorem dX11_takenFrom_76 : decode cX11_takenFrom 76 = .ok (.getfield 66, 3) := by decide +kernel
theorem dX11_takenFrom_79 : decode cX11_takenFrom 79 = .ok (.iload_n 2, 1) := by decide +kernel
theorem dX11_takenFrom_80 : decode cX11_takenFrom 80 = .ok (.iaload, 1) := by decide +kernel
theorem dX11_takenFrom_81 : decode cX11_takenFrom 81 = .ok (.if_icmp .le 5, 3) := by decide +kernel
theorem dX11_takenFrom_84 : decode cX11_takenFrom 84 = .ok (.iload_n 3, 1) := by decide +kernel
theorem dX11_takenFrom_85 : decode cX11_takenFrom 85 = .ok (.istore_n 2, 1) := by decide +kernel
theorem dX11_takenFrom_86 : decode cX11_takenFrom 86 = .ok (.iinc 3 1, 3) := by decide +kernel
theorem dX11_takenFrom_89 : decode cX11_takenFrom 89 = .ok (.goto (-85), 3) := by decide +kernel
theorem dX11_takenFrom_92 : decode cX11_takenFrom 92 = .ok (.iload_n 2, 1) := by decide +kernel
theorem dX11_takenFrom_93 : decode cX11_takenFrom 93 = .ok (.iconst (-1), 1) := by decide +kernel
theorem dX11_takenFrom_94 : decode cX11_takenFrom 94 = .ok (.if_icmp .eq 13, 3) := by decide +kernel
theorem dX11_takenFrom_97 : decode cX11_takenFrom 97 = .ok (.aload_n 0, 1) := by decide +kernel
theorem dX11_takenFrom_98 : decode cX11_takenFrom 98 = .ok (.iload_n 1, 1) := by decide +kernel
theorem dX11_takenFrom_99 : decode cX11_takenFrom 99 = .ok (.iload_n 2, 1) := by decide +kernel
theorem dX11_takenFrom_100 : decode cX11_takenFrom 100 = .ok (.invokevirtual 309, 3) := by decide +kernel
theorem dX11_takenFrom_103 : decode cX11_takenFrom 103 = .ok (.iconst 4, 1) := by decide +kernel
theorem dX11_takenFrom_104 : decode cX11_takenFrom 104 = .ok (.if_icmp .le 7, 3) := by decide +kernel
theorem dX11_takenFrom_107 : decode cX11_takenFrom 107 = .ok (.iconst (-1), 1) := by decide +kernel
theorem dX11_takenFrom_108 : decode cX11_takenFrom 108 = .ok (.goto 4, 3) := by decide +kernel
theorem dX11_takenFrom_111 : decode cX11_takenFrom 111 = .ok (.iload_n 2, 1) := by decide +kernel
theorem dX11_takenFrom_112 : decode cX11_takenFrom 112 = .ok (.ireturn, 1) := by decide +kernel
theorem dX11_of_0 : decode cX11_of 0 = .ok (.aload_n 0, 1) := by decide +kernel
theorem dX11_of_1 : decode cX11_of 1 = .ok (.iconst 0, 1) := by decide +kernel
theorem dX11_of_2 : decode cX11_of 2 = .ok (.putfield 110, 3) := by decide +kernel
theorem dX11_of_5 : decode cX11_of 5 = .ok (.iload_n 1, 1) := by decide +kernel
theorem dX11_of_6 : decode cX11_of 6 = .ok (.ifCond .lt 20, 3) := by decide +kernel
theorem dX11_of_9 : decode cX11_of 9 = .ok (.iload_n 1, 1) := by decide +kernel
theorem dX11_of_10 : decode cX11_of 10 = .ok (.aload_n 0, 1) := by decide +kernel
theorem dX11_of_11 : decode cX11_of 11 = .ok (.getfield 306, 3) := by decide +kernel
theorem dX11_of_14 : decode cX11_of 14 = .ok (.if_icmp .ge 12, 3) := by decide +kernel
theorem dX11_of_17 : decode cX11_of 17 = .ok (.iload_n 2, 1) := by decide +kernel
theorem dX11_of_18 : decode cX11_of 18 = .ok (.ifCond .lt 8, 3) := by decide +kernel
theorem dX11_of_21 : decode cX11_of 21 = .ok (.iload_n 2, 1) := by decide +kernel
theorem dX11_of_22 : decode cX11_of 22 = .ok (.iconst 4, 1) := by decide +kernel
theorem dX11_of_23 : decode cX11_of 23 = .ok (.if_icmp .le 8, 3) := by decide +kernel
theorem dX11_of_26 : decode cX11_of 26 = .ok (.aload_n 0, 1) := by decide +kernel
theorem dX11_of_27 : decode cX11_of 27 = .ok (.invokevirtual 127, 3) := by decide +kernel
theorem dX11_of_30 : decode cX11_of 30 = .ok (.ireturn, 1) := by decide +kernel
theorem dX11_of_31 : decode cX11_of 31 = .ok (.aload_n 0, 1) := by decide +kernel
theorem dX11_of_32 : decode cX11_of 32 = .ok (.iload_n 1, 1) := by decide +kernel
theorem dX11_of_33 : decode cX11_of 33 = .ok (.invokevirtual 312, 3) := by decide +kernel
theorem dX11_of_36 : decode cX11_of 36 = .ok (.istore_n 3, 1) := by decide +kernel
theorem dX11_of_37 : decode cX11_of 37 = .ok (.iload_n 2, 1) := by decide +kernel
theorem dX11_of_38 : decode cX11_of 38 = .ok (.ifCond .ne 5, 3) := by decide +kernel
theorem dX11_of_41 : decode cX11_of 41 = .ok (.iload_n 3, 1) := by decide +kernel
theorem dX11_of_42 : decode cX11_of 42 = .ok (.ireturn, 1) := by decide +kernel
theorem dX11_of_43 : decode cX11_of 43 = .ok (.iload_n 2, 1) := by decide +kernel
theorem dX11_of_44 : decode cX11_of 44 = .ok (.iconst 1, 1) := by decide +kernel
theorem dX11_of_45 : decode cX11_of 45 = .ok (.if_icmp .ne 19, 3) := by decide +kernel
theorem dX11_of_48 : decode cX11_of 48 = .ok (.iload_n 3, 1) := by decide +kernel
theorem dX11_of_49 : decode cX11_of 49 = .ok (.iconst (-1), 1) := by decide +kernel
theorem dX11_of_50 : decode cX11_of 50 = .ok (.if_icmp .ne 7, 3) := by decide +kernel
theorem dX11_of_53 : decode cX11_of 53 = .ok (.iconst 0, 1) := by decide +kernel
theorem dX11_of_54 : decode cX11_of 54 = .ok (.goto 9, 3) := by decide +kernel
theorem dX11_of_57 : decode cX11_of 57 = .ok (.aload_n 0, 1) := by decide +kernel
theorem dX11_of_58 : decode cX11_of 58 = .ok (.iload_n 1, 1) := by decide +kernel
theorem dX11_of_59 : decode cX11_of 59 = .ok (.iload_n 3, 1) := by decide +kernel
theorem dX11_of_60 : decode cX11_of 60 = .ok (.invokevirtual 309, 3) := by decide +kernel
theorem dX11_of_63 : decode cX11_of 63 = .ok (.ireturn, 1) := by decide +kernel
theorem dX11_of_64 : decode cX11_of 64 = .ok (.iconst 0, 1) := by decide +kernel
theorem dX11_of_65 : decode cX11_of 65 = .ok (.istore 4, 2) := by decide +kernel
theorem dX11_of_67 : decode cX11_of 67 = .ok (.iload_n 1, 1) := by decide +kernel
theorem dX11_of_68 : decode cX11_of 68 = .ok (.istore 5, 2) := by decide +kernel
theorem dX11_of_70 : decode cX11_of 70 = .ok (.iload_n 3, 1) := by decide +kernel
theorem dX11_of_71 : decode cX11_of 71 = .ok (.istore 6, 2) := by decide +kernel
theorem dX11_of_73 : decode cX11_of 73 = .ok (.iload 6, 2) := by decide +kernel
theorem dX11_of_75 : decode cX11_of 75 = .ok (.iconst (-1), 1) := by decide +kernel
theorem dX11_of_76 : decode cX11_of 76 = .ok (.if_icmp .eq 31, 3) := by decide +kernel
theorem dX11_of_79 : decode cX11_of 79 = .ok (.iload 4, 2) := by decide +kernel
theorem dX11_of_81 : decode cX11_of 81 = .ok (.aload_n 0, 1) := by decide +kernel
theorem dX11_of_82 : decode cX11_of 82 = .ok (.iload 5, 2) := by decide +kernel
theorem dX11_of_84 : decode cX11_of 84 = .ok (.iload 6, 2) := by decide +kernel
theorem dX11_of_86 : decode cX11_of 86 = .ok (.invokevirtual 309, 3) := by decide +kernel
theorem dX11_of_89 : decode cX11_of 89 = .ok (.iadd, 1) := by decide +kernel
theorem dX11_of_90 : decode cX11_of 90 = .ok (.istore 4, 2) := by decide +kernel
theorem dX11_of_92 : decode cX11_of 92 = .ok (.iload 6, 2) := by decide +kernel
theorem dX11_of_94 : decode cX11_of 94 = .ok (.istore 5, 2) := by decide +kernel
theorem dX11_of_96 : decode cX11_of 96 = .ok (.aload_n 0, 1) := by decide +kernel
theorem dX11_of_97 : decode cX11_of 97 = .ok (.iload 6, 2) := by decide +kernel
theorem dX11_of_99 : decode cX11_of 99 = .ok (.invokevirtual 312, 3) := by decide +kernel
theorem dX11_of_102 : decode cX11_of 102 = .ok (.istore 6, 2) := by decide +kernel
theorem dX11_of_104 : decode cX11_of 104 = .ok (.goto (-31), 3) := by decide +kernel
theorem dX11_of_107 : decode cX11_of 107 = .ok (.iconst 0, 1) := by decide +kernel
theorem dX11_of_108 : decode cX11_of 108 = .ok (.istore 6, 2) := by decide +kernel
theorem dX11_of_110 : decode cX11_of 110 = .ok (.iconst 0, 1) := by decide +kernel
theorem dX11_of_111 : decode cX11_of 111 = .ok (.istore 7, 2) := by decide +kernel
theorem dX11_of_113 : decode cX11_of 113 = .ok (.iload 7, 2) := by decide +kernel
theorem dX11_of_115 : decode cX11_of 115 = .ok (.aload_n 0, 1) := by decide +kernel
theorem dX11_of_116 : decode cX11_of 116 = .ok (.getfield 306, 3) := by decide +kernel
theorem dX11_of_119 : decode cX11_of 119 = .ok (.if_icmp .ge 29, 3) := by decide +kernel
theorem dX11_of_122 : decode cX11_of 122 = .ok (.iload 6, 2) := by decide +kernel
theorem dX11_of_124 : decode cX11_of 124 = .ok (.aload_n 0, 1) := by decide +kernel
theorem dX11_of_125 : decode cX11_of 125 = .ok (.iload 7, 2) := by decide +kernel
theorem dX11_of_127 : decode cX11_of 127 = .ok (.invokevirtual 312, 3) := by decide +kernel
theorem dX11_of_130 : decode cX11_of 130 = .ok (.iload_n 1, 1) := by decide +kernel
theorem dX11_of_131 : decode cX11_of 131 = .ok (.if_icmp .ne 7, 3) := by decide +kernel
theorem dX11_of_134 : decode cX11_of 134 = .ok (.iconst 1, 1) := by decide +kernel
theorem dX11_of_135 : decode cX11_of 135 = .ok (.goto 4, 3) := by decide +kernel
theorem dX11_of_138 : decode cX11_of 138 = .ok (.iconst 0, 1) := by decide +kernel
theorem dX11_of_139 : decode cX11_of 139 = .ok (.iadd, 1) := by decide +kernel
theorem dX11_of_140 : decode cX11_of 140 = .ok (.istore 6, 2) := by decide +kernel
theorem dX11_of_142 : decode cX11_of 142 = .ok (.iinc 7 1, 3) := by decide +kernel
theorem dX11_of_145 : decode cX11_of 145 = .ok (.goto (-32), 3) := by decide +kernel
theorem dX11_of_148 : decode cX11_of 148 = .ok (.iload_n 2, 1) := by decide +kernel
theorem dX11_of_149 : decode cX11_of 149 = .ok (.iconst 2, 1) := by decide +kernel
theorem dX11_of_150 : decode cX11_of 150 = .ok (.if_icmp .ne 8, 3) := by decide +kernel
theorem dX11_of_153 : decode cX11_of 153 = .ok (.iload 4, 2) := by decide +kernel
theorem dX11_of_155 : decode cX11_of 155 = .ok (.goto 15, 3) := by decide +kernel
theorem dX11_of_158 : decode cX11_of 158 = .ok (.iload_n 2, 1) := by decide +kernel
theorem dX11_of_159 : decode cX11_of 159 = .ok (.iconst 3, 1) := by decide +kernel
theorem dX11_of_160 : decode cX11_of 160 = .ok (.if_icmp .ne 8, 3) := by decide +kernel
theorem dX11_of_163 : decode cX11_of 163 = .ok (.iload 5, 2) := by decide +kernel
theorem dX11_of_165 : decode cX11_of 165 = .ok (.goto 5, 3) := by decide +kernel
theorem dX11_of_168 : decode cX11_of 168 = .ok (.iload 6, 2) := by decide +kernel
theorem dX11_of_170 : decode cX11_of 170 = .ok (.ireturn, 1) := by decide +kernel
theorem dX11_count_0 : decode cX11_count 0 = .ok (.aload_n 0, 1) := by decide +kernel
theorem dX11_count_1 : decode cX11_count 1 = .ok (.iconst 0, 1) := by decide +kernel
theorem dX11_count_2 : decode cX11_count 2 = .ok (.putfield 110, 3) := by decide +kernel
theorem dX11_count_5 : decode cX11_count 5 = .ok (.iload_n 1, 1) := by decide +kernel
theorem dX11_count_6 : decode cX11_count 6 = .ok (.tableswitch 59 0 4 #[34, 39, 44, 49, 54], 34) := by decide +kernel
theorem dX11_count_40 : decode cX11_count 40 = .ok (.aload_n 0, 1) := by decide +kernel
theorem dX11_count_41 : decode cX11_count 41 = .ok (.getfield 113, 3) := by decide +kernel
theorem dX11_count_44 : decode cX11_count 44 = .ok (.ireturn, 1) := by decide +kernel
theorem dX11_count_45 : decode cX11_count 45 = .ok (.aload_n 0, 1) := by decide +kernel
theorem dX11_count_46 : decode cX11_count 46 = .ok (.getfield 135, 3) := by decide +kernel
theorem dX11_count_49 : decode cX11_count 49 = .ok (.ireturn, 1) := by decide +kernel
theorem dX11_count_50 : decode cX11_count 50 = .ok (.aload_n 0, 1) := by decide +kernel
theorem dX11_count_51 : decode cX11_count 51 = .ok (.getfield 240, 3) := by decide +kernel
theorem dX11_count_54 : decode cX11_count 54 = .ok (.ireturn, 1) := by decide +kernel
theorem dX11_count_55 : decode cX11_count 55 = .ok (.aload_n 0, 1) := by decide +kernel
theorem dX11_count_56 : decode cX11_count 56 = .ok (.getfield 306, 3) := by decide +kernel
theorem dX11_count_59 : decode cX11_count 59 = .ok (.ireturn, 1) := by decide +kernel
theorem dX11_count_60 : decode cX11_count 60 = .ok (.aload_n 0, 1) := by decide +kernel
theorem dX11_count_61 : decode cX11_count 61 = .ok (.getfield 197, 3) := by decide +kernel
theorem dX11_count_64 : decode cX11_count 64 = .ok (.ireturn, 1) := by decide +kernel
theorem dX11_count_65 : decode cX11_count 65 = .ok (.aload_n 0, 1) := by decide +kernel
theorem dX11_count_66 : decode cX11_count 66 = .ok (.invokevirtual 127, 3) := by decide +kernel
theorem dX11_count_69 : decode cX11_count 69 = .ok (.ireturn, 1) := by decide +kernel
