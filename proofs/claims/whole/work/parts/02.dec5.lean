theorem dX12_piles_105 : decode cX12_piles 105 = .ok (.goto 4, 3) := by decide +kernel
theorem dX12_piles_108 : decode cX12_piles 108 = .ok (.iconst 0, 1) := by decide +kernel
theorem dX12_piles_109 : decode cX12_piles 109 = .ok (.istore 6, 2) := by decide +kernel
theorem dX12_piles_111 : decode cX12_piles 111 = .ok (.iconst 0, 1) := by decide +kernel
theorem dX12_piles_112 : decode cX12_piles 112 = .ok (.iload 5, 2) := by decide +kernel
theorem dX12_piles_114 : decode cX12_piles 114 = .ok (.iload_n 2, 1) := by decide +kernel
theorem dX12_piles_115 : decode cX12_piles 115 = .ok (.isub, 1) := by decide +kernel
theorem dX12_piles_116 : decode cX12_piles 116 = .ok (.invokestatic 272, 3) := by decide +kernel
theorem dX12_piles_119 : decode cX12_piles 119 = .ok (.istore 7, 2) := by decide +kernel
theorem dX12_piles_121 : decode cX12_piles 121 = .ok (.iload 7, 2) := by decide +kernel
theorem dX12_piles_123 : decode cX12_piles 123 = .ok (.iload 5, 2) := by decide +kernel
theorem dX12_piles_125 : decode cX12_piles 125 = .ok (.if_icmp .ge 40, 3) := by decide +kernel
theorem dX12_piles_128 : decode cX12_piles 128 = .ok (.iload 6, 2) := by decide +kernel
theorem dX12_piles_130 : decode cX12_piles 130 = .ok (.ifCond .eq 29, 3) := by decide +kernel
theorem dX12_piles_133 : decode cX12_piles 133 = .ok (.aload_n 0, 1) := by decide +kernel
theorem dX12_piles_134 : decode cX12_piles 134 = .ok (.getfield 83, 3) := by decide +kernel
theorem dX12_piles_137 : decode cX12_piles 137 = .ok (.iload 5, 2) := by decide +kernel
theorem dX12_piles_139 : decode cX12_piles 139 = .ok (.aload_n 0, 1) := by decide +kernel
theorem dX12_piles_140 : decode cX12_piles 140 = .ok (.getfield 83, 3) := by decide +kernel
theorem dX12_piles_143 : decode cX12_piles 143 = .ok (.iload 5, 2) := by decide +kernel
theorem dX12_piles_145 : decode cX12_piles 145 = .ok (.iaload, 1) := by decide +kernel
theorem dX12_piles_146 : decode cX12_piles 146 = .ok (.aload_n 0, 1) := by decide +kernel
theorem dX12_piles_147 : decode cX12_piles 147 = .ok (.getfield 83, 3) := by decide +kernel
theorem dX12_piles_150 : decode cX12_piles 150 = .ok (.iload 7, 2) := by decide +kernel
theorem dX12_piles_152 : decode cX12_piles 152 = .ok (.iaload, 1) := by decide +kernel
theorem dX12_piles_153 : decode cX12_piles 153 = .ok (.iconst 1, 1) := by decide +kernel
theorem dX12_piles_154 : decode cX12_piles 154 = .ok (.iadd, 1) := by decide +kernel
theorem dX12_piles_155 : decode cX12_piles 155 = .ok (.invokestatic 269, 3) := by decide +kernel
theorem dX12_piles_158 : decode cX12_piles 158 = .ok (.iastore, 1) := by decide +kernel
theorem dX12_piles_159 : decode cX12_piles 159 = .ok (.iinc 7 1, 3) := by decide +kernel
theorem dX12_piles_162 : decode cX12_piles 162 = .ok (.goto (-41), 3) := by decide +kernel
theorem dX12_piles_165 : decode cX12_piles 165 = .ok (.aload_n 0, 1) := by decide +kernel
theorem dX12_piles_166 : decode cX12_piles 166 = .ok (.getfield 83, 3) := by decide +kernel
theorem dX12_piles_169 : decode cX12_piles 169 = .ok (.iload 5, 2) := by decide +kernel
theorem dX12_piles_171 : decode cX12_piles 171 = .ok (.iaload, 1) := by decide +kernel
theorem dX12_piles_172 : decode cX12_piles 172 = .ok (.ldc_w 347, 3) := by decide +kernel
theorem dX12_piles_175 : decode cX12_piles 175 = .ok (.if_icmp .ge 38, 3) := by decide +kernel
theorem dX12_piles_178 : decode cX12_piles 178 = .ok (.iload_n 1, 1) := by decide +kernel
theorem dX12_piles_179 : decode cX12_piles 179 = .ok (.iload 5, 2) := by decide +kernel
theorem dX12_piles_181 : decode cX12_piles 181 = .ok (.isub, 1) := by decide +kernel
theorem dX12_piles_182 : decode cX12_piles 182 = .ok (.iload_n 2, 1) := by decide +kernel
theorem dX12_piles_183 : decode cX12_piles 183 = .ok (.if_icmp .gt 30, 3) := by decide +kernel
theorem dX12_piles_186 : decode cX12_piles 186 = .ok (.iload 4, 2) := by decide +kernel
theorem dX12_piles_188 : decode cX12_piles 188 = .ok (.iconst (-1), 1) := by decide +kernel
theorem dX12_piles_189 : decode cX12_piles 189 = .ok (.if_icmp .eq 20, 3) := by decide +kernel
theorem dX12_piles_192 : decode cX12_piles 192 = .ok (.aload_n 0, 1) := by decide +kernel
theorem dX12_piles_193 : decode cX12_piles 193 = .ok (.getfield 83, 3) := by decide +kernel
theorem dX12_piles_196 : decode cX12_piles 196 = .ok (.iload 5, 2) := by decide +kernel
theorem dX12_piles_198 : decode cX12_piles 198 = .ok (.iaload, 1) := by decide +kernel
theorem dX12_piles_199 : decode cX12_piles 199 = .ok (.aload_n 0, 1) := by decide +kernel
theorem dX12_piles_200 : decode cX12_piles 200 = .ok (.getfield 83, 3) := by decide +kernel
theorem dX12_piles_203 : decode cX12_piles 203 = .ok (.iload 4, 2) := by decide +kernel
theorem dX12_piles_205 : decode cX12_piles 205 = .ok (.iaload, 1) := by decide +kernel
theorem dX12_piles_206 : decode cX12_piles 206 = .ok (.if_icmp .ge 7, 3) := by decide +kernel
theorem dX12_piles_209 : decode cX12_piles 209 = .ok (.iload 5, 2) := by decide +kernel
theorem dX12_piles_211 : decode cX12_piles 211 = .ok (.istore 4, 2) := by decide +kernel
theorem dX12_piles_213 : decode cX12_piles 213 = .ok (.iinc 5 1, 3) := by decide +kernel
theorem dX12_piles_216 : decode cX12_piles 216 = .ok (.goto (-158), 3) := by decide +kernel
theorem dX12_piles_219 : decode cX12_piles 219 = .ok (.iload 4, 2) := by decide +kernel
theorem dX12_piles_221 : decode cX12_piles 221 = .ok (.iconst (-1), 1) := by decide +kernel
theorem dX12_piles_222 : decode cX12_piles 222 = .ok (.if_icmp .ne 6, 3) := by decide +kernel
theorem dX12_piles_225 : decode cX12_piles 225 = .ok (.bipush (-2), 2) := by decide +kernel
theorem dX12_piles_227 : decode cX12_piles 227 = .ok (.ireturn, 1) := by decide +kernel
theorem dX12_piles_228 : decode cX12_piles 228 = .ok (.iload_n 3, 1) := by decide +kernel
theorem dX12_piles_229 : decode cX12_piles 229 = .ok (.ifCond .ne 13, 3) := by decide +kernel
theorem dX12_piles_232 : decode cX12_piles 232 = .ok (.aload_n 0, 1) := by decide +kernel
theorem dX12_piles_233 : decode cX12_piles 233 = .ok (.getfield 83, 3) := by decide +kernel
theorem dX12_piles_236 : decode cX12_piles 236 = .ok (.iload 4, 2) := by decide +kernel
theorem dX12_piles_238 : decode cX12_piles 238 = .ok (.iaload, 1) := by decide +kernel
theorem dX12_piles_239 : decode cX12_piles 239 = .ok (.goto 5, 3) := by decide +kernel
theorem dX12_piles_242 : decode cX12_piles 242 = .ok (.iload 4, 2) := by decide +kernel
theorem dX12_piles_244 : decode cX12_piles 244 = .ok (.ireturn, 1) := by decide +kernel
theorem dX12_isAllLit_0 : decode cX12_isAllLit 0 = .ok (.iconst 0, 1) := by decide +kernel
theorem dX12_isAllLit_1 : decode cX12_isAllLit 1 = .ok (.istore 4, 2) := by decide +kernel
theorem dX12_isAllLit_3 : decode cX12_isAllLit 3 = .ok (.iload 4, 2) := by decide +kernel
theorem dX12_isAllLit_5 : decode cX12_isAllLit 5 = .ok (.iload_n 1, 1) := by decide +kernel
theorem dX12_isAllLit_6 : decode cX12_isAllLit 6 = .ok (.if_icmp .ge 62, 3) := by decide +kernel
theorem dX12_isAllLit_9 : decode cX12_isAllLit 9 = .ok (.iconst 0, 1) := by decide +kernel
theorem dX12_isAllLit_10 : decode cX12_isAllLit 10 = .ok (.istore 5, 2) := by decide +kernel
theorem dX12_isAllLit_12 : decode cX12_isAllLit 12 = .ok (.iconst 0, 1) := by decide +kernel
theorem dX12_isAllLit_13 : decode cX12_isAllLit 13 = .ok (.iload 4, 2) := by decide +kernel
theorem dX12_isAllLit_15 : decode cX12_isAllLit 15 = .ok (.iload_n 2, 1) := by decide +kernel
theorem dX12_isAllLit_16 : decode cX12_isAllLit 16 = .ok (.isub, 1) := by decide +kernel
theorem dX12_isAllLit_17 : decode cX12_isAllLit 17 = .ok (.invokestatic 272, 3) := by decide +kernel
theorem dX12_isAllLit_20 : decode cX12_isAllLit 20 = .ok (.istore 6, 2) := by decide +kernel
theorem dX12_isAllLit_22 : decode cX12_isAllLit 22 = .ok (.iload 6, 2) := by decide +kernel
theorem dX12_isAllLit_24 : decode cX12_isAllLit 24 = .ok (.iload_n 1, 1) := by decide +kernel
theorem dX12_isAllLit_25 : decode cX12_isAllLit 25 = .ok (.if_icmp .ge 30, 3) := by decide +kernel
theorem dX12_isAllLit_28 : decode cX12_isAllLit 28 = .ok (.iload 6, 2) := by decide +kernel
theorem dX12_isAllLit_30 : decode cX12_isAllLit 30 = .ok (.iload 4, 2) := by decide +kernel
theorem dX12_isAllLit_32 : decode cX12_isAllLit 32 = .ok (.iload_n 2, 1) := by decide +kernel
theorem dX12_isAllLit_33 : decode cX12_isAllLit 33 = .ok (.iadd, 1) := by decide +kernel
theorem dX12_isAllLit_34 : decode cX12_isAllLit 34 = .ok (.if_icmp .gt 21, 3) := by decide +kernel
theorem dX12_isAllLit_37 : decode cX12_isAllLit 37 = .ok (.iload_n 3, 1) := by decide +kernel
theorem dX12_isAllLit_38 : decode cX12_isAllLit 38 = .ok (.iload 6, 2) := by decide +kernel
theorem dX12_isAllLit_40 : decode cX12_isAllLit 40 = .ok (.invokestatic 354, 3) := by decide +kernel
theorem dX12_isAllLit_43 : decode cX12_isAllLit 43 = .ok (.ifCond .eq 6, 3) := by decide +kernel
theorem dX12_isAllLit_46 : decode cX12_isAllLit 46 = .ok (.iconst 1, 1) := by decide +kernel
theorem dX12_isAllLit_47 : decode cX12_isAllLit 47 = .ok (.istore 5, 2) := by decide +kernel
theorem dX12_isAllLit_49 : decode cX12_isAllLit 49 = .ok (.iinc 6 1, 3) := by decide +kernel
theorem dX12_isAllLit_52 : decode cX12_isAllLit 52 = .ok (.goto (-30), 3) := by decide +kernel
theorem dX12_isAllLit_55 : decode cX12_isAllLit 55 = .ok (.iload 5, 2) := by decide +kernel
theorem dX12_isAllLit_57 : decode cX12_isAllLit 57 = .ok (.ifCond .ne 5, 3) := by decide +kernel
theorem dX12_isAllLit_60 : decode cX12_isAllLit 60 = .ok (.iconst 0, 1) := by decide +kernel
theorem dX12_isAllLit_61 : decode cX12_isAllLit 61 = .ok (.ireturn, 1) := by decide +kernel
theorem dX12_isAllLit_62 : decode cX12_isAllLit 62 = .ok (.iinc 4 1, 3) := by decide +kernel
theorem dX12_isAllLit_65 : decode cX12_isAllLit 65 = .ok (.goto (-62), 3) := by decide +kernel
theorem dX12_isAllLit_68 : decode cX12_isAllLit 68 = .ok (.iconst 1, 1) := by decide +kernel
theorem dX12_isAllLit_69 : decode cX12_isAllLit 69 = .ok (.ireturn, 1) := by decide +kernel
theorem dX12_lamps_0 : decode cX12_lamps 0 = .ok (.iload_n 1, 1) := by decide +kernel
theorem dX12_lamps_1 : decode cX12_lamps 1 = .ok (.iconst 1, 1) := by decide +kernel
theorem dX12_lamps_2 : decode cX12_lamps 2 = .ok (.bipush 12, 2) := by decide +kernel
theorem dX12_lamps_4 : decode cX12_lamps 4 = .ok (.invokestatic 113, 3) := by decide +kernel
theorem dX12_lamps_7 : decode cX12_lamps 7 = .ok (.ifCond .eq 29, 3) := by decide +kernel
theorem dX12_lamps_10 : decode cX12_lamps 10 = .ok (.iload_n 2, 1) := by decide +kernel
theorem dX12_lamps_11 : decode cX12_lamps 11 = .ok (.iconst 0, 1) := by decide +kernel
theorem dX12_lamps_12 : decode cX12_lamps 12 = .ok (.iconst 5, 1) := by decide +kernel
theorem dX12_lamps_13 : decode cX12_lamps 13 = .ok (.invokestatic 113, 3) := by decide +kernel
theorem dX12_lamps_16 : decode cX12_lamps 16 = .ok (.ifCond .eq 20, 3) := by decide +kernel
theorem dX12_lamps_19 : decode cX12_lamps 19 = .ok (.iload_n 3, 1) := by decide +kernel
theorem dX12_lamps_20 : decode cX12_lamps 20 = .ok (.iconst 0, 1) := by decide +kernel
theorem dX12_lamps_21 : decode cX12_lamps 21 = .ok (.iconst 1, 1) := by decide +kernel
theorem dX12_lamps_22 : decode cX12_lamps 22 = .ok (.invokestatic 113, 3) := by decide +kernel
theorem dX12_lamps_25 : decode cX12_lamps 25 = .ok (.ifCond .eq 11, 3) := by decide +kernel
theorem dX12_lamps_28 : decode cX12_lamps 28 = .ok (.iload_n 1, 1) := by decide +kernel
theorem dX12_lamps_29 : decode cX12_lamps 29 = .ok (.aload_n 0, 1) := by decide +kernel
theorem dX12_lamps_30 : decode cX12_lamps 30 = .ok (.getfield 128, 3) := by decide +kernel
theorem dX12_lamps_33 : decode cX12_lamps 33 = .ok (.if_icmp .le 5, 3) := by decide +kernel
theorem dX12_lamps_36 : decode cX12_lamps 36 = .ok (.iconst (-1), 1) := by decide +kernel
theorem dX12_lamps_37 : decode cX12_lamps 37 = .ok (.ireturn, 1) := by decide +kernel
theorem dX12_lamps_38 : decode cX12_lamps 38 = .ok (.aload_n 0, 1) := by decide +kernel
theorem dX12_lamps_39 : decode cX12_lamps 39 = .ok (.iconst 0, 1) := by decide +kernel
theorem dX12_lamps_40 : decode cX12_lamps 40 = .ok (.putfield 128, 3) := by decide +kernel
theorem dX12_lamps_43 : decode cX12_lamps 43 = .ok (.iconst 0, 1) := by decide +kernel
theorem dX12_lamps_44 : decode cX12_lamps 44 = .ok (.istore 4, 2) := by decide +kernel
theorem dX12_lamps_46 : decode cX12_lamps 46 = .ok (.iconst 0, 1) := by decide +kernel
theorem dX12_lamps_47 : decode cX12_lamps 47 = .ok (.istore 5, 2) := by decide +kernel
theorem dX12_lamps_49 : decode cX12_lamps 49 = .ok (.iload 5, 2) := by decide +kernel
theorem dX12_lamps_51 : decode cX12_lamps 51 = .ok (.iload_n 1, 1) := by decide +kernel
theorem dX12_lamps_52 : decode cX12_lamps 52 = .ok (.if_icmp .ge 27, 3) := by decide +kernel
theorem dX12_lamps_55 : decode cX12_lamps 55 = .ok (.aload_n 0, 1) := by decide +kernel
theorem dX12_lamps_56 : decode cX12_lamps 56 = .ok (.iload 5, 2) := by decide +kernel
theorem dX12_lamps_58 : decode cX12_lamps 58 = .ok (.invokevirtual 245, 3) := by decide +kernel
theorem dX12_lamps_61 : decode cX12_lamps 61 = .ok (.ifCond .eq 12, 3) := by decide +kernel
theorem dX12_lamps_64 : decode cX12_lamps 64 = .ok (.iload 4, 2) := by decide +kernel
theorem dX12_lamps_66 : decode cX12_lamps 66 = .ok (.iconst 1, 1) := by decide +kernel
theorem dX12_lamps_67 : decode cX12_lamps 67 = .ok (.iload 5, 2) := by decide +kernel
theorem dX12_lamps_69 : decode cX12_lamps 69 = .ok (.ishl, 1) := by decide +kernel
theorem dX12_lamps_70 : decode cX12_lamps 70 = .ok (.ior, 1) := by decide +kernel
theorem dX12_lamps_71 : decode cX12_lamps 71 = .ok (.istore 4, 2) := by decide +kernel
theorem dX12_lamps_73 : decode cX12_lamps 73 = .ok (.iinc 5 1, 3) := by decide +kernel
theorem dX12_lamps_76 : decode cX12_lamps 76 = .ok (.goto (-27), 3) := by decide +kernel
theorem dX12_lamps_79 : decode cX12_lamps 79 = .ok (.iconst (-1), 1) := by decide +kernel
theorem dX12_lamps_80 : decode cX12_lamps 80 = .ok (.istore 5, 2) := by decide +kernel
theorem dX12_lamps_82 : decode cX12_lamps 82 = .ok (.iconst 1, 1) := by decide +kernel
theorem dX12_lamps_83 : decode cX12_lamps 83 = .ok (.istore 6, 2) := by decide +kernel
theorem dX12_lamps_85 : decode cX12_lamps 85 = .ok (.iload 6, 2) := by decide +kernel
theorem dX12_lamps_87 : decode cX12_lamps 87 = .ok (.iconst 1, 1) := by decide +kernel
theorem dX12_lamps_88 : decode cX12_lamps 88 = .ok (.iload_n 1, 1) := by decide +kernel
theorem dX12_lamps_89 : decode cX12_lamps 89 = .ok (.ishl, 1) := by decide +kernel
theorem dX12_lamps_90 : decode cX12_lamps 90 = .ok (.if_icmp .ge 56, 3) := by decide +kernel
theorem dX12_lamps_93 : decode cX12_lamps 93 = .ok (.iload 6, 2) := by decide +kernel
theorem dX12_lamps_95 : decode cX12_lamps 95 = .ok (.iload 4, 2) := by decide +kernel
theorem dX12_lamps_97 : decode cX12_lamps 97 = .ok (.iconst (-1), 1) := by decide +kernel
theorem dX12_lamps_98 : decode cX12_lamps 98 = .ok (.ixor, 1) := by decide +kernel
theorem dX12_lamps_99 : decode cX12_lamps 99 = .ok (.iand, 1) := by decide +kernel
theorem dX12_lamps_100 : decode cX12_lamps 100 = .ok (.ifCond .ne 40, 3) := by decide +kernel
theorem dX12_lamps_103 : decode cX12_lamps 103 = .ok (.iload 5, 2) := by decide +kernel
theorem dX12_lamps_105 : decode cX12_lamps 105 = .ok (.iconst (-1), 1) := by decide +kernel
theorem dX12_lamps_106 : decode cX12_lamps 106 = .ok (.if_icmp .eq 16, 3) := by decide +kernel
theorem dX12_lamps_109 : decode cX12_lamps 109 = .ok (.iload 6, 2) := by decide +kernel
theorem dX12_lamps_111 : decode cX12_lamps 111 = .ok (.invokestatic 351, 3) := by decide +kernel
theorem dX12_lamps_114 : decode cX12_lamps 114 = .ok (.iload 5, 2) := by decide +kernel
theorem dX12_lamps_116 : decode cX12_lamps 116 = .ok (.invokestatic 351, 3) := by decide +kernel
theorem dX12_lamps_119 : decode cX12_lamps 119 = .ok (.if_icmp .ge 21, 3) := by decide +kernel
theorem dX12_lamps_122 : decode cX12_lamps 122 = .ok (.aload_n 0, 1) := by decide +kernel
theorem dX12_lamps_123 : decode cX12_lamps 123 = .ok (.iload_n 1, 1) := by decide +kernel
theorem dX12_lamps_124 : decode cX12_lamps 124 = .ok (.iload_n 2, 1) := by decide +kernel
theorem dX12_lamps_125 : decode cX12_lamps 125 = .ok (.iload 6, 2) := by decide +kernel
theorem dX12_lamps_127 : decode cX12_lamps 127 = .ok (.invokevirtual 365, 3) := by decide +kernel
theorem dX12_lamps_130 : decode cX12_lamps 130 = .ok (.ifCond .ne 6, 3) := by decide +kernel
theorem dX12_lamps_133 : decode cX12_lamps 133 = .ok (.goto 7, 3) := by decide +kernel
theorem dX12_lamps_136 : decode cX12_lamps 136 = .ok (.iload 6, 2) := by decide +kernel
theorem dX12_lamps_138 : decode cX12_lamps 138 = .ok (.istore 5, 2) := by decide +kernel
theorem dX12_lamps_140 : decode cX12_lamps 140 = .ok (.iinc 6 1, 3) := by decide +kernel
theorem dX12_lamps_143 : decode cX12_lamps 143 = .ok (.goto (-58), 3) := by decide +kernel
theorem dX12_lamps_146 : decode cX12_lamps 146 = .ok (.iload 5, 2) := by decide +kernel
theorem dX12_lamps_148 : decode cX12_lamps 148 = .ok (.iconst (-1), 1) := by decide +kernel
theorem dX12_lamps_149 : decode cX12_lamps 149 = .ok (.if_icmp .ne 6, 3) := by decide +kernel
theorem dX12_lamps_152 : decode cX12_lamps 152 = .ok (.bipush (-2), 2) := by decide +kernel
theorem dX12_lamps_154 : decode cX12_lamps 154 = .ok (.ireturn, 1) := by decide +kernel
theorem dX12_lamps_155 : decode cX12_lamps 155 = .ok (.iload_n 3, 1) := by decide +kernel
theorem dX12_lamps_156 : decode cX12_lamps 156 = .ok (.ifCond .ne 11, 3) := by decide +kernel
theorem dX12_lamps_159 : decode cX12_lamps 159 = .ok (.iload 5, 2) := by decide +kernel
theorem dX12_lamps_161 : decode cX12_lamps 161 = .ok (.invokestatic 351, 3) := by decide +kernel
theorem dX12_lamps_164 : decode cX12_lamps 164 = .ok (.goto 5, 3) := by decide +kernel
theorem dX12_lamps_167 : decode cX12_lamps 167 = .ok (.iload 5, 2) := by decide +kernel
theorem dX12_lamps_169 : decode cX12_lamps 169 = .ok (.ireturn, 1) := by decide +kernel
theorem dX12_claims_0 : decode cX12_claims 0 = .ok (.iload_n 1, 1) := by decide +kernel
theorem dX12_claims_1 : decode cX12_claims 1 = .ok (.iconst 1, 1) := by decide +kernel
theorem dX12_claims_2 : decode cX12_claims 2 = .ok (.bipush 10, 2) := by decide +kernel
theorem dX12_claims_4 : decode cX12_claims 4 = .ok (.invokestatic 113, 3) := by decide +kernel
theorem dX12_claims_7 : decode cX12_claims 7 = .ok (.ifCond .eq 22, 3) := by decide +kernel
theorem dX12_claims_10 : decode cX12_claims 10 = .ok (.iload_n 2, 1) := by decide +kernel
theorem dX12_claims_11 : decode cX12_claims 11 = .ok (.iconst 0, 1) := by decide +kernel
theorem dX12_claims_12 : decode cX12_claims 12 = .ok (.iconst 2, 1) := by decide +kernel
theorem dX12_claims_13 : decode cX12_claims 13 = .ok (.invokestatic 113, 3) := by decide +kernel
theorem dX12_claims_16 : decode cX12_claims 16 = .ok (.ifCond .eq 13, 3) := by decide +kernel
theorem dX12_claims_19 : decode cX12_claims 19 = .ok (.iconst 2, 1) := by decide +kernel
theorem dX12_claims_20 : decode cX12_claims 20 = .ok (.iload_n 1, 1) := by decide +kernel
theorem dX12_claims_21 : decode cX12_claims 21 = .ok (.imul, 1) := by decide +kernel
theorem dX12_claims_22 : decode cX12_claims 22 = .ok (.aload_n 0, 1) := by decide +kernel
theorem dX12_claims_23 : decode cX12_claims 23 = .ok (.getfield 128, 3) := by decide +kernel
theorem dX12_claims_26 : decode cX12_claims 26 = .ok (.if_icmp .le 5, 3) := by decide +kernel
theorem dX12_claims_29 : decode cX12_claims 29 = .ok (.iconst (-1), 1) := by decide +kernel
theorem dX12_claims_30 : decode cX12_claims 30 = .ok (.ireturn, 1) := by decide +kernel
theorem dX12_claims_31 : decode cX12_claims 31 = .ok (.aload_n 0, 1) := by decide +kernel
theorem dX12_claims_32 : decode cX12_claims 32 = .ok (.iconst 0, 1) := by decide +kernel
theorem dX12_claims_33 : decode cX12_claims 33 = .ok (.putfield 128, 3) := by decide +kernel
theorem dX12_claims_36 : decode cX12_claims 36 = .ok (.sipush 255, 3) := by decide +kernel
theorem dX12_claims_39 : decode cX12_claims 39 = .ok (.istore_n 3, 1) := by decide +kernel
theorem dX12_claims_40 : decode cX12_claims 40 = .ok (.iconst 0, 1) := by decide +kernel
theorem dX12_claims_41 : decode cX12_claims 41 = .ok (.istore 4, 2) := by decide +kernel
theorem dX12_claims_43 : decode cX12_claims 43 = .ok (.iconst 0, 1) := by decide +kernel
theorem dX12_claims_44 : decode cX12_claims 44 = .ok (.istore 5, 2) := by decide +kernel
theorem dX12_claims_46 : decode cX12_claims 46 = .ok (.iload 5, 2) := by decide +kernel
theorem dX12_claims_48 : decode cX12_claims 48 = .ok (.iload_n 1, 1) := by decide +kernel
theorem dX12_claims_49 : decode cX12_claims 49 = .ok (.if_icmp .ge 63, 3) := by decide +kernel
theorem dX12_claims_52 : decode cX12_claims 52 = .ok (.aload_n 0, 1) := by decide +kernel
theorem dX12_claims_53 : decode cX12_claims 53 = .ok (.iconst 2, 1) := by decide +kernel
theorem dX12_claims_54 : decode cX12_claims 54 = .ok (.iload 5, 2) := by decide +kernel
theorem dX12_claims_56 : decode cX12_claims 56 = .ok (.imul, 1) := by decide +kernel
theorem dX12_claims_57 : decode cX12_claims 57 = .ok (.invokevirtual 245, 3) := by decide +kernel
theorem dX12_claims_60 : decode cX12_claims 60 = .ok (.aload_n 0, 1) := by decide +kernel
theorem dX12_claims_61 : decode cX12_claims 61 = .ok (.iconst 2, 1) := by decide +kernel
theorem dX12_claims_62 : decode cX12_claims 62 = .ok (.iload 5, 2) := by decide +kernel
theorem dX12_claims_64 : decode cX12_claims 64 = .ok (.imul, 1) := by decide +kernel
theorem dX12_claims_65 : decode cX12_claims 65 = .ok (.iconst 1, 1) := by decide +kernel
theorem dX12_claims_66 : decode cX12_claims 66 = .ok (.iadd, 1) := by decide +kernel
theorem dX12_claims_67 : decode cX12_claims 67 = .ok (.invokevirtual 245, 3) := by decide +kernel
theorem dX12_claims_70 : decode cX12_claims 70 = .ok (.if_icmp .lt 6, 3) := by decide +kernel
theorem dX12_claims_73 : decode cX12_claims 73 = .ok (.bipush (-2), 2) := by decide +kernel
theorem dX12_claims_75 : decode cX12_claims 75 = .ok (.ireturn, 1) := by decide +kernel
theorem dX12_claims_76 : decode cX12_claims 76 = .ok (.iload_n 3, 1) := by decide +kernel
theorem dX12_claims_77 : decode cX12_claims 77 = .ok (.aload_n 0, 1) := by decide +kernel
theorem dX12_claims_78 : decode cX12_claims 78 = .ok (.iconst 2, 1) := by decide +kernel
theorem dX12_claims_79 : decode cX12_claims 79 = .ok (.iload 5, 2) := by decide +kernel
theorem dX12_claims_81 : decode cX12_claims 81 = .ok (.imul, 1) := by decide +kernel
theorem dX12_claims_82 : decode cX12_claims 82 = .ok (.invokevirtual 245, 3) := by decide +kernel
theorem dX12_claims_85 : decode cX12_claims 85 = .ok (.invokestatic 269, 3) := by decide +kernel
theorem dX12_claims_88 : decode cX12_claims 88 = .ok (.istore_n 3, 1) := by decide +kernel
theorem dX12_claims_89 : decode cX12_claims 89 = .ok (.iload 4, 2) := by decide +kernel
theorem dX12_claims_91 : decode cX12_claims 91 = .ok (.aload_n 0, 1) := by decide +kernel
theorem dX12_claims_92 : decode cX12_claims 92 = .ok (.iconst 2, 1) := by decide +kernel
theorem dX12_claims_93 : decode cX12_claims 93 = .ok (.iload 5, 2) := by decide +kernel
theorem dX12_claims_95 : decode cX12_claims 95 = .ok (.imul, 1) := by decide +kernel
theorem dX12_claims_96 : decode cX12_claims 96 = .ok (.iconst 1, 1) := by decide +kernel
theorem dX12_claims_97 : decode cX12_claims 97 = .ok (.iadd, 1) := by decide +kernel
theorem dX12_claims_98 : decode cX12_claims 98 = .ok (.invokevirtual 245, 3) := by decide +kernel
theorem dX12_claims_101 : decode cX12_claims 101 = .ok (.invokestatic 272, 3) := by decide +kernel
theorem dX12_claims_104 : decode cX12_claims 104 = .ok (.istore 4, 2) := by decide +kernel
theorem dX12_claims_106 : decode cX12_claims 106 = .ok (.iinc 5 1, 3) := by decide +kernel
theorem dX12_claims_109 : decode cX12_claims 109 = .ok (.goto (-63), 3) := by decide +kernel
theorem dX12_claims_112 : decode cX12_claims 112 = .ok (.iconst 0, 1) := by decide +kernel
theorem dX12_claims_113 : decode cX12_claims 113 = .ok (.istore 5, 2) := by decide +kernel
theorem dX12_claims_115 : decode cX12_claims 115 = .ok (.iconst 0, 1) := by decide +kernel
theorem dX12_claims_116 : decode cX12_claims 116 = .ok (.istore 6, 2) := by decide +kernel
theorem dX12_claims_118 : decode cX12_claims 118 = .ok (.iconst 0, 1) := by decide +kernel
theorem dX12_claims_119 : decode cX12_claims 119 = .ok (.istore 7, 2) := by decide +kernel
theorem dX12_claims_121 : decode cX12_claims 121 = .ok (.iload_n 3, 1) := by decide +kernel
theorem dX12_claims_122 : decode cX12_claims 122 = .ok (.istore 8, 2) := by decide +kernel
theorem dX12_claims_124 : decode cX12_claims 124 = .ok (.iload 8, 2) := by decide +kernel
theorem dX12_claims_126 : decode cX12_claims 126 = .ok (.iload 4, 2) := by decide +kernel
theorem dX12_claims_128 : decode cX12_claims 128 = .ok (.if_icmp .ge 125, 3) := by decide +kernel
theorem dX12_claims_131 : decode cX12_claims 131 = .ok (.iconst 0, 1) := by decide +kernel
theorem dX12_claims_132 : decode cX12_claims 132 = .ok (.istore 9, 2) := by decide +kernel
theorem dX12_claims_134 : decode cX12_claims 134 = .ok (.iconst 0, 1) := by decide +kernel
theorem dX12_claims_135 : decode cX12_claims 135 = .ok (.istore 10, 2) := by decide +kernel
theorem dX12_claims_137 : decode cX12_claims 137 = .ok (.iconst 0, 1) := by decide +kernel
theorem dX12_claims_138 : decode cX12_claims 138 = .ok (.istore 11, 2) := by decide +kernel
theorem dX12_claims_140 : decode cX12_claims 140 = .ok (.iload 11, 2) := by decide +kernel
theorem dX12_claims_142 : decode cX12_claims 142 = .ok (.iload_n 1, 1) := by decide +kernel
theorem dX12_claims_143 : decode cX12_claims 143 = .ok (.if_icmp .ge 62, 3) := by decide +kernel
theorem dX12_claims_146 : decode cX12_claims 146 = .ok (.iload 8, 2) := by decide +kernel
theorem dX12_claims_148 : decode cX12_claims 148 = .ok (.aload_n 0, 1) := by decide +kernel
theorem dX12_claims_149 : decode cX12_claims 149 = .ok (.iconst 2, 1) := by decide +kernel
theorem dX12_claims_150 : decode cX12_claims 150 = .ok (.iload 11, 2) := by decide +kernel
theorem dX12_claims_152 : decode cX12_claims 152 = .ok (.imul, 1) := by decide +kernel
theorem dX12_claims_153 : decode cX12_claims 153 = .ok (.invokevirtual 245, 3) := by decide +kernel
theorem dX12_claims_156 : decode cX12_claims 156 = .ok (.if_icmp .lt 43, 3) := by decide +kernel
theorem dX12_claims_159 : decode cX12_claims 159 = .ok (.iload 8, 2) := by decide +kernel
theorem dX12_claims_161 : decode cX12_claims 161 = .ok (.aload_n 0, 1) := by decide +kernel
theorem dX12_claims_162 : decode cX12_claims 162 = .ok (.iconst 2, 1) := by decide +kernel
theorem dX12_claims_163 : decode cX12_claims 163 = .ok (.iload 11, 2) := by decide +kernel
theorem dX12_claims_165 : decode cX12_claims 165 = .ok (.imul, 1) := by decide +kernel
theorem dX12_claims_166 : decode cX12_claims 166 = .ok (.iconst 1, 1) := by decide +kernel
theorem dX12_claims_167 : decode cX12_claims 167 = .ok (.iadd, 1) := by decide +kernel
theorem dX12_claims_168 : decode cX12_claims 168 = .ok (.invokevirtual 245, 3) := by decide +kernel
theorem dX12_claims_171 : decode cX12_claims 171 = .ok (.if_icmp .lt 6, 3) := by decide +kernel
theorem dX12_claims_174 : decode cX12_claims 174 = .ok (.goto 25, 3) := by decide +kernel
theorem dX12_claims_177 : decode cX12_claims 177 = .ok (.iload 11, 2) := by decide +kernel
theorem dX12_claims_179 : decode cX12_claims 179 = .ok (.iconst 2, 1) := by decide +kernel
theorem dX12_claims_180 : decode cX12_claims 180 = .ok (.irem, 1) := by decide +kernel
theorem dX12_claims_181 : decode cX12_claims 181 = .ok (.ifCond .ne 12, 3) := by decide +kernel
theorem dX12_claims_184 : decode cX12_claims 184 = .ok (.iload 9, 2) := by decide +kernel
theorem dX12_claims_186 : decode cX12_claims 186 = .ok (.iconst 1, 1) := by decide +kernel
theorem dX12_claims_187 : decode cX12_claims 187 = .ok (.iadd, 1) := by decide +kernel
theorem dX12_claims_188 : decode cX12_claims 188 = .ok (.istore 9, 2) := by decide +kernel
theorem dX12_claims_190 : decode cX12_claims 190 = .ok (.goto 9, 3) := by decide +kernel
theorem dX12_claims_193 : decode cX12_claims 193 = .ok (.iload 10, 2) := by decide +kernel
theorem dX12_claims_195 : decode cX12_claims 195 = .ok (.iconst 1, 1) := by decide +kernel
theorem dX12_claims_196 : decode cX12_claims 196 = .ok (.iadd, 1) := by decide +kernel
theorem dX12_claims_197 : decode cX12_claims 197 = .ok (.istore 10, 2) := by decide +kernel
theorem dX12_claims_199 : decode cX12_claims 199 = .ok (.iinc 11 1, 3) := by decide +kernel
theorem dX12_claims_202 : decode cX12_claims 202 = .ok (.goto (-62), 3) := by decide +kernel
theorem dX12_claims_205 : decode cX12_claims 205 = .ok (.iload 9, 2) := by decide +kernel
theorem dX12_claims_207 : decode cX12_claims 207 = .ok (.ifCond .le 14, 3) := by decide +kernel
theorem dX12_claims_210 : decode cX12_claims 210 = .ok (.iload 10, 2) := by decide +kernel
theorem dX12_claims_212 : decode cX12_claims 212 = .ok (.ifCond .le 9, 3) := by decide +kernel
theorem dX12_claims_215 : decode cX12_claims 215 = .ok (.iload 5, 2) := by decide +kernel
theorem dX12_claims_217 : decode cX12_claims 217 = .ok (.iconst 1, 1) := by decide +kernel
theorem dX12_claims_218 : decode cX12_claims 218 = .ok (.iadd, 1) := by decide +kernel
theorem dX12_claims_219 : decode cX12_claims 219 = .ok (.istore 5, 2) := by decide +kernel
theorem dX12_claims_221 : decode cX12_claims 221 = .ok (.iload 9, 2) := by decide +kernel
theorem dX12_claims_223 : decode cX12_claims 223 = .ok (.iload 10, 2) := by decide +kernel
theorem dX12_claims_225 : decode cX12_claims 225 = .ok (.iadd, 1) := by decide +kernel
theorem dX12_claims_226 : decode cX12_claims 226 = .ok (.ifCond .ne 9, 3) := by decide +kernel
theorem dX12_claims_229 : decode cX12_claims 229 = .ok (.iload 6, 2) := by decide +kernel
theorem dX12_claims_231 : decode cX12_claims 231 = .ok (.iconst 1, 1) := by decide +kernel
theorem dX12_claims_232 : decode cX12_claims 232 = .ok (.iadd, 1) := by decide +kernel
theorem dX12_claims_233 : decode cX12_claims 233 = .ok (.istore 6, 2) := by decide +kernel
theorem dX12_claims_235 : decode cX12_claims 235 = .ok (.iload 7, 2) := by decide +kernel
theorem dX12_claims_237 : decode cX12_claims 237 = .ok (.iload 9, 2) := by decide +kernel
theorem dX12_claims_239 : decode cX12_claims 239 = .ok (.iload 10, 2) := by decide +kernel
theorem dX12_claims_241 : decode cX12_claims 241 = .ok (.iadd, 1) := by decide +kernel
theorem dX12_claims_242 : decode cX12_claims 242 = .ok (.invokestatic 272, 3) := by decide +kernel
theorem dX12_claims_245 : decode cX12_claims 245 = .ok (.istore 7, 2) := by decide +kernel
theorem dX12_claims_247 : decode cX12_claims 247 = .ok (.iinc 8 1, 3) := by decide +kernel
theorem dX12_claims_250 : decode cX12_claims 250 = .ok (.goto (-126), 3) := by decide +kernel
theorem dX12_claims_253 : decode cX12_claims 253 = .ok (.iload_n 2, 1) := by decide +kernel
theorem dX12_claims_254 : decode cX12_claims 254 = .ok (.ifCond .ne 8, 3) := by decide +kernel
theorem dX12_claims_257 : decode cX12_claims 257 = .ok (.iload 5, 2) := by decide +kernel
theorem dX12_claims_259 : decode cX12_claims 259 = .ok (.goto 15, 3) := by decide +kernel
theorem dX12_claims_262 : decode cX12_claims 262 = .ok (.iload_n 2, 1) := by decide +kernel
theorem dX12_claims_263 : decode cX12_claims 263 = .ok (.iconst 1, 1) := by decide +kernel
theorem dX12_claims_264 : decode cX12_claims 264 = .ok (.if_icmp .ne 8, 3) := by decide +kernel
theorem dX12_claims_267 : decode cX12_claims 267 = .ok (.iload 6, 2) := by decide +kernel
theorem dX12_claims_269 : decode cX12_claims 269 = .ok (.goto 5, 3) := by decide +kernel
theorem dX12_claims_272 : decode cX12_claims 272 = .ok (.iload 7, 2) := by decide +kernel
theorem dX12_claims_274 : decode cX12_claims 274 = .ok (.ireturn, 1) := by decide +kernel
theorem dX12_sorts_0 : decode cX12_sorts 0 = .ok (.iconst 0, 1) := by decide +kernel
theorem dX12_sorts_1 : decode cX12_sorts 1 = .ok (.istore_n 2, 1) := by decide +kernel
theorem dX12_sorts_2 : decode cX12_sorts 2 = .ok (.iload_n 2, 1) := by decide +kernel
theorem dX12_sorts_3 : decode cX12_sorts 3 = .ok (.iload_n 1, 1) := by decide +kernel
theorem dX12_sorts_4 : decode cX12_sorts 4 = .ok (.if_icmp .ge 63, 3) := by decide +kernel
theorem dX12_sorts_7 : decode cX12_sorts 7 = .ok (.iload_n 2, 1) := by decide +kernel
theorem dX12_sorts_8 : decode cX12_sorts 8 = .ok (.istore_n 3, 1) := by decide +kernel
theorem dX12_sorts_9 : decode cX12_sorts 9 = .ok (.iload_n 3, 1) := by decide +kernel
theorem dX12_sorts_10 : decode cX12_sorts 10 = .ok (.ifCond .le 40, 3) := by decide +kernel
theorem dX12_sorts_13 : decode cX12_sorts 13 = .ok (.aload_n 0, 1) := by decide +kernel
theorem dX12_sorts_14 : decode cX12_sorts 14 = .ok (.getfield 86, 3) := by decide +kernel
theorem dX12_sorts_17 : decode cX12_sorts 17 = .ok (.iload_n 3, 1) := by decide +kernel
theorem dX12_sorts_18 : decode cX12_sorts 18 = .ok (.iconst 1, 1) := by decide +kernel
theorem dX12_sorts_19 : decode cX12_sorts 19 = .ok (.isub, 1) := by decide +kernel
theorem dX12_sorts_20 : decode cX12_sorts 20 = .ok (.iaload, 1) := by decide +kernel
theorem dX12_sorts_21 : decode cX12_sorts 21 = .ok (.aload_n 0, 1) := by decide +kernel
theorem dX12_sorts_22 : decode cX12_sorts 22 = .ok (.iload_n 2, 1) := by decide +kernel
theorem dX12_sorts_23 : decode cX12_sorts 23 = .ok (.invokevirtual 245, 3) := by decide +kernel
theorem dX12_sorts_26 : decode cX12_sorts 26 = .ok (.if_icmp .le 24, 3) := by decide +kernel
theorem dX12_sorts_29 : decode cX12_sorts 29 = .ok (.aload_n 0, 1) := by decide +kernel
theorem dX12_sorts_30 : decode cX12_sorts 30 = .ok (.getfield 86, 3) := by decide +kernel
theorem dX12_sorts_33 : decode cX12_sorts 33 = .ok (.iload_n 3, 1) := by decide +kernel
theorem dX12_sorts_34 : decode cX12_sorts 34 = .ok (.aload_n 0, 1) := by decide +kernel
theorem dX12_sorts_35 : decode cX12_sorts 35 = .ok (.getfield 86, 3) := by decide +kernel
theorem dX12_sorts_38 : decode cX12_sorts 38 = .ok (.iload_n 3, 1) := by decide +kernel
theorem dX12_sorts_39 : decode cX12_sorts 39 = .ok (.iconst 1, 1) := by decide +kernel
theorem dX12_sorts_40 : decode cX12_sorts 40 = .ok (.isub, 1) := by decide +kernel
theorem dX12_sorts_41 : decode cX12_sorts 41 = .ok (.iaload, 1) := by decide +kernel
theorem dX12_sorts_42 : decode cX12_sorts 42 = .ok (.iastore, 1) := by decide +kernel
theorem dX12_sorts_43 : decode cX12_sorts 43 = .ok (.iload_n 3, 1) := by decide +kernel
theorem dX12_sorts_44 : decode cX12_sorts 44 = .ok (.iconst 1, 1) := by decide +kernel
theorem dX12_sorts_45 : decode cX12_sorts 45 = .ok (.isub, 1) := by decide +kernel
theorem dX12_sorts_46 : decode cX12_sorts 46 = .ok (.istore_n 3, 1) := by decide +kernel
theorem dX12_sorts_47 : decode cX12_sorts 47 = .ok (.goto (-38), 3) := by decide +kernel
theorem dX12_sorts_50 : decode cX12_sorts 50 = .ok (.aload_n 0, 1) := by decide +kernel
theorem dX12_sorts_51 : decode cX12_sorts 51 = .ok (.getfield 86, 3) := by decide +kernel
theorem dX12_sorts_54 : decode cX12_sorts 54 = .ok (.iload_n 3, 1) := by decide +kernel
theorem dX12_sorts_55 : decode cX12_sorts 55 = .ok (.aload_n 0, 1) := by decide +kernel
theorem dX12_sorts_56 : decode cX12_sorts 56 = .ok (.iload_n 2, 1) := by decide +kernel
theorem dX12_sorts_57 : decode cX12_sorts 57 = .ok (.invokevirtual 245, 3) := by decide +kernel
theorem dX12_sorts_60 : decode cX12_sorts 60 = .ok (.iastore, 1) := by decide +kernel
theorem dX12_sorts_61 : decode cX12_sorts 61 = .ok (.iinc 2 1, 3) := by decide +kernel
theorem dX12_sorts_64 : decode cX12_sorts 64 = .ok (.goto (-62), 3) := by decide +kernel
theorem dX12_sorts_67 : decode cX12_sorts 67 = .ok (.return_, 1) := by decide +kernel
theorem dX12_rowed_0 : decode cX12_rowed 0 = .ok (.iload_n 1, 1) := by decide +kernel
theorem dX12_rowed_1 : decode cX12_rowed 1 = .ok (.iconst 1, 1) := by decide +kernel
theorem dX12_rowed_2 : decode cX12_rowed 2 = .ok (.bipush 10, 2) := by decide +kernel
theorem dX12_rowed_4 : decode cX12_rowed 4 = .ok (.invokestatic 113, 3) := by decide +kernel
theorem dX12_rowed_7 : decode cX12_rowed 7 = .ok (.ifCond .eq 11, 3) := by decide +kernel
theorem dX12_rowed_10 : decode cX12_rowed 10 = .ok (.iload_n 1, 1) := by decide +kernel
theorem dX12_rowed_11 : decode cX12_rowed 11 = .ok (.aload_n 0, 1) := by decide +kernel
theorem dX12_rowed_12 : decode cX12_rowed 12 = .ok (.getfield 128, 3) := by decide +kernel
theorem dX12_rowed_15 : decode cX12_rowed 15 = .ok (.if_icmp .le 5, 3) := by decide +kernel
theorem dX12_rowed_18 : decode cX12_rowed 18 = .ok (.iconst (-1), 1) := by decide +kernel
theorem dX12_rowed_19 : decode cX12_rowed 19 = .ok (.ireturn, 1) := by decide +kernel
theorem dX12_rowed_20 : decode cX12_rowed 20 = .ok (.aload_n 0, 1) := by decide +kernel
theorem dX12_rowed_21 : decode cX12_rowed 21 = .ok (.iconst 0, 1) := by decide +kernel
theorem dX12_rowed_22 : decode cX12_rowed 22 = .ok (.putfield 128, 3) := by decide +kernel
theorem dX12_rowed_25 : decode cX12_rowed 25 = .ok (.aload_n 0, 1) := by decide +kernel
theorem dX12_rowed_26 : decode cX12_rowed 26 = .ok (.iload_n 1, 1) := by decide +kernel
theorem dX12_rowed_27 : decode cX12_rowed 27 = .ok (.invokevirtual 368, 3) := by decide +kernel
theorem dX12_rowed_30 : decode cX12_rowed 30 = .ok (.iload_n 1, 1) := by decide +kernel
theorem dX12_rowed_31 : decode cX12_rowed 31 = .ok (.istore_n 2, 1) := by decide +kernel
theorem dX12_rowed_32 : decode cX12_rowed 32 = .ok (.iconst 0, 1) := by decide +kernel
theorem dX12_rowed_33 : decode cX12_rowed 33 = .ok (.istore_n 3, 1) := by decide +kernel
theorem dX12_rowed_34 : decode cX12_rowed 34 = .ok (.iload_n 2, 1) := by decide +kernel
theorem dX12_rowed_35 : decode cX12_rowed 35 = .ok (.iconst 3, 1) := by decide +kernel
theorem dX12_rowed_36 : decode cX12_rowed 36 = .ok (.if_icmp .le 74, 3) := by decide +kernel
theorem dX12_rowed_39 : decode cX12_rowed 39 = .ok (.iconst 2, 1) := by decide +kernel
theorem dX12_rowed_40 : decode cX12_rowed 40 = .ok (.aload_n 0, 1) := by decide +kernel
theorem dX12_rowed_41 : decode cX12_rowed 41 = .ok (.getfield 86, 3) := by decide +kernel
theorem dX12_rowed_44 : decode cX12_rowed 44 = .ok (.iconst 0, 1) := by decide +kernel
theorem dX12_rowed_45 : decode cX12_rowed 45 = .ok (.iaload, 1) := by decide +kernel
theorem dX12_rowed_46 : decode cX12_rowed 46 = .ok (.imul, 1) := by decide +kernel
theorem dX12_rowed_47 : decode cX12_rowed 47 = .ok (.aload_n 0, 1) := by decide +kernel
theorem dX12_rowed_48 : decode cX12_rowed 48 = .ok (.getfield 86, 3) := by decide +kernel
theorem dX12_rowed_51 : decode cX12_rowed 51 = .ok (.iload_n 2, 1) := by decide +kernel
theorem dX12_rowed_52 : decode cX12_rowed 52 = .ok (.iconst 2, 1) := by decide +kernel
theorem dX12_rowed_53 : decode cX12_rowed 53 = .ok (.isub, 1) := by decide +kernel
theorem dX12_rowed_54 : decode cX12_rowed 54 = .ok (.iaload, 1) := by decide +kernel
theorem dX12_rowed_55 : decode cX12_rowed 55 = .ok (.iadd, 1) := by decide +kernel
theorem dX12_rowed_56 : decode cX12_rowed 56 = .ok (.aload_n 0, 1) := by decide +kernel
theorem dX12_rowed_57 : decode cX12_rowed 57 = .ok (.getfield 86, 3) := by decide +kernel
theorem dX12_rowed_60 : decode cX12_rowed 60 = .ok (.iload_n 2, 1) := by decide +kernel
theorem dX12_rowed_61 : decode cX12_rowed 61 = .ok (.iconst 1, 1) := by decide +kernel
theorem dX12_rowed_62 : decode cX12_rowed 62 = .ok (.isub, 1) := by decide +kernel
theorem dX12_rowed_63 : decode cX12_rowed 63 = .ok (.iaload, 1) := by decide +kernel
theorem dX12_rowed_64 : decode cX12_rowed 64 = .ok (.iadd, 1) := by decide +kernel
theorem dX12_rowed_65 : decode cX12_rowed 65 = .ok (.istore 4, 2) := by decide +kernel
theorem dX12_rowed_67 : decode cX12_rowed 67 = .ok (.aload_n 0, 1) := by decide +kernel
theorem dX12_rowed_68 : decode cX12_rowed 68 = .ok (.getfield 86, 3) := by decide +kernel
theorem dX12_rowed_71 : decode cX12_rowed 71 = .ok (.iconst 0, 1) := by decide +kernel
theorem dX12_rowed_72 : decode cX12_rowed 72 = .ok (.iaload, 1) := by decide +kernel
theorem dX12_rowed_73 : decode cX12_rowed 73 = .ok (.iconst 2, 1) := by decide +kernel
theorem dX12_rowed_74 : decode cX12_rowed 74 = .ok (.aload_n 0, 1) := by decide +kernel
theorem dX12_rowed_75 : decode cX12_rowed 75 = .ok (.getfield 86, 3) := by decide +kernel
theorem dX12_rowed_78 : decode cX12_rowed 78 = .ok (.iconst 1, 1) := by decide +kernel
theorem dX12_rowed_79 : decode cX12_rowed 79 = .ok (.iaload, 1) := by decide +kernel
theorem dX12_rowed_80 : decode cX12_rowed 80 = .ok (.imul, 1) := by decide +kernel
theorem dX12_rowed_81 : decode cX12_rowed 81 = .ok (.iadd, 1) := by decide +kernel
theorem dX12_rowed_82 : decode cX12_rowed 82 = .ok (.aload_n 0, 1) := by decide +kernel
theorem dX12_rowed_83 : decode cX12_rowed 83 = .ok (.getfield 86, 3) := by decide +kernel
theorem dX12_rowed_86 : decode cX12_rowed 86 = .ok (.iload_n 2, 1) := by decide +kernel
theorem dX12_rowed_87 : decode cX12_rowed 87 = .ok (.iconst 1, 1) := by decide +kernel
theorem dX12_rowed_88 : decode cX12_rowed 88 = .ok (.isub, 1) := by decide +kernel
theorem dX12_rowed_89 : decode cX12_rowed 89 = .ok (.iaload, 1) := by decide +kernel
theorem dX12_rowed_90 : decode cX12_rowed 90 = .ok (.iadd, 1) := by decide +kernel
theorem dX12_rowed_91 : decode cX12_rowed 91 = .ok (.istore 5, 2) := by decide +kernel
theorem dX12_rowed_93 : decode cX12_rowed 93 = .ok (.iload_n 3, 1) := by decide +kernel
theorem dX12_rowed_94 : decode cX12_rowed 94 = .ok (.iload 4, 2) := by decide +kernel
theorem dX12_rowed_96 : decode cX12_rowed 96 = .ok (.iload 5, 2) := by decide +kernel
theorem dX12_rowed_98 : decode cX12_rowed 98 = .ok (.invokestatic 269, 3) := by decide +kernel
theorem dX12_rowed_101 : decode cX12_rowed 101 = .ok (.iadd, 1) := by decide +kernel
theorem dX12_rowed_102 : decode cX12_rowed 102 = .ok (.istore_n 3, 1) := by decide +kernel
theorem dX12_rowed_103 : decode cX12_rowed 103 = .ok (.iload_n 2, 1) := by decide +kernel
theorem dX12_rowed_104 : decode cX12_rowed 104 = .ok (.iconst 2, 1) := by decide +kernel
theorem dX12_rowed_105 : decode cX12_rowed 105 = .ok (.isub, 1) := by decide +kernel
theorem dX12_rowed_106 : decode cX12_rowed 106 = .ok (.istore_n 2, 1) := by decide +kernel
theorem dX12_rowed_107 : decode cX12_rowed 107 = .ok (.goto (-73), 3) := by decide +kernel
theorem dX12_rowed_110 : decode cX12_rowed 110 = .ok (.iload_n 2, 1) := by decide +kernel
theorem dX12_rowed_111 : decode cX12_rowed 111 = .ok (.iconst 3, 1) := by decide +kernel
theorem dX12_rowed_112 : decode cX12_rowed 112 = .ok (.if_icmp .ne 26, 3) := by decide +kernel
theorem dX12_rowed_115 : decode cX12_rowed 115 = .ok (.iload_n 3, 1) := by decide +kernel
theorem dX12_rowed_116 : decode cX12_rowed 116 = .ok (.aload_n 0, 1) := by decide +kernel
theorem dX12_rowed_117 : decode cX12_rowed 117 = .ok (.getfield 86, 3) := by decide +kernel
theorem dX12_rowed_120 : decode cX12_rowed 120 = .ok (.iconst 0, 1) := by decide +kernel
theorem dX12_rowed_121 : decode cX12_rowed 121 = .ok (.iaload, 1) := by decide +kernel
theorem dX12_rowed_122 : decode cX12_rowed 122 = .ok (.iadd, 1) := by decide +kernel
theorem dX12_rowed_123 : decode cX12_rowed 123 = .ok (.aload_n 0, 1) := by decide +kernel
theorem dX12_rowed_124 : decode cX12_rowed 124 = .ok (.getfield 86, 3) := by decide +kernel
theorem dX12_rowed_127 : decode cX12_rowed 127 = .ok (.iconst 1, 1) := by decide +kernel
theorem dX12_rowed_128 : decode cX12_rowed 128 = .ok (.iaload, 1) := by decide +kernel
theorem dX12_rowed_129 : decode cX12_rowed 129 = .ok (.iadd, 1) := by decide +kernel
theorem dX12_rowed_130 : decode cX12_rowed 130 = .ok (.aload_n 0, 1) := by decide +kernel
theorem dX12_rowed_131 : decode cX12_rowed 131 = .ok (.getfield 86, 3) := by decide +kernel
theorem dX12_rowed_134 : decode cX12_rowed 134 = .ok (.iconst 2, 1) := by decide +kernel
theorem dX12_rowed_135 : decode cX12_rowed 135 = .ok (.iaload, 1) := by decide +kernel
theorem dX12_rowed_136 : decode cX12_rowed 136 = .ok (.iadd, 1) := by decide +kernel
theorem dX12_rowed_137 : decode cX12_rowed 137 = .ok (.ireturn, 1) := by decide +kernel
theorem dX12_rowed_138 : decode cX12_rowed 138 = .ok (.iload_n 3, 1) := by decide +kernel
theorem dX12_rowed_139 : decode cX12_rowed 139 = .ok (.aload_n 0, 1) := by decide +kernel
theorem dX12_rowed_140 : decode cX12_rowed 140 = .ok (.getfield 86, 3) := by decide +kernel
theorem dX12_rowed_143 : decode cX12_rowed 143 = .ok (.iload_n 2, 1) := by decide +kernel
theorem dX12_rowed_144 : decode cX12_rowed 144 = .ok (.iconst 1, 1) := by decide +kernel
theorem dX12_rowed_145 : decode cX12_rowed 145 = .ok (.isub, 1) := by decide +kernel
theorem dX12_rowed_146 : decode cX12_rowed 146 = .ok (.iaload, 1) := by decide +kernel
theorem dX12_rowed_147 : decode cX12_rowed 147 = .ok (.iadd, 1) := by decide +kernel
theorem dX12_rowed_148 : decode cX12_rowed 148 = .ok (.ireturn, 1) := by decide +kernel
theorem dX12_isOnceEach_0 : decode cX12_isOnceEach 0 = .ok (.iconst 0, 1) := by decide +kernel
theorem dX12_isOnceEach_1 : decode cX12_isOnceEach 1 = .ok (.istore_n 3, 1) := by decide +kernel
theorem dX12_isOnceEach_2 : decode cX12_isOnceEach 2 = .ok (.iconst 0, 1) := by decide +kernel
theorem dX12_isOnceEach_3 : decode cX12_isOnceEach 3 = .ok (.istore 4, 2) := by decide +kernel
theorem dX12_isOnceEach_5 : decode cX12_isOnceEach 5 = .ok (.iload 4, 2) := by decide +kernel
theorem dX12_isOnceEach_7 : decode cX12_isOnceEach 7 = .ok (.iload_n 2, 1) := by decide +kernel
theorem dX12_isOnceEach_8 : decode cX12_isOnceEach 8 = .ok (.if_icmp .ge 43, 3) := by decide +kernel
theorem dX12_isOnceEach_11 : decode cX12_isOnceEach 11 = .ok (.aload_n 0, 1) := by decide +kernel
theorem dX12_isOnceEach_12 : decode cX12_isOnceEach 12 = .ok (.iload_n 1, 1) := by decide +kernel
theorem dX12_isOnceEach_13 : decode cX12_isOnceEach 13 = .ok (.iload 4, 2) := by decide +kernel
theorem dX12_isOnceEach_15 : decode cX12_isOnceEach 15 = .ok (.iadd, 1) := by decide +kernel
theorem dX12_isOnceEach_16 : decode cX12_isOnceEach 16 = .ok (.invokevirtual 245, 3) := by decide +kernel
theorem dX12_isOnceEach_19 : decode cX12_isOnceEach 19 = .ok (.istore 5, 2) := by decide +kernel
theorem dX12_isOnceEach_21 : decode cX12_isOnceEach 21 = .ok (.iload 5, 2) := by decide +kernel
theorem dX12_isOnceEach_23 : decode cX12_isOnceEach 23 = .ok (.iload_n 2, 1) := by decide +kernel
theorem dX12_isOnceEach_24 : decode cX12_isOnceEach 24 = .ok (.if_icmp .ge 12, 3) := by decide +kernel
theorem dX12_isOnceEach_27 : decode cX12_isOnceEach 27 = .ok (.iload_n 3, 1) := by decide +kernel
theorem dX12_isOnceEach_28 : decode cX12_isOnceEach 28 = .ok (.iload 5, 2) := by decide +kernel
theorem dX12_isOnceEach_30 : decode cX12_isOnceEach 30 = .ok (.invokestatic 354, 3) := by decide +kernel
theorem dX12_isOnceEach_33 : decode cX12_isOnceEach 33 = .ok (.ifCond .eq 5, 3) := by decide +kernel
theorem dX12_isOnceEach_36 : decode cX12_isOnceEach 36 = .ok (.iconst 0, 1) := by decide +kernel
theorem dX12_isOnceEach_37 : decode cX12_isOnceEach 37 = .ok (.ireturn, 1) := by decide +kernel
theorem dX12_isOnceEach_38 : decode cX12_isOnceEach 38 = .ok (.iload_n 3, 1) := by decide +kernel
theorem dX12_isOnceEach_39 : decode cX12_isOnceEach 39 = .ok (.iconst 1, 1) := by decide +kernel
theorem dX12_isOnceEach_40 : decode cX12_isOnceEach 40 = .ok (.iload 5, 2) := by decide +kernel
theorem dX12_isOnceEach_42 : decode cX12_isOnceEach 42 = .ok (.ishl, 1) := by decide +kernel
theorem dX12_isOnceEach_43 : decode cX12_isOnceEach 43 = .ok (.ior, 1) := by decide +kernel
theorem dX12_isOnceEach_44 : decode cX12_isOnceEach 44 = .ok (.istore_n 3, 1) := by decide +kernel
theorem dX12_isOnceEach_45 : decode cX12_isOnceEach 45 = .ok (.iinc 4 1, 3) := by decide +kernel
theorem dX12_isOnceEach_48 : decode cX12_isOnceEach 48 = .ok (.goto (-43), 3) := by decide +kernel
theorem dX12_isOnceEach_51 : decode cX12_isOnceEach 51 = .ok (.iconst 1, 1) := by decide +kernel
theorem dX12_isOnceEach_52 : decode cX12_isOnceEach 52 = .ok (.ireturn, 1) := by decide +kernel
theorem dX12_likes_0 : decode cX12_likes 0 = .ok (.iconst 0, 1) := by decide +kernel
theorem dX12_likes_1 : decode cX12_likes 1 = .ok (.istore 4, 2) := by decide +kernel
theorem dX12_likes_3 : decode cX12_likes 3 = .ok (.aload_n 0, 1) := by decide +kernel
theorem dX12_likes_4 : decode cX12_likes 4 = .ok (.iload_n 3, 1) := by decide +kernel
theorem dX12_likes_5 : decode cX12_likes 5 = .ok (.iload_n 3, 1) := by decide +kernel
theorem dX12_likes_6 : decode cX12_likes 6 = .ok (.imul, 1) := by decide +kernel
theorem dX12_likes_7 : decode cX12_likes 7 = .ok (.iload_n 3, 1) := by decide +kernel
theorem dX12_likes_8 : decode cX12_likes 8 = .ok (.iload_n 1, 1) := by decide +kernel
theorem dX12_likes_9 : decode cX12_likes 9 = .ok (.imul, 1) := by decide +kernel
theorem dX12_likes_10 : decode cX12_likes 10 = .ok (.iadd, 1) := by decide +kernel
theorem dX12_likes_11 : decode cX12_likes 11 = .ok (.iload 4, 2) := by decide +kernel
theorem dX12_likes_13 : decode cX12_likes 13 = .ok (.iadd, 1) := by decide +kernel
theorem dX12_likes_14 : decode cX12_likes 14 = .ok (.invokevirtual 245, 3) := by decide +kernel
theorem dX12_likes_17 : decode cX12_likes 17 = .ok (.iload_n 2, 1) := by decide +kernel
theorem dX12_likes_18 : decode cX12_likes 18 = .ok (.if_icmp .eq 12, 3) := by decide +kernel
theorem dX12_likes_21 : decode cX12_likes 21 = .ok (.iload 4, 2) := by decide +kernel
theorem dX12_likes_23 : decode cX12_likes 23 = .ok (.iconst 1, 1) := by decide +kernel
theorem dX12_likes_24 : decode cX12_likes 24 = .ok (.iadd, 1) := by decide +kernel
theorem dX12_likes_25 : decode cX12_likes 25 = .ok (.istore 4, 2) := by decide +kernel
theorem dX12_likes_27 : decode cX12_likes 27 = .ok (.goto (-24), 3) := by decide +kernel
theorem dX12_likes_30 : decode cX12_likes 30 = .ok (.iload 4, 2) := by decide +kernel
theorem dX12_likes_32 : decode cX12_likes 32 = .ok (.ireturn, 1) := by decide +kernel
theorem dX12_whoAsks_0 : decode cX12_whoAsks 0 = .ok (.iconst 0, 1) := by decide +kernel
theorem dX12_whoAsks_1 : decode cX12_whoAsks 1 = .ok (.istore_n 2, 1) := by decide +kernel
theorem dX12_whoAsks_2 : decode cX12_whoAsks 2 = .ok (.iload_n 2, 1) := by decide +kernel
theorem dX12_whoAsks_3 : decode cX12_whoAsks 3 = .ok (.iload_n 1, 1) := by decide +kernel
theorem dX12_whoAsks_4 : decode cX12_whoAsks 4 = .ok (.if_icmp .ge 45, 3) := by decide +kernel
theorem dX12_whoAsks_7 : decode cX12_whoAsks 7 = .ok (.iconst 0, 1) := by decide +kernel
theorem dX12_whoAsks_8 : decode cX12_whoAsks 8 = .ok (.istore_n 3, 1) := by decide +kernel
theorem dX12_whoAsks_9 : decode cX12_whoAsks 9 = .ok (.iconst 0, 1) := by decide +kernel
theorem dX12_whoAsks_10 : decode cX12_whoAsks 10 = .ok (.istore 4, 2) := by decide +kernel
theorem dX12_whoAsks_12 : decode cX12_whoAsks 12 = .ok (.iload 4, 2) := by decide +kernel
theorem dX12_whoAsks_14 : decode cX12_whoAsks 14 = .ok (.iload_n 1, 1) := by decide +kernel
theorem dX12_whoAsks_15 : decode cX12_whoAsks 15 = .ok (.if_icmp .ge 22, 3) := by decide +kernel
theorem dX12_whoAsks_18 : decode cX12_whoAsks 18 = .ok (.aload_n 0, 1) := by decide +kernel
theorem dX12_whoAsks_19 : decode cX12_whoAsks 19 = .ok (.getfield 89, 3) := by decide +kernel
theorem dX12_whoAsks_22 : decode cX12_whoAsks 22 = .ok (.iload 4, 2) := by decide +kernel
theorem dX12_whoAsks_24 : decode cX12_whoAsks 24 = .ok (.iaload, 1) := by decide +kernel
theorem dX12_whoAsks_25 : decode cX12_whoAsks 25 = .ok (.iload_n 2, 1) := by decide +kernel
theorem dX12_whoAsks_26 : decode cX12_whoAsks 26 = .ok (.if_icmp .ne 5, 3) := by decide +kernel
theorem dX12_whoAsks_29 : decode cX12_whoAsks 29 = .ok (.iconst 1, 1) := by decide +kernel
theorem dX12_whoAsks_30 : decode cX12_whoAsks 30 = .ok (.istore_n 3, 1) := by decide +kernel
theorem dX12_whoAsks_31 : decode cX12_whoAsks 31 = .ok (.iinc 4 1, 3) := by decide +kernel
theorem dX12_whoAsks_34 : decode cX12_whoAsks 34 = .ok (.goto (-22), 3) := by decide +kernel
theorem dX12_whoAsks_37 : decode cX12_whoAsks 37 = .ok (.iload_n 3, 1) := by decide +kernel
theorem dX12_whoAsks_38 : decode cX12_whoAsks 38 = .ok (.ifCond .ne 5, 3) := by decide +kernel
theorem dX12_whoAsks_41 : decode cX12_whoAsks 41 = .ok (.iload_n 2, 1) := by decide +kernel
theorem dX12_whoAsks_42 : decode cX12_whoAsks 42 = .ok (.ireturn, 1) := by decide +kernel
theorem dX12_whoAsks_43 : decode cX12_whoAsks 43 = .ok (.iinc 2 1, 3) := by decide +kernel
theorem dX12_whoAsks_46 : decode cX12_whoAsks 46 = .ok (.goto (-44), 3) := by decide +kernel
theorem dX12_whoAsks_49 : decode cX12_whoAsks 49 = .ok (.iconst (-1), 1) := by decide +kernel
theorem dX12_whoAsks_50 : decode cX12_whoAsks 50 = .ok (.ireturn, 1) := by decide +kernel
theorem dX12_wed_0 : decode cX12_wed 0 = .ok (.iload_n 1, 1) := by decide +kernel
theorem dX12_wed_1 : decode cX12_wed 1 = .ok (.iconst 1, 1) := by decide +kernel
theorem dX12_wed_2 : decode cX12_wed 2 = .ok (.iconst 5, 1) := by decide +kernel
theorem dX12_wed_3 : decode cX12_wed 3 = .ok (.invokestatic 113, 3) := by decide +kernel
theorem dX12_wed_6 : decode cX12_wed 6 = .ok (.ifCond .eq 26, 3) := by decide +kernel
theorem dX12_wed_9 : decode cX12_wed 9 = .ok (.iload_n 2, 1) := by decide +kernel
theorem dX12_wed_10 : decode cX12_wed 10 = .ok (.iconst 0, 1) := by decide +kernel
theorem dX12_wed_11 : decode cX12_wed 11 = .ok (.iload_n 1, 1) := by decide +kernel
theorem dX12_wed_12 : decode cX12_wed 12 = .ok (.iconst 1, 1) := by decide +kernel
theorem dX12_wed_13 : decode cX12_wed 13 = .ok (.isub, 1) := by decide +kernel
theorem dX12_wed_14 : decode cX12_wed 14 = .ok (.invokestatic 113, 3) := by decide +kernel
theorem dX12_wed_17 : decode cX12_wed 17 = .ok (.ifCond .eq 15, 3) := by decide +kernel
theorem dX12_wed_20 : decode cX12_wed 20 = .ok (.iconst 2, 1) := by decide +kernel
theorem dX12_wed_21 : decode cX12_wed 21 = .ok (.iload_n 1, 1) := by decide +kernel
theorem dX12_wed_22 : decode cX12_wed 22 = .ok (.imul, 1) := by decide +kernel
theorem dX12_wed_23 : decode cX12_wed 23 = .ok (.iload_n 1, 1) := by decide +kernel
theorem dX12_wed_24 : decode cX12_wed 24 = .ok (.imul, 1) := by decide +kernel
theorem dX12_wed_25 : decode cX12_wed 25 = .ok (.aload_n 0, 1) := by decide +kernel
theorem dX12_wed_26 : decode cX12_wed 26 = .ok (.getfield 128, 3) := by decide +kernel
theorem dX12_wed_29 : decode cX12_wed 29 = .ok (.if_icmp .le 5, 3) := by decide +kernel
theorem dX12_wed_32 : decode cX12_wed 32 = .ok (.iconst (-1), 1) := by decide +kernel
theorem dX12_wed_33 : decode cX12_wed 33 = .ok (.ireturn, 1) := by decide +kernel
theorem dX12_wed_34 : decode cX12_wed 34 = .ok (.aload_n 0, 1) := by decide +kernel
theorem dX12_wed_35 : decode cX12_wed 35 = .ok (.iconst 0, 1) := by decide +kernel
theorem dX12_wed_36 : decode cX12_wed 36 = .ok (.putfield 128, 3) := by decide +kernel
theorem dX12_wed_39 : decode cX12_wed 39 = .ok (.iconst 0, 1) := by decide +kernel
theorem dX12_wed_40 : decode cX12_wed 40 = .ok (.istore_n 3, 1) := by decide +kernel
theorem dX12_wed_41 : decode cX12_wed 41 = .ok (.iload_n 3, 1) := by decide +kernel
theorem dX12_wed_42 : decode cX12_wed 42 = .ok (.iconst 2, 1) := by decide +kernel
theorem dX12_wed_43 : decode cX12_wed 43 = .ok (.iload_n 1, 1) := by decide +kernel
theorem dX12_wed_44 : decode cX12_wed 44 = .ok (.imul, 1) := by decide +kernel
theorem dX12_wed_45 : decode cX12_wed 45 = .ok (.if_icmp .ge 23, 3) := by decide +kernel
theorem dX12_wed_48 : decode cX12_wed 48 = .ok (.aload_n 0, 1) := by decide +kernel
theorem dX12_wed_49 : decode cX12_wed 49 = .ok (.iload_n 1, 1) := by decide +kernel
theorem dX12_wed_50 : decode cX12_wed 50 = .ok (.iload_n 3, 1) := by decide +kernel
theorem dX12_wed_51 : decode cX12_wed 51 = .ok (.imul, 1) := by decide +kernel
theorem dX12_wed_52 : decode cX12_wed 52 = .ok (.iload_n 1, 1) := by decide +kernel
theorem dX12_wed_53 : decode cX12_wed 53 = .ok (.invokevirtual 371, 3) := by decide +kernel
theorem dX12_wed_56 : decode cX12_wed 56 = .ok (.ifCond .ne 6, 3) := by decide +kernel
theorem dX12_wed_59 : decode cX12_wed 59 = .ok (.bipush (-2), 2) := by decide +kernel
theorem dX12_wed_61 : decode cX12_wed 61 = .ok (.ireturn, 1) := by decide +kernel
theorem dX12_wed_62 : decode cX12_wed 62 = .ok (.iinc 3 1, 3) := by decide +kernel
theorem dX12_wed_65 : decode cX12_wed 65 = .ok (.goto (-24), 3) := by decide +kernel
theorem dX12_wed_68 : decode cX12_wed 68 = .ok (.iconst 0, 1) := by decide +kernel
theorem dX12_wed_69 : decode cX12_wed 69 = .ok (.istore_n 3, 1) := by decide +kernel
theorem dX12_wed_70 : decode cX12_wed 70 = .ok (.iload_n 3, 1) := by decide +kernel
theorem dX12_wed_71 : decode cX12_wed 71 = .ok (.iload_n 1, 1) := by decide +kernel
theorem dX12_wed_72 : decode cX12_wed 72 = .ok (.if_icmp .ge 23, 3) := by decide +kernel
theorem dX12_wed_75 : decode cX12_wed 75 = .ok (.aload_n 0, 1) := by decide +kernel
theorem dX12_wed_76 : decode cX12_wed 76 = .ok (.getfield 89, 3) := by decide +kernel
theorem dX12_wed_79 : decode cX12_wed 79 = .ok (.iload_n 3, 1) := by decide +kernel
theorem dX12_wed_80 : decode cX12_wed 80 = .ok (.iconst (-1), 1) := by decide +kernel
theorem dX12_wed_81 : decode cX12_wed 81 = .ok (.iastore, 1) := by decide +kernel
theorem dX12_wed_82 : decode cX12_wed 82 = .ok (.aload_n 0, 1) := by decide +kernel
theorem dX12_wed_83 : decode cX12_wed 83 = .ok (.getfield 92, 3) := by decide +kernel
theorem dX12_wed_86 : decode cX12_wed 86 = .ok (.iload_n 3, 1) := by decide +kernel
theorem dX12_wed_87 : decode cX12_wed 87 = .ok (.iconst 0, 1) := by decide +kernel
theorem dX12_wed_88 : decode cX12_wed 88 = .ok (.iastore, 1) := by decide +kernel
theorem dX12_wed_89 : decode cX12_wed 89 = .ok (.iinc 3 1, 3) := by decide +kernel
theorem dX12_wed_92 : decode cX12_wed 92 = .ok (.goto (-22), 3) := by decide +kernel
theorem dX12_wed_95 : decode cX12_wed 95 = .ok (.aload_n 0, 1) := by decide +kernel
theorem dX12_wed_96 : decode cX12_wed 96 = .ok (.iload_n 1, 1) := by decide +kernel
theorem dX12_wed_97 : decode cX12_wed 97 = .ok (.invokevirtual 374, 3) := by decide +kernel
theorem dX12_wed_100 : decode cX12_wed 100 = .ok (.istore_n 3, 1) := by decide +kernel
theorem dX12_wed_101 : decode cX12_wed 101 = .ok (.iload_n 3, 1) := by decide +kernel
theorem dX12_wed_102 : decode cX12_wed 102 = .ok (.iconst (-1), 1) := by decide +kernel
theorem dX12_wed_103 : decode cX12_wed 103 = .ok (.if_icmp .eq 86, 3) := by decide +kernel
theorem dX12_wed_106 : decode cX12_wed 106 = .ok (.aload_n 0, 1) := by decide +kernel
theorem dX12_wed_107 : decode cX12_wed 107 = .ok (.iload_n 1, 1) := by decide +kernel
theorem dX12_wed_108 : decode cX12_wed 108 = .ok (.iload_n 3, 1) := by decide +kernel
theorem dX12_wed_109 : decode cX12_wed 109 = .ok (.imul, 1) := by decide +kernel
theorem dX12_wed_110 : decode cX12_wed 110 = .ok (.aload_n 0, 1) := by decide +kernel
theorem dX12_wed_111 : decode cX12_wed 111 = .ok (.getfield 92, 3) := by decide +kernel
theorem dX12_wed_114 : decode cX12_wed 114 = .ok (.iload_n 3, 1) := by decide +kernel
theorem dX12_wed_115 : decode cX12_wed 115 = .ok (.iaload, 1) := by decide +kernel
theorem dX12_wed_116 : decode cX12_wed 116 = .ok (.iadd, 1) := by decide +kernel
theorem dX12_wed_117 : decode cX12_wed 117 = .ok (.invokevirtual 245, 3) := by decide +kernel
theorem dX12_wed_120 : decode cX12_wed 120 = .ok (.istore 4, 2) := by decide +kernel
theorem dX12_wed_122 : decode cX12_wed 122 = .ok (.aload_n 0, 1) := by decide +kernel
theorem dX12_wed_123 : decode cX12_wed 123 = .ok (.getfield 92, 3) := by decide +kernel
theorem dX12_wed_126 : decode cX12_wed 126 = .ok (.iload_n 3, 1) := by decide +kernel
theorem dX12_wed_127 : decode cX12_wed 127 = .ok (.aload_n 0, 1) := by decide +kernel
theorem dX12_wed_128 : decode cX12_wed 128 = .ok (.getfield 92, 3) := by decide +kernel
theorem dX12_wed_131 : decode cX12_wed 131 = .ok (.iload_n 3, 1) := by decide +kernel
theorem dX12_wed_132 : decode cX12_wed 132 = .ok (.iaload, 1) := by decide +kernel
theorem dX12_wed_133 : decode cX12_wed 133 = .ok (.iconst 1, 1) := by decide +kernel
theorem dX12_wed_134 : decode cX12_wed 134 = .ok (.iadd, 1) := by decide +kernel
theorem dX12_wed_135 : decode cX12_wed 135 = .ok (.iastore, 1) := by decide +kernel
theorem dX12_wed_136 : decode cX12_wed 136 = .ok (.aload_n 0, 1) := by decide +kernel
theorem dX12_wed_137 : decode cX12_wed 137 = .ok (.getfield 89, 3) := by decide +kernel
theorem dX12_wed_140 : decode cX12_wed 140 = .ok (.iload 4, 2) := by decide +kernel
theorem dX12_wed_142 : decode cX12_wed 142 = .ok (.iaload, 1) := by decide +kernel
theorem dX12_wed_143 : decode cX12_wed 143 = .ok (.iconst (-1), 1) := by decide +kernel
theorem dX12_wed_144 : decode cX12_wed 144 = .ok (.if_icmp .eq 28, 3) := by decide +kernel
theorem dX12_wed_147 : decode cX12_wed 147 = .ok (.aload_n 0, 1) := by decide +kernel
theorem dX12_wed_148 : decode cX12_wed 148 = .ok (.iload 4, 2) := by decide +kernel
theorem dX12_wed_150 : decode cX12_wed 150 = .ok (.iload_n 3, 1) := by decide +kernel
theorem dX12_wed_151 : decode cX12_wed 151 = .ok (.iload_n 1, 1) := by decide +kernel
theorem dX12_wed_152 : decode cX12_wed 152 = .ok (.invokevirtual 377, 3) := by decide +kernel
theorem dX12_wed_155 : decode cX12_wed 155 = .ok (.aload_n 0, 1) := by decide +kernel
theorem dX12_wed_156 : decode cX12_wed 156 = .ok (.iload 4, 2) := by decide +kernel
theorem dX12_wed_158 : decode cX12_wed 158 = .ok (.aload_n 0, 1) := by decide +kernel
theorem dX12_wed_159 : decode cX12_wed 159 = .ok (.getfield 89, 3) := by decide +kernel
theorem dX12_wed_162 : decode cX12_wed 162 = .ok (.iload 4, 2) := by decide +kernel
theorem dX12_wed_164 : decode cX12_wed 164 = .ok (.iaload, 1) := by decide +kernel
theorem dX12_wed_165 : decode cX12_wed 165 = .ok (.iload_n 1, 1) := by decide +kernel
theorem dX12_wed_166 : decode cX12_wed 166 = .ok (.invokevirtual 377, 3) := by decide +kernel
theorem dX12_wed_169 : decode cX12_wed 169 = .ok (.if_icmp .ge 11, 3) := by decide +kernel
theorem dX12_wed_172 : decode cX12_wed 172 = .ok (.aload_n 0, 1) := by decide +kernel
theorem dX12_wed_173 : decode cX12_wed 173 = .ok (.getfield 89, 3) := by decide +kernel
theorem dX12_wed_176 : decode cX12_wed 176 = .ok (.iload 4, 2) := by decide +kernel
theorem dX12_wed_178 : decode cX12_wed 178 = .ok (.iload_n 3, 1) := by decide +kernel
theorem dX12_wed_179 : decode cX12_wed 179 = .ok (.iastore, 1) := by decide +kernel
theorem dX12_wed_180 : decode cX12_wed 180 = .ok (.aload_n 0, 1) := by decide +kernel
theorem dX12_wed_181 : decode cX12_wed 181 = .ok (.iload_n 1, 1) := by decide +kernel
theorem dX12_wed_182 : decode cX12_wed 182 = .ok (.invokevirtual 374, 3) := by decide +kernel
theorem dX12_wed_185 : decode cX12_wed 185 = .ok (.istore_n 3, 1) := by decide +kernel
theorem dX12_wed_186 : decode cX12_wed 186 = .ok (.goto (-85), 3) := by decide +kernel
theorem dX12_wed_189 : decode cX12_wed 189 = .ok (.iconst 0, 1) := by decide +kernel
theorem dX12_wed_190 : decode cX12_wed 190 = .ok (.istore 4, 2) := by decide +kernel
theorem dX12_wed_192 : decode cX12_wed 192 = .ok (.aload_n 0, 1) := by decide +kernel
theorem dX12_wed_193 : decode cX12_wed 193 = .ok (.getfield 89, 3) := by decide +kernel
theorem dX12_wed_196 : decode cX12_wed 196 = .ok (.iload 4, 2) := by decide +kernel
theorem dX12_wed_198 : decode cX12_wed 198 = .ok (.iaload, 1) := by decide +kernel
theorem dX12_wed_199 : decode cX12_wed 199 = .ok (.iload_n 2, 1) := by decide +kernel
theorem dX12_wed_200 : decode cX12_wed 200 = .ok (.if_icmp .eq 12, 3) := by decide +kernel
theorem dX12_wed_203 : decode cX12_wed 203 = .ok (.iload 4, 2) := by decide +kernel
theorem dX12_wed_205 : decode cX12_wed 205 = .ok (.iconst 1, 1) := by decide +kernel
theorem dX12_wed_206 : decode cX12_wed 206 = .ok (.iadd, 1) := by decide +kernel
theorem dX12_wed_207 : decode cX12_wed 207 = .ok (.istore 4, 2) := by decide +kernel
theorem dX12_wed_209 : decode cX12_wed 209 = .ok (.goto (-17), 3) := by decide +kernel
theorem dX12_wed_212 : decode cX12_wed 212 = .ok (.iload 4, 2) := by decide +kernel
theorem dX12_wed_214 : decode cX12_wed 214 = .ok (.ireturn, 1) := by decide +kernel
theorem dX12_unfolds_0 : decode cX12_unfolds 0 = .ok (.iload_n 1, 1) := by decide +kernel
theorem dX12_unfolds_1 : decode cX12_unfolds 1 = .ok (.istore_n 3, 1) := by decide +kernel
theorem dX12_unfolds_2 : decode cX12_unfolds 2 = .ok (.iconst 0, 1) := by decide +kernel
theorem dX12_unfolds_3 : decode cX12_unfolds 3 = .ok (.istore 4, 2) := by decide +kernel
theorem dX12_unfolds_5 : decode cX12_unfolds 5 = .ok (.iload 4, 2) := by decide +kernel
theorem dX12_unfolds_7 : decode cX12_unfolds 7 = .ok (.iload_n 2, 1) := by decide +kernel
theorem dX12_unfolds_8 : decode cX12_unfolds 8 = .ok (.if_icmp .ge 25, 3) := by decide +kernel
theorem dX12_unfolds_11 : decode cX12_unfolds 11 = .ok (.aload_n 0, 1) := by decide +kernel
theorem dX12_unfolds_12 : decode cX12_unfolds 12 = .ok (.getfield 102, 3) := by decide +kernel
theorem dX12_unfolds_15 : decode cX12_unfolds 15 = .ok (.iload 4, 2) := by decide +kernel
theorem dX12_unfolds_17 : decode cX12_unfolds 17 = .ok (.iload_n 3, 1) := by decide +kernel
theorem dX12_unfolds_18 : decode cX12_unfolds 18 = .ok (.bipush 6, 2) := by decide +kernel
theorem dX12_unfolds_20 : decode cX12_unfolds 20 = .ok (.irem, 1) := by decide +kernel
theorem dX12_unfolds_21 : decode cX12_unfolds 21 = .ok (.iastore, 1) := by decide +kernel
theorem dX12_unfolds_22 : decode cX12_unfolds 22 = .ok (.iload_n 3, 1) := by decide +kernel
theorem dX12_unfolds_23 : decode cX12_unfolds 23 = .ok (.bipush 6, 2) := by decide +kernel
theorem dX12_unfolds_25 : decode cX12_unfolds 25 = .ok (.idiv, 1) := by decide +kernel
theorem dX12_unfolds_26 : decode cX12_unfolds 26 = .ok (.istore_n 3, 1) := by decide +kernel
theorem dX12_unfolds_27 : decode cX12_unfolds 27 = .ok (.iinc 4 1, 3) := by decide +kernel
theorem dX12_unfolds_30 : decode cX12_unfolds 30 = .ok (.goto (-25), 3) := by decide +kernel
theorem dX12_unfolds_33 : decode cX12_unfolds 33 = .ok (.return_, 1) := by decide +kernel
theorem dX12_changedBy_0 : decode cX12_changedBy 0 = .ok (.iload_n 2, 1) := by decide +kernel
theorem dX12_changedBy_1 : decode cX12_changedBy 1 = .ok (.iload_n 2, 1) := by decide +kernel
theorem dX12_changedBy_2 : decode cX12_changedBy 2 = .ok (.iconst 1, 1) := by decide +kernel
theorem dX12_changedBy_3 : decode cX12_changedBy 3 = .ok (.ishr, 1) := by decide +kernel
theorem dX12_changedBy_4 : decode cX12_changedBy 4 = .ok (.iand, 1) := by decide +kernel
theorem dX12_changedBy_5 : decode cX12_changedBy 5 = .ok (.ifCond .eq 5, 3) := by decide +kernel
theorem dX12_changedBy_8 : decode cX12_changedBy 8 = .ok (.iconst (-1), 1) := by decide +kernel
theorem dX12_changedBy_9 : decode cX12_changedBy 9 = .ok (.ireturn, 1) := by decide +kernel
theorem dX12_changedBy_10 : decode cX12_changedBy 10 = .ok (.iconst 0, 1) := by decide +kernel
theorem dX12_changedBy_11 : decode cX12_changedBy 11 = .ok (.istore_n 3, 1) := by decide +kernel
theorem dX12_changedBy_12 : decode cX12_changedBy 12 = .ok (.iconst 0, 1) := by decide +kernel
theorem dX12_changedBy_13 : decode cX12_changedBy 13 = .ok (.istore 4, 2) := by decide +kernel
theorem dX12_changedBy_15 : decode cX12_changedBy 15 = .ok (.iload 4, 2) := by decide +kernel
theorem dX12_changedBy_17 : decode cX12_changedBy 17 = .ok (.iload_n 1, 1) := by decide +kernel
theorem dX12_changedBy_18 : decode cX12_changedBy 18 = .ok (.if_icmp .ge 70, 3) := by decide +kernel
theorem dX12_changedBy_21 : decode cX12_changedBy 21 = .ok (.iload_n 2, 1) := by decide +kernel
theorem dX12_changedBy_22 : decode cX12_changedBy 22 = .ok (.iload 4, 2) := by decide +kernel
theorem dX12_changedBy_24 : decode cX12_changedBy 24 = .ok (.invokestatic 354, 3) := by decide +kernel
theorem dX12_changedBy_27 : decode cX12_changedBy 27 = .ok (.ifCond .eq 10, 3) := by decide +kernel
theorem dX12_changedBy_30 : decode cX12_changedBy 30 = .ok (.iload 4, 2) := by decide +kernel
theorem dX12_changedBy_32 : decode cX12_changedBy 32 = .ok (.iconst 1, 1) := by decide +kernel
theorem dX12_changedBy_33 : decode cX12_changedBy 33 = .ok (.iadd, 1) := by decide +kernel
theorem dX12_changedBy_34 : decode cX12_changedBy 34 = .ok (.goto 28, 3) := by decide +kernel
theorem dX12_changedBy_37 : decode cX12_changedBy 37 = .ok (.iload 4, 2) := by decide +kernel
theorem dX12_changedBy_39 : decode cX12_changedBy 39 = .ok (.ifCond .le 21, 3) := by decide +kernel
theorem dX12_changedBy_42 : decode cX12_changedBy 42 = .ok (.iload_n 2, 1) := by decide +kernel
theorem dX12_changedBy_43 : decode cX12_changedBy 43 = .ok (.iload 4, 2) := by decide +kernel
theorem dX12_changedBy_45 : decode cX12_changedBy 45 = .ok (.iconst 1, 1) := by decide +kernel
theorem dX12_changedBy_46 : decode cX12_changedBy 46 = .ok (.isub, 1) := by decide +kernel
theorem dX12_changedBy_47 : decode cX12_changedBy 47 = .ok (.invokestatic 354, 3) := by decide +kernel
theorem dX12_changedBy_50 : decode cX12_changedBy 50 = .ok (.ifCond .eq 10, 3) := by decide +kernel
theorem dX12_changedBy_53 : decode cX12_changedBy 53 = .ok (.iload 4, 2) := by decide +kernel
theorem dX12_changedBy_55 : decode cX12_changedBy 55 = .ok (.iconst 1, 1) := by decide +kernel
theorem dX12_changedBy_56 : decode cX12_changedBy 56 = .ok (.isub, 1) := by decide +kernel
theorem dX12_changedBy_57 : decode cX12_changedBy 57 = .ok (.goto 5, 3) := by decide +kernel
theorem dX12_changedBy_60 : decode cX12_changedBy 60 = .ok (.iload 4, 2) := by decide +kernel
theorem dX12_changedBy_62 : decode cX12_changedBy 62 = .ok (.istore 5, 2) := by decide +kernel
theorem dX12_changedBy_64 : decode cX12_changedBy 64 = .ok (.iload_n 3, 1) := by decide +kernel
theorem dX12_changedBy_65 : decode cX12_changedBy 65 = .ok (.aload_n 0, 1) := by decide +kernel
theorem dX12_changedBy_66 : decode cX12_changedBy 66 = .ok (.getfield 105, 3) := by decide +kernel
theorem dX12_changedBy_69 : decode cX12_changedBy 69 = .ok (.iload 4, 2) := by decide +kernel
theorem dX12_changedBy_71 : decode cX12_changedBy 71 = .ok (.iaload, 1) := by decide +kernel
theorem dX12_changedBy_72 : decode cX12_changedBy 72 = .ok (.aload_n 0, 1) := by decide +kernel
theorem dX12_changedBy_73 : decode cX12_changedBy 73 = .ok (.getfield 102, 3) := by decide +kernel
theorem dX12_changedBy_76 : decode cX12_changedBy 76 = .ok (.iload 5, 2) := by decide +kernel
theorem dX12_changedBy_78 : decode cX12_changedBy 78 = .ok (.iaload, 1) := by decide +kernel
theorem dX12_changedBy_79 : decode cX12_changedBy 79 = .ok (.imul, 1) := by decide +kernel
theorem dX12_changedBy_80 : decode cX12_changedBy 80 = .ok (.iadd, 1) := by decide +kernel
theorem dX12_changedBy_81 : decode cX12_changedBy 81 = .ok (.istore_n 3, 1) := by decide +kernel
theorem dX12_changedBy_82 : decode cX12_changedBy 82 = .ok (.iinc 4 1, 3) := by decide +kernel
theorem dX12_changedBy_85 : decode cX12_changedBy 85 = .ok (.goto (-70), 3) := by decide +kernel
theorem dX12_changedBy_88 : decode cX12_changedBy 88 = .ok (.iload_n 3, 1) := by decide +kernel
theorem dX12_changedBy_89 : decode cX12_changedBy 89 = .ok (.ireturn, 1) := by decide +kernel
theorem dX12_changes_0 : decode cX12_changes 0 = .ok (.iload_n 1, 1) := by decide +kernel
theorem dX12_changes_1 : decode cX12_changes 1 = .ok (.iconst 2, 1) := by decide +kernel
theorem dX12_changes_2 : decode cX12_changes 2 = .ok (.bipush 6, 2) := by decide +kernel
theorem dX12_changes_4 : decode cX12_changes 4 = .ok (.invokestatic 113, 3) := by decide +kernel
theorem dX12_changes_7 : decode cX12_changes 7 = .ok (.ifCond .eq 11, 3) := by decide +kernel
theorem dX12_changes_10 : decode cX12_changes 10 = .ok (.iload_n 1, 1) := by decide +kernel
theorem dX12_changes_11 : decode cX12_changes 11 = .ok (.aload_n 0, 1) := by decide +kernel
theorem dX12_changes_12 : decode cX12_changes 12 = .ok (.getfield 128, 3) := by decide +kernel
theorem dX12_changes_15 : decode cX12_changes 15 = .ok (.if_icmp .le 5, 3) := by decide +kernel
theorem dX12_changes_18 : decode cX12_changes 18 = .ok (.iconst (-1), 1) := by decide +kernel
theorem dX12_changes_19 : decode cX12_changes 19 = .ok (.ireturn, 1) := by decide +kernel
theorem dX12_changes_20 : decode cX12_changes 20 = .ok (.aload_n 0, 1) := by decide +kernel
theorem dX12_changes_21 : decode cX12_changes 21 = .ok (.iconst 0, 1) := by decide +kernel
theorem dX12_changes_22 : decode cX12_changes 22 = .ok (.putfield 128, 3) := by decide +kernel
theorem dX12_changes_25 : decode cX12_changes 25 = .ok (.aload_n 0, 1) := by decide +kernel
theorem dX12_changes_26 : decode cX12_changes 26 = .ok (.iconst 0, 1) := by decide +kernel
theorem dX12_changes_27 : decode cX12_changes 27 = .ok (.iload_n 1, 1) := by decide +kernel
theorem dX12_changes_28 : decode cX12_changes 28 = .ok (.invokevirtual 371, 3) := by decide +kernel
theorem dX12_changes_31 : decode cX12_changes 31 = .ok (.ifCond .ne 6, 3) := by decide +kernel
theorem dX12_changes_34 : decode cX12_changes 34 = .ok (.bipush (-2), 2) := by decide +kernel
theorem dX12_changes_36 : decode cX12_changes 36 = .ok (.ireturn, 1) := by decide +kernel
theorem dX12_changes_37 : decode cX12_changes 37 = .ok (.aload_n 0, 1) := by decide +kernel
theorem dX12_changes_38 : decode cX12_changes 38 = .ok (.getfield 105, 3) := by decide +kernel
theorem dX12_changes_41 : decode cX12_changes 41 = .ok (.iconst 0, 1) := by decide +kernel
theorem dX12_changes_42 : decode cX12_changes 42 = .ok (.iconst 1, 1) := by decide +kernel
theorem dX12_changes_43 : decode cX12_changes 43 = .ok (.iastore, 1) := by decide +kernel
theorem dX12_changes_44 : decode cX12_changes 44 = .ok (.iconst 0, 1) := by decide +kernel
theorem dX12_changes_45 : decode cX12_changes 45 = .ok (.istore_n 2, 1) := by decide +kernel
theorem dX12_changes_46 : decode cX12_changes 46 = .ok (.iload_n 2, 1) := by decide +kernel
theorem dX12_changes_47 : decode cX12_changes 47 = .ok (.bipush 6, 2) := by decide +kernel
theorem dX12_changes_49 : decode cX12_changes 49 = .ok (.if_icmp .ge 26, 3) := by decide +kernel
theorem dX12_changes_52 : decode cX12_changes 52 = .ok (.aload_n 0, 1) := by decide +kernel
theorem dX12_changes_53 : decode cX12_changes 53 = .ok (.getfield 105, 3) := by decide +kernel
theorem dX12_changes_56 : decode cX12_changes 56 = .ok (.iload_n 2, 1) := by decide +kernel
theorem dX12_changes_57 : decode cX12_changes 57 = .ok (.iconst 1, 1) := by decide +kernel
theorem dX12_changes_58 : decode cX12_changes 58 = .ok (.iadd, 1) := by decide +kernel
theorem dX12_changes_59 : decode cX12_changes 59 = .ok (.bipush 6, 2) := by decide +kernel
theorem dX12_changes_61 : decode cX12_changes 61 = .ok (.aload_n 0, 1) := by decide +kernel
theorem dX12_changes_62 : decode cX12_changes 62 = .ok (.getfield 105, 3) := by decide +kernel
theorem dX12_changes_65 : decode cX12_changes 65 = .ok (.iload_n 2, 1) := by decide +kernel
theorem dX12_changes_66 : decode cX12_changes 66 = .ok (.iaload, 1) := by decide +kernel
theorem dX12_changes_67 : decode cX12_changes 67 = .ok (.imul, 1) := by decide +kernel
theorem dX12_changes_68 : decode cX12_changes 68 = .ok (.iastore, 1) := by decide +kernel
theorem dX12_changes_69 : decode cX12_changes 69 = .ok (.iinc 2 1, 3) := by decide +kernel
theorem dX12_changes_72 : decode cX12_changes 72 = .ok (.goto (-26), 3) := by decide +kernel
theorem dX12_changes_75 : decode cX12_changes 75 = .ok (.iconst 0, 1) := by decide +kernel
theorem dX12_changes_76 : decode cX12_changes 76 = .ok (.istore_n 2, 1) := by decide +kernel
theorem dX12_changes_77 : decode cX12_changes 77 = .ok (.iconst 0, 1) := by decide +kernel
theorem dX12_changes_78 : decode cX12_changes 78 = .ok (.istore_n 3, 1) := by decide +kernel
theorem dX12_changes_79 : decode cX12_changes 79 = .ok (.iconst 0, 1) := by decide +kernel
theorem dX12_changes_80 : decode cX12_changes 80 = .ok (.istore 4, 2) := by decide +kernel
theorem dX12_changes_82 : decode cX12_changes 82 = .ok (.iload 4, 2) := by decide +kernel
theorem dX12_changes_84 : decode cX12_changes 84 = .ok (.iload_n 1, 1) := by decide +kernel
theorem dX12_changes_85 : decode cX12_changes 85 = .ok (.if_icmp .ge 39, 3) := by decide +kernel
theorem dX12_changes_88 : decode cX12_changes 88 = .ok (.iload_n 2, 1) := by decide +kernel
theorem dX12_changes_89 : decode cX12_changes 89 = .ok (.aload_n 0, 1) := by decide +kernel
theorem dX12_changes_90 : decode cX12_changes 90 = .ok (.getfield 105, 3) := by decide +kernel
theorem dX12_changes_93 : decode cX12_changes 93 = .ok (.iload 4, 2) := by decide +kernel
theorem dX12_changes_95 : decode cX12_changes 95 = .ok (.iaload, 1) := by decide +kernel
theorem dX12_changes_96 : decode cX12_changes 96 = .ok (.iload 4, 2) := by decide +kernel
theorem dX12_changes_98 : decode cX12_changes 98 = .ok (.imul, 1) := by decide +kernel
theorem dX12_changes_99 : decode cX12_changes 99 = .ok (.iadd, 1) := by decide +kernel
theorem dX12_changes_100 : decode cX12_changes 100 = .ok (.istore_n 2, 1) := by decide +kernel
theorem dX12_changes_101 : decode cX12_changes 101 = .ok (.iload_n 3, 1) := by decide +kernel
theorem dX12_changes_102 : decode cX12_changes 102 = .ok (.aload_n 0, 1) := by decide +kernel
theorem dX12_changes_103 : decode cX12_changes 103 = .ok (.getfield 105, 3) := by decide +kernel
theorem dX12_changes_106 : decode cX12_changes 106 = .ok (.iload 4, 2) := by decide +kernel
theorem dX12_changes_108 : decode cX12_changes 108 = .ok (.iaload, 1) := by decide +kernel
theorem dX12_changes_109 : decode cX12_changes 109 = .ok (.aload_n 0, 1) := by decide +kernel
theorem dX12_changes_110 : decode cX12_changes 110 = .ok (.iload 4, 2) := by decide +kernel
theorem dX12_changes_112 : decode cX12_changes 112 = .ok (.invokevirtual 245, 3) := by decide +kernel
theorem dX12_changes_115 : decode cX12_changes 115 = .ok (.imul, 1) := by decide +kernel
theorem dX12_changes_116 : decode cX12_changes 116 = .ok (.iadd, 1) := by decide +kernel
theorem dX12_changes_117 : decode cX12_changes 117 = .ok (.istore_n 3, 1) := by decide +kernel
theorem dX12_changes_118 : decode cX12_changes 118 = .ok (.iinc 4 1, 3) := by decide +kernel
theorem dX12_changes_121 : decode cX12_changes 121 = .ok (.goto (-39), 3) := by decide +kernel
theorem dX12_changes_124 : decode cX12_changes 124 = .ok (.iconst 0, 1) := by decide +kernel
theorem dX12_changes_125 : decode cX12_changes 125 = .ok (.istore 4, 2) := by decide +kernel
theorem dX12_changes_127 : decode cX12_changes 127 = .ok (.iload 4, 2) := by decide +kernel
theorem dX12_changes_129 : decode cX12_changes 129 = .ok (.ldc 95, 2) := by decide +kernel
theorem dX12_changes_131 : decode cX12_changes 131 = .ok (.if_icmp .ge 17, 3) := by decide +kernel
theorem dX12_changes_134 : decode cX12_changes 134 = .ok (.aload_n 0, 1) := by decide +kernel
theorem dX12_changes_135 : decode cX12_changes 135 = .ok (.getfield 96, 3) := by decide +kernel
theorem dX12_changes_138 : decode cX12_changes 138 = .ok (.iload 4, 2) := by decide +kernel
theorem dX12_changes_140 : decode cX12_changes 140 = .ok (.iconst (-1), 1) := by decide +kernel
theorem dX12_changes_141 : decode cX12_changes 141 = .ok (.iastore, 1) := by decide +kernel
theorem dX12_changes_142 : decode cX12_changes 142 = .ok (.iinc 4 1, 3) := by decide +kernel
theorem dX12_changes_145 : decode cX12_changes 145 = .ok (.goto (-18), 3) := by decide +kernel
theorem dX12_changes_148 : decode cX12_changes 148 = .ok (.aload_n 0, 1) := by decide +kernel
theorem dX12_changes_149 : decode cX12_changes 149 = .ok (.getfield 96, 3) := by decide +kernel
theorem dX12_changes_152 : decode cX12_changes 152 = .ok (.iload_n 2, 1) := by decide +kernel
theorem dX12_changes_153 : decode cX12_changes 153 = .ok (.iconst 0, 1) := by decide +kernel
theorem dX12_changes_154 : decode cX12_changes 154 = .ok (.iastore, 1) := by decide +kernel
theorem dX12_changes_155 : decode cX12_changes 155 = .ok (.aload_n 0, 1) := by decide +kernel
theorem dX12_changes_156 : decode cX12_changes 156 = .ok (.getfield 99, 3) := by decide +kernel
theorem dX12_changes_159 : decode cX12_changes 159 = .ok (.iconst 0, 1) := by decide +kernel
theorem dX12_changes_160 : decode cX12_changes 160 = .ok (.iload_n 2, 1) := by decide +kernel
theorem dX12_changes_161 : decode cX12_changes 161 = .ok (.iastore, 1) := by decide +kernel
theorem dX12_changes_162 : decode cX12_changes 162 = .ok (.iconst 1, 1) := by decide +kernel
theorem dX12_changes_163 : decode cX12_changes 163 = .ok (.istore 4, 2) := by decide +kernel
theorem dX12_changes_165 : decode cX12_changes 165 = .ok (.iconst 0, 1) := by decide +kernel
theorem dX12_changes_166 : decode cX12_changes 166 = .ok (.istore 5, 2) := by decide +kernel
theorem dX12_changes_168 : decode cX12_changes 168 = .ok (.aload_n 0, 1) := by decide +kernel
theorem dX12_changes_169 : decode cX12_changes 169 = .ok (.getfield 96, 3) := by decide +kernel
theorem dX12_changes_172 : decode cX12_changes 172 = .ok (.iload_n 3, 1) := by decide +kernel
theorem dX12_changes_173 : decode cX12_changes 173 = .ok (.iaload, 1) := by decide +kernel
theorem dX12_changes_174 : decode cX12_changes 174 = .ok (.iconst (-1), 1) := by decide +kernel
theorem dX12_changes_175 : decode cX12_changes 175 = .ok (.if_icmp .ne 105, 3) := by decide +kernel
theorem dX12_changes_178 : decode cX12_changes 178 = .ok (.aload_n 0, 1) := by decide +kernel
theorem dX12_changes_179 : decode cX12_changes 179 = .ok (.aload_n 0, 1) := by decide +kernel
theorem dX12_changes_180 : decode cX12_changes 180 = .ok (.getfield 99, 3) := by decide +kernel
theorem dX12_changes_183 : decode cX12_changes 183 = .ok (.iload 5, 2) := by decide +kernel
theorem dX12_changes_185 : decode cX12_changes 185 = .ok (.iaload, 1) := by decide +kernel
theorem dX12_changes_186 : decode cX12_changes 186 = .ok (.iload_n 1, 1) := by decide +kernel
theorem dX12_changes_187 : decode cX12_changes 187 = .ok (.invokevirtual 380, 3) := by decide +kernel
theorem dX12_changes_190 : decode cX12_changes 190 = .ok (.iconst 1, 1) := by decide +kernel
theorem dX12_changes_191 : decode cX12_changes 191 = .ok (.istore 6, 2) := by decide +kernel
theorem dX12_changes_193 : decode cX12_changes 193 = .ok (.iload 6, 2) := by decide +kernel
theorem dX12_changes_195 : decode cX12_changes 195 = .ok (.iconst 1, 1) := by decide +kernel
theorem dX12_changes_196 : decode cX12_changes 196 = .ok (.iload_n 1, 1) := by decide +kernel
theorem dX12_changes_197 : decode cX12_changes 197 = .ok (.iconst 1, 1) := by decide +kernel
theorem dX12_changes_198 : decode cX12_changes 198 = .ok (.isub, 1) := by decide +kernel
theorem dX12_changes_199 : decode cX12_changes 199 = .ok (.ishl, 1) := by decide +kernel
theorem dX12_changes_200 : decode cX12_changes 200 = .ok (.if_icmp .ge 74, 3) := by decide +kernel
theorem dX12_changes_203 : decode cX12_changes 203 = .ok (.aload_n 0, 1) := by decide +kernel
theorem dX12_changes_204 : decode cX12_changes 204 = .ok (.iload_n 1, 1) := by decide +kernel
theorem dX12_changes_205 : decode cX12_changes 205 = .ok (.iload 6, 2) := by decide +kernel
theorem dX12_changes_207 : decode cX12_changes 207 = .ok (.invokevirtual 383, 3) := by decide +kernel
theorem dX12_changes_210 : decode cX12_changes 210 = .ok (.istore 7, 2) := by decide +kernel
theorem dX12_changes_212 : decode cX12_changes 212 = .ok (.iload 7, 2) := by decide +kernel
theorem dX12_changes_214 : decode cX12_changes 214 = .ok (.iconst (-1), 1) := by decide +kernel
theorem dX12_changes_215 : decode cX12_changes 215 = .ok (.if_icmp .eq 53, 3) := by decide +kernel
theorem dX12_changes_218 : decode cX12_changes 218 = .ok (.aload_n 0, 1) := by decide +kernel
theorem dX12_changes_219 : decode cX12_changes 219 = .ok (.getfield 96, 3) := by decide +kernel
theorem dX12_changes_222 : decode cX12_changes 222 = .ok (.iload 7, 2) := by decide +kernel
theorem dX12_changes_224 : decode cX12_changes 224 = .ok (.iaload, 1) := by decide +kernel
theorem dX12_changes_225 : decode cX12_changes 225 = .ok (.iconst (-1), 1) := by decide +kernel
theorem dX12_changes_226 : decode cX12_changes 226 = .ok (.if_icmp .eq 6, 3) := by decide +kernel
theorem dX12_changes_229 : decode cX12_changes 229 = .ok (.goto 39, 3) := by decide +kernel
theorem dX12_changes_232 : decode cX12_changes 232 = .ok (.aload_n 0, 1) := by decide +kernel
theorem dX12_changes_233 : decode cX12_changes 233 = .ok (.getfield 96, 3) := by decide +kernel
theorem dX12_changes_236 : decode cX12_changes 236 = .ok (.iload 7, 2) := by decide +kernel
theorem dX12_changes_238 : decode cX12_changes 238 = .ok (.aload_n 0, 1) := by decide +kernel
theorem dX12_changes_239 : decode cX12_changes 239 = .ok (.getfield 96, 3) := by decide +kernel
theorem dX12_changes_242 : decode cX12_changes 242 = .ok (.aload_n 0, 1) := by decide +kernel
theorem dX12_changes_243 : decode cX12_changes 243 = .ok (.getfield 99, 3) := by decide +kernel
theorem dX12_changes_246 : decode cX12_changes 246 = .ok (.iload 5, 2) := by decide +kernel
theorem dX12_changes_248 : decode cX12_changes 248 = .ok (.iaload, 1) := by decide +kernel
theorem dX12_changes_249 : decode cX12_changes 249 = .ok (.iaload, 1) := by decide +kernel
theorem dX12_changes_250 : decode cX12_changes 250 = .ok (.iconst 1, 1) := by decide +kernel
theorem dX12_changes_251 : decode cX12_changes 251 = .ok (.iadd, 1) := by decide +kernel
theorem dX12_changes_252 : decode cX12_changes 252 = .ok (.iastore, 1) := by decide +kernel
theorem dX12_changes_253 : decode cX12_changes 253 = .ok (.aload_n 0, 1) := by decide +kernel
theorem dX12_changes_254 : decode cX12_changes 254 = .ok (.getfield 99, 3) := by decide +kernel
theorem dX12_changes_257 : decode cX12_changes 257 = .ok (.iload 4, 2) := by decide +kernel
theorem dX12_changes_259 : decode cX12_changes 259 = .ok (.iload 7, 2) := by decide +kernel
theorem dX12_changes_261 : decode cX12_changes 261 = .ok (.iastore, 1) := by decide +kernel
theorem dX12_changes_262 : decode cX12_changes 262 = .ok (.iload 4, 2) := by decide +kernel
theorem dX12_changes_264 : decode cX12_changes 264 = .ok (.iconst 1, 1) := by decide +kernel
theorem dX12_changes_265 : decode cX12_changes 265 = .ok (.iadd, 1) := by decide +kernel
theorem dX12_changes_266 : decode cX12_changes 266 = .ok (.istore 4, 2) := by decide +kernel
theorem dX12_changes_268 : decode cX12_changes 268 = .ok (.iinc 6 1, 3) := by decide +kernel
theorem dX12_changes_271 : decode cX12_changes 271 = .ok (.goto (-78), 3) := by decide +kernel
theorem dX12_changes_274 : decode cX12_changes 274 = .ok (.iinc 5 1, 3) := by decide +kernel
theorem dX12_changes_277 : decode cX12_changes 277 = .ok (.goto (-109), 3) := by decide +kernel
theorem dX12_changes_280 : decode cX12_changes 280 = .ok (.aload_n 0, 1) := by decide +kernel
theorem dX12_changes_281 : decode cX12_changes 281 = .ok (.getfield 96, 3) := by decide +kernel
theorem dX12_changes_284 : decode cX12_changes 284 = .ok (.iload_n 3, 1) := by decide +kernel
theorem dX12_changes_285 : decode cX12_changes 285 = .ok (.iaload, 1) := by decide +kernel
theorem dX12_changes_286 : decode cX12_changes 286 = .ok (.ireturn, 1) := by decide +kernel
theorem dX12_longestRun_0 : decode cX12_longestRun 0 = .ok (.iconst 1, 1) := by decide +kernel
theorem dX12_longestRun_1 : decode cX12_longestRun 1 = .ok (.istore_n 2, 1) := by decide +kernel
theorem dX12_longestRun_2 : decode cX12_longestRun 2 = .ok (.iconst 1, 1) := by decide +kernel
theorem dX12_longestRun_3 : decode cX12_longestRun 3 = .ok (.istore_n 3, 1) := by decide +kernel
theorem dX12_longestRun_4 : decode cX12_longestRun 4 = .ok (.iconst 1, 1) := by decide +kernel
theorem dX12_longestRun_5 : decode cX12_longestRun 5 = .ok (.istore 4, 2) := by decide +kernel
theorem dX12_longestRun_7 : decode cX12_longestRun 7 = .ok (.iload 4, 2) := by decide +kernel
theorem dX12_longestRun_9 : decode cX12_longestRun 9 = .ok (.iload_n 1, 1) := by decide +kernel
theorem dX12_longestRun_10 : decode cX12_longestRun 10 = .ok (.if_icmp .ge 40, 3) := by decide +kernel
theorem dX12_longestRun_13 : decode cX12_longestRun 13 = .ok (.iload_n 0, 1) := by decide +kernel
theorem dX12_longestRun_14 : decode cX12_longestRun 14 = .ok (.iload 4, 2) := by decide +kernel
theorem dX12_longestRun_16 : decode cX12_longestRun 16 = .ok (.invokestatic 354, 3) := by decide +kernel
theorem dX12_longestRun_19 : decode cX12_longestRun 19 = .ok (.iload_n 0, 1) := by decide +kernel
theorem dX12_longestRun_20 : decode cX12_longestRun 20 = .ok (.iload 4, 2) := by decide +kernel
theorem dX12_longestRun_22 : decode cX12_longestRun 22 = .ok (.iconst 1, 1) := by decide +kernel
theorem dX12_longestRun_23 : decode cX12_longestRun 23 = .ok (.isub, 1) := by decide +kernel
theorem dX12_longestRun_24 : decode cX12_longestRun 24 = .ok (.invokestatic 354, 3) := by decide +kernel
theorem dX12_longestRun_27 : decode cX12_longestRun 27 = .ok (.if_icmp .ne 9, 3) := by decide +kernel
theorem dX12_longestRun_30 : decode cX12_longestRun 30 = .ok (.iload_n 3, 1) := by decide +kernel
theorem dX12_longestRun_31 : decode cX12_longestRun 31 = .ok (.iconst 1, 1) := by decide +kernel
theorem dX12_longestRun_32 : decode cX12_longestRun 32 = .ok (.iadd, 1) := by decide +kernel
theorem dX12_longestRun_33 : decode cX12_longestRun 33 = .ok (.goto 4, 3) := by decide +kernel
theorem dX12_longestRun_36 : decode cX12_longestRun 36 = .ok (.iconst 1, 1) := by decide +kernel
theorem dX12_longestRun_37 : decode cX12_longestRun 37 = .ok (.istore_n 3, 1) := by decide +kernel
theorem dX12_longestRun_38 : decode cX12_longestRun 38 = .ok (.iload_n 2, 1) := by decide +kernel
theorem dX12_longestRun_39 : decode cX12_longestRun 39 = .ok (.iload_n 3, 1) := by decide +kernel
theorem dX12_longestRun_40 : decode cX12_longestRun 40 = .ok (.invokestatic 272, 3) := by decide +kernel
theorem dX12_longestRun_43 : decode cX12_longestRun 43 = .ok (.istore_n 2, 1) := by decide +kernel
theorem dX12_longestRun_44 : decode cX12_longestRun 44 = .ok (.iinc 4 1, 3) := by decide +kernel
theorem dX12_longestRun_47 : decode cX12_longestRun 47 = .ok (.goto (-40), 3) := by decide +kernel
theorem dX12_longestRun_50 : decode cX12_longestRun 50 = .ok (.iload_n 2, 1) := by decide +kernel
theorem dX12_longestRun_51 : decode cX12_longestRun 51 = .ok (.ireturn, 1) := by decide +kernel
theorem dX12_dialect_0 : decode cX12_dialect 0 = .ok (.iload_n 1, 1) := by decide +kernel
theorem dX12_dialect_1 : decode cX12_dialect 1 = .ok (.iconst 1, 1) := by decide +kernel
theorem dX12_dialect_2 : decode cX12_dialect 2 = .ok (.bipush 8, 2) := by decide +kernel
theorem dX12_dialect_4 : decode cX12_dialect 4 = .ok (.invokestatic 113, 3) := by decide +kernel
theorem dX12_dialect_7 : decode cX12_dialect 7 = .ok (.ifCond .eq 22, 3) := by decide +kernel
theorem dX12_dialect_10 : decode cX12_dialect 10 = .ok (.iload_n 2, 1) := by decide +kernel
theorem dX12_dialect_11 : decode cX12_dialect 11 = .ok (.iconst 0, 1) := by decide +kernel
theorem dX12_dialect_12 : decode cX12_dialect 12 = .ok (.bipush 8, 2) := by decide +kernel
theorem dX12_dialect_14 : decode cX12_dialect 14 = .ok (.invokestatic 113, 3) := by decide +kernel
theorem dX12_dialect_17 : decode cX12_dialect 17 = .ok (.ifCond .eq 12, 3) := by decide +kernel
theorem dX12_dialect_20 : decode cX12_dialect 20 = .ok (.iload_n 3, 1) := by decide +kernel
theorem dX12_dialect_21 : decode cX12_dialect 21 = .ok (.iconst 0, 1) := by decide +kernel
theorem dX12_dialect_22 : decode cX12_dialect 22 = .ok (.iconst 1, 1) := by decide +kernel
theorem dX12_dialect_23 : decode cX12_dialect 23 = .ok (.invokestatic 113, 3) := by decide +kernel
theorem dX12_dialect_26 : decode cX12_dialect 26 = .ok (.ifCond .ne 5, 3) := by decide +kernel
theorem dX12_dialect_29 : decode cX12_dialect 29 = .ok (.iconst (-1), 1) := by decide +kernel
theorem dX12_dialect_30 : decode cX12_dialect 30 = .ok (.ireturn, 1) := by decide +kernel
theorem dX12_dialect_31 : decode cX12_dialect 31 = .ok (.iconst 0, 1) := by decide +kernel
theorem dX12_dialect_32 : decode cX12_dialect 32 = .ok (.istore 4, 2) := by decide +kernel
theorem dX12_dialect_34 : decode cX12_dialect 34 = .ok (.bipush (-2), 2) := by decide +kernel
theorem dX12_dialect_36 : decode cX12_dialect 36 = .ok (.istore 5, 2) := by decide +kernel
theorem dX12_dialect_38 : decode cX12_dialect 38 = .ok (.iconst 1, 1) := by decide +kernel
theorem dX12_dialect_39 : decode cX12_dialect 39 = .ok (.iload_n 1, 1) := by decide +kernel
theorem dX12_dialect_40 : decode cX12_dialect 40 = .ok (.ishl, 1) := by decide +kernel
theorem dX12_dialect_41 : decode cX12_dialect 41 = .ok (.iconst 1, 1) := by decide +kernel
theorem dX12_dialect_42 : decode cX12_dialect 42 = .ok (.isub, 1) := by decide +kernel
theorem dX12_dialect_43 : decode cX12_dialect 43 = .ok (.istore 6, 2) := by decide +kernel
theorem dX12_dialect_45 : decode cX12_dialect 45 = .ok (.iload 6, 2) := by decide +kernel
theorem dX12_dialect_47 : decode cX12_dialect 47 = .ok (.ifCond .lt 32, 3) := by decide +kernel
theorem dX12_dialect_50 : decode cX12_dialect 50 = .ok (.iload 6, 2) := by decide +kernel
theorem dX12_dialect_52 : decode cX12_dialect 52 = .ok (.iload_n 1, 1) := by decide +kernel
theorem dX12_dialect_53 : decode cX12_dialect 53 = .ok (.invokestatic 386, 3) := by decide +kernel
theorem dX12_dialect_56 : decode cX12_dialect 56 = .ok (.iload_n 2, 1) := by decide +kernel
theorem dX12_dialect_57 : decode cX12_dialect 57 = .ok (.if_icmp .le 6, 3) := by decide +kernel
theorem dX12_dialect_60 : decode cX12_dialect 60 = .ok (.goto 13, 3) := by decide +kernel
theorem dX12_dialect_63 : decode cX12_dialect 63 = .ok (.iload 4, 2) := by decide +kernel
theorem dX12_dialect_65 : decode cX12_dialect 65 = .ok (.iconst 1, 1) := by decide +kernel
theorem dX12_dialect_66 : decode cX12_dialect 66 = .ok (.iadd, 1) := by decide +kernel
theorem dX12_dialect_67 : decode cX12_dialect 67 = .ok (.istore 4, 2) := by decide +kernel
theorem dX12_dialect_69 : decode cX12_dialect 69 = .ok (.iload 6, 2) := by decide +kernel
theorem dX12_dialect_71 : decode cX12_dialect 71 = .ok (.istore 5, 2) := by decide +kernel
theorem dX12_dialect_73 : decode cX12_dialect 73 = .ok (.iinc 6 (-1), 3) := by decide +kernel
theorem dX12_dialect_76 : decode cX12_dialect 76 = .ok (.goto (-31), 3) := by decide +kernel
theorem dX12_dialect_79 : decode cX12_dialect 79 = .ok (.iload_n 3, 1) := by decide +kernel
theorem dX12_dialect_80 : decode cX12_dialect 80 = .ok (.ifCond .ne 8, 3) := by decide +kernel
theorem dX12_dialect_83 : decode cX12_dialect 83 = .ok (.iload 4, 2) := by decide +kernel
theorem dX12_dialect_85 : decode cX12_dialect 85 = .ok (.goto 5, 3) := by decide +kernel
theorem dX12_dialect_88 : decode cX12_dialect 88 = .ok (.iload 5, 2) := by decide +kernel
theorem dX12_dialect_90 : decode cX12_dialect 90 = .ok (.ireturn, 1) := by decide +kernel
theorem dX12_owed_0 : decode cX12_owed 0 = .ok (.iload_n 1, 1) := by decide +kernel
theorem dX12_owed_1 : decode cX12_owed 1 = .ok (.iconst 1, 1) := by decide +kernel
theorem dX12_owed_2 : decode cX12_owed 2 = .ok (.ldc 108, 2) := by decide +kernel
theorem dX12_owed_4 : decode cX12_owed 4 = .ok (.invokestatic 113, 3) := by decide +kernel
theorem dX12_owed_7 : decode cX12_owed 7 = .ok (.ifCond .eq 13, 3) := by decide +kernel
theorem dX12_owed_10 : decode cX12_owed 10 = .ok (.iload_n 2, 1) := by decide +kernel
theorem dX12_owed_11 : decode cX12_owed 11 = .ok (.iconst 0, 1) := by decide +kernel
theorem dX12_owed_12 : decode cX12_owed 12 = .ok (.bipush 50, 2) := by decide +kernel
theorem dX12_owed_14 : decode cX12_owed 14 = .ok (.invokestatic 113, 3) := by decide +kernel
theorem dX12_owed_17 : decode cX12_owed 17 = .ok (.ifCond .ne 5, 3) := by decide +kernel
theorem dX12_owed_20 : decode cX12_owed 20 = .ok (.iconst (-1), 1) := by decide +kernel
theorem dX12_owed_21 : decode cX12_owed 21 = .ok (.ireturn, 1) := by decide +kernel
theorem dX12_owed_22 : decode cX12_owed 22 = .ok (.aload_n 0, 1) := by decide +kernel
theorem dX12_owed_23 : decode cX12_owed 23 = .ok (.getfield 7, 3) := by decide +kernel
theorem dX12_owed_26 : decode cX12_owed 26 = .ok (.bipush 43, 2) := by decide +kernel
theorem dX12_owed_28 : decode cX12_owed 28 = .ok (.iaload, 1) := by decide +kernel
theorem dX12_owed_29 : decode cX12_owed 29 = .ok (.istore_n 3, 1) := by decide +kernel
theorem dX12_owed_30 : decode cX12_owed 30 = .ok (.iconst 0, 1) := by decide +kernel
theorem dX12_owed_31 : decode cX12_owed 31 = .ok (.istore 4, 2) := by decide +kernel
theorem dX12_owed_33 : decode cX12_owed 33 = .ok (.iload 4, 2) := by decide +kernel
theorem dX12_owed_35 : decode cX12_owed 35 = .ok (.sipush 200, 3) := by decide +kernel
theorem dX12_owed_38 : decode cX12_owed 38 = .ok (.if_icmp .gt 50, 3) := by decide +kernel
theorem dX12_owed_41 : decode cX12_owed 41 = .ok (.iload_n 3, 1) := by decide +kernel
theorem dX12_owed_42 : decode cX12_owed 42 = .ok (.ifCond .gt 6, 3) := by decide +kernel
theorem dX12_owed_45 : decode cX12_owed 45 = .ok (.iload 4, 2) := by decide +kernel
theorem dX12_owed_47 : decode cX12_owed 47 = .ok (.ireturn, 1) := by decide +kernel
theorem dX12_owed_48 : decode cX12_owed 48 = .ok (.iload_n 3, 1) := by decide +kernel
theorem dX12_owed_49 : decode cX12_owed 49 = .ok (.iload_n 3, 1) := by decide +kernel
theorem dX12_owed_50 : decode cX12_owed 50 = .ok (.bipush 100, 2) := by decide +kernel
theorem dX12_owed_52 : decode cX12_owed 52 = .ok (.idiv, 1) := by decide +kernel
theorem dX12_owed_53 : decode cX12_owed 53 = .ok (.iload_n 2, 1) := by decide +kernel
theorem dX12_owed_54 : decode cX12_owed 54 = .ok (.imul, 1) := by decide +kernel
theorem dX12_owed_55 : decode cX12_owed 55 = .ok (.iadd, 1) := by decide +kernel
theorem dX12_owed_56 : decode cX12_owed 56 = .ok (.iload_n 3, 1) := by decide +kernel
theorem dX12_owed_57 : decode cX12_owed 57 = .ok (.bipush 100, 2) := by decide +kernel
theorem dX12_owed_59 : decode cX12_owed 59 = .ok (.irem, 1) := by decide +kernel
theorem dX12_owed_60 : decode cX12_owed 60 = .ok (.iload_n 2, 1) := by decide +kernel
theorem dX12_owed_61 : decode cX12_owed 61 = .ok (.imul, 1) := by decide +kernel
theorem dX12_owed_62 : decode cX12_owed 62 = .ok (.bipush 99, 2) := by decide +kernel
theorem dX12_owed_64 : decode cX12_owed 64 = .ok (.iadd, 1) := by decide +kernel
theorem dX12_owed_65 : decode cX12_owed 65 = .ok (.bipush 100, 2) := by decide +kernel
theorem dX12_owed_67 : decode cX12_owed 67 = .ok (.idiv, 1) := by decide +kernel
theorem dX12_owed_68 : decode cX12_owed 68 = .ok (.iadd, 1) := by decide +kernel
theorem dX12_owed_69 : decode cX12_owed 69 = .ok (.iload_n 1, 1) := by decide +kernel
theorem dX12_owed_70 : decode cX12_owed 70 = .ok (.isub, 1) := by decide +kernel
theorem dX12_owed_71 : decode cX12_owed 71 = .ok (.istore_n 3, 1) := by decide +kernel
theorem dX12_owed_72 : decode cX12_owed 72 = .ok (.iload_n 3, 1) := by decide +kernel
theorem dX12_owed_73 : decode cX12_owed 73 = .ok (.ldc_w 347, 3) := by decide +kernel
theorem dX12_owed_76 : decode cX12_owed 76 = .ok (.if_icmp .le 6, 3) := by decide +kernel
theorem dX12_owed_79 : decode cX12_owed 79 = .ok (.bipush (-2), 2) := by decide +kernel
theorem dX12_owed_81 : decode cX12_owed 81 = .ok (.ireturn, 1) := by decide +kernel
theorem dX12_owed_82 : decode cX12_owed 82 = .ok (.iinc 4 1, 3) := by decide +kernel
theorem dX12_owed_85 : decode cX12_owed 85 = .ok (.goto (-52), 3) := by decide +kernel
theorem dX12_owed_88 : decode cX12_owed 88 = .ok (.bipush (-2), 2) := by decide +kernel
theorem dX12_owed_90 : decode cX12_owed 90 = .ok (.ireturn, 1) := by decide +kernel
theorem dX12_seed_0 : decode cX12_seed 0 = .ok (.iload_n 1, 1) := by decide +kernel
theorem dX12_seed_1 : decode cX12_seed 1 = .ok (.iconst 0, 1) := by decide +kernel
theorem dX12_seed_2 : decode cX12_seed 2 = .ok (.ldc_w 389, 3) := by decide +kernel
theorem dX12_seed_5 : decode cX12_seed 5 = .ok (.invokestatic 113, 3) := by decide +kernel
theorem dX12_seed_8 : decode cX12_seed 8 = .ok (.ifCond .ne 5, 3) := by decide +kernel
theorem dX12_seed_11 : decode cX12_seed 11 = .ok (.iconst 0, 1) := by decide +kernel
theorem dX12_seed_12 : decode cX12_seed 12 = .ok (.ireturn, 1) := by decide +kernel
theorem dX12_seed_13 : decode cX12_seed 13 = .ok (.aload_n 0, 1) := by decide +kernel
theorem dX12_seed_14 : decode cX12_seed 14 = .ok (.getfield 7, 3) := by decide +kernel
theorem dX12_seed_17 : decode cX12_seed 17 = .ok (.bipush 46, 2) := by decide +kernel
theorem dX12_seed_19 : decode cX12_seed 19 = .ok (.iload_n 1, 1) := by decide +kernel
theorem dX12_seed_20 : decode cX12_seed 20 = .ok (.iastore, 1) := by decide +kernel
theorem dX12_seed_21 : decode cX12_seed 21 = .ok (.iconst 1, 1) := by decide +kernel
theorem dX12_seed_22 : decode cX12_seed 22 = .ok (.ireturn, 1) := by decide +kernel
theorem dX12_keep_0 : decode cX12_keep 0 = .ok (.aload_n 0, 1) := by decide +kernel
theorem dX12_keep_1 : decode cX12_keep 1 = .ok (.iconst 1, 1) := by decide +kernel
theorem dX12_keep_2 : decode cX12_keep 2 = .ok (.putfield 390, 3) := by decide +kernel
theorem dX12_keep_5 : decode cX12_keep 5 = .ok (.aload_n 0, 1) := by decide +kernel
theorem dX12_keep_6 : decode cX12_keep 6 = .ok (.getfield 7, 3) := by decide +kernel
theorem dX12_keep_9 : decode cX12_keep 9 = .ok (.aload_n 0, 1) := by decide +kernel
theorem dX12_keep_10 : decode cX12_keep 10 = .ok (.getfield 16, 3) := by decide +kernel
theorem dX12_keep_13 : decode cX12_keep 13 = .ok (.invokestatic 285, 3) := by decide +kernel
theorem dX12_keep_16 : decode cX12_keep 16 = .ok (.aload_n 0, 1) := by decide +kernel
theorem dX12_keep_17 : decode cX12_keep 17 = .ok (.getfield 7, 3) := by decide +kernel
theorem dX12_keep_20 : decode cX12_keep 20 = .ok (.bipush 44, 2) := by decide +kernel
theorem dX12_keep_22 : decode cX12_keep 22 = .ok (.iaload, 1) := by decide +kernel
theorem dX12_keep_23 : decode cX12_keep 23 = .ok (.ireturn, 1) := by decide +kernel
theorem dX12_undo_0 : decode cX12_undo 0 = .ok (.aload_n 0, 1) := by decide +kernel
theorem dX12_undo_1 : decode cX12_undo 1 = .ok (.getfield 390, 3) := by decide +kernel
theorem dX12_undo_4 : decode cX12_undo 4 = .ok (.ifCond .ne 5, 3) := by decide +kernel
theorem dX12_undo_7 : decode cX12_undo 7 = .ok (.iconst 0, 1) := by decide +kernel
theorem dX12_undo_8 : decode cX12_undo 8 = .ok (.ireturn, 1) := by decide +kernel
theorem dX12_undo_9 : decode cX12_undo 9 = .ok (.aload_n 0, 1) := by decide +kernel
theorem dX12_undo_10 : decode cX12_undo 10 = .ok (.getfield 16, 3) := by decide +kernel
theorem dX12_undo_13 : decode cX12_undo 13 = .ok (.aload_n 0, 1) := by decide +kernel
theorem dX12_undo_14 : decode cX12_undo 14 = .ok (.getfield 7, 3) := by decide +kernel
theorem dX12_undo_17 : decode cX12_undo 17 = .ok (.invokestatic 285, 3) := by decide +kernel
theorem dX12_undo_20 : decode cX12_undo 20 = .ok (.iconst 1, 1) := by decide +kernel
theorem dX12_undo_21 : decode cX12_undo 21 = .ok (.ireturn, 1) := by decide +kernel
theorem dX12_check_0 : decode cX12_check 0 = .ok (.aload_n 0, 1) := by decide +kernel
theorem dX12_check_1 : decode cX12_check 1 = .ok (.getfield 128, 3) := by decide +kernel
theorem dX12_check_4 : decode cX12_check 4 = .ok (.iconst 4, 1) := by decide +kernel
theorem dX12_check_5 : decode cX12_check 5 = .ok (.if_icmp .ge 6, 3) := by decide +kernel
theorem dX12_check_8 : decode cX12_check 8 = .ok (.bipush (-2), 2) := by decide +kernel
theorem dX12_check_10 : decode cX12_check 10 = .ok (.ireturn, 1) := by decide +kernel
theorem dX12_check_11 : decode cX12_check 11 = .ok (.aload_n 0, 1) := by decide +kernel
theorem dX12_check_12 : decode cX12_check 12 = .ok (.iconst 0, 1) := by decide +kernel
theorem dX12_check_13 : decode cX12_check 13 = .ok (.putfield 128, 3) := by decide +kernel
theorem dX12_check_16 : decode cX12_check 16 = .ok (.aload_n 0, 1) := by decide +kernel
theorem dX12_check_17 : decode cX12_check 17 = .ok (.iconst 0, 1) := by decide +kernel
theorem dX12_check_18 : decode cX12_check 18 = .ok (.invokevirtual 245, 3) := by decide +kernel
theorem dX12_check_21 : decode cX12_check 21 = .ok (.aload_n 0, 1) := by decide +kernel
theorem dX12_check_22 : decode cX12_check 22 = .ok (.iconst 0, 1) := by decide +kernel
theorem dX12_check_23 : decode cX12_check 23 = .ok (.invokevirtual 121, 3) := by decide +kernel
theorem dX12_check_26 : decode cX12_check 26 = .ok (.if_icmp .eq 5, 3) := by decide +kernel
theorem dX12_check_29 : decode cX12_check 29 = .ok (.iconst 0, 1) := by decide +kernel
theorem dX12_check_30 : decode cX12_check 30 = .ok (.ireturn, 1) := by decide +kernel
theorem dX12_check_31 : decode cX12_check 31 = .ok (.aload_n 0, 1) := by decide +kernel
theorem dX12_check_32 : decode cX12_check 32 = .ok (.iconst 1, 1) := by decide +kernel
theorem dX12_check_33 : decode cX12_check 33 = .ok (.invokevirtual 245, 3) := by decide +kernel
theorem dX12_check_36 : decode cX12_check 36 = .ok (.aload_n 0, 1) := by decide +kernel
theorem dX12_check_37 : decode cX12_check 37 = .ok (.iconst 1, 1) := by decide +kernel
theorem dX12_check_38 : decode cX12_check 38 = .ok (.invokevirtual 121, 3) := by decide +kernel
theorem dX12_check_41 : decode cX12_check 41 = .ok (.if_icmp .eq 5, 3) := by decide +kernel
theorem dX12_check_44 : decode cX12_check 44 = .ok (.iconst 1, 1) := by decide +kernel
theorem dX12_check_45 : decode cX12_check 45 = .ok (.ireturn, 1) := by decide +kernel
theorem dX12_check_46 : decode cX12_check 46 = .ok (.aload_n 0, 1) := by decide +kernel
theorem dX12_check_47 : decode cX12_check 47 = .ok (.iconst 2, 1) := by decide +kernel
theorem dX12_check_48 : decode cX12_check 48 = .ok (.invokevirtual 245, 3) := by decide +kernel
theorem dX12_check_51 : decode cX12_check 51 = .ok (.aload_n 0, 1) := by decide +kernel
theorem dX12_check_52 : decode cX12_check 52 = .ok (.getfield 7, 3) := by decide +kernel
theorem dX12_check_55 : decode cX12_check 55 = .ok (.bipush 45, 2) := by decide +kernel
theorem dX12_check_57 : decode cX12_check 57 = .ok (.iaload, 1) := by decide +kernel
theorem dX12_check_58 : decode cX12_check 58 = .ok (.sipush 256, 3) := by decide +kernel
theorem dX12_check_61 : decode cX12_check 61 = .ok (.irem, 1) := by decide +kernel
theorem dX12_check_62 : decode cX12_check 62 = .ok (.if_icmp .eq 5, 3) := by decide +kernel
theorem dX12_check_65 : decode cX12_check 65 = .ok (.iconst 2, 1) := by decide +kernel
theorem dX12_check_66 : decode cX12_check 66 = .ok (.ireturn, 1) := by decide +kernel
theorem dX12_check_67 : decode cX12_check 67 = .ok (.aload_n 0, 1) := by decide +kernel
theorem dX12_check_68 : decode cX12_check 68 = .ok (.iconst 3, 1) := by decide +kernel
theorem dX12_check_69 : decode cX12_check 69 = .ok (.invokevirtual 245, 3) := by decide +kernel
theorem dX12_check_72 : decode cX12_check 72 = .ok (.aload_n 0, 1) := by decide +kernel
theorem dX12_check_73 : decode cX12_check 73 = .ok (.getfield 7, 3) := by decide +kernel
theorem dX12_check_76 : decode cX12_check 76 = .ok (.bipush 42, 2) := by decide +kernel
theorem dX12_check_78 : decode cX12_check 78 = .ok (.iaload, 1) := by decide +kernel
theorem dX12_check_79 : decode cX12_check 79 = .ok (.sipush 256, 3) := by decide +kernel
theorem dX12_check_82 : decode cX12_check 82 = .ok (.irem, 1) := by decide +kernel
theorem dX12_check_83 : decode cX12_check 83 = .ok (.if_icmp .eq 7, 3) := by decide +kernel
theorem dX12_check_86 : decode cX12_check 86 = .ok (.iconst 3, 1) := by decide +kernel
theorem dX12_check_87 : decode cX12_check 87 = .ok (.goto 4, 3) := by decide +kernel
theorem dX12_check_90 : decode cX12_check 90 = .ok (.iconst (-1), 1) := by decide +kernel
theorem dX12_check_91 : decode cX12_check 91 = .ok (.ireturn, 1) := by decide +kernel
theorem dX12_count_0 : decode cX12_count 0 = .ok (.iload_n 1, 1) := by decide +kernel
theorem dX12_count_1 : decode cX12_count 1 = .ok (.tableswitch 111 0 8 #[51, 59, 67, 75, 83, 88, 93, 98, 106], 51) := by decide +kernel
theorem dX12_count_52 : decode cX12_count 52 = .ok (.aload_n 0, 1) := by decide +kernel
theorem dX12_count_53 : decode cX12_count 53 = .ok (.getfield 7, 3) := by decide +kernel
theorem dX12_count_56 : decode cX12_count 56 = .ok (.bipush 44, 2) := by decide +kernel
theorem dX12_count_58 : decode cX12_count 58 = .ok (.iaload, 1) := by decide +kernel
theorem dX12_count_59 : decode cX12_count 59 = .ok (.ireturn, 1) := by decide +kernel
theorem dX12_count_60 : decode cX12_count 60 = .ok (.aload_n 0, 1) := by decide +kernel
theorem dX12_count_61 : decode cX12_count 61 = .ok (.getfield 7, 3) := by decide +kernel
theorem dX12_count_64 : decode cX12_count 64 = .ok (.bipush 42, 2) := by decide +kernel
theorem dX12_count_66 : decode cX12_count 66 = .ok (.iaload, 1) := by decide +kernel
theorem dX12_count_67 : decode cX12_count 67 = .ok (.ireturn, 1) := by decide +kernel
theorem dX12_count_68 : decode cX12_count 68 = .ok (.aload_n 0, 1) := by decide +kernel
theorem dX12_count_69 : decode cX12_count 69 = .ok (.getfield 7, 3) := by decide +kernel
theorem dX12_count_72 : decode cX12_count 72 = .ok (.bipush 43, 2) := by decide +kernel
theorem dX12_count_74 : decode cX12_count 74 = .ok (.iaload, 1) := by decide +kernel
theorem dX12_count_75 : decode cX12_count 75 = .ok (.ireturn, 1) := by decide +kernel
theorem dX12_count_76 : decode cX12_count 76 = .ok (.aload_n 0, 1) := by decide +kernel
theorem dX12_count_77 : decode cX12_count 77 = .ok (.getfield 7, 3) := by decide +kernel
theorem dX12_count_80 : decode cX12_count 80 = .ok (.bipush 45, 2) := by decide +kernel
theorem dX12_count_82 : decode cX12_count 82 = .ok (.iaload, 1) := by decide +kernel
theorem dX12_count_83 : decode cX12_count 83 = .ok (.ireturn, 1) := by decide +kernel
theorem dX12_count_84 : decode cX12_count 84 = .ok (.aload_n 0, 1) := by decide +kernel
theorem dX12_count_85 : decode cX12_count 85 = .ok (.getfield 109, 3) := by decide +kernel
theorem dX12_count_88 : decode cX12_count 88 = .ok (.ireturn, 1) := by decide +kernel
theorem dX12_count_89 : decode cX12_count 89 = .ok (.aload_n 0, 1) := by decide +kernel
theorem dX12_count_90 : decode cX12_count 90 = .ok (.getfield 229, 3) := by decide +kernel
theorem dX12_count_93 : decode cX12_count 93 = .ok (.ireturn, 1) := by decide +kernel
theorem dX12_count_94 : decode cX12_count 94 = .ok (.aload_n 0, 1) := by decide +kernel
theorem dX12_count_95 : decode cX12_count 95 = .ok (.getfield 128, 3) := by decide +kernel
theorem dX12_count_98 : decode cX12_count 98 = .ok (.ireturn, 1) := by decide +kernel
theorem dX12_count_99 : decode cX12_count 99 = .ok (.aload_n 0, 1) := by decide +kernel
theorem dX12_count_100 : decode cX12_count 100 = .ok (.getfield 7, 3) := by decide +kernel
theorem dX12_count_103 : decode cX12_count 103 = .ok (.bipush 46, 2) := by decide +kernel
theorem dX12_count_105 : decode cX12_count 105 = .ok (.iaload, 1) := by decide +kernel
theorem dX12_count_106 : decode cX12_count 106 = .ok (.ireturn, 1) := by decide +kernel
theorem dX12_count_107 : decode cX12_count 107 = .ok (.aload_n 0, 1) := by decide +kernel
theorem dX12_count_108 : decode cX12_count 108 = .ok (.invokevirtual 329, 3) := by decide +kernel
theorem dX12_count_111 : decode cX12_count 111 = .ok (.ireturn, 1) := by decide +kernel
theorem dX12_count_112 : decode cX12_count 112 = .ok (.iconst (-1), 1) := by decide +kernel
theorem dX12_count_113 : decode cX12_count 113 = .ok (.ireturn, 1) := by decide +kernel
theorem dL_law_0 : decode cL_law 0 = .ok (.new 7, 3) := by decide +kernel
theorem dL_law_3 : decode cL_law 3 = .ok (.dup, 1) := by decide +kernel
theorem dL_law_4 : decode cL_law 4 = .ok (.invokespecial 9, 3) := by decide +kernel
theorem dL_law_7 : decode cL_law 7 = .ok (.astore_n 1, 1) := by decide +kernel
theorem dL_law_8 : decode cL_law 8 = .ok (.new 10, 3) := by decide +kernel
theorem dL_law_11 : decode cL_law 11 = .ok (.dup, 1) := by decide +kernel
theorem dL_law_12 : decode cL_law 12 = .ok (.invokespecial 12, 3) := by decide +kernel
theorem dL_law_15 : decode cL_law 15 = .ok (.astore_n 2, 1) := by decide +kernel
theorem dL_law_16 : decode cL_law 16 = .ok (.iconst 0, 1) := by decide +kernel
theorem dL_law_17 : decode cL_law 17 = .ok (.istore_n 3, 1) := by decide +kernel
theorem dL_law_18 : decode cL_law 18 = .ok (.iload_n 3, 1) := by decide +kernel
theorem dL_law_19 : decode cL_law 19 = .ok (.aload_n 0, 1) := by decide +kernel
theorem dL_law_20 : decode cL_law 20 = .ok (.arraylength, 1) := by decide +kernel
theorem dL_law_21 : decode cL_law 21 = .ok (.bipush 6, 2) := by decide +kernel
theorem dL_law_23 : decode cL_law 23 = .ok (.isub, 1) := by decide +kernel
theorem dL_law_24 : decode cL_law 24 = .ok (.if_icmp .gt 1053, 3) := by decide +kernel
theorem dL_law_27 : decode cL_law 27 = .ok (.aload_n 0, 1) := by decide +kernel
theorem dL_law_28 : decode cL_law 28 = .ok (.iload_n 3, 1) := by decide +kernel
theorem dL_law_29 : decode cL_law 29 = .ok (.iaload, 1) := by decide +kernel
theorem dL_law_30 : decode cL_law 30 = .ok (.bipush 31, 2) := by decide +kernel
theorem dL_law_32 : decode cL_law 32 = .ok (.iand, 1) := by decide +kernel
theorem dL_law_33 : decode cL_law 33 = .ok (.tableswitch 1038 0 28 #[131, 154, 217, 240, 273, 296, 319, 352, 385, 428, 461, 484, 517, 550, 563, 626, 679, 722, 765, 798, 821, 854, 877, 920, 953, 976, 989, 1002, 1015], 131) := by decide +kernel
theorem dL_law_164 : decode cL_law 164 = .ok (.aload_n 1, 1) := by decide +kernel
theorem dL_law_165 : decode cL_law 165 = .ok (.aload_n 0, 1) := by decide +kernel
theorem dL_law_166 : decode cL_law 166 = .ok (.iload_n 3, 1) := by decide +kernel
theorem dL_law_167 : decode cL_law 167 = .ok (.iconst 1, 1) := by decide +kernel
theorem dL_law_168 : decode cL_law 168 = .ok (.iadd, 1) := by decide +kernel
theorem dL_law_169 : decode cL_law 169 = .ok (.iaload, 1) := by decide +kernel
theorem dL_law_170 : decode cL_law 170 = .ok (.invokevirtual 13, 3) := by decide +kernel
theorem dL_law_173 : decode cL_law 173 = .ok (.aload_n 2, 1) := by decide +kernel
theorem dL_law_174 : decode cL_law 174 = .ok (.aload_n 0, 1) := by decide +kernel
theorem dL_law_175 : decode cL_law 175 = .ok (.iload_n 3, 1) := by decide +kernel
theorem dL_law_176 : decode cL_law 176 = .ok (.iconst 1, 1) := by decide +kernel
theorem dL_law_177 : decode cL_law 177 = .ok (.iadd, 1) := by decide +kernel
theorem dL_law_178 : decode cL_law 178 = .ok (.iaload, 1) := by decide +kernel
theorem dL_law_179 : decode cL_law 179 = .ok (.invokevirtual 17, 3) := by decide +kernel
theorem dL_law_182 : decode cL_law 182 = .ok (.if_icmp .eq 889, 3) := by decide +kernel
theorem dL_law_185 : decode cL_law 185 = .ok (.iconst 0, 1) := by decide +kernel
theorem dL_law_186 : decode cL_law 186 = .ok (.ireturn, 1) := by decide +kernel
theorem dL_law_187 : decode cL_law 187 = .ok (.aload_n 1, 1) := by decide +kernel
theorem dL_law_188 : decode cL_law 188 = .ok (.aload_n 0, 1) := by decide +kernel
theorem dL_law_189 : decode cL_law 189 = .ok (.iload_n 3, 1) := by decide +kernel
theorem dL_law_190 : decode cL_law 190 = .ok (.iconst 1, 1) := by decide +kernel
theorem dL_law_191 : decode cL_law 191 = .ok (.iadd, 1) := by decide +kernel
theorem dL_law_192 : decode cL_law 192 = .ok (.iaload, 1) := by decide +kernel
theorem dL_law_193 : decode cL_law 193 = .ok (.aload_n 0, 1) := by decide +kernel
theorem dL_law_194 : decode cL_law 194 = .ok (.iload_n 3, 1) := by decide +kernel
theorem dL_law_195 : decode cL_law 195 = .ok (.iconst 2, 1) := by decide +kernel
theorem dL_law_196 : decode cL_law 196 = .ok (.iadd, 1) := by decide +kernel
theorem dL_law_197 : decode cL_law 197 = .ok (.iaload, 1) := by decide +kernel
theorem dL_law_198 : decode cL_law 198 = .ok (.aload_n 0, 1) := by decide +kernel
theorem dL_law_199 : decode cL_law 199 = .ok (.iload_n 3, 1) := by decide +kernel
theorem dL_law_200 : decode cL_law 200 = .ok (.iconst 3, 1) := by decide +kernel
theorem dL_law_201 : decode cL_law 201 = .ok (.iadd, 1) := by decide +kernel
theorem dL_law_202 : decode cL_law 202 = .ok (.iaload, 1) := by decide +kernel
theorem dL_law_203 : decode cL_law 203 = .ok (.aload_n 0, 1) := by decide +kernel
theorem dL_law_204 : decode cL_law 204 = .ok (.iload_n 3, 1) := by decide +kernel
theorem dL_law_205 : decode cL_law 205 = .ok (.iconst 4, 1) := by decide +kernel
theorem dL_law_206 : decode cL_law 206 = .ok (.iadd, 1) := by decide +kernel
theorem dL_law_207 : decode cL_law 207 = .ok (.iaload, 1) := by decide +kernel
theorem dL_law_208 : decode cL_law 208 = .ok (.aload_n 0, 1) := by decide +kernel
theorem dL_law_209 : decode cL_law 209 = .ok (.iload_n 3, 1) := by decide +kernel
theorem dL_law_210 : decode cL_law 210 = .ok (.iconst 5, 1) := by decide +kernel
theorem dL_law_211 : decode cL_law 211 = .ok (.iadd, 1) := by decide +kernel
theorem dL_law_212 : decode cL_law 212 = .ok (.iaload, 1) := by decide +kernel
theorem dL_law_213 : decode cL_law 213 = .ok (.invokevirtual 18, 3) := by decide +kernel
theorem dL_law_216 : decode cL_law 216 = .ok (.aload_n 2, 1) := by decide +kernel
theorem dL_law_217 : decode cL_law 217 = .ok (.aload_n 0, 1) := by decide +kernel
theorem dL_law_218 : decode cL_law 218 = .ok (.iload_n 3, 1) := by decide +kernel
theorem dL_law_219 : decode cL_law 219 = .ok (.iconst 1, 1) := by decide +kernel
theorem dL_law_220 : decode cL_law 220 = .ok (.iadd, 1) := by decide +kernel
theorem dL_law_221 : decode cL_law 221 = .ok (.iaload, 1) := by decide +kernel
theorem dL_law_222 : decode cL_law 222 = .ok (.aload_n 0, 1) := by decide +kernel
theorem dL_law_223 : decode cL_law 223 = .ok (.iload_n 3, 1) := by decide +kernel
theorem dL_law_224 : decode cL_law 224 = .ok (.iconst 2, 1) := by decide +kernel
theorem dL_law_225 : decode cL_law 225 = .ok (.iadd, 1) := by decide +kernel
theorem dL_law_226 : decode cL_law 226 = .ok (.iaload, 1) := by decide +kernel
theorem dL_law_227 : decode cL_law 227 = .ok (.aload_n 0, 1) := by decide +kernel
theorem dL_law_228 : decode cL_law 228 = .ok (.iload_n 3, 1) := by decide +kernel
theorem dL_law_229 : decode cL_law 229 = .ok (.iconst 3, 1) := by decide +kernel
theorem dL_law_230 : decode cL_law 230 = .ok (.iadd, 1) := by decide +kernel
theorem dL_law_231 : decode cL_law 231 = .ok (.iaload, 1) := by decide +kernel
theorem dL_law_232 : decode cL_law 232 = .ok (.aload_n 0, 1) := by decide +kernel
theorem dL_law_233 : decode cL_law 233 = .ok (.iload_n 3, 1) := by decide +kernel
theorem dL_law_234 : decode cL_law 234 = .ok (.iconst 4, 1) := by decide +kernel
theorem dL_law_235 : decode cL_law 235 = .ok (.iadd, 1) := by decide +kernel
theorem dL_law_236 : decode cL_law 236 = .ok (.iaload, 1) := by decide +kernel
theorem dL_law_237 : decode cL_law 237 = .ok (.aload_n 0, 1) := by decide +kernel
theorem dL_law_238 : decode cL_law 238 = .ok (.iload_n 3, 1) := by decide +kernel
theorem dL_law_239 : decode cL_law 239 = .ok (.iconst 5, 1) := by decide +kernel
theorem dL_law_240 : decode cL_law 240 = .ok (.iadd, 1) := by decide +kernel
theorem dL_law_241 : decode cL_law 241 = .ok (.iaload, 1) := by decide +kernel
theorem dL_law_242 : decode cL_law 242 = .ok (.invokevirtual 22, 3) := by decide +kernel
theorem dL_law_245 : decode cL_law 245 = .ok (.if_icmp .eq 826, 3) := by decide +kernel
theorem dL_law_248 : decode cL_law 248 = .ok (.iconst 0, 1) := by decide +kernel
theorem dL_law_249 : decode cL_law 249 = .ok (.ireturn, 1) := by decide +kernel
theorem dL_law_250 : decode cL_law 250 = .ok (.aload_n 1, 1) := by decide +kernel
theorem dL_law_251 : decode cL_law 251 = .ok (.aload_n 0, 1) := by decide +kernel
theorem dL_law_252 : decode cL_law 252 = .ok (.iload_n 3, 1) := by decide +kernel
theorem dL_law_253 : decode cL_law 253 = .ok (.iconst 1, 1) := by decide +kernel
theorem dL_law_254 : decode cL_law 254 = .ok (.iadd, 1) := by decide +kernel
theorem dL_law_255 : decode cL_law 255 = .ok (.iaload, 1) := by decide +kernel
theorem dL_law_256 : decode cL_law 256 = .ok (.invokevirtual 23, 3) := by decide +kernel
theorem dL_law_259 : decode cL_law 259 = .ok (.aload_n 2, 1) := by decide +kernel
theorem dL_law_260 : decode cL_law 260 = .ok (.aload_n 0, 1) := by decide +kernel
theorem dL_law_261 : decode cL_law 261 = .ok (.iload_n 3, 1) := by decide +kernel
theorem dL_law_262 : decode cL_law 262 = .ok (.iconst 1, 1) := by decide +kernel
theorem dL_law_263 : decode cL_law 263 = .ok (.iadd, 1) := by decide +kernel
theorem dL_law_264 : decode cL_law 264 = .ok (.iaload, 1) := by decide +kernel
theorem dL_law_265 : decode cL_law 265 = .ok (.invokevirtual 27, 3) := by decide +kernel
theorem dL_law_268 : decode cL_law 268 = .ok (.if_icmp .eq 803, 3) := by decide +kernel
theorem dL_law_271 : decode cL_law 271 = .ok (.iconst 0, 1) := by decide +kernel
theorem dL_law_272 : decode cL_law 272 = .ok (.ireturn, 1) := by decide +kernel
theorem dL_law_273 : decode cL_law 273 = .ok (.aload_n 1, 1) := by decide +kernel
theorem dL_law_274 : decode cL_law 274 = .ok (.aload_n 0, 1) := by decide +kernel
theorem dL_law_275 : decode cL_law 275 = .ok (.iload_n 3, 1) := by decide +kernel
theorem dL_law_276 : decode cL_law 276 = .ok (.iconst 1, 1) := by decide +kernel
theorem dL_law_277 : decode cL_law 277 = .ok (.iadd, 1) := by decide +kernel
theorem dL_law_278 : decode cL_law 278 = .ok (.iaload, 1) := by decide +kernel
theorem dL_law_279 : decode cL_law 279 = .ok (.aload_n 0, 1) := by decide +kernel
theorem dL_law_280 : decode cL_law 280 = .ok (.iload_n 3, 1) := by decide +kernel
theorem dL_law_281 : decode cL_law 281 = .ok (.iconst 2, 1) := by decide +kernel
theorem dL_law_282 : decode cL_law 282 = .ok (.iadd, 1) := by decide +kernel
theorem dL_law_283 : decode cL_law 283 = .ok (.iaload, 1) := by decide +kernel
theorem dL_law_284 : decode cL_law 284 = .ok (.invokevirtual 28, 3) := by decide +kernel
theorem dL_law_287 : decode cL_law 287 = .ok (.aload_n 2, 1) := by decide +kernel
theorem dL_law_288 : decode cL_law 288 = .ok (.aload_n 0, 1) := by decide +kernel
theorem dL_law_289 : decode cL_law 289 = .ok (.iload_n 3, 1) := by decide +kernel
theorem dL_law_290 : decode cL_law 290 = .ok (.iconst 1, 1) := by decide +kernel
theorem dL_law_291 : decode cL_law 291 = .ok (.iadd, 1) := by decide +kernel
theorem dL_law_292 : decode cL_law 292 = .ok (.iaload, 1) := by decide +kernel
theorem dL_law_293 : decode cL_law 293 = .ok (.aload_n 0, 1) := by decide +kernel
theorem dL_law_294 : decode cL_law 294 = .ok (.iload_n 3, 1) := by decide +kernel
theorem dL_law_295 : decode cL_law 295 = .ok (.iconst 2, 1) := by decide +kernel
theorem dL_law_296 : decode cL_law 296 = .ok (.iadd, 1) := by decide +kernel
theorem dL_law_297 : decode cL_law 297 = .ok (.iaload, 1) := by decide +kernel
theorem dL_law_298 : decode cL_law 298 = .ok (.invokevirtual 32, 3) := by decide +kernel
theorem dL_law_301 : decode cL_law 301 = .ok (.if_icmp .eq 770, 3) := by decide +kernel
theorem dL_law_304 : decode cL_law 304 = .ok (.iconst 0, 1) := by decide +kernel
theorem dL_law_305 : decode cL_law 305 = .ok (.ireturn, 1) := by decide +kernel
theorem dL_law_306 : decode cL_law 306 = .ok (.aload_n 1, 1) := by decide +kernel
theorem dL_law_307 : decode cL_law 307 = .ok (.aload_n 0, 1) := by decide +kernel
theorem dL_law_308 : decode cL_law 308 = .ok (.iload_n 3, 1) := by decide +kernel
theorem dL_law_309 : decode cL_law 309 = .ok (.iconst 1, 1) := by decide +kernel
theorem dL_law_310 : decode cL_law 310 = .ok (.iadd, 1) := by decide +kernel
theorem dL_law_311 : decode cL_law 311 = .ok (.iaload, 1) := by decide +kernel
theorem dL_law_312 : decode cL_law 312 = .ok (.invokevirtual 33, 3) := by decide +kernel
theorem dL_law_315 : decode cL_law 315 = .ok (.aload_n 2, 1) := by decide +kernel
theorem dL_law_316 : decode cL_law 316 = .ok (.aload_n 0, 1) := by decide +kernel
theorem dL_law_317 : decode cL_law 317 = .ok (.iload_n 3, 1) := by decide +kernel
theorem dL_law_318 : decode cL_law 318 = .ok (.iconst 1, 1) := by decide +kernel
theorem dL_law_319 : decode cL_law 319 = .ok (.iadd, 1) := by decide +kernel
theorem dL_law_320 : decode cL_law 320 = .ok (.iaload, 1) := by decide +kernel
theorem dL_law_321 : decode cL_law 321 = .ok (.invokevirtual 36, 3) := by decide +kernel
theorem dL_law_324 : decode cL_law 324 = .ok (.if_icmp .eq 747, 3) := by decide +kernel
theorem dL_law_327 : decode cL_law 327 = .ok (.iconst 0, 1) := by decide +kernel
theorem dL_law_328 : decode cL_law 328 = .ok (.ireturn, 1) := by decide +kernel
theorem dL_law_329 : decode cL_law 329 = .ok (.aload_n 1, 1) := by decide +kernel
theorem dL_law_330 : decode cL_law 330 = .ok (.aload_n 0, 1) := by decide +kernel
theorem dL_law_331 : decode cL_law 331 = .ok (.iload_n 3, 1) := by decide +kernel
theorem dL_law_332 : decode cL_law 332 = .ok (.iconst 1, 1) := by decide +kernel
theorem dL_law_333 : decode cL_law 333 = .ok (.iadd, 1) := by decide +kernel
theorem dL_law_334 : decode cL_law 334 = .ok (.iaload, 1) := by decide +kernel
theorem dL_law_335 : decode cL_law 335 = .ok (.invokevirtual 37, 3) := by decide +kernel
theorem dL_law_338 : decode cL_law 338 = .ok (.aload_n 2, 1) := by decide +kernel
theorem dL_law_339 : decode cL_law 339 = .ok (.aload_n 0, 1) := by decide +kernel
theorem dL_law_340 : decode cL_law 340 = .ok (.iload_n 3, 1) := by decide +kernel
theorem dL_law_341 : decode cL_law 341 = .ok (.iconst 1, 1) := by decide +kernel
theorem dL_law_342 : decode cL_law 342 = .ok (.iadd, 1) := by decide +kernel
theorem dL_law_343 : decode cL_law 343 = .ok (.iaload, 1) := by decide +kernel
theorem dL_law_344 : decode cL_law 344 = .ok (.invokevirtual 40, 3) := by decide +kernel
theorem dL_law_347 : decode cL_law 347 = .ok (.if_icmp .eq 724, 3) := by decide +kernel
theorem dL_law_350 : decode cL_law 350 = .ok (.iconst 0, 1) := by decide +kernel
theorem dL_law_351 : decode cL_law 351 = .ok (.ireturn, 1) := by decide +kernel
theorem dL_law_352 : decode cL_law 352 = .ok (.aload_n 1, 1) := by decide +kernel
theorem dL_law_353 : decode cL_law 353 = .ok (.aload_n 0, 1) := by decide +kernel
theorem dL_law_354 : decode cL_law 354 = .ok (.iload_n 3, 1) := by decide +kernel
theorem dL_law_355 : decode cL_law 355 = .ok (.iconst 1, 1) := by decide +kernel
theorem dL_law_356 : decode cL_law 356 = .ok (.iadd, 1) := by decide +kernel
theorem dL_law_357 : decode cL_law 357 = .ok (.iaload, 1) := by decide +kernel
theorem dL_law_358 : decode cL_law 358 = .ok (.aload_n 0, 1) := by decide +kernel
theorem dL_law_359 : decode cL_law 359 = .ok (.iload_n 3, 1) := by decide +kernel
theorem dL_law_360 : decode cL_law 360 = .ok (.iconst 2, 1) := by decide +kernel
theorem dL_law_361 : decode cL_law 361 = .ok (.iadd, 1) := by decide +kernel
theorem dL_law_362 : decode cL_law 362 = .ok (.iaload, 1) := by decide +kernel
theorem dL_law_363 : decode cL_law 363 = .ok (.invokevirtual 41, 3) := by decide +kernel
theorem dL_law_366 : decode cL_law 366 = .ok (.aload_n 2, 1) := by decide +kernel
theorem dL_law_367 : decode cL_law 367 = .ok (.aload_n 0, 1) := by decide +kernel
theorem dL_law_368 : decode cL_law 368 = .ok (.iload_n 3, 1) := by decide +kernel
theorem dL_law_369 : decode cL_law 369 = .ok (.iconst 1, 1) := by decide +kernel
theorem dL_law_370 : decode cL_law 370 = .ok (.iadd, 1) := by decide +kernel
theorem dL_law_371 : decode cL_law 371 = .ok (.iaload, 1) := by decide +kernel
theorem dL_law_372 : decode cL_law 372 = .ok (.aload_n 0, 1) := by decide +kernel
theorem dL_law_373 : decode cL_law 373 = .ok (.iload_n 3, 1) := by decide +kernel
theorem dL_law_374 : decode cL_law 374 = .ok (.iconst 2, 1) := by decide +kernel
theorem dL_law_375 : decode cL_law 375 = .ok (.iadd, 1) := by decide +kernel
theorem dL_law_376 : decode cL_law 376 = .ok (.iaload, 1) := by decide +kernel
theorem dL_law_377 : decode cL_law 377 = .ok (.invokevirtual 44, 3) := by decide +kernel
theorem dL_law_380 : decode cL_law 380 = .ok (.if_icmp .eq 691, 3) := by decide +kernel
theorem dL_law_383 : decode cL_law 383 = .ok (.iconst 0, 1) := by decide +kernel
theorem dL_law_384 : decode cL_law 384 = .ok (.ireturn, 1) := by decide +kernel
theorem dL_law_385 : decode cL_law 385 = .ok (.aload_n 1, 1) := by decide +kernel
theorem dL_law_386 : decode cL_law 386 = .ok (.aload_n 0, 1) := by decide +kernel
theorem dL_law_387 : decode cL_law 387 = .ok (.iload_n 3, 1) := by decide +kernel
theorem dL_law_388 : decode cL_law 388 = .ok (.iconst 1, 1) := by decide +kernel
theorem dL_law_389 : decode cL_law 389 = .ok (.iadd, 1) := by decide +kernel
theorem dL_law_390 : decode cL_law 390 = .ok (.iaload, 1) := by decide +kernel
theorem dL_law_391 : decode cL_law 391 = .ok (.aload_n 0, 1) := by decide +kernel
theorem dL_law_392 : decode cL_law 392 = .ok (.iload_n 3, 1) := by decide +kernel
theorem dL_law_393 : decode cL_law 393 = .ok (.iconst 2, 1) := by decide +kernel
theorem dL_law_394 : decode cL_law 394 = .ok (.iadd, 1) := by decide +kernel
theorem dL_law_395 : decode cL_law 395 = .ok (.iaload, 1) := by decide +kernel
theorem dL_law_396 : decode cL_law 396 = .ok (.invokevirtual 45, 3) := by decide +kernel
theorem dL_law_399 : decode cL_law 399 = .ok (.aload_n 2, 1) := by decide +kernel
theorem dL_law_400 : decode cL_law 400 = .ok (.aload_n 0, 1) := by decide +kernel
theorem dL_law_401 : decode cL_law 401 = .ok (.iload_n 3, 1) := by decide +kernel
theorem dL_law_402 : decode cL_law 402 = .ok (.iconst 1, 1) := by decide +kernel
theorem dL_law_403 : decode cL_law 403 = .ok (.iadd, 1) := by decide +kernel
theorem dL_law_404 : decode cL_law 404 = .ok (.iaload, 1) := by decide +kernel
theorem dL_law_405 : decode cL_law 405 = .ok (.aload_n 0, 1) := by decide +kernel
theorem dL_law_406 : decode cL_law 406 = .ok (.iload_n 3, 1) := by decide +kernel
theorem dL_law_407 : decode cL_law 407 = .ok (.iconst 2, 1) := by decide +kernel
theorem dL_law_408 : decode cL_law 408 = .ok (.iadd, 1) := by decide +kernel
theorem dL_law_409 : decode cL_law 409 = .ok (.iaload, 1) := by decide +kernel
theorem dL_law_410 : decode cL_law 410 = .ok (.invokevirtual 48, 3) := by decide +kernel
theorem dL_law_413 : decode cL_law 413 = .ok (.if_icmp .eq 658, 3) := by decide +kernel
theorem dL_law_416 : decode cL_law 416 = .ok (.iconst 0, 1) := by decide +kernel
theorem dL_law_417 : decode cL_law 417 = .ok (.ireturn, 1) := by decide +kernel
theorem dL_law_418 : decode cL_law 418 = .ok (.aload_n 1, 1) := by decide +kernel
theorem dL_law_419 : decode cL_law 419 = .ok (.aload_n 0, 1) := by decide +kernel
theorem dL_law_420 : decode cL_law 420 = .ok (.iload_n 3, 1) := by decide +kernel
theorem dL_law_421 : decode cL_law 421 = .ok (.iconst 1, 1) := by decide +kernel
theorem dL_law_422 : decode cL_law 422 = .ok (.iadd, 1) := by decide +kernel
theorem dL_law_423 : decode cL_law 423 = .ok (.iaload, 1) := by decide +kernel
theorem dL_law_424 : decode cL_law 424 = .ok (.aload_n 0, 1) := by decide +kernel
theorem dL_law_425 : decode cL_law 425 = .ok (.iload_n 3, 1) := by decide +kernel
theorem dL_law_426 : decode cL_law 426 = .ok (.iconst 2, 1) := by decide +kernel
theorem dL_law_427 : decode cL_law 427 = .ok (.iadd, 1) := by decide +kernel
theorem dL_law_428 : decode cL_law 428 = .ok (.iaload, 1) := by decide +kernel
theorem dL_law_429 : decode cL_law 429 = .ok (.aload_n 0, 1) := by decide +kernel
theorem dL_law_430 : decode cL_law 430 = .ok (.iload_n 3, 1) := by decide +kernel
theorem dL_law_431 : decode cL_law 431 = .ok (.iconst 3, 1) := by decide +kernel
theorem dL_law_432 : decode cL_law 432 = .ok (.iadd, 1) := by decide +kernel
theorem dL_law_433 : decode cL_law 433 = .ok (.iaload, 1) := by decide +kernel
theorem dL_law_434 : decode cL_law 434 = .ok (.invokevirtual 49, 3) := by decide +kernel
theorem dL_law_437 : decode cL_law 437 = .ok (.aload_n 2, 1) := by decide +kernel
theorem dL_law_438 : decode cL_law 438 = .ok (.aload_n 0, 1) := by decide +kernel
theorem dL_law_439 : decode cL_law 439 = .ok (.iload_n 3, 1) := by decide +kernel
theorem dL_law_440 : decode cL_law 440 = .ok (.iconst 1, 1) := by decide +kernel
theorem dL_law_441 : decode cL_law 441 = .ok (.iadd, 1) := by decide +kernel
theorem dL_law_442 : decode cL_law 442 = .ok (.iaload, 1) := by decide +kernel
theorem dL_law_443 : decode cL_law 443 = .ok (.aload_n 0, 1) := by decide +kernel
theorem dL_law_444 : decode cL_law 444 = .ok (.iload_n 3, 1) := by decide +kernel
theorem dL_law_445 : decode cL_law 445 = .ok (.iconst 2, 1) := by decide +kernel
theorem dL_law_446 : decode cL_law 446 = .ok (.iadd, 1) := by decide +kernel
theorem dL_law_447 : decode cL_law 447 = .ok (.iaload, 1) := by decide +kernel
theorem dL_law_448 : decode cL_law 448 = .ok (.aload_n 0, 1) := by decide +kernel
theorem dL_law_449 : decode cL_law 449 = .ok (.iload_n 3, 1) := by decide +kernel
theorem dL_law_450 : decode cL_law 450 = .ok (.iconst 3, 1) := by decide +kernel
theorem dL_law_451 : decode cL_law 451 = .ok (.iadd, 1) := by decide +kernel
theorem dL_law_452 : decode cL_law 452 = .ok (.iaload, 1) := by decide +kernel
theorem dL_law_453 : decode cL_law 453 = .ok (.invokevirtual 53, 3) := by decide +kernel
theorem dL_law_456 : decode cL_law 456 = .ok (.if_icmp .eq 615, 3) := by decide +kernel
theorem dL_law_459 : decode cL_law 459 = .ok (.iconst 0, 1) := by decide +kernel
theorem dL_law_460 : decode cL_law 460 = .ok (.ireturn, 1) := by decide +kernel
theorem dL_law_461 : decode cL_law 461 = .ok (.aload_n 1, 1) := by decide +kernel
theorem dL_law_462 : decode cL_law 462 = .ok (.aload_n 0, 1) := by decide +kernel
theorem dL_law_463 : decode cL_law 463 = .ok (.iload_n 3, 1) := by decide +kernel
theorem dL_law_464 : decode cL_law 464 = .ok (.iconst 1, 1) := by decide +kernel
theorem dL_law_465 : decode cL_law 465 = .ok (.iadd, 1) := by decide +kernel
theorem dL_law_466 : decode cL_law 466 = .ok (.iaload, 1) := by decide +kernel
theorem dL_law_467 : decode cL_law 467 = .ok (.aload_n 0, 1) := by decide +kernel
theorem dL_law_468 : decode cL_law 468 = .ok (.iload_n 3, 1) := by decide +kernel
theorem dL_law_469 : decode cL_law 469 = .ok (.iconst 2, 1) := by decide +kernel
theorem dL_law_470 : decode cL_law 470 = .ok (.iadd, 1) := by decide +kernel
theorem dL_law_471 : decode cL_law 471 = .ok (.iaload, 1) := by decide +kernel
theorem dL_law_472 : decode cL_law 472 = .ok (.invokevirtual 54, 3) := by decide +kernel
theorem dL_law_475 : decode cL_law 475 = .ok (.aload_n 2, 1) := by decide +kernel
theorem dL_law_476 : decode cL_law 476 = .ok (.aload_n 0, 1) := by decide +kernel
theorem dL_law_477 : decode cL_law 477 = .ok (.iload_n 3, 1) := by decide +kernel
theorem dL_law_478 : decode cL_law 478 = .ok (.iconst 1, 1) := by decide +kernel
theorem dL_law_479 : decode cL_law 479 = .ok (.iadd, 1) := by decide +kernel
theorem dL_law_480 : decode cL_law 480 = .ok (.iaload, 1) := by decide +kernel
theorem dL_law_481 : decode cL_law 481 = .ok (.aload_n 0, 1) := by decide +kernel
theorem dL_law_482 : decode cL_law 482 = .ok (.iload_n 3, 1) := by decide +kernel
theorem dL_law_483 : decode cL_law 483 = .ok (.iconst 2, 1) := by decide +kernel
theorem dL_law_484 : decode cL_law 484 = .ok (.iadd, 1) := by decide +kernel
theorem dL_law_485 : decode cL_law 485 = .ok (.iaload, 1) := by decide +kernel
theorem dL_law_486 : decode cL_law 486 = .ok (.invokevirtual 57, 3) := by decide +kernel
theorem dL_law_489 : decode cL_law 489 = .ok (.if_icmp .eq 582, 3) := by decide +kernel
theorem dL_law_492 : decode cL_law 492 = .ok (.iconst 0, 1) := by decide +kernel
theorem dL_law_493 : decode cL_law 493 = .ok (.ireturn, 1) := by decide +kernel
theorem dL_law_494 : decode cL_law 494 = .ok (.aload_n 1, 1) := by decide +kernel
theorem dL_law_495 : decode cL_law 495 = .ok (.aload_n 0, 1) := by decide +kernel
theorem dL_law_496 : decode cL_law 496 = .ok (.iload_n 3, 1) := by decide +kernel
theorem dL_law_497 : decode cL_law 497 = .ok (.iconst 1, 1) := by decide +kernel
theorem dL_law_498 : decode cL_law 498 = .ok (.iadd, 1) := by decide +kernel
theorem dL_law_499 : decode cL_law 499 = .ok (.iaload, 1) := by decide +kernel
theorem dL_law_500 : decode cL_law 500 = .ok (.invokevirtual 58, 3) := by decide +kernel
theorem dL_law_503 : decode cL_law 503 = .ok (.aload_n 2, 1) := by decide +kernel
theorem dL_law_504 : decode cL_law 504 = .ok (.aload_n 0, 1) := by decide +kernel
theorem dL_law_505 : decode cL_law 505 = .ok (.iload_n 3, 1) := by decide +kernel
theorem dL_law_506 : decode cL_law 506 = .ok (.iconst 1, 1) := by decide +kernel
theorem dL_law_507 : decode cL_law 507 = .ok (.iadd, 1) := by decide +kernel
theorem dL_law_508 : decode cL_law 508 = .ok (.iaload, 1) := by decide +kernel
theorem dL_law_509 : decode cL_law 509 = .ok (.invokevirtual 61, 3) := by decide +kernel
theorem dL_law_512 : decode cL_law 512 = .ok (.if_icmp .eq 559, 3) := by decide +kernel
theorem dL_law_515 : decode cL_law 515 = .ok (.iconst 0, 1) := by decide +kernel
theorem dL_law_516 : decode cL_law 516 = .ok (.ireturn, 1) := by decide +kernel
theorem dL_law_517 : decode cL_law 517 = .ok (.aload_n 1, 1) := by decide +kernel
theorem dL_law_518 : decode cL_law 518 = .ok (.aload_n 0, 1) := by decide +kernel
theorem dL_law_519 : decode cL_law 519 = .ok (.iload_n 3, 1) := by decide +kernel
theorem dL_law_520 : decode cL_law 520 = .ok (.iconst 1, 1) := by decide +kernel
theorem dL_law_521 : decode cL_law 521 = .ok (.iadd, 1) := by decide +kernel
theorem dL_law_522 : decode cL_law 522 = .ok (.iaload, 1) := by decide +kernel
theorem dL_law_523 : decode cL_law 523 = .ok (.aload_n 0, 1) := by decide +kernel
theorem dL_law_524 : decode cL_law 524 = .ok (.iload_n 3, 1) := by decide +kernel
theorem dL_law_525 : decode cL_law 525 = .ok (.iconst 2, 1) := by decide +kernel
theorem dL_law_526 : decode cL_law 526 = .ok (.iadd, 1) := by decide +kernel
theorem dL_law_527 : decode cL_law 527 = .ok (.iaload, 1) := by decide +kernel
theorem dL_law_528 : decode cL_law 528 = .ok (.invokevirtual 62, 3) := by decide +kernel
theorem dL_law_531 : decode cL_law 531 = .ok (.aload_n 2, 1) := by decide +kernel
theorem dL_law_532 : decode cL_law 532 = .ok (.aload_n 0, 1) := by decide +kernel
theorem dL_law_533 : decode cL_law 533 = .ok (.iload_n 3, 1) := by decide +kernel
theorem dL_law_534 : decode cL_law 534 = .ok (.iconst 1, 1) := by decide +kernel
theorem dL_law_535 : decode cL_law 535 = .ok (.iadd, 1) := by decide +kernel
theorem dL_law_536 : decode cL_law 536 = .ok (.iaload, 1) := by decide +kernel
theorem dL_law_537 : decode cL_law 537 = .ok (.aload_n 0, 1) := by decide +kernel
theorem dL_law_538 : decode cL_law 538 = .ok (.iload_n 3, 1) := by decide +kernel
theorem dL_law_539 : decode cL_law 539 = .ok (.iconst 2, 1) := by decide +kernel
theorem dL_law_540 : decode cL_law 540 = .ok (.iadd, 1) := by decide +kernel
theorem dL_law_541 : decode cL_law 541 = .ok (.iaload, 1) := by decide +kernel
theorem dL_law_542 : decode cL_law 542 = .ok (.invokevirtual 65, 3) := by decide +kernel
theorem dL_law_545 : decode cL_law 545 = .ok (.if_icmp .eq 526, 3) := by decide +kernel
theorem dL_law_548 : decode cL_law 548 = .ok (.iconst 0, 1) := by decide +kernel
theorem dL_law_549 : decode cL_law 549 = .ok (.ireturn, 1) := by decide +kernel
theorem dL_law_550 : decode cL_law 550 = .ok (.aload_n 1, 1) := by decide +kernel
theorem dL_law_551 : decode cL_law 551 = .ok (.aload_n 0, 1) := by decide +kernel
theorem dL_law_552 : decode cL_law 552 = .ok (.iload_n 3, 1) := by decide +kernel
theorem dL_law_553 : decode cL_law 553 = .ok (.iconst 1, 1) := by decide +kernel
theorem dL_law_554 : decode cL_law 554 = .ok (.iadd, 1) := by decide +kernel
theorem dL_law_555 : decode cL_law 555 = .ok (.iaload, 1) := by decide +kernel
theorem dL_law_556 : decode cL_law 556 = .ok (.aload_n 0, 1) := by decide +kernel
theorem dL_law_557 : decode cL_law 557 = .ok (.iload_n 3, 1) := by decide +kernel
theorem dL_law_558 : decode cL_law 558 = .ok (.iconst 2, 1) := by decide +kernel
theorem dL_law_559 : decode cL_law 559 = .ok (.iadd, 1) := by decide +kernel
theorem dL_law_560 : decode cL_law 560 = .ok (.iaload, 1) := by decide +kernel
theorem dL_law_561 : decode cL_law 561 = .ok (.invokevirtual 66, 3) := by decide +kernel
theorem dL_law_564 : decode cL_law 564 = .ok (.aload_n 2, 1) := by decide +kernel
theorem dL_law_565 : decode cL_law 565 = .ok (.aload_n 0, 1) := by decide +kernel
theorem dL_law_566 : decode cL_law 566 = .ok (.iload_n 3, 1) := by decide +kernel
theorem dL_law_567 : decode cL_law 567 = .ok (.iconst 1, 1) := by decide +kernel
theorem dL_law_568 : decode cL_law 568 = .ok (.iadd, 1) := by decide +kernel
theorem dL_law_569 : decode cL_law 569 = .ok (.iaload, 1) := by decide +kernel
theorem dL_law_570 : decode cL_law 570 = .ok (.aload_n 0, 1) := by decide +kernel
theorem dL_law_571 : decode cL_law 571 = .ok (.iload_n 3, 1) := by decide +kernel
theorem dL_law_572 : decode cL_law 572 = .ok (.iconst 2, 1) := by decide +kernel
theorem dL_law_573 : decode cL_law 573 = .ok (.iadd, 1) := by decide +kernel
theorem dL_law_574 : decode cL_law 574 = .ok (.iaload, 1) := by decide +kernel
theorem dL_law_575 : decode cL_law 575 = .ok (.invokevirtual 69, 3) := by decide +kernel
theorem dL_law_578 : decode cL_law 578 = .ok (.if_icmp .eq 493, 3) := by decide +kernel
theorem dL_law_581 : decode cL_law 581 = .ok (.iconst 0, 1) := by decide +kernel
theorem dL_law_582 : decode cL_law 582 = .ok (.ireturn, 1) := by decide +kernel
theorem dL_law_583 : decode cL_law 583 = .ok (.aload_n 1, 1) := by decide +kernel
theorem dL_law_584 : decode cL_law 584 = .ok (.invokevirtual 70, 3) := by decide +kernel
theorem dL_law_587 : decode cL_law 587 = .ok (.aload_n 2, 1) := by decide +kernel
theorem dL_law_588 : decode cL_law 588 = .ok (.invokevirtual 74, 3) := by decide +kernel
theorem dL_law_591 : decode cL_law 591 = .ok (.if_icmp .eq 480, 3) := by decide +kernel
theorem dL_law_594 : decode cL_law 594 = .ok (.iconst 0, 1) := by decide +kernel
theorem dL_law_595 : decode cL_law 595 = .ok (.ireturn, 1) := by decide +kernel
theorem dL_law_596 : decode cL_law 596 = .ok (.aload_n 1, 1) := by decide +kernel
theorem dL_law_597 : decode cL_law 597 = .ok (.aload_n 0, 1) := by decide +kernel
theorem dL_law_598 : decode cL_law 598 = .ok (.iload_n 3, 1) := by decide +kernel
theorem dL_law_599 : decode cL_law 599 = .ok (.iconst 1, 1) := by decide +kernel
theorem dL_law_600 : decode cL_law 600 = .ok (.iadd, 1) := by decide +kernel
theorem dL_law_601 : decode cL_law 601 = .ok (.iaload, 1) := by decide +kernel
theorem dL_law_602 : decode cL_law 602 = .ok (.aload_n 0, 1) := by decide +kernel
theorem dL_law_603 : decode cL_law 603 = .ok (.iload_n 3, 1) := by decide +kernel
theorem dL_law_604 : decode cL_law 604 = .ok (.iconst 2, 1) := by decide +kernel
theorem dL_law_605 : decode cL_law 605 = .ok (.iadd, 1) := by decide +kernel
theorem dL_law_606 : decode cL_law 606 = .ok (.iaload, 1) := by decide +kernel
theorem dL_law_607 : decode cL_law 607 = .ok (.aload_n 0, 1) := by decide +kernel
theorem dL_law_608 : decode cL_law 608 = .ok (.iload_n 3, 1) := by decide +kernel
theorem dL_law_609 : decode cL_law 609 = .ok (.iconst 3, 1) := by decide +kernel
theorem dL_law_610 : decode cL_law 610 = .ok (.iadd, 1) := by decide +kernel
theorem dL_law_611 : decode cL_law 611 = .ok (.iaload, 1) := by decide +kernel
theorem dL_law_612 : decode cL_law 612 = .ok (.aload_n 0, 1) := by decide +kernel
theorem dL_law_613 : decode cL_law 613 = .ok (.iload_n 3, 1) := by decide +kernel
theorem dL_law_614 : decode cL_law 614 = .ok (.iconst 4, 1) := by decide +kernel
theorem dL_law_615 : decode cL_law 615 = .ok (.iadd, 1) := by decide +kernel
theorem dL_law_616 : decode cL_law 616 = .ok (.iaload, 1) := by decide +kernel
theorem dL_law_617 : decode cL_law 617 = .ok (.aload_n 0, 1) := by decide +kernel
theorem dL_law_618 : decode cL_law 618 = .ok (.iload_n 3, 1) := by decide +kernel
theorem dL_law_619 : decode cL_law 619 = .ok (.iconst 5, 1) := by decide +kernel
theorem dL_law_620 : decode cL_law 620 = .ok (.iadd, 1) := by decide +kernel
theorem dL_law_621 : decode cL_law 621 = .ok (.iaload, 1) := by decide +kernel
theorem dL_law_622 : decode cL_law 622 = .ok (.invokevirtual 75, 3) := by decide +kernel
theorem dL_law_625 : decode cL_law 625 = .ok (.aload_n 2, 1) := by decide +kernel
theorem dL_law_626 : decode cL_law 626 = .ok (.aload_n 0, 1) := by decide +kernel
theorem dL_law_627 : decode cL_law 627 = .ok (.iload_n 3, 1) := by decide +kernel
theorem dL_law_628 : decode cL_law 628 = .ok (.iconst 1, 1) := by decide +kernel
theorem dL_law_629 : decode cL_law 629 = .ok (.iadd, 1) := by decide +kernel
theorem dL_law_630 : decode cL_law 630 = .ok (.iaload, 1) := by decide +kernel
theorem dL_law_631 : decode cL_law 631 = .ok (.aload_n 0, 1) := by decide +kernel
theorem dL_law_632 : decode cL_law 632 = .ok (.iload_n 3, 1) := by decide +kernel
theorem dL_law_633 : decode cL_law 633 = .ok (.iconst 2, 1) := by decide +kernel
theorem dL_law_634 : decode cL_law 634 = .ok (.iadd, 1) := by decide +kernel
theorem dL_law_635 : decode cL_law 635 = .ok (.iaload, 1) := by decide +kernel
theorem dL_law_636 : decode cL_law 636 = .ok (.aload_n 0, 1) := by decide +kernel
theorem dL_law_637 : decode cL_law 637 = .ok (.iload_n 3, 1) := by decide +kernel
theorem dL_law_638 : decode cL_law 638 = .ok (.iconst 3, 1) := by decide +kernel
theorem dL_law_639 : decode cL_law 639 = .ok (.iadd, 1) := by decide +kernel
theorem dL_law_640 : decode cL_law 640 = .ok (.iaload, 1) := by decide +kernel
theorem dL_law_641 : decode cL_law 641 = .ok (.aload_n 0, 1) := by decide +kernel
theorem dL_law_642 : decode cL_law 642 = .ok (.iload_n 3, 1) := by decide +kernel
theorem dL_law_643 : decode cL_law 643 = .ok (.iconst 4, 1) := by decide +kernel
theorem dL_law_644 : decode cL_law 644 = .ok (.iadd, 1) := by decide +kernel
theorem dL_law_645 : decode cL_law 645 = .ok (.iaload, 1) := by decide +kernel
theorem dL_law_646 : decode cL_law 646 = .ok (.aload_n 0, 1) := by decide +kernel
theorem dL_law_647 : decode cL_law 647 = .ok (.iload_n 3, 1) := by decide +kernel
theorem dL_law_648 : decode cL_law 648 = .ok (.iconst 5, 1) := by decide +kernel
theorem dL_law_649 : decode cL_law 649 = .ok (.iadd, 1) := by decide +kernel
theorem dL_law_650 : decode cL_law 650 = .ok (.iaload, 1) := by decide +kernel
theorem dL_law_651 : decode cL_law 651 = .ok (.invokevirtual 78, 3) := by decide +kernel
theorem dL_law_654 : decode cL_law 654 = .ok (.if_icmp .eq 417, 3) := by decide +kernel
theorem dL_law_657 : decode cL_law 657 = .ok (.iconst 0, 1) := by decide +kernel
theorem dL_law_658 : decode cL_law 658 = .ok (.ireturn, 1) := by decide +kernel
theorem dL_law_659 : decode cL_law 659 = .ok (.aload_n 1, 1) := by decide +kernel
theorem dL_law_660 : decode cL_law 660 = .ok (.aload_n 0, 1) := by decide +kernel
theorem dL_law_661 : decode cL_law 661 = .ok (.iload_n 3, 1) := by decide +kernel
theorem dL_law_662 : decode cL_law 662 = .ok (.iconst 1, 1) := by decide +kernel
theorem dL_law_663 : decode cL_law 663 = .ok (.iadd, 1) := by decide +kernel
theorem dL_law_664 : decode cL_law 664 = .ok (.iaload, 1) := by decide +kernel
theorem dL_law_665 : decode cL_law 665 = .ok (.aload_n 0, 1) := by decide +kernel
theorem dL_law_666 : decode cL_law 666 = .ok (.iload_n 3, 1) := by decide +kernel
theorem dL_law_667 : decode cL_law 667 = .ok (.iconst 2, 1) := by decide +kernel
theorem dL_law_668 : decode cL_law 668 = .ok (.iadd, 1) := by decide +kernel
theorem dL_law_669 : decode cL_law 669 = .ok (.iaload, 1) := by decide +kernel
theorem dL_law_670 : decode cL_law 670 = .ok (.aload_n 0, 1) := by decide +kernel
theorem dL_law_671 : decode cL_law 671 = .ok (.iload_n 3, 1) := by decide +kernel
theorem dL_law_672 : decode cL_law 672 = .ok (.iconst 3, 1) := by decide +kernel
theorem dL_law_673 : decode cL_law 673 = .ok (.iadd, 1) := by decide +kernel
theorem dL_law_674 : decode cL_law 674 = .ok (.iaload, 1) := by decide +kernel
theorem dL_law_675 : decode cL_law 675 = .ok (.aload_n 0, 1) := by decide +kernel
theorem dL_law_676 : decode cL_law 676 = .ok (.iload_n 3, 1) := by decide +kernel
theorem dL_law_677 : decode cL_law 677 = .ok (.iconst 4, 1) := by decide +kernel
theorem dL_law_678 : decode cL_law 678 = .ok (.iadd, 1) := by decide +kernel
theorem dL_law_679 : decode cL_law 679 = .ok (.iaload, 1) := by decide +kernel
theorem dL_law_680 : decode cL_law 680 = .ok (.invokevirtual 79, 3) := by decide +kernel
theorem dL_law_683 : decode cL_law 683 = .ok (.aload_n 2, 1) := by decide +kernel
theorem dL_law_684 : decode cL_law 684 = .ok (.aload_n 0, 1) := by decide +kernel
theorem dL_law_685 : decode cL_law 685 = .ok (.iload_n 3, 1) := by decide +kernel
theorem dL_law_686 : decode cL_law 686 = .ok (.iconst 1, 1) := by decide +kernel
theorem dL_law_687 : decode cL_law 687 = .ok (.iadd, 1) := by decide +kernel
theorem dL_law_688 : decode cL_law 688 = .ok (.iaload, 1) := by decide +kernel
theorem dL_law_689 : decode cL_law 689 = .ok (.aload_n 0, 1) := by decide +kernel
theorem dL_law_690 : decode cL_law 690 = .ok (.iload_n 3, 1) := by decide +kernel
theorem dL_law_691 : decode cL_law 691 = .ok (.iconst 2, 1) := by decide +kernel
theorem dL_law_692 : decode cL_law 692 = .ok (.iadd, 1) := by decide +kernel
theorem dL_law_693 : decode cL_law 693 = .ok (.iaload, 1) := by decide +kernel
theorem dL_law_694 : decode cL_law 694 = .ok (.aload_n 0, 1) := by decide +kernel
theorem dL_law_695 : decode cL_law 695 = .ok (.iload_n 3, 1) := by decide +kernel
theorem dL_law_696 : decode cL_law 696 = .ok (.iconst 3, 1) := by decide +kernel
theorem dL_law_697 : decode cL_law 697 = .ok (.iadd, 1) := by decide +kernel
theorem dL_law_698 : decode cL_law 698 = .ok (.iaload, 1) := by decide +kernel
theorem dL_law_699 : decode cL_law 699 = .ok (.aload_n 0, 1) := by decide +kernel
theorem dL_law_700 : decode cL_law 700 = .ok (.iload_n 3, 1) := by decide +kernel
theorem dL_law_701 : decode cL_law 701 = .ok (.iconst 4, 1) := by decide +kernel
theorem dL_law_702 : decode cL_law 702 = .ok (.iadd, 1) := by decide +kernel
theorem dL_law_703 : decode cL_law 703 = .ok (.iaload, 1) := by decide +kernel
theorem dL_law_704 : decode cL_law 704 = .ok (.invokevirtual 83, 3) := by decide +kernel
theorem dL_law_707 : decode cL_law 707 = .ok (.if_icmp .eq 364, 3) := by decide +kernel
theorem dL_law_710 : decode cL_law 710 = .ok (.iconst 0, 1) := by decide +kernel
theorem dL_law_711 : decode cL_law 711 = .ok (.ireturn, 1) := by decide +kernel
theorem dL_law_712 : decode cL_law 712 = .ok (.aload_n 1, 1) := by decide +kernel
theorem dL_law_713 : decode cL_law 713 = .ok (.aload_n 0, 1) := by decide +kernel
theorem dL_law_714 : decode cL_law 714 = .ok (.iload_n 3, 1) := by decide +kernel
theorem dL_law_715 : decode cL_law 715 = .ok (.iconst 1, 1) := by decide +kernel
theorem dL_law_716 : decode cL_law 716 = .ok (.iadd, 1) := by decide +kernel
theorem dL_law_717 : decode cL_law 717 = .ok (.iaload, 1) := by decide +kernel
theorem dL_law_718 : decode cL_law 718 = .ok (.aload_n 0, 1) := by decide +kernel
theorem dL_law_719 : decode cL_law 719 = .ok (.iload_n 3, 1) := by decide +kernel
theorem dL_law_720 : decode cL_law 720 = .ok (.iconst 2, 1) := by decide +kernel
theorem dL_law_721 : decode cL_law 721 = .ok (.iadd, 1) := by decide +kernel
theorem dL_law_722 : decode cL_law 722 = .ok (.iaload, 1) := by decide +kernel
theorem dL_law_723 : decode cL_law 723 = .ok (.aload_n 0, 1) := by decide +kernel
theorem dL_law_724 : decode cL_law 724 = .ok (.iload_n 3, 1) := by decide +kernel
theorem dL_law_725 : decode cL_law 725 = .ok (.iconst 3, 1) := by decide +kernel
theorem dL_law_726 : decode cL_law 726 = .ok (.iadd, 1) := by decide +kernel
theorem dL_law_727 : decode cL_law 727 = .ok (.iaload, 1) := by decide +kernel
theorem dL_law_728 : decode cL_law 728 = .ok (.invokevirtual 84, 3) := by decide +kernel
theorem dL_law_731 : decode cL_law 731 = .ok (.aload_n 2, 1) := by decide +kernel
theorem dL_law_732 : decode cL_law 732 = .ok (.aload_n 0, 1) := by decide +kernel
theorem dL_law_733 : decode cL_law 733 = .ok (.iload_n 3, 1) := by decide +kernel
theorem dL_law_734 : decode cL_law 734 = .ok (.iconst 1, 1) := by decide +kernel
theorem dL_law_735 : decode cL_law 735 = .ok (.iadd, 1) := by decide +kernel
theorem dL_law_736 : decode cL_law 736 = .ok (.iaload, 1) := by decide +kernel
theorem dL_law_737 : decode cL_law 737 = .ok (.aload_n 0, 1) := by decide +kernel
theorem dL_law_738 : decode cL_law 738 = .ok (.iload_n 3, 1) := by decide +kernel
theorem dL_law_739 : decode cL_law 739 = .ok (.iconst 2, 1) := by decide +kernel
theorem dL_law_740 : decode cL_law 740 = .ok (.iadd, 1) := by decide +kernel
theorem dL_law_741 : decode cL_law 741 = .ok (.iaload, 1) := by decide +kernel
theorem dL_law_742 : decode cL_law 742 = .ok (.aload_n 0, 1) := by decide +kernel
theorem dL_law_743 : decode cL_law 743 = .ok (.iload_n 3, 1) := by decide +kernel
theorem dL_law_744 : decode cL_law 744 = .ok (.iconst 3, 1) := by decide +kernel
theorem dL_law_745 : decode cL_law 745 = .ok (.iadd, 1) := by decide +kernel
theorem dL_law_746 : decode cL_law 746 = .ok (.iaload, 1) := by decide +kernel
theorem dL_law_747 : decode cL_law 747 = .ok (.invokevirtual 87, 3) := by decide +kernel
theorem dL_law_750 : decode cL_law 750 = .ok (.if_icmp .eq 321, 3) := by decide +kernel
theorem dL_law_753 : decode cL_law 753 = .ok (.iconst 0, 1) := by decide +kernel
theorem dL_law_754 : decode cL_law 754 = .ok (.ireturn, 1) := by decide +kernel
theorem dL_law_755 : decode cL_law 755 = .ok (.aload_n 1, 1) := by decide +kernel
theorem dL_law_756 : decode cL_law 756 = .ok (.aload_n 0, 1) := by decide +kernel
theorem dL_law_757 : decode cL_law 757 = .ok (.iload_n 3, 1) := by decide +kernel
theorem dL_law_758 : decode cL_law 758 = .ok (.iconst 1, 1) := by decide +kernel
theorem dL_law_759 : decode cL_law 759 = .ok (.iadd, 1) := by decide +kernel
theorem dL_law_760 : decode cL_law 760 = .ok (.iaload, 1) := by decide +kernel
theorem dL_law_761 : decode cL_law 761 = .ok (.aload_n 0, 1) := by decide +kernel
theorem dL_law_762 : decode cL_law 762 = .ok (.iload_n 3, 1) := by decide +kernel
theorem dL_law_763 : decode cL_law 763 = .ok (.iconst 2, 1) := by decide +kernel
theorem dL_law_764 : decode cL_law 764 = .ok (.iadd, 1) := by decide +kernel
theorem dL_law_765 : decode cL_law 765 = .ok (.iaload, 1) := by decide +kernel
theorem dL_law_766 : decode cL_law 766 = .ok (.aload_n 0, 1) := by decide +kernel
theorem dL_law_767 : decode cL_law 767 = .ok (.iload_n 3, 1) := by decide +kernel
theorem dL_law_768 : decode cL_law 768 = .ok (.iconst 3, 1) := by decide +kernel
theorem dL_law_769 : decode cL_law 769 = .ok (.iadd, 1) := by decide +kernel
theorem dL_law_770 : decode cL_law 770 = .ok (.iaload, 1) := by decide +kernel
theorem dL_law_771 : decode cL_law 771 = .ok (.invokevirtual 88, 3) := by decide +kernel
theorem dL_law_774 : decode cL_law 774 = .ok (.aload_n 2, 1) := by decide +kernel
theorem dL_law_775 : decode cL_law 775 = .ok (.aload_n 0, 1) := by decide +kernel
theorem dL_law_776 : decode cL_law 776 = .ok (.iload_n 3, 1) := by decide +kernel
theorem dL_law_777 : decode cL_law 777 = .ok (.iconst 1, 1) := by decide +kernel
theorem dL_law_778 : decode cL_law 778 = .ok (.iadd, 1) := by decide +kernel
theorem dL_law_779 : decode cL_law 779 = .ok (.iaload, 1) := by decide +kernel
theorem dL_law_780 : decode cL_law 780 = .ok (.aload_n 0, 1) := by decide +kernel
theorem dL_law_781 : decode cL_law 781 = .ok (.iload_n 3, 1) := by decide +kernel
theorem dL_law_782 : decode cL_law 782 = .ok (.iconst 2, 1) := by decide +kernel
theorem dL_law_783 : decode cL_law 783 = .ok (.iadd, 1) := by decide +kernel
theorem dL_law_784 : decode cL_law 784 = .ok (.iaload, 1) := by decide +kernel
theorem dL_law_785 : decode cL_law 785 = .ok (.aload_n 0, 1) := by decide +kernel
theorem dL_law_786 : decode cL_law 786 = .ok (.iload_n 3, 1) := by decide +kernel
theorem dL_law_787 : decode cL_law 787 = .ok (.iconst 3, 1) := by decide +kernel
theorem dL_law_788 : decode cL_law 788 = .ok (.iadd, 1) := by decide +kernel
theorem dL_law_789 : decode cL_law 789 = .ok (.iaload, 1) := by decide +kernel
theorem dL_law_790 : decode cL_law 790 = .ok (.invokevirtual 91, 3) := by decide +kernel
theorem dL_law_793 : decode cL_law 793 = .ok (.if_icmp .eq 278, 3) := by decide +kernel
theorem dL_law_796 : decode cL_law 796 = .ok (.iconst 0, 1) := by decide +kernel
theorem dL_law_797 : decode cL_law 797 = .ok (.ireturn, 1) := by decide +kernel
theorem dL_law_798 : decode cL_law 798 = .ok (.aload_n 1, 1) := by decide +kernel
theorem dL_law_799 : decode cL_law 799 = .ok (.aload_n 0, 1) := by decide +kernel
theorem dL_law_800 : decode cL_law 800 = .ok (.iload_n 3, 1) := by decide +kernel
theorem dL_law_801 : decode cL_law 801 = .ok (.iconst 1, 1) := by decide +kernel
theorem dL_law_802 : decode cL_law 802 = .ok (.iadd, 1) := by decide +kernel
theorem dL_law_803 : decode cL_law 803 = .ok (.iaload, 1) := by decide +kernel
theorem dL_law_804 : decode cL_law 804 = .ok (.aload_n 0, 1) := by decide +kernel
theorem dL_law_805 : decode cL_law 805 = .ok (.iload_n 3, 1) := by decide +kernel
theorem dL_law_806 : decode cL_law 806 = .ok (.iconst 2, 1) := by decide +kernel
theorem dL_law_807 : decode cL_law 807 = .ok (.iadd, 1) := by decide +kernel
theorem dL_law_808 : decode cL_law 808 = .ok (.iaload, 1) := by decide +kernel
theorem dL_law_809 : decode cL_law 809 = .ok (.invokevirtual 92, 3) := by decide +kernel
theorem dL_law_812 : decode cL_law 812 = .ok (.aload_n 2, 1) := by decide +kernel
theorem dL_law_813 : decode cL_law 813 = .ok (.aload_n 0, 1) := by decide +kernel
theorem dL_law_814 : decode cL_law 814 = .ok (.iload_n 3, 1) := by decide +kernel
theorem dL_law_815 : decode cL_law 815 = .ok (.iconst 1, 1) := by decide +kernel
theorem dL_law_816 : decode cL_law 816 = .ok (.iadd, 1) := by decide +kernel
theorem dL_law_817 : decode cL_law 817 = .ok (.iaload, 1) := by decide +kernel
theorem dL_law_818 : decode cL_law 818 = .ok (.aload_n 0, 1) := by decide +kernel
theorem dL_law_819 : decode cL_law 819 = .ok (.iload_n 3, 1) := by decide +kernel
theorem dL_law_820 : decode cL_law 820 = .ok (.iconst 2, 1) := by decide +kernel
theorem dL_law_821 : decode cL_law 821 = .ok (.iadd, 1) := by decide +kernel
theorem dL_law_822 : decode cL_law 822 = .ok (.iaload, 1) := by decide +kernel
theorem dL_law_823 : decode cL_law 823 = .ok (.invokevirtual 95, 3) := by decide +kernel
theorem dL_law_826 : decode cL_law 826 = .ok (.if_icmp .eq 245, 3) := by decide +kernel
theorem dL_law_829 : decode cL_law 829 = .ok (.iconst 0, 1) := by decide +kernel
theorem dL_law_830 : decode cL_law 830 = .ok (.ireturn, 1) := by decide +kernel
theorem dL_law_831 : decode cL_law 831 = .ok (.aload_n 1, 1) := by decide +kernel
theorem dL_law_832 : decode cL_law 832 = .ok (.aload_n 0, 1) := by decide +kernel
theorem dL_law_833 : decode cL_law 833 = .ok (.iload_n 3, 1) := by decide +kernel
theorem dL_law_834 : decode cL_law 834 = .ok (.iconst 1, 1) := by decide +kernel
theorem dL_law_835 : decode cL_law 835 = .ok (.iadd, 1) := by decide +kernel
theorem dL_law_836 : decode cL_law 836 = .ok (.iaload, 1) := by decide +kernel
theorem dL_law_837 : decode cL_law 837 = .ok (.invokevirtual 96, 3) := by decide +kernel
theorem dL_law_840 : decode cL_law 840 = .ok (.aload_n 2, 1) := by decide +kernel
theorem dL_law_841 : decode cL_law 841 = .ok (.aload_n 0, 1) := by decide +kernel
theorem dL_law_842 : decode cL_law 842 = .ok (.iload_n 3, 1) := by decide +kernel
theorem dL_law_843 : decode cL_law 843 = .ok (.iconst 1, 1) := by decide +kernel
theorem dL_law_844 : decode cL_law 844 = .ok (.iadd, 1) := by decide +kernel
theorem dL_law_845 : decode cL_law 845 = .ok (.iaload, 1) := by decide +kernel
theorem dL_law_846 : decode cL_law 846 = .ok (.invokevirtual 99, 3) := by decide +kernel
theorem dL_law_849 : decode cL_law 849 = .ok (.if_icmp .eq 222, 3) := by decide +kernel
theorem dL_law_852 : decode cL_law 852 = .ok (.iconst 0, 1) := by decide +kernel
theorem dL_law_853 : decode cL_law 853 = .ok (.ireturn, 1) := by decide +kernel
theorem dL_law_854 : decode cL_law 854 = .ok (.aload_n 1, 1) := by decide +kernel
theorem dL_law_855 : decode cL_law 855 = .ok (.aload_n 0, 1) := by decide +kernel
theorem dL_law_856 : decode cL_law 856 = .ok (.iload_n 3, 1) := by decide +kernel
theorem dL_law_857 : decode cL_law 857 = .ok (.iconst 1, 1) := by decide +kernel
theorem dL_law_858 : decode cL_law 858 = .ok (.iadd, 1) := by decide +kernel
theorem dL_law_859 : decode cL_law 859 = .ok (.iaload, 1) := by decide +kernel
theorem dL_law_860 : decode cL_law 860 = .ok (.aload_n 0, 1) := by decide +kernel
theorem dL_law_861 : decode cL_law 861 = .ok (.iload_n 3, 1) := by decide +kernel
theorem dL_law_862 : decode cL_law 862 = .ok (.iconst 2, 1) := by decide +kernel
theorem dL_law_863 : decode cL_law 863 = .ok (.iadd, 1) := by decide +kernel
theorem dL_law_864 : decode cL_law 864 = .ok (.iaload, 1) := by decide +kernel
theorem dL_law_865 : decode cL_law 865 = .ok (.invokevirtual 100, 3) := by decide +kernel
theorem dL_law_868 : decode cL_law 868 = .ok (.aload_n 2, 1) := by decide +kernel
theorem dL_law_869 : decode cL_law 869 = .ok (.aload_n 0, 1) := by decide +kernel
theorem dL_law_870 : decode cL_law 870 = .ok (.iload_n 3, 1) := by decide +kernel
theorem dL_law_871 : decode cL_law 871 = .ok (.iconst 1, 1) := by decide +kernel
theorem dL_law_872 : decode cL_law 872 = .ok (.iadd, 1) := by decide +kernel
theorem dL_law_873 : decode cL_law 873 = .ok (.iaload, 1) := by decide +kernel
theorem dL_law_874 : decode cL_law 874 = .ok (.aload_n 0, 1) := by decide +kernel
theorem dL_law_875 : decode cL_law 875 = .ok (.iload_n 3, 1) := by decide +kernel
theorem dL_law_876 : decode cL_law 876 = .ok (.iconst 2, 1) := by decide +kernel
theorem dL_law_877 : decode cL_law 877 = .ok (.iadd, 1) := by decide +kernel
theorem dL_law_878 : decode cL_law 878 = .ok (.iaload, 1) := by decide +kernel
theorem dL_law_879 : decode cL_law 879 = .ok (.invokevirtual 103, 3) := by decide +kernel
theorem dL_law_882 : decode cL_law 882 = .ok (.if_icmp .eq 189, 3) := by decide +kernel
theorem dL_law_885 : decode cL_law 885 = .ok (.iconst 0, 1) := by decide +kernel
theorem dL_law_886 : decode cL_law 886 = .ok (.ireturn, 1) := by decide +kernel
theorem dL_law_887 : decode cL_law 887 = .ok (.aload_n 1, 1) := by decide +kernel
theorem dL_law_888 : decode cL_law 888 = .ok (.aload_n 0, 1) := by decide +kernel
theorem dL_law_889 : decode cL_law 889 = .ok (.iload_n 3, 1) := by decide +kernel
theorem dL_law_890 : decode cL_law 890 = .ok (.iconst 1, 1) := by decide +kernel
theorem dL_law_891 : decode cL_law 891 = .ok (.iadd, 1) := by decide +kernel
theorem dL_law_892 : decode cL_law 892 = .ok (.iaload, 1) := by decide +kernel
theorem dL_law_893 : decode cL_law 893 = .ok (.invokevirtual 104, 3) := by decide +kernel
theorem dL_law_896 : decode cL_law 896 = .ok (.aload_n 2, 1) := by decide +kernel
theorem dL_law_897 : decode cL_law 897 = .ok (.aload_n 0, 1) := by decide +kernel
theorem dL_law_898 : decode cL_law 898 = .ok (.iload_n 3, 1) := by decide +kernel
theorem dL_law_899 : decode cL_law 899 = .ok (.iconst 1, 1) := by decide +kernel
theorem dL_law_900 : decode cL_law 900 = .ok (.iadd, 1) := by decide +kernel
theorem dL_law_901 : decode cL_law 901 = .ok (.iaload, 1) := by decide +kernel
theorem dL_law_902 : decode cL_law 902 = .ok (.invokevirtual 107, 3) := by decide +kernel
theorem dL_law_905 : decode cL_law 905 = .ok (.if_icmp .eq 166, 3) := by decide +kernel
theorem dL_law_908 : decode cL_law 908 = .ok (.iconst 0, 1) := by decide +kernel
theorem dL_law_909 : decode cL_law 909 = .ok (.ireturn, 1) := by decide +kernel
theorem dL_law_910 : decode cL_law 910 = .ok (.aload_n 1, 1) := by decide +kernel
theorem dL_law_911 : decode cL_law 911 = .ok (.aload_n 0, 1) := by decide +kernel
theorem dL_law_912 : decode cL_law 912 = .ok (.iload_n 3, 1) := by decide +kernel
theorem dL_law_913 : decode cL_law 913 = .ok (.iconst 1, 1) := by decide +kernel
theorem dL_law_914 : decode cL_law 914 = .ok (.iadd, 1) := by decide +kernel
theorem dL_law_915 : decode cL_law 915 = .ok (.iaload, 1) := by decide +kernel
theorem dL_law_916 : decode cL_law 916 = .ok (.aload_n 0, 1) := by decide +kernel
theorem dL_law_917 : decode cL_law 917 = .ok (.iload_n 3, 1) := by decide +kernel
theorem dL_law_918 : decode cL_law 918 = .ok (.iconst 2, 1) := by decide +kernel
theorem dL_law_919 : decode cL_law 919 = .ok (.iadd, 1) := by decide +kernel
theorem dL_law_920 : decode cL_law 920 = .ok (.iaload, 1) := by decide +kernel
theorem dL_law_921 : decode cL_law 921 = .ok (.aload_n 0, 1) := by decide +kernel
theorem dL_law_922 : decode cL_law 922 = .ok (.iload_n 3, 1) := by decide +kernel
theorem dL_law_923 : decode cL_law 923 = .ok (.iconst 3, 1) := by decide +kernel
theorem dL_law_924 : decode cL_law 924 = .ok (.iadd, 1) := by decide +kernel
theorem dL_law_925 : decode cL_law 925 = .ok (.iaload, 1) := by decide +kernel
theorem dL_law_926 : decode cL_law 926 = .ok (.invokevirtual 108, 3) := by decide +kernel
theorem dL_law_929 : decode cL_law 929 = .ok (.aload_n 2, 1) := by decide +kernel
theorem dL_law_930 : decode cL_law 930 = .ok (.aload_n 0, 1) := by decide +kernel
theorem dL_law_931 : decode cL_law 931 = .ok (.iload_n 3, 1) := by decide +kernel
theorem dL_law_932 : decode cL_law 932 = .ok (.iconst 1, 1) := by decide +kernel
theorem dL_law_933 : decode cL_law 933 = .ok (.iadd, 1) := by decide +kernel
theorem dL_law_934 : decode cL_law 934 = .ok (.iaload, 1) := by decide +kernel
theorem dL_law_935 : decode cL_law 935 = .ok (.aload_n 0, 1) := by decide +kernel
theorem dL_law_936 : decode cL_law 936 = .ok (.iload_n 3, 1) := by decide +kernel
theorem dL_law_937 : decode cL_law 937 = .ok (.iconst 2, 1) := by decide +kernel
theorem dL_law_938 : decode cL_law 938 = .ok (.iadd, 1) := by decide +kernel
theorem dL_law_939 : decode cL_law 939 = .ok (.iaload, 1) := by decide +kernel
theorem dL_law_940 : decode cL_law 940 = .ok (.aload_n 0, 1) := by decide +kernel
theorem dL_law_941 : decode cL_law 941 = .ok (.iload_n 3, 1) := by decide +kernel
theorem dL_law_942 : decode cL_law 942 = .ok (.iconst 3, 1) := by decide +kernel
theorem dL_law_943 : decode cL_law 943 = .ok (.iadd, 1) := by decide +kernel
theorem dL_law_944 : decode cL_law 944 = .ok (.iaload, 1) := by decide +kernel
theorem dL_law_945 : decode cL_law 945 = .ok (.invokevirtual 111, 3) := by decide +kernel
theorem dL_law_948 : decode cL_law 948 = .ok (.if_icmp .eq 123, 3) := by decide +kernel
theorem dL_law_951 : decode cL_law 951 = .ok (.iconst 0, 1) := by decide +kernel
theorem dL_law_952 : decode cL_law 952 = .ok (.ireturn, 1) := by decide +kernel
theorem dL_law_953 : decode cL_law 953 = .ok (.aload_n 1, 1) := by decide +kernel
theorem dL_law_954 : decode cL_law 954 = .ok (.aload_n 0, 1) := by decide +kernel
theorem dL_law_955 : decode cL_law 955 = .ok (.iload_n 3, 1) := by decide +kernel
theorem dL_law_956 : decode cL_law 956 = .ok (.iconst 1, 1) := by decide +kernel
theorem dL_law_957 : decode cL_law 957 = .ok (.iadd, 1) := by decide +kernel
theorem dL_law_958 : decode cL_law 958 = .ok (.iaload, 1) := by decide +kernel
theorem dL_law_959 : decode cL_law 959 = .ok (.aload_n 0, 1) := by decide +kernel
theorem dL_law_960 : decode cL_law 960 = .ok (.iload_n 3, 1) := by decide +kernel
theorem dL_law_961 : decode cL_law 961 = .ok (.iconst 2, 1) := by decide +kernel
theorem dL_law_962 : decode cL_law 962 = .ok (.iadd, 1) := by decide +kernel
theorem dL_law_963 : decode cL_law 963 = .ok (.iaload, 1) := by decide +kernel
theorem dL_law_964 : decode cL_law 964 = .ok (.invokevirtual 112, 3) := by decide +kernel
theorem dL_law_967 : decode cL_law 967 = .ok (.aload_n 2, 1) := by decide +kernel
theorem dL_law_968 : decode cL_law 968 = .ok (.aload_n 0, 1) := by decide +kernel
theorem dL_law_969 : decode cL_law 969 = .ok (.iload_n 3, 1) := by decide +kernel
theorem dL_law_970 : decode cL_law 970 = .ok (.iconst 1, 1) := by decide +kernel
theorem dL_law_971 : decode cL_law 971 = .ok (.iadd, 1) := by decide +kernel
theorem dL_law_972 : decode cL_law 972 = .ok (.iaload, 1) := by decide +kernel
theorem dL_law_973 : decode cL_law 973 = .ok (.aload_n 0, 1) := by decide +kernel
theorem dL_law_974 : decode cL_law 974 = .ok (.iload_n 3, 1) := by decide +kernel
theorem dL_law_975 : decode cL_law 975 = .ok (.iconst 2, 1) := by decide +kernel
theorem dL_law_976 : decode cL_law 976 = .ok (.iadd, 1) := by decide +kernel
theorem dL_law_977 : decode cL_law 977 = .ok (.iaload, 1) := by decide +kernel
theorem dL_law_978 : decode cL_law 978 = .ok (.invokevirtual 115, 3) := by decide +kernel
theorem dL_law_981 : decode cL_law 981 = .ok (.if_icmp .eq 90, 3) := by decide +kernel
theorem dL_law_984 : decode cL_law 984 = .ok (.iconst 0, 1) := by decide +kernel
theorem dL_law_985 : decode cL_law 985 = .ok (.ireturn, 1) := by decide +kernel
theorem dL_law_986 : decode cL_law 986 = .ok (.aload_n 1, 1) := by decide +kernel
theorem dL_law_987 : decode cL_law 987 = .ok (.aload_n 0, 1) := by decide +kernel
theorem dL_law_988 : decode cL_law 988 = .ok (.iload_n 3, 1) := by decide +kernel
theorem dL_law_989 : decode cL_law 989 = .ok (.iconst 1, 1) := by decide +kernel
theorem dL_law_990 : decode cL_law 990 = .ok (.iadd, 1) := by decide +kernel
theorem dL_law_991 : decode cL_law 991 = .ok (.iaload, 1) := by decide +kernel
theorem dL_law_992 : decode cL_law 992 = .ok (.invokevirtual 116, 3) := by decide +kernel
theorem dL_law_995 : decode cL_law 995 = .ok (.aload_n 2, 1) := by decide +kernel
theorem dL_law_996 : decode cL_law 996 = .ok (.aload_n 0, 1) := by decide +kernel
theorem dL_law_997 : decode cL_law 997 = .ok (.iload_n 3, 1) := by decide +kernel
theorem dL_law_998 : decode cL_law 998 = .ok (.iconst 1, 1) := by decide +kernel
theorem dL_law_999 : decode cL_law 999 = .ok (.iadd, 1) := by decide +kernel
theorem dL_law_1000 : decode cL_law 1000 = .ok (.iaload, 1) := by decide +kernel
theorem dL_law_1001 : decode cL_law 1001 = .ok (.invokevirtual 119, 3) := by decide +kernel
theorem dL_law_1004 : decode cL_law 1004 = .ok (.if_icmp .eq 67, 3) := by decide +kernel
theorem dL_law_1007 : decode cL_law 1007 = .ok (.iconst 0, 1) := by decide +kernel
theorem dL_law_1008 : decode cL_law 1008 = .ok (.ireturn, 1) := by decide +kernel
theorem dL_law_1009 : decode cL_law 1009 = .ok (.aload_n 1, 1) := by decide +kernel
theorem dL_law_1010 : decode cL_law 1010 = .ok (.invokevirtual 120, 3) := by decide +kernel
theorem dL_law_1013 : decode cL_law 1013 = .ok (.aload_n 2, 1) := by decide +kernel
theorem dL_law_1014 : decode cL_law 1014 = .ok (.invokevirtual 123, 3) := by decide +kernel
theorem dL_law_1017 : decode cL_law 1017 = .ok (.if_icmp .eq 54, 3) := by decide +kernel
theorem dL_law_1020 : decode cL_law 1020 = .ok (.iconst 0, 1) := by decide +kernel
theorem dL_law_1021 : decode cL_law 1021 = .ok (.ireturn, 1) := by decide +kernel
theorem dL_law_1022 : decode cL_law 1022 = .ok (.aload_n 1, 1) := by decide +kernel
theorem dL_law_1023 : decode cL_law 1023 = .ok (.invokevirtual 124, 3) := by decide +kernel
theorem dL_law_1026 : decode cL_law 1026 = .ok (.aload_n 2, 1) := by decide +kernel
theorem dL_law_1027 : decode cL_law 1027 = .ok (.invokevirtual 128, 3) := by decide +kernel
theorem dL_law_1030 : decode cL_law 1030 = .ok (.if_icmp .eq 41, 3) := by decide +kernel
theorem dL_law_1033 : decode cL_law 1033 = .ok (.iconst 0, 1) := by decide +kernel
theorem dL_law_1034 : decode cL_law 1034 = .ok (.ireturn, 1) := by decide +kernel
theorem dL_law_1035 : decode cL_law 1035 = .ok (.aload_n 1, 1) := by decide +kernel
theorem dL_law_1036 : decode cL_law 1036 = .ok (.invokevirtual 129, 3) := by decide +kernel
theorem dL_law_1039 : decode cL_law 1039 = .ok (.aload_n 2, 1) := by decide +kernel
theorem dL_law_1040 : decode cL_law 1040 = .ok (.invokevirtual 132, 3) := by decide +kernel
theorem dL_law_1043 : decode cL_law 1043 = .ok (.if_icmp .eq 28, 3) := by decide +kernel
theorem dL_law_1046 : decode cL_law 1046 = .ok (.iconst 0, 1) := by decide +kernel
theorem dL_law_1047 : decode cL_law 1047 = .ok (.ireturn, 1) := by decide +kernel
theorem dL_law_1048 : decode cL_law 1048 = .ok (.aload_n 1, 1) := by decide +kernel
theorem dL_law_1049 : decode cL_law 1049 = .ok (.aload_n 0, 1) := by decide +kernel
theorem dL_law_1050 : decode cL_law 1050 = .ok (.iload_n 3, 1) := by decide +kernel
theorem dL_law_1051 : decode cL_law 1051 = .ok (.iconst 1, 1) := by decide +kernel
theorem dL_law_1052 : decode cL_law 1052 = .ok (.iadd, 1) := by decide +kernel
theorem dL_law_1053 : decode cL_law 1053 = .ok (.iaload, 1) := by decide +kernel
theorem dL_law_1054 : decode cL_law 1054 = .ok (.invokevirtual 133, 3) := by decide +kernel
theorem dL_law_1057 : decode cL_law 1057 = .ok (.aload_n 2, 1) := by decide +kernel
theorem dL_law_1058 : decode cL_law 1058 = .ok (.aload_n 0, 1) := by decide +kernel
theorem dL_law_1059 : decode cL_law 1059 = .ok (.iload_n 3, 1) := by decide +kernel
theorem dL_law_1060 : decode cL_law 1060 = .ok (.iconst 1, 1) := by decide +kernel
theorem dL_law_1061 : decode cL_law 1061 = .ok (.iadd, 1) := by decide +kernel
theorem dL_law_1062 : decode cL_law 1062 = .ok (.iaload, 1) := by decide +kernel
theorem dL_law_1063 : decode cL_law 1063 = .ok (.invokevirtual 136, 3) := by decide +kernel
theorem dL_law_1066 : decode cL_law 1066 = .ok (.if_icmp .eq 5, 3) := by decide +kernel
theorem dL_law_1069 : decode cL_law 1069 = .ok (.iconst 0, 1) := by decide +kernel
theorem dL_law_1070 : decode cL_law 1070 = .ok (.ireturn, 1) := by decide +kernel
theorem dL_law_1071 : decode cL_law 1071 = .ok (.iinc 3 6, 3) := by decide +kernel
theorem dL_law_1074 : decode cL_law 1074 = .ok (.goto (-1056), 3) := by decide +kernel
theorem dL_law_1077 : decode cL_law 1077 = .ok (.iconst 1, 1) := by decide +kernel
theorem dL_law_1078 : decode cL_law 1078 = .ok (.ireturn, 1) := by decide +kernel
