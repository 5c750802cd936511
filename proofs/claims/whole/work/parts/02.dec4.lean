theorem dX12_comesTo_115 : decode cX12_comesTo 115 = .ok (.iaload, 1) := by decide +kernel
theorem dX12_comesTo_116 : decode cX12_comesTo 116 = .ok (.isub, 1) := by decide +kernel
theorem dX12_comesTo_117 : decode cX12_comesTo 117 = .ok (.iastore, 1) := by decide +kernel
theorem dX12_comesTo_118 : decode cX12_comesTo 118 = .ok (.goto 112, 3) := by decide +kernel
theorem dX12_comesTo_121 : decode cX12_comesTo 121 = .ok (.iload 6, 2) := by decide +kernel
theorem dX12_comesTo_123 : decode cX12_comesTo 123 = .ok (.bipush 11, 2) := by decide +kernel
theorem dX12_comesTo_125 : decode cX12_comesTo 125 = .ok (.if_icmp .eq 10, 3) := by decide +kernel
theorem dX12_comesTo_128 : decode cX12_comesTo 128 = .ok (.iload 6, 2) := by decide +kernel
theorem dX12_comesTo_130 : decode cX12_comesTo 130 = .ok (.bipush 12, 2) := by decide +kernel
theorem dX12_comesTo_132 : decode cX12_comesTo 132 = .ok (.if_icmp .ne 43, 3) := by decide +kernel
theorem dX12_comesTo_135 : decode cX12_comesTo 135 = .ok (.aload_n 0, 1) := by decide +kernel
theorem dX12_comesTo_136 : decode cX12_comesTo 136 = .ok (.getfield 62, 3) := by decide +kernel
theorem dX12_comesTo_139 : decode cX12_comesTo 139 = .ok (.iload_n 3, 1) := by decide +kernel
theorem dX12_comesTo_140 : decode cX12_comesTo 140 = .ok (.iconst 1, 1) := by decide +kernel
theorem dX12_comesTo_141 : decode cX12_comesTo 141 = .ok (.isub, 1) := by decide +kernel
theorem dX12_comesTo_142 : decode cX12_comesTo 142 = .ok (.iaload, 1) := by decide +kernel
theorem dX12_comesTo_143 : decode cX12_comesTo 143 = .ok (.iload 6, 2) := by decide +kernel
theorem dX12_comesTo_145 : decode cX12_comesTo 145 = .ok (.bipush 12, 2) := by decide +kernel
theorem dX12_comesTo_147 : decode cX12_comesTo 147 = .ok (.if_icmp .ne 7, 3) := by decide +kernel
theorem dX12_comesTo_150 : decode cX12_comesTo 150 = .ok (.iconst 1, 1) := by decide +kernel
theorem dX12_comesTo_151 : decode cX12_comesTo 151 = .ok (.goto 4, 3) := by decide +kernel
theorem dX12_comesTo_154 : decode cX12_comesTo 154 = .ok (.iconst 0, 1) := by decide +kernel
theorem dX12_comesTo_155 : decode cX12_comesTo 155 = .ok (.if_icmp .ne 13, 3) := by decide +kernel
theorem dX12_comesTo_158 : decode cX12_comesTo 158 = .ok (.iload 4, 2) := by decide +kernel
theorem dX12_comesTo_160 : decode cX12_comesTo 160 = .ok (.iload 7, 2) := by decide +kernel
theorem dX12_comesTo_162 : decode cX12_comesTo 162 = .ok (.iadd, 1) := by decide +kernel
theorem dX12_comesTo_163 : decode cX12_comesTo 163 = .ok (.istore 5, 2) := by decide +kernel
theorem dX12_comesTo_165 : decode cX12_comesTo 165 = .ok (.goto 65, 3) := by decide +kernel
theorem dX12_comesTo_168 : decode cX12_comesTo 168 = .ok (.iload_n 3, 1) := by decide +kernel
theorem dX12_comesTo_169 : decode cX12_comesTo 169 = .ok (.iconst 1, 1) := by decide +kernel
theorem dX12_comesTo_170 : decode cX12_comesTo 170 = .ok (.isub, 1) := by decide +kernel
theorem dX12_comesTo_171 : decode cX12_comesTo 171 = .ok (.istore_n 3, 1) := by decide +kernel
theorem dX12_comesTo_172 : decode cX12_comesTo 172 = .ok (.goto 58, 3) := by decide +kernel
theorem dX12_comesTo_175 : decode cX12_comesTo 175 = .ok (.iload_n 3, 1) := by decide +kernel
theorem dX12_comesTo_176 : decode cX12_comesTo 176 = .ok (.iconst 1, 1) := by decide +kernel
theorem dX12_comesTo_177 : decode cX12_comesTo 177 = .ok (.isub, 1) := by decide +kernel
theorem dX12_comesTo_178 : decode cX12_comesTo 178 = .ok (.istore_n 3, 1) := by decide +kernel
theorem dX12_comesTo_179 : decode cX12_comesTo 179 = .ok (.iload 6, 2) := by decide +kernel
theorem dX12_comesTo_181 : decode cX12_comesTo 181 = .ok (.iconst 5, 1) := by decide +kernel
theorem dX12_comesTo_182 : decode cX12_comesTo 182 = .ok (.if_icmp .eq 10, 3) := by decide +kernel
theorem dX12_comesTo_185 : decode cX12_comesTo 185 = .ok (.iload 6, 2) := by decide +kernel
theorem dX12_comesTo_187 : decode cX12_comesTo 187 = .ok (.bipush 6, 2) := by decide +kernel
theorem dX12_comesTo_189 : decode cX12_comesTo 189 = .ok (.if_icmp .ne 14, 3) := by decide +kernel
theorem dX12_comesTo_192 : decode cX12_comesTo 192 = .ok (.aload_n 0, 1) := by decide +kernel
theorem dX12_comesTo_193 : decode cX12_comesTo 193 = .ok (.getfield 62, 3) := by decide +kernel
theorem dX12_comesTo_196 : decode cX12_comesTo 196 = .ok (.iload_n 3, 1) := by decide +kernel
theorem dX12_comesTo_197 : decode cX12_comesTo 197 = .ok (.iaload, 1) := by decide +kernel
theorem dX12_comesTo_198 : decode cX12_comesTo 198 = .ok (.ifCond .ne 5, 3) := by decide +kernel
theorem dX12_comesTo_201 : decode cX12_comesTo 201 = .ok (.iconst 0, 1) := by decide +kernel
theorem dX12_comesTo_202 : decode cX12_comesTo 202 = .ok (.ireturn, 1) := by decide +kernel
theorem dX12_comesTo_203 : decode cX12_comesTo 203 = .ok (.aload_n 0, 1) := by decide +kernel
theorem dX12_comesTo_204 : decode cX12_comesTo 204 = .ok (.getfield 62, 3) := by decide +kernel
theorem dX12_comesTo_207 : decode cX12_comesTo 207 = .ok (.iload_n 3, 1) := by decide +kernel
theorem dX12_comesTo_208 : decode cX12_comesTo 208 = .ok (.iconst 1, 1) := by decide +kernel
theorem dX12_comesTo_209 : decode cX12_comesTo 209 = .ok (.isub, 1) := by decide +kernel
theorem dX12_comesTo_210 : decode cX12_comesTo 210 = .ok (.iload 6, 2) := by decide +kernel
theorem dX12_comesTo_212 : decode cX12_comesTo 212 = .ok (.aload_n 0, 1) := by decide +kernel
theorem dX12_comesTo_213 : decode cX12_comesTo 213 = .ok (.getfield 62, 3) := by decide +kernel
theorem dX12_comesTo_216 : decode cX12_comesTo 216 = .ok (.iload_n 3, 1) := by decide +kernel
theorem dX12_comesTo_217 : decode cX12_comesTo 217 = .ok (.iconst 1, 1) := by decide +kernel
theorem dX12_comesTo_218 : decode cX12_comesTo 218 = .ok (.isub, 1) := by decide +kernel
theorem dX12_comesTo_219 : decode cX12_comesTo 219 = .ok (.iaload, 1) := by decide +kernel
theorem dX12_comesTo_220 : decode cX12_comesTo 220 = .ok (.aload_n 0, 1) := by decide +kernel
theorem dX12_comesTo_221 : decode cX12_comesTo 221 = .ok (.getfield 62, 3) := by decide +kernel
theorem dX12_comesTo_224 : decode cX12_comesTo 224 = .ok (.iload_n 3, 1) := by decide +kernel
theorem dX12_comesTo_225 : decode cX12_comesTo 225 = .ok (.iaload, 1) := by decide +kernel
theorem dX12_comesTo_226 : decode cX12_comesTo 226 = .ok (.invokestatic 232, 3) := by decide +kernel
theorem dX12_comesTo_229 : decode cX12_comesTo 229 = .ok (.iastore, 1) := by decide +kernel
theorem dX12_comesTo_230 : decode cX12_comesTo 230 = .ok (.goto (-214), 3) := by decide +kernel
theorem dX12_comesTo_233 : decode cX12_comesTo 233 = .ok (.aload_n 0, 1) := by decide +kernel
theorem dX12_comesTo_234 : decode cX12_comesTo 234 = .ok (.getfield 62, 3) := by decide +kernel
theorem dX12_comesTo_237 : decode cX12_comesTo 237 = .ok (.iconst 0, 1) := by decide +kernel
theorem dX12_comesTo_238 : decode cX12_comesTo 238 = .ok (.iaload, 1) := by decide +kernel
theorem dX12_comesTo_239 : decode cX12_comesTo 239 = .ok (.ireturn, 1) := by decide +kernel
theorem dX12_byLaw_0 : decode cX12_byLaw 0 = .ok (.iconst 0, 1) := by decide +kernel
theorem dX12_byLaw_1 : decode cX12_byLaw 1 = .ok (.istore_n 3, 1) := by decide +kernel
theorem dX12_byLaw_2 : decode cX12_byLaw 2 = .ok (.iload_n 3, 1) := by decide +kernel
theorem dX12_byLaw_3 : decode cX12_byLaw 3 = .ok (.aload_n 0, 1) := by decide +kernel
theorem dX12_byLaw_4 : decode cX12_byLaw 4 = .ok (.getfield 229, 3) := by decide +kernel
theorem dX12_byLaw_7 : decode cX12_byLaw 7 = .ok (.if_icmp .ge 82, 3) := by decide +kernel
theorem dX12_byLaw_10 : decode cX12_byLaw 10 = .ok (.aload_n 0, 1) := by decide +kernel
theorem dX12_byLaw_11 : decode cX12_byLaw 11 = .ok (.getfield 50, 3) := by decide +kernel
theorem dX12_byLaw_14 : decode cX12_byLaw 14 = .ok (.iload_n 3, 1) := by decide +kernel
theorem dX12_byLaw_15 : decode cX12_byLaw 15 = .ok (.iaload, 1) := by decide +kernel
theorem dX12_byLaw_16 : decode cX12_byLaw 16 = .ok (.iload_n 1, 1) := by decide +kernel
theorem dX12_byLaw_17 : decode cX12_byLaw 17 = .ok (.if_icmp .ne 66, 3) := by decide +kernel
theorem dX12_byLaw_20 : decode cX12_byLaw 20 = .ok (.aload_n 0, 1) := by decide +kernel
theorem dX12_byLaw_21 : decode cX12_byLaw 21 = .ok (.aload_n 0, 1) := by decide +kernel
theorem dX12_byLaw_22 : decode cX12_byLaw 22 = .ok (.getfield 56, 3) := by decide +kernel
theorem dX12_byLaw_25 : decode cX12_byLaw 25 = .ok (.iload_n 3, 1) := by decide +kernel
theorem dX12_byLaw_26 : decode cX12_byLaw 26 = .ok (.iaload, 1) := by decide +kernel
theorem dX12_byLaw_27 : decode cX12_byLaw 27 = .ok (.aload_n 0, 1) := by decide +kernel
theorem dX12_byLaw_28 : decode cX12_byLaw 28 = .ok (.getfield 59, 3) := by decide +kernel
theorem dX12_byLaw_31 : decode cX12_byLaw 31 = .ok (.iload_n 3, 1) := by decide +kernel
theorem dX12_byLaw_32 : decode cX12_byLaw 32 = .ok (.iaload, 1) := by decide +kernel
theorem dX12_byLaw_33 : decode cX12_byLaw 33 = .ok (.invokevirtual 236, 3) := by decide +kernel
theorem dX12_byLaw_36 : decode cX12_byLaw 36 = .ok (.iconst 1, 1) := by decide +kernel
theorem dX12_byLaw_37 : decode cX12_byLaw 37 = .ok (.if_icmp .eq 6, 3) := by decide +kernel
theorem dX12_byLaw_40 : decode cX12_byLaw 40 = .ok (.goto 43, 3) := by decide +kernel
theorem dX12_byLaw_43 : decode cX12_byLaw 43 = .ok (.aload_n 0, 1) := by decide +kernel
theorem dX12_byLaw_44 : decode cX12_byLaw 44 = .ok (.aload_n 0, 1) := by decide +kernel
theorem dX12_byLaw_45 : decode cX12_byLaw 45 = .ok (.getfield 53, 3) := by decide +kernel
theorem dX12_byLaw_48 : decode cX12_byLaw 48 = .ok (.iload_n 3, 1) := by decide +kernel
theorem dX12_byLaw_49 : decode cX12_byLaw 49 = .ok (.iaload, 1) := by decide +kernel
theorem dX12_byLaw_50 : decode cX12_byLaw 50 = .ok (.aload_n 0, 1) := by decide +kernel
theorem dX12_byLaw_51 : decode cX12_byLaw 51 = .ok (.getfield 56, 3) := by decide +kernel
theorem dX12_byLaw_54 : decode cX12_byLaw 54 = .ok (.iload_n 3, 1) := by decide +kernel
theorem dX12_byLaw_55 : decode cX12_byLaw 55 = .ok (.iaload, 1) := by decide +kernel
theorem dX12_byLaw_56 : decode cX12_byLaw 56 = .ok (.invokevirtual 236, 3) := by decide +kernel
theorem dX12_byLaw_59 : decode cX12_byLaw 59 = .ok (.istore 4, 2) := by decide +kernel
theorem dX12_byLaw_61 : decode cX12_byLaw 61 = .ok (.iload 4, 2) := by decide +kernel
theorem dX12_byLaw_63 : decode cX12_byLaw 63 = .ok (.ifCond .ge 7, 3) := by decide +kernel
theorem dX12_byLaw_66 : decode cX12_byLaw 66 = .ok (.iconst 0, 1) := by decide +kernel
theorem dX12_byLaw_67 : decode cX12_byLaw 67 = .ok (.goto 15, 3) := by decide +kernel
theorem dX12_byLaw_70 : decode cX12_byLaw 70 = .ok (.iload 4, 2) := by decide +kernel
theorem dX12_byLaw_72 : decode cX12_byLaw 72 = .ok (.iload_n 2, 1) := by decide +kernel
theorem dX12_byLaw_73 : decode cX12_byLaw 73 = .ok (.if_icmp .le 7, 3) := by decide +kernel
theorem dX12_byLaw_76 : decode cX12_byLaw 76 = .ok (.iload_n 2, 1) := by decide +kernel
theorem dX12_byLaw_77 : decode cX12_byLaw 77 = .ok (.goto 5, 3) := by decide +kernel
theorem dX12_byLaw_80 : decode cX12_byLaw 80 = .ok (.iload 4, 2) := by decide +kernel
theorem dX12_byLaw_82 : decode cX12_byLaw 82 = .ok (.ireturn, 1) := by decide +kernel
theorem dX12_byLaw_83 : decode cX12_byLaw 83 = .ok (.iinc 3 1, 3) := by decide +kernel
theorem dX12_byLaw_86 : decode cX12_byLaw 86 = .ok (.goto (-84), 3) := by decide +kernel
theorem dX12_byLaw_89 : decode cX12_byLaw 89 = .ok (.iconst 0, 1) := by decide +kernel
theorem dX12_byLaw_90 : decode cX12_byLaw 90 = .ok (.ireturn, 1) := by decide +kernel
theorem dX12_holdsAny_0 : decode cX12_holdsAny 0 = .ok (.iconst 0, 1) := by decide +kernel
theorem dX12_holdsAny_1 : decode cX12_holdsAny 1 = .ok (.istore_n 2, 1) := by decide +kernel
theorem dX12_holdsAny_2 : decode cX12_holdsAny 2 = .ok (.iload_n 2, 1) := by decide +kernel
theorem dX12_holdsAny_3 : decode cX12_holdsAny 3 = .ok (.aload_n 0, 1) := by decide +kernel
theorem dX12_holdsAny_4 : decode cX12_holdsAny 4 = .ok (.getfield 229, 3) := by decide +kernel
theorem dX12_holdsAny_7 : decode cX12_holdsAny 7 = .ok (.if_icmp .ge 41, 3) := by decide +kernel
theorem dX12_holdsAny_10 : decode cX12_holdsAny 10 = .ok (.aload_n 0, 1) := by decide +kernel
theorem dX12_holdsAny_11 : decode cX12_holdsAny 11 = .ok (.getfield 50, 3) := by decide +kernel
theorem dX12_holdsAny_14 : decode cX12_holdsAny 14 = .ok (.iload_n 2, 1) := by decide +kernel
theorem dX12_holdsAny_15 : decode cX12_holdsAny 15 = .ok (.iaload, 1) := by decide +kernel
theorem dX12_holdsAny_16 : decode cX12_holdsAny 16 = .ok (.iload_n 1, 1) := by decide +kernel
theorem dX12_holdsAny_17 : decode cX12_holdsAny 17 = .ok (.if_icmp .ne 25, 3) := by decide +kernel
theorem dX12_holdsAny_20 : decode cX12_holdsAny 20 = .ok (.aload_n 0, 1) := by decide +kernel
theorem dX12_holdsAny_21 : decode cX12_holdsAny 21 = .ok (.aload_n 0, 1) := by decide +kernel
theorem dX12_holdsAny_22 : decode cX12_holdsAny 22 = .ok (.getfield 56, 3) := by decide +kernel
theorem dX12_holdsAny_25 : decode cX12_holdsAny 25 = .ok (.iload_n 2, 1) := by decide +kernel
theorem dX12_holdsAny_26 : decode cX12_holdsAny 26 = .ok (.iaload, 1) := by decide +kernel
theorem dX12_holdsAny_27 : decode cX12_holdsAny 27 = .ok (.aload_n 0, 1) := by decide +kernel
theorem dX12_holdsAny_28 : decode cX12_holdsAny 28 = .ok (.getfield 59, 3) := by decide +kernel
theorem dX12_holdsAny_31 : decode cX12_holdsAny 31 = .ok (.iload_n 2, 1) := by decide +kernel
theorem dX12_holdsAny_32 : decode cX12_holdsAny 32 = .ok (.iaload, 1) := by decide +kernel
theorem dX12_holdsAny_33 : decode cX12_holdsAny 33 = .ok (.invokevirtual 236, 3) := by decide +kernel
theorem dX12_holdsAny_36 : decode cX12_holdsAny 36 = .ok (.iconst 1, 1) := by decide +kernel
theorem dX12_holdsAny_37 : decode cX12_holdsAny 37 = .ok (.if_icmp .ne 5, 3) := by decide +kernel
theorem dX12_holdsAny_40 : decode cX12_holdsAny 40 = .ok (.iconst 1, 1) := by decide +kernel
theorem dX12_holdsAny_41 : decode cX12_holdsAny 41 = .ok (.ireturn, 1) := by decide +kernel
theorem dX12_holdsAny_42 : decode cX12_holdsAny 42 = .ok (.iinc 2 1, 3) := by decide +kernel
theorem dX12_holdsAny_45 : decode cX12_holdsAny 45 = .ok (.goto (-43), 3) := by decide +kernel
theorem dX12_holdsAny_48 : decode cX12_holdsAny 48 = .ok (.iconst 0, 1) := by decide +kernel
theorem dX12_holdsAny_49 : decode cX12_holdsAny 49 = .ok (.ireturn, 1) := by decide +kernel
theorem dX12_readsTimes_0 : decode cX12_readsTimes 0 = .ok (.aload_n 0, 1) := by decide +kernel
theorem dX12_readsTimes_1 : decode cX12_readsTimes 1 = .ok (.aload_n 0, 1) := by decide +kernel
theorem dX12_readsTimes_2 : decode cX12_readsTimes 2 = .ok (.getfield 135, 3) := by decide +kernel
theorem dX12_readsTimes_5 : decode cX12_readsTimes 5 = .ok (.putfield 239, 3) := by decide +kernel
theorem dX12_readsTimes_8 : decode cX12_readsTimes 8 = .ok (.aload_n 0, 1) := by decide +kernel
theorem dX12_readsTimes_9 : decode cX12_readsTimes 9 = .ok (.iconst 1, 1) := by decide +kernel
theorem dX12_readsTimes_10 : decode cX12_readsTimes 10 = .ok (.putfield 242, 3) := by decide +kernel
theorem dX12_readsTimes_13 : decode cX12_readsTimes 13 = .ok (.aload_n 0, 1) := by decide +kernel
theorem dX12_readsTimes_14 : decode cX12_readsTimes 14 = .ok (.invokevirtual 141, 3) := by decide +kernel
theorem dX12_readsTimes_17 : decode cX12_readsTimes 17 = .ok (.bipush 50, 2) := by decide +kernel
theorem dX12_readsTimes_19 : decode cX12_readsTimes 19 = .ok (.bipush 57, 2) := by decide +kernel
theorem dX12_readsTimes_21 : decode cX12_readsTimes 21 = .ok (.invokestatic 113, 3) := by decide +kernel
theorem dX12_readsTimes_24 : decode cX12_readsTimes 24 = .ok (.ifCond .eq 31, 3) := by decide +kernel
theorem dX12_readsTimes_27 : decode cX12_readsTimes 27 = .ok (.aload_n 0, 1) := by decide +kernel
theorem dX12_readsTimes_28 : decode cX12_readsTimes 28 = .ok (.getfield 135, 3) := by decide +kernel
theorem dX12_readsTimes_31 : decode cX12_readsTimes 31 = .ok (.iconst 1, 1) := by decide +kernel
theorem dX12_readsTimes_32 : decode cX12_readsTimes 32 = .ok (.iadd, 1) := by decide +kernel
theorem dX12_readsTimes_33 : decode cX12_readsTimes 33 = .ok (.aload_n 0, 1) := by decide +kernel
theorem dX12_readsTimes_34 : decode cX12_readsTimes 34 = .ok (.getfield 138, 3) := by decide +kernel
theorem dX12_readsTimes_37 : decode cX12_readsTimes 37 = .ok (.if_icmp .ge 18, 3) := by decide +kernel
theorem dX12_readsTimes_40 : decode cX12_readsTimes 40 = .ok (.aload_n 0, 1) := by decide +kernel
theorem dX12_readsTimes_41 : decode cX12_readsTimes 41 = .ok (.aload_n 0, 1) := by decide +kernel
theorem dX12_readsTimes_42 : decode cX12_readsTimes 42 = .ok (.getfield 135, 3) := by decide +kernel
theorem dX12_readsTimes_45 : decode cX12_readsTimes 45 = .ok (.iconst 1, 1) := by decide +kernel
theorem dX12_readsTimes_46 : decode cX12_readsTimes 46 = .ok (.iadd, 1) := by decide +kernel
theorem dX12_readsTimes_47 : decode cX12_readsTimes 47 = .ok (.invokevirtual 245, 3) := by decide +kernel
theorem dX12_readsTimes_50 : decode cX12_readsTimes 50 = .ok (.bipush 120, 2) := by decide +kernel
theorem dX12_readsTimes_52 : decode cX12_readsTimes 52 = .ok (.if_icmp .eq 4, 3) := by decide +kernel
theorem dX12_readsTimes_55 : decode cX12_readsTimes 55 = .ok (.return_, 1) := by decide +kernel
theorem dX12_readsTimes_56 : decode cX12_readsTimes 56 = .ok (.aload_n 0, 1) := by decide +kernel
theorem dX12_readsTimes_57 : decode cX12_readsTimes 57 = .ok (.aload_n 0, 1) := by decide +kernel
theorem dX12_readsTimes_58 : decode cX12_readsTimes 58 = .ok (.invokevirtual 141, 3) := by decide +kernel
theorem dX12_readsTimes_61 : decode cX12_readsTimes 61 = .ok (.bipush 48, 2) := by decide +kernel
theorem dX12_readsTimes_63 : decode cX12_readsTimes 63 = .ok (.isub, 1) := by decide +kernel
theorem dX12_readsTimes_64 : decode cX12_readsTimes 64 = .ok (.putfield 242, 3) := by decide +kernel
theorem dX12_readsTimes_67 : decode cX12_readsTimes 67 = .ok (.aload_n 0, 1) := by decide +kernel
theorem dX12_readsTimes_68 : decode cX12_readsTimes 68 = .ok (.aload_n 0, 1) := by decide +kernel
theorem dX12_readsTimes_69 : decode cX12_readsTimes 69 = .ok (.getfield 135, 3) := by decide +kernel
theorem dX12_readsTimes_72 : decode cX12_readsTimes 72 = .ok (.iconst 2, 1) := by decide +kernel
theorem dX12_readsTimes_73 : decode cX12_readsTimes 73 = .ok (.iadd, 1) := by decide +kernel
theorem dX12_readsTimes_74 : decode cX12_readsTimes 74 = .ok (.putfield 135, 3) := by decide +kernel
theorem dX12_readsTimes_77 : decode cX12_readsTimes 77 = .ok (.return_, 1) := by decide +kernel
theorem dX12_repeats_0 : decode cX12_repeats 0 = .ok (.aload_n 0, 1) := by decide +kernel
theorem dX12_repeats_1 : decode cX12_repeats 1 = .ok (.getfield 248, 3) := by decide +kernel
theorem dX12_repeats_4 : decode cX12_repeats 4 = .ok (.iload_n 1, 1) := by decide +kernel
theorem dX12_repeats_5 : decode cX12_repeats 5 = .ok (.isub, 1) := by decide +kernel
theorem dX12_repeats_6 : decode cX12_repeats 6 = .ok (.istore 4, 2) := by decide +kernel
theorem dX12_repeats_8 : decode cX12_repeats 8 = .ok (.iload_n 1, 1) := by decide +kernel
theorem dX12_repeats_9 : decode cX12_repeats 9 = .ok (.iload 4, 2) := by decide +kernel
theorem dX12_repeats_11 : decode cX12_repeats 11 = .ok (.iload_n 2, 1) := by decide +kernel
theorem dX12_repeats_12 : decode cX12_repeats 12 = .ok (.imul, 1) := by decide +kernel
theorem dX12_repeats_13 : decode cX12_repeats 13 = .ok (.iadd, 1) := by decide +kernel
theorem dX12_repeats_14 : decode cX12_repeats 14 = .ok (.bipush 20, 2) := by decide +kernel
theorem dX12_repeats_16 : decode cX12_repeats 16 = .ok (.if_icmp .le 11, 3) := by decide +kernel
theorem dX12_repeats_19 : decode cX12_repeats 19 = .ok (.aload_n 0, 1) := by decide +kernel
theorem dX12_repeats_20 : decode cX12_repeats 20 = .ok (.bipush 6, 2) := by decide +kernel
theorem dX12_repeats_22 : decode cX12_repeats 22 = .ok (.iload_n 3, 1) := by decide +kernel
theorem dX12_repeats_23 : decode cX12_repeats 23 = .ok (.invokevirtual 148, 3) := by decide +kernel
theorem dX12_repeats_26 : decode cX12_repeats 26 = .ok (.ireturn, 1) := by decide +kernel
theorem dX12_repeats_27 : decode cX12_repeats 27 = .ok (.iload 4, 2) := by decide +kernel
theorem dX12_repeats_29 : decode cX12_repeats 29 = .ok (.istore 5, 2) := by decide +kernel
theorem dX12_repeats_31 : decode cX12_repeats 31 = .ok (.iload 5, 2) := by decide +kernel
theorem dX12_repeats_33 : decode cX12_repeats 33 = .ok (.iload 4, 2) := by decide +kernel
theorem dX12_repeats_35 : decode cX12_repeats 35 = .ok (.iload_n 2, 1) := by decide +kernel
theorem dX12_repeats_36 : decode cX12_repeats 36 = .ok (.imul, 1) := by decide +kernel
theorem dX12_repeats_37 : decode cX12_repeats 37 = .ok (.if_icmp .ge 30, 3) := by decide +kernel
theorem dX12_repeats_40 : decode cX12_repeats 40 = .ok (.aload_n 0, 1) := by decide +kernel
theorem dX12_repeats_41 : decode cX12_repeats 41 = .ok (.getfield 68, 3) := by decide +kernel
theorem dX12_repeats_44 : decode cX12_repeats 44 = .ok (.iload_n 1, 1) := by decide +kernel
theorem dX12_repeats_45 : decode cX12_repeats 45 = .ok (.iload 5, 2) := by decide +kernel
theorem dX12_repeats_47 : decode cX12_repeats 47 = .ok (.iadd, 1) := by decide +kernel
theorem dX12_repeats_48 : decode cX12_repeats 48 = .ok (.aload_n 0, 1) := by decide +kernel
theorem dX12_repeats_49 : decode cX12_repeats 49 = .ok (.getfield 68, 3) := by decide +kernel
theorem dX12_repeats_52 : decode cX12_repeats 52 = .ok (.iload_n 1, 1) := by decide +kernel
theorem dX12_repeats_53 : decode cX12_repeats 53 = .ok (.iload 5, 2) := by decide +kernel
theorem dX12_repeats_55 : decode cX12_repeats 55 = .ok (.iadd, 1) := by decide +kernel
theorem dX12_repeats_56 : decode cX12_repeats 56 = .ok (.iload 4, 2) := by decide +kernel
theorem dX12_repeats_58 : decode cX12_repeats 58 = .ok (.isub, 1) := by decide +kernel
theorem dX12_repeats_59 : decode cX12_repeats 59 = .ok (.iaload, 1) := by decide +kernel
theorem dX12_repeats_60 : decode cX12_repeats 60 = .ok (.iastore, 1) := by decide +kernel
theorem dX12_repeats_61 : decode cX12_repeats 61 = .ok (.iinc 5 1, 3) := by decide +kernel
theorem dX12_repeats_64 : decode cX12_repeats 64 = .ok (.goto (-33), 3) := by decide +kernel
theorem dX12_repeats_67 : decode cX12_repeats 67 = .ok (.aload_n 0, 1) := by decide +kernel
theorem dX12_repeats_68 : decode cX12_repeats 68 = .ok (.iload_n 1, 1) := by decide +kernel
theorem dX12_repeats_69 : decode cX12_repeats 69 = .ok (.iload 4, 2) := by decide +kernel
theorem dX12_repeats_71 : decode cX12_repeats 71 = .ok (.iload_n 2, 1) := by decide +kernel
theorem dX12_repeats_72 : decode cX12_repeats 72 = .ok (.imul, 1) := by decide +kernel
theorem dX12_repeats_73 : decode cX12_repeats 73 = .ok (.iadd, 1) := by decide +kernel
theorem dX12_repeats_74 : decode cX12_repeats 74 = .ok (.putfield 248, 3) := by decide +kernel
theorem dX12_repeats_77 : decode cX12_repeats 77 = .ok (.iconst 1, 1) := by decide +kernel
theorem dX12_repeats_78 : decode cX12_repeats 78 = .ok (.ireturn, 1) := by decide +kernel
theorem dX12_readsAmount_0 : decode cX12_readsAmount 0 = .ok (.aload_n 0, 1) := by decide +kernel
theorem dX12_readsAmount_1 : decode cX12_readsAmount 1 = .ok (.getfield 135, 3) := by decide +kernel
theorem dX12_readsAmount_4 : decode cX12_readsAmount 4 = .ok (.istore_n 2, 1) := by decide +kernel
theorem dX12_readsAmount_5 : decode cX12_readsAmount 5 = .ok (.aload_n 0, 1) := by decide +kernel
theorem dX12_readsAmount_6 : decode cX12_readsAmount 6 = .ok (.invokevirtual 155, 3) := by decide +kernel
theorem dX12_readsAmount_9 : decode cX12_readsAmount 9 = .ok (.ifCond .ne 13, 3) := by decide +kernel
theorem dX12_readsAmount_12 : decode cX12_readsAmount 12 = .ok (.aload_n 0, 1) := by decide +kernel
theorem dX12_readsAmount_13 : decode cX12_readsAmount 13 = .ok (.iconst 1, 1) := by decide +kernel
theorem dX12_readsAmount_14 : decode cX12_readsAmount 14 = .ok (.aload_n 0, 1) := by decide +kernel
theorem dX12_readsAmount_15 : decode cX12_readsAmount 15 = .ok (.getfield 135, 3) := by decide +kernel
theorem dX12_readsAmount_18 : decode cX12_readsAmount 18 = .ok (.invokevirtual 148, 3) := by decide +kernel
theorem dX12_readsAmount_21 : decode cX12_readsAmount 21 = .ok (.ireturn, 1) := by decide +kernel
theorem dX12_readsAmount_22 : decode cX12_readsAmount 22 = .ok (.aload_n 0, 1) := by decide +kernel
theorem dX12_readsAmount_23 : decode cX12_readsAmount 23 = .ok (.iconst 0, 1) := by decide +kernel
theorem dX12_readsAmount_24 : decode cX12_readsAmount 24 = .ok (.putfield 152, 3) := by decide +kernel
theorem dX12_readsAmount_27 : decode cX12_readsAmount 27 = .ok (.aload_n 0, 1) := by decide +kernel
theorem dX12_readsAmount_28 : decode cX12_readsAmount 28 = .ok (.invokevirtual 155, 3) := by decide +kernel
theorem dX12_readsAmount_31 : decode cX12_readsAmount 31 = .ok (.ifCond .eq 55, 3) := by decide +kernel
theorem dX12_readsAmount_34 : decode cX12_readsAmount 34 = .ok (.aload_n 0, 1) := by decide +kernel
theorem dX12_readsAmount_35 : decode cX12_readsAmount 35 = .ok (.getfield 135, 3) := by decide +kernel
theorem dX12_readsAmount_38 : decode cX12_readsAmount 38 = .ok (.iload_n 2, 1) := by decide +kernel
theorem dX12_readsAmount_39 : decode cX12_readsAmount 39 = .ok (.iload_n 1, 1) := by decide +kernel
theorem dX12_readsAmount_40 : decode cX12_readsAmount 40 = .ok (.iadd, 1) := by decide +kernel
theorem dX12_readsAmount_41 : decode cX12_readsAmount 41 = .ok (.if_icmp .ne 13, 3) := by decide +kernel
theorem dX12_readsAmount_44 : decode cX12_readsAmount 44 = .ok (.aload_n 0, 1) := by decide +kernel
theorem dX12_readsAmount_45 : decode cX12_readsAmount 45 = .ok (.iconst 2, 1) := by decide +kernel
theorem dX12_readsAmount_46 : decode cX12_readsAmount 46 = .ok (.aload_n 0, 1) := by decide +kernel
theorem dX12_readsAmount_47 : decode cX12_readsAmount 47 = .ok (.getfield 135, 3) := by decide +kernel
theorem dX12_readsAmount_50 : decode cX12_readsAmount 50 = .ok (.invokevirtual 148, 3) := by decide +kernel
theorem dX12_readsAmount_53 : decode cX12_readsAmount 53 = .ok (.ireturn, 1) := by decide +kernel
theorem dX12_readsAmount_54 : decode cX12_readsAmount 54 = .ok (.aload_n 0, 1) := by decide +kernel
theorem dX12_readsAmount_55 : decode cX12_readsAmount 55 = .ok (.bipush 10, 2) := by decide +kernel
theorem dX12_readsAmount_57 : decode cX12_readsAmount 57 = .ok (.aload_n 0, 1) := by decide +kernel
theorem dX12_readsAmount_58 : decode cX12_readsAmount 58 = .ok (.getfield 152, 3) := by decide +kernel
theorem dX12_readsAmount_61 : decode cX12_readsAmount 61 = .ok (.imul, 1) := by decide +kernel
theorem dX12_readsAmount_62 : decode cX12_readsAmount 62 = .ok (.aload_n 0, 1) := by decide +kernel
theorem dX12_readsAmount_63 : decode cX12_readsAmount 63 = .ok (.invokevirtual 141, 3) := by decide +kernel
theorem dX12_readsAmount_66 : decode cX12_readsAmount 66 = .ok (.iadd, 1) := by decide +kernel
theorem dX12_readsAmount_67 : decode cX12_readsAmount 67 = .ok (.bipush 48, 2) := by decide +kernel
theorem dX12_readsAmount_69 : decode cX12_readsAmount 69 = .ok (.isub, 1) := by decide +kernel
theorem dX12_readsAmount_70 : decode cX12_readsAmount 70 = .ok (.putfield 152, 3) := by decide +kernel
theorem dX12_readsAmount_73 : decode cX12_readsAmount 73 = .ok (.aload_n 0, 1) := by decide +kernel
theorem dX12_readsAmount_74 : decode cX12_readsAmount 74 = .ok (.aload_n 0, 1) := by decide +kernel
theorem dX12_readsAmount_75 : decode cX12_readsAmount 75 = .ok (.getfield 135, 3) := by decide +kernel
theorem dX12_readsAmount_78 : decode cX12_readsAmount 78 = .ok (.iconst 1, 1) := by decide +kernel
theorem dX12_readsAmount_79 : decode cX12_readsAmount 79 = .ok (.iadd, 1) := by decide +kernel
theorem dX12_readsAmount_80 : decode cX12_readsAmount 80 = .ok (.putfield 135, 3) := by decide +kernel
theorem dX12_readsAmount_83 : decode cX12_readsAmount 83 = .ok (.goto (-56), 3) := by decide +kernel
theorem dX12_readsAmount_86 : decode cX12_readsAmount 86 = .ok (.iconst 1, 1) := by decide +kernel
theorem dX12_readsAmount_87 : decode cX12_readsAmount 87 = .ok (.ireturn, 1) := by decide +kernel
theorem dX12_readsItem_0 : decode cX12_readsItem 0 = .ok (.aload_n 0, 1) := by decide +kernel
theorem dX12_readsItem_1 : decode cX12_readsItem 1 = .ok (.invokevirtual 251, 3) := by decide +kernel
theorem dX12_readsItem_4 : decode cX12_readsItem 4 = .ok (.aload_n 0, 1) := by decide +kernel
theorem dX12_readsItem_5 : decode cX12_readsItem 5 = .ok (.invokevirtual 141, 3) := by decide +kernel
theorem dX12_readsItem_8 : decode cX12_readsItem 8 = .ok (.bipush 40, 2) := by decide +kernel
theorem dX12_readsItem_10 : decode cX12_readsItem 10 = .ok (.if_icmp .ne 87, 3) := by decide +kernel
theorem dX12_readsItem_13 : decode cX12_readsItem 13 = .ok (.aload_n 0, 1) := by decide +kernel
theorem dX12_readsItem_14 : decode cX12_readsItem 14 = .ok (.getfield 254, 3) := by decide +kernel
theorem dX12_readsItem_17 : decode cX12_readsItem 17 = .ok (.iconst 2, 1) := by decide +kernel
theorem dX12_readsItem_18 : decode cX12_readsItem 18 = .ok (.if_icmp .ne 13, 3) := by decide +kernel
theorem dX12_readsItem_21 : decode cX12_readsItem 21 = .ok (.aload_n 0, 1) := by decide +kernel
theorem dX12_readsItem_22 : decode cX12_readsItem 22 = .ok (.iconst 5, 1) := by decide +kernel
theorem dX12_readsItem_23 : decode cX12_readsItem 23 = .ok (.aload_n 0, 1) := by decide +kernel
theorem dX12_readsItem_24 : decode cX12_readsItem 24 = .ok (.getfield 135, 3) := by decide +kernel
theorem dX12_readsItem_27 : decode cX12_readsItem 27 = .ok (.invokevirtual 148, 3) := by decide +kernel
theorem dX12_readsItem_30 : decode cX12_readsItem 30 = .ok (.ireturn, 1) := by decide +kernel
theorem dX12_readsItem_31 : decode cX12_readsItem 31 = .ok (.aload_n 0, 1) := by decide +kernel
theorem dX12_readsItem_32 : decode cX12_readsItem 32 = .ok (.getfield 71, 3) := by decide +kernel
theorem dX12_readsItem_35 : decode cX12_readsItem 35 = .ok (.aload_n 0, 1) := by decide +kernel
theorem dX12_readsItem_36 : decode cX12_readsItem 36 = .ok (.getfield 254, 3) := by decide +kernel
theorem dX12_readsItem_39 : decode cX12_readsItem 39 = .ok (.aload_n 0, 1) := by decide +kernel
theorem dX12_readsItem_40 : decode cX12_readsItem 40 = .ok (.getfield 239, 3) := by decide +kernel
theorem dX12_readsItem_43 : decode cX12_readsItem 43 = .ok (.iastore, 1) := by decide +kernel
theorem dX12_readsItem_44 : decode cX12_readsItem 44 = .ok (.aload_n 0, 1) := by decide +kernel
theorem dX12_readsItem_45 : decode cX12_readsItem 45 = .ok (.getfield 74, 3) := by decide +kernel
theorem dX12_readsItem_48 : decode cX12_readsItem 48 = .ok (.aload_n 0, 1) := by decide +kernel
theorem dX12_readsItem_49 : decode cX12_readsItem 49 = .ok (.getfield 254, 3) := by decide +kernel
theorem dX12_readsItem_52 : decode cX12_readsItem 52 = .ok (.aload_n 0, 1) := by decide +kernel
theorem dX12_readsItem_53 : decode cX12_readsItem 53 = .ok (.getfield 248, 3) := by decide +kernel
theorem dX12_readsItem_56 : decode cX12_readsItem 56 = .ok (.iastore, 1) := by decide +kernel
theorem dX12_readsItem_57 : decode cX12_readsItem 57 = .ok (.aload_n 0, 1) := by decide +kernel
theorem dX12_readsItem_58 : decode cX12_readsItem 58 = .ok (.getfield 77, 3) := by decide +kernel
theorem dX12_readsItem_61 : decode cX12_readsItem 61 = .ok (.aload_n 0, 1) := by decide +kernel
theorem dX12_readsItem_62 : decode cX12_readsItem 62 = .ok (.getfield 254, 3) := by decide +kernel
theorem dX12_readsItem_65 : decode cX12_readsItem 65 = .ok (.aload_n 0, 1) := by decide +kernel
theorem dX12_readsItem_66 : decode cX12_readsItem 66 = .ok (.getfield 242, 3) := by decide +kernel
theorem dX12_readsItem_69 : decode cX12_readsItem 69 = .ok (.iastore, 1) := by decide +kernel
theorem dX12_readsItem_70 : decode cX12_readsItem 70 = .ok (.aload_n 0, 1) := by decide +kernel
theorem dX12_readsItem_71 : decode cX12_readsItem 71 = .ok (.aload_n 0, 1) := by decide +kernel
theorem dX12_readsItem_72 : decode cX12_readsItem 72 = .ok (.getfield 254, 3) := by decide +kernel
theorem dX12_readsItem_75 : decode cX12_readsItem 75 = .ok (.iconst 1, 1) := by decide +kernel
theorem dX12_readsItem_76 : decode cX12_readsItem 76 = .ok (.iadd, 1) := by decide +kernel
theorem dX12_readsItem_77 : decode cX12_readsItem 77 = .ok (.putfield 254, 3) := by decide +kernel
theorem dX12_readsItem_80 : decode cX12_readsItem 80 = .ok (.aload_n 0, 1) := by decide +kernel
theorem dX12_readsItem_81 : decode cX12_readsItem 81 = .ok (.aload_n 0, 1) := by decide +kernel
theorem dX12_readsItem_82 : decode cX12_readsItem 82 = .ok (.getfield 135, 3) := by decide +kernel
theorem dX12_readsItem_85 : decode cX12_readsItem 85 = .ok (.iconst 1, 1) := by decide +kernel
theorem dX12_readsItem_86 : decode cX12_readsItem 86 = .ok (.iadd, 1) := by decide +kernel
theorem dX12_readsItem_87 : decode cX12_readsItem 87 = .ok (.putfield 135, 3) := by decide +kernel
theorem dX12_readsItem_90 : decode cX12_readsItem 90 = .ok (.aload_n 0, 1) := by decide +kernel
theorem dX12_readsItem_91 : decode cX12_readsItem 91 = .ok (.invokevirtual 251, 3) := by decide +kernel
theorem dX12_readsItem_94 : decode cX12_readsItem 94 = .ok (.goto (-90), 3) := by decide +kernel
theorem dX12_readsItem_97 : decode cX12_readsItem 97 = .ok (.aload_n 0, 1) := by decide +kernel
theorem dX12_readsItem_98 : decode cX12_readsItem 98 = .ok (.getfield 239, 3) := by decide +kernel
theorem dX12_readsItem_101 : decode cX12_readsItem 101 = .ok (.istore_n 1, 1) := by decide +kernel
theorem dX12_readsItem_102 : decode cX12_readsItem 102 = .ok (.aload_n 0, 1) := by decide +kernel
theorem dX12_readsItem_103 : decode cX12_readsItem 103 = .ok (.getfield 242, 3) := by decide +kernel
theorem dX12_readsItem_106 : decode cX12_readsItem 106 = .ok (.istore_n 2, 1) := by decide +kernel
theorem dX12_readsItem_107 : decode cX12_readsItem 107 = .ok (.aload_n 0, 1) := by decide +kernel
theorem dX12_readsItem_108 : decode cX12_readsItem 108 = .ok (.getfield 135, 3) := by decide +kernel
theorem dX12_readsItem_111 : decode cX12_readsItem 111 = .ok (.istore_n 3, 1) := by decide +kernel
theorem dX12_readsItem_112 : decode cX12_readsItem 112 = .ok (.aload_n 0, 1) := by decide +kernel
theorem dX12_readsItem_113 : decode cX12_readsItem 113 = .ok (.iconst 3, 1) := by decide +kernel
theorem dX12_readsItem_114 : decode cX12_readsItem 114 = .ok (.invokevirtual 257, 3) := by decide +kernel
theorem dX12_readsItem_117 : decode cX12_readsItem 117 = .ok (.ifCond .ne 5, 3) := by decide +kernel
theorem dX12_readsItem_120 : decode cX12_readsItem 120 = .ok (.iconst 0, 1) := by decide +kernel
theorem dX12_readsItem_121 : decode cX12_readsItem 121 = .ok (.ireturn, 1) := by decide +kernel
theorem dX12_readsItem_122 : decode cX12_readsItem 122 = .ok (.aload_n 0, 1) := by decide +kernel
theorem dX12_readsItem_123 : decode cX12_readsItem 123 = .ok (.getfield 152, 3) := by decide +kernel
theorem dX12_readsItem_126 : decode cX12_readsItem 126 = .ok (.iconst 1, 1) := by decide +kernel
theorem dX12_readsItem_127 : decode cX12_readsItem 127 = .ok (.sipush 255, 3) := by decide +kernel
theorem dX12_readsItem_130 : decode cX12_readsItem 130 = .ok (.invokestatic 113, 3) := by decide +kernel
theorem dX12_readsItem_133 : decode cX12_readsItem 133 = .ok (.ifCond .ne 10, 3) := by decide +kernel
theorem dX12_readsItem_136 : decode cX12_readsItem 136 = .ok (.aload_n 0, 1) := by decide +kernel
theorem dX12_readsItem_137 : decode cX12_readsItem 137 = .ok (.iconst 3, 1) := by decide +kernel
theorem dX12_readsItem_138 : decode cX12_readsItem 138 = .ok (.iload_n 3, 1) := by decide +kernel
theorem dX12_readsItem_139 : decode cX12_readsItem 139 = .ok (.invokevirtual 148, 3) := by decide +kernel
theorem dX12_readsItem_142 : decode cX12_readsItem 142 = .ok (.ireturn, 1) := by decide +kernel
theorem dX12_readsItem_143 : decode cX12_readsItem 143 = .ok (.aload_n 0, 1) := by decide +kernel
theorem dX12_readsItem_144 : decode cX12_readsItem 144 = .ok (.getfield 248, 3) := by decide +kernel
theorem dX12_readsItem_147 : decode cX12_readsItem 147 = .ok (.iload_n 2, 1) := by decide +kernel
theorem dX12_readsItem_148 : decode cX12_readsItem 148 = .ok (.iadd, 1) := by decide +kernel
theorem dX12_readsItem_149 : decode cX12_readsItem 149 = .ok (.bipush 20, 2) := by decide +kernel
theorem dX12_readsItem_151 : decode cX12_readsItem 151 = .ok (.if_icmp .le 11, 3) := by decide +kernel
theorem dX12_readsItem_154 : decode cX12_readsItem 154 = .ok (.aload_n 0, 1) := by decide +kernel
theorem dX12_readsItem_155 : decode cX12_readsItem 155 = .ok (.bipush 6, 2) := by decide +kernel
theorem dX12_readsItem_157 : decode cX12_readsItem 157 = .ok (.iload_n 1, 1) := by decide +kernel
theorem dX12_readsItem_158 : decode cX12_readsItem 158 = .ok (.invokevirtual 148, 3) := by decide +kernel
theorem dX12_readsItem_161 : decode cX12_readsItem 161 = .ok (.ireturn, 1) := by decide +kernel
theorem dX12_readsItem_162 : decode cX12_readsItem 162 = .ok (.aload_n 0, 1) := by decide +kernel
theorem dX12_readsItem_163 : decode cX12_readsItem 163 = .ok (.getfield 68, 3) := by decide +kernel
theorem dX12_readsItem_166 : decode cX12_readsItem 166 = .ok (.aload_n 0, 1) := by decide +kernel
theorem dX12_readsItem_167 : decode cX12_readsItem 167 = .ok (.getfield 248, 3) := by decide +kernel
theorem dX12_readsItem_170 : decode cX12_readsItem 170 = .ok (.aload_n 0, 1) := by decide +kernel
theorem dX12_readsItem_171 : decode cX12_readsItem 171 = .ok (.getfield 152, 3) := by decide +kernel
theorem dX12_readsItem_174 : decode cX12_readsItem 174 = .ok (.iastore, 1) := by decide +kernel
theorem dX12_readsItem_175 : decode cX12_readsItem 175 = .ok (.aload_n 0, 1) := by decide +kernel
theorem dX12_readsItem_176 : decode cX12_readsItem 176 = .ok (.aload_n 0, 1) := by decide +kernel
theorem dX12_readsItem_177 : decode cX12_readsItem 177 = .ok (.getfield 248, 3) := by decide +kernel
theorem dX12_readsItem_180 : decode cX12_readsItem 180 = .ok (.iconst 1, 1) := by decide +kernel
theorem dX12_readsItem_181 : decode cX12_readsItem 181 = .ok (.iadd, 1) := by decide +kernel
theorem dX12_readsItem_182 : decode cX12_readsItem 182 = .ok (.putfield 248, 3) := by decide +kernel
theorem dX12_readsItem_185 : decode cX12_readsItem 185 = .ok (.aload_n 0, 1) := by decide +kernel
theorem dX12_readsItem_186 : decode cX12_readsItem 186 = .ok (.aload_n 0, 1) := by decide +kernel
theorem dX12_readsItem_187 : decode cX12_readsItem 187 = .ok (.getfield 248, 3) := by decide +kernel
theorem dX12_readsItem_190 : decode cX12_readsItem 190 = .ok (.iconst 1, 1) := by decide +kernel
theorem dX12_readsItem_191 : decode cX12_readsItem 191 = .ok (.isub, 1) := by decide +kernel
theorem dX12_readsItem_192 : decode cX12_readsItem 192 = .ok (.iload_n 2, 1) := by decide +kernel
theorem dX12_readsItem_193 : decode cX12_readsItem 193 = .ok (.iload_n 1, 1) := by decide +kernel
theorem dX12_readsItem_194 : decode cX12_readsItem 194 = .ok (.invokevirtual 260, 3) := by decide +kernel
theorem dX12_readsItem_197 : decode cX12_readsItem 197 = .ok (.ifCond .ne 5, 3) := by decide +kernel
theorem dX12_readsItem_200 : decode cX12_readsItem 200 = .ok (.iconst 0, 1) := by decide +kernel
theorem dX12_readsItem_201 : decode cX12_readsItem 201 = .ok (.ireturn, 1) := by decide +kernel
theorem dX12_readsItem_202 : decode cX12_readsItem 202 = .ok (.aload_n 0, 1) := by decide +kernel
theorem dX12_readsItem_203 : decode cX12_readsItem 203 = .ok (.invokevirtual 141, 3) := by decide +kernel
theorem dX12_readsItem_206 : decode cX12_readsItem 206 = .ok (.bipush 41, 2) := by decide +kernel
theorem dX12_readsItem_208 : decode cX12_readsItem 208 = .ok (.if_icmp .ne 66, 3) := by decide +kernel
theorem dX12_readsItem_211 : decode cX12_readsItem 211 = .ok (.aload_n 0, 1) := by decide +kernel
theorem dX12_readsItem_212 : decode cX12_readsItem 212 = .ok (.getfield 254, 3) := by decide +kernel
theorem dX12_readsItem_215 : decode cX12_readsItem 215 = .ok (.ifCond .le 59, 3) := by decide +kernel
theorem dX12_readsItem_218 : decode cX12_readsItem 218 = .ok (.aload_n 0, 1) := by decide +kernel
theorem dX12_readsItem_219 : decode cX12_readsItem 219 = .ok (.aload_n 0, 1) := by decide +kernel
theorem dX12_readsItem_220 : decode cX12_readsItem 220 = .ok (.getfield 135, 3) := by decide +kernel
theorem dX12_readsItem_223 : decode cX12_readsItem 223 = .ok (.iconst 1, 1) := by decide +kernel
theorem dX12_readsItem_224 : decode cX12_readsItem 224 = .ok (.iadd, 1) := by decide +kernel
theorem dX12_readsItem_225 : decode cX12_readsItem 225 = .ok (.putfield 135, 3) := by decide +kernel
theorem dX12_readsItem_228 : decode cX12_readsItem 228 = .ok (.aload_n 0, 1) := by decide +kernel
theorem dX12_readsItem_229 : decode cX12_readsItem 229 = .ok (.aload_n 0, 1) := by decide +kernel
theorem dX12_readsItem_230 : decode cX12_readsItem 230 = .ok (.getfield 254, 3) := by decide +kernel
theorem dX12_readsItem_233 : decode cX12_readsItem 233 = .ok (.iconst 1, 1) := by decide +kernel
theorem dX12_readsItem_234 : decode cX12_readsItem 234 = .ok (.isub, 1) := by decide +kernel
theorem dX12_readsItem_235 : decode cX12_readsItem 235 = .ok (.putfield 254, 3) := by decide +kernel
theorem dX12_readsItem_238 : decode cX12_readsItem 238 = .ok (.aload_n 0, 1) := by decide +kernel
theorem dX12_readsItem_239 : decode cX12_readsItem 239 = .ok (.aload_n 0, 1) := by decide +kernel
theorem dX12_readsItem_240 : decode cX12_readsItem 240 = .ok (.getfield 74, 3) := by decide +kernel
theorem dX12_readsItem_243 : decode cX12_readsItem 243 = .ok (.aload_n 0, 1) := by decide +kernel
theorem dX12_readsItem_244 : decode cX12_readsItem 244 = .ok (.getfield 254, 3) := by decide +kernel
theorem dX12_readsItem_247 : decode cX12_readsItem 247 = .ok (.iaload, 1) := by decide +kernel
theorem dX12_readsItem_248 : decode cX12_readsItem 248 = .ok (.aload_n 0, 1) := by decide +kernel
theorem dX12_readsItem_249 : decode cX12_readsItem 249 = .ok (.getfield 77, 3) := by decide +kernel
theorem dX12_readsItem_252 : decode cX12_readsItem 252 = .ok (.aload_n 0, 1) := by decide +kernel
theorem dX12_readsItem_253 : decode cX12_readsItem 253 = .ok (.getfield 254, 3) := by decide +kernel
theorem dX12_readsItem_256 : decode cX12_readsItem 256 = .ok (.iaload, 1) := by decide +kernel
theorem dX12_readsItem_257 : decode cX12_readsItem 257 = .ok (.aload_n 0, 1) := by decide +kernel
theorem dX12_readsItem_258 : decode cX12_readsItem 258 = .ok (.getfield 71, 3) := by decide +kernel
theorem dX12_readsItem_261 : decode cX12_readsItem 261 = .ok (.aload_n 0, 1) := by decide +kernel
theorem dX12_readsItem_262 : decode cX12_readsItem 262 = .ok (.getfield 254, 3) := by decide +kernel
theorem dX12_readsItem_265 : decode cX12_readsItem 265 = .ok (.iaload, 1) := by decide +kernel
theorem dX12_readsItem_266 : decode cX12_readsItem 266 = .ok (.invokevirtual 260, 3) := by decide +kernel
theorem dX12_readsItem_269 : decode cX12_readsItem 269 = .ok (.ifCond .ne (-67), 3) := by decide +kernel
theorem dX12_readsItem_272 : decode cX12_readsItem 272 = .ok (.iconst 0, 1) := by decide +kernel
theorem dX12_readsItem_273 : decode cX12_readsItem 273 = .ok (.ireturn, 1) := by decide +kernel
theorem dX12_readsItem_274 : decode cX12_readsItem 274 = .ok (.iconst 1, 1) := by decide +kernel
theorem dX12_readsItem_275 : decode cX12_readsItem 275 = .ok (.ireturn, 1) := by decide +kernel
theorem dX12_plan_0 : decode cX12_plan 0 = .ok (.iload_n 1, 1) := by decide +kernel
theorem dX12_plan_1 : decode cX12_plan 1 = .ok (.invokestatic 263, 3) := by decide +kernel
theorem dX12_plan_4 : decode cX12_plan 4 = .ok (.ifCond .eq 21, 3) := by decide +kernel
theorem dX12_plan_7 : decode cX12_plan 7 = .ok (.iload_n 2, 1) := by decide +kernel
theorem dX12_plan_8 : decode cX12_plan 8 = .ok (.iconst 1, 1) := by decide +kernel
theorem dX12_plan_9 : decode cX12_plan 9 = .ok (.bipush 80, 2) := by decide +kernel
theorem dX12_plan_11 : decode cX12_plan 11 = .ok (.invokestatic 113, 3) := by decide +kernel
theorem dX12_plan_14 : decode cX12_plan 14 = .ok (.ifCond .eq 11, 3) := by decide +kernel
theorem dX12_plan_17 : decode cX12_plan 17 = .ok (.iload_n 2, 1) := by decide +kernel
theorem dX12_plan_18 : decode cX12_plan 18 = .ok (.aload_n 0, 1) := by decide +kernel
theorem dX12_plan_19 : decode cX12_plan 19 = .ok (.getfield 128, 3) := by decide +kernel
theorem dX12_plan_22 : decode cX12_plan 22 = .ok (.if_icmp .le 5, 3) := by decide +kernel
theorem dX12_plan_25 : decode cX12_plan 25 = .ok (.iconst (-1), 1) := by decide +kernel
theorem dX12_plan_26 : decode cX12_plan 26 = .ok (.ireturn, 1) := by decide +kernel
theorem dX12_plan_27 : decode cX12_plan 27 = .ok (.aload_n 0, 1) := by decide +kernel
theorem dX12_plan_28 : decode cX12_plan 28 = .ok (.iload_n 2, 1) := by decide +kernel
theorem dX12_plan_29 : decode cX12_plan 29 = .ok (.invokevirtual 220, 3) := by decide +kernel
theorem dX12_plan_32 : decode cX12_plan 32 = .ok (.aload_n 0, 1) := by decide +kernel
theorem dX12_plan_33 : decode cX12_plan 33 = .ok (.iconst 0, 1) := by decide +kernel
theorem dX12_plan_34 : decode cX12_plan 34 = .ok (.putfield 248, 3) := by decide +kernel
theorem dX12_plan_37 : decode cX12_plan 37 = .ok (.aload_n 0, 1) := by decide +kernel
theorem dX12_plan_38 : decode cX12_plan 38 = .ok (.iconst 0, 1) := by decide +kernel
theorem dX12_plan_39 : decode cX12_plan 39 = .ok (.putfield 254, 3) := by decide +kernel
theorem dX12_plan_42 : decode cX12_plan 42 = .ok (.aload_n 0, 1) := by decide +kernel
theorem dX12_plan_43 : decode cX12_plan 43 = .ok (.invokevirtual 266, 3) := by decide +kernel
theorem dX12_plan_46 : decode cX12_plan 46 = .ok (.istore_n 3, 1) := by decide +kernel
theorem dX12_plan_47 : decode cX12_plan 47 = .ok (.iload_n 3, 1) := by decide +kernel
theorem dX12_plan_48 : decode cX12_plan 48 = .ok (.ifCond .eq 46, 3) := by decide +kernel
theorem dX12_plan_51 : decode cX12_plan 51 = .ok (.aload_n 0, 1) := by decide +kernel
theorem dX12_plan_52 : decode cX12_plan 52 = .ok (.getfield 135, 3) := by decide +kernel
theorem dX12_plan_55 : decode cX12_plan 55 = .ok (.aload_n 0, 1) := by decide +kernel
theorem dX12_plan_56 : decode cX12_plan 56 = .ok (.getfield 138, 3) := by decide +kernel
theorem dX12_plan_59 : decode cX12_plan 59 = .ok (.if_icmp .lt 10, 3) := by decide +kernel
theorem dX12_plan_62 : decode cX12_plan 62 = .ok (.aload_n 0, 1) := by decide +kernel
theorem dX12_plan_63 : decode cX12_plan 63 = .ok (.getfield 254, 3) := by decide +kernel
theorem dX12_plan_66 : decode cX12_plan 66 = .ok (.ifCond .le 28, 3) := by decide +kernel
theorem dX12_plan_69 : decode cX12_plan 69 = .ok (.aload_n 0, 1) := by decide +kernel
theorem dX12_plan_70 : decode cX12_plan 70 = .ok (.bipush 44, 2) := by decide +kernel
theorem dX12_plan_72 : decode cX12_plan 72 = .ok (.invokevirtual 226, 3) := by decide +kernel
theorem dX12_plan_75 : decode cX12_plan 75 = .ok (.ifCond .eq 14, 3) := by decide +kernel
theorem dX12_plan_78 : decode cX12_plan 78 = .ok (.aload_n 0, 1) := by decide +kernel
theorem dX12_plan_79 : decode cX12_plan 79 = .ok (.invokevirtual 266, 3) := by decide +kernel
theorem dX12_plan_82 : decode cX12_plan 82 = .ok (.ifCond .eq 7, 3) := by decide +kernel
theorem dX12_plan_85 : decode cX12_plan 85 = .ok (.iconst 1, 1) := by decide +kernel
theorem dX12_plan_86 : decode cX12_plan 86 = .ok (.goto 4, 3) := by decide +kernel
theorem dX12_plan_89 : decode cX12_plan 89 = .ok (.iconst 0, 1) := by decide +kernel
theorem dX12_plan_90 : decode cX12_plan 90 = .ok (.istore_n 3, 1) := by decide +kernel
theorem dX12_plan_91 : decode cX12_plan 91 = .ok (.goto (-44), 3) := by decide +kernel
theorem dX12_plan_94 : decode cX12_plan 94 = .ok (.aload_n 0, 1) := by decide +kernel
theorem dX12_plan_95 : decode cX12_plan 95 = .ok (.iconst 0, 1) := by decide +kernel
theorem dX12_plan_96 : decode cX12_plan 96 = .ok (.putfield 128, 3) := by decide +kernel
theorem dX12_plan_99 : decode cX12_plan 99 = .ok (.iload_n 3, 1) := by decide +kernel
theorem dX12_plan_100 : decode cX12_plan 100 = .ok (.ifCond .ne 8, 3) := by decide +kernel
theorem dX12_plan_103 : decode cX12_plan 103 = .ok (.aload_n 0, 1) := by decide +kernel
theorem dX12_plan_104 : decode cX12_plan 104 = .ok (.getfield 145, 3) := by decide +kernel
theorem dX12_plan_107 : decode cX12_plan 107 = .ok (.ireturn, 1) := by decide +kernel
theorem dX12_plan_108 : decode cX12_plan 108 = .ok (.aload_n 0, 1) := by decide +kernel
theorem dX12_plan_109 : decode cX12_plan 109 = .ok (.getfield 19, 3) := by decide +kernel
theorem dX12_plan_112 : decode cX12_plan 112 = .ok (.iload_n 1, 1) := by decide +kernel
theorem dX12_plan_113 : decode cX12_plan 113 = .ok (.aload_n 0, 1) := by decide +kernel
theorem dX12_plan_114 : decode cX12_plan 114 = .ok (.getfield 248, 3) := by decide +kernel
theorem dX12_plan_117 : decode cX12_plan 117 = .ok (.iastore, 1) := by decide +kernel
theorem dX12_plan_118 : decode cX12_plan 118 = .ok (.iconst 0, 1) := by decide +kernel
theorem dX12_plan_119 : decode cX12_plan 119 = .ok (.istore 4, 2) := by decide +kernel
theorem dX12_plan_121 : decode cX12_plan 121 = .ok (.iload 4, 2) := by decide +kernel
theorem dX12_plan_123 : decode cX12_plan 123 = .ok (.aload_n 0, 1) := by decide +kernel
theorem dX12_plan_124 : decode cX12_plan 124 = .ok (.getfield 248, 3) := by decide +kernel
theorem dX12_plan_127 : decode cX12_plan 127 = .ok (.if_icmp .ge 28, 3) := by decide +kernel
theorem dX12_plan_130 : decode cX12_plan 130 = .ok (.aload_n 0, 1) := by decide +kernel
theorem dX12_plan_131 : decode cX12_plan 131 = .ok (.getfield 22, 3) := by decide +kernel
theorem dX12_plan_134 : decode cX12_plan 134 = .ok (.bipush 20, 2) := by decide +kernel
theorem dX12_plan_136 : decode cX12_plan 136 = .ok (.iload_n 1, 1) := by decide +kernel
theorem dX12_plan_137 : decode cX12_plan 137 = .ok (.imul, 1) := by decide +kernel
theorem dX12_plan_138 : decode cX12_plan 138 = .ok (.iload 4, 2) := by decide +kernel
theorem dX12_plan_140 : decode cX12_plan 140 = .ok (.iadd, 1) := by decide +kernel
theorem dX12_plan_141 : decode cX12_plan 141 = .ok (.aload_n 0, 1) := by decide +kernel
theorem dX12_plan_142 : decode cX12_plan 142 = .ok (.getfield 68, 3) := by decide +kernel
theorem dX12_plan_145 : decode cX12_plan 145 = .ok (.iload 4, 2) := by decide +kernel
theorem dX12_plan_147 : decode cX12_plan 147 = .ok (.iaload, 1) := by decide +kernel
theorem dX12_plan_148 : decode cX12_plan 148 = .ok (.iastore, 1) := by decide +kernel
theorem dX12_plan_149 : decode cX12_plan 149 = .ok (.iinc 4 1, 3) := by decide +kernel
theorem dX12_plan_152 : decode cX12_plan 152 = .ok (.goto (-31), 3) := by decide +kernel
theorem dX12_plan_155 : decode cX12_plan 155 = .ok (.aload_n 0, 1) := by decide +kernel
theorem dX12_plan_156 : decode cX12_plan 156 = .ok (.getfield 248, 3) := by decide +kernel
theorem dX12_plan_159 : decode cX12_plan 159 = .ok (.ireturn, 1) := by decide +kernel
theorem dX12_readsMore_0 : decode cX12_readsMore 0 = .ok (.aload_n 0, 1) := by decide +kernel
theorem dX12_readsMore_1 : decode cX12_readsMore 1 = .ok (.invokevirtual 141, 3) := by decide +kernel
theorem dX12_readsMore_4 : decode cX12_readsMore 4 = .ok (.istore_n 3, 1) := by decide +kernel
theorem dX12_readsMore_5 : decode cX12_readsMore 5 = .ok (.iload_n 3, 1) := by decide +kernel
theorem dX12_readsMore_6 : decode cX12_readsMore 6 = .ok (.bipush 43, 2) := by decide +kernel
theorem dX12_readsMore_8 : decode cX12_readsMore 8 = .ok (.if_icmp .eq 19, 3) := by decide +kernel
theorem dX12_readsMore_11 : decode cX12_readsMore 11 = .ok (.iload_n 3, 1) := by decide +kernel
theorem dX12_readsMore_12 : decode cX12_readsMore 12 = .ok (.bipush 45, 2) := by decide +kernel
theorem dX12_readsMore_14 : decode cX12_readsMore 14 = .ok (.if_icmp .eq 13, 3) := by decide +kernel
theorem dX12_readsMore_17 : decode cX12_readsMore 17 = .ok (.aload_n 0, 1) := by decide +kernel
theorem dX12_readsMore_18 : decode cX12_readsMore 18 = .ok (.iconst 1, 1) := by decide +kernel
theorem dX12_readsMore_19 : decode cX12_readsMore 19 = .ok (.aload_n 0, 1) := by decide +kernel
theorem dX12_readsMore_20 : decode cX12_readsMore 20 = .ok (.getfield 135, 3) := by decide +kernel
theorem dX12_readsMore_23 : decode cX12_readsMore 23 = .ok (.invokevirtual 148, 3) := by decide +kernel
theorem dX12_readsMore_26 : decode cX12_readsMore 26 = .ok (.ireturn, 1) := by decide +kernel
theorem dX12_readsMore_27 : decode cX12_readsMore 27 = .ok (.aload_n 0, 1) := by decide +kernel
theorem dX12_readsMore_28 : decode cX12_readsMore 28 = .ok (.aload_n 0, 1) := by decide +kernel
theorem dX12_readsMore_29 : decode cX12_readsMore 29 = .ok (.getfield 135, 3) := by decide +kernel
theorem dX12_readsMore_32 : decode cX12_readsMore 32 = .ok (.iconst 1, 1) := by decide +kernel
theorem dX12_readsMore_33 : decode cX12_readsMore 33 = .ok (.iadd, 1) := by decide +kernel
theorem dX12_readsMore_34 : decode cX12_readsMore 34 = .ok (.putfield 135, 3) := by decide +kernel
theorem dX12_readsMore_37 : decode cX12_readsMore 37 = .ok (.aload_n 0, 1) := by decide +kernel
theorem dX12_readsMore_38 : decode cX12_readsMore 38 = .ok (.iconst 4, 1) := by decide +kernel
theorem dX12_readsMore_39 : decode cX12_readsMore 39 = .ok (.invokevirtual 257, 3) := by decide +kernel
theorem dX12_readsMore_42 : decode cX12_readsMore 42 = .ok (.ifCond .ne 5, 3) := by decide +kernel
theorem dX12_readsMore_45 : decode cX12_readsMore 45 = .ok (.iconst 0, 1) := by decide +kernel
theorem dX12_readsMore_46 : decode cX12_readsMore 46 = .ok (.ireturn, 1) := by decide +kernel
theorem dX12_readsMore_47 : decode cX12_readsMore 47 = .ok (.aload_n 0, 1) := by decide +kernel
theorem dX12_readsMore_48 : decode cX12_readsMore 48 = .ok (.getfield 7, 3) := by decide +kernel
theorem dX12_readsMore_51 : decode cX12_readsMore 51 = .ok (.iload_n 1, 1) := by decide +kernel
theorem dX12_readsMore_52 : decode cX12_readsMore 52 = .ok (.iconst 0, 1) := by decide +kernel
theorem dX12_readsMore_53 : decode cX12_readsMore 53 = .ok (.iload_n 2, 1) := by decide +kernel
theorem dX12_readsMore_54 : decode cX12_readsMore 54 = .ok (.aload_n 0, 1) := by decide +kernel
theorem dX12_readsMore_55 : decode cX12_readsMore 55 = .ok (.getfield 7, 3) := by decide +kernel
theorem dX12_readsMore_58 : decode cX12_readsMore 58 = .ok (.iload_n 1, 1) := by decide +kernel
theorem dX12_readsMore_59 : decode cX12_readsMore 59 = .ok (.iaload, 1) := by decide +kernel
theorem dX12_readsMore_60 : decode cX12_readsMore 60 = .ok (.iload_n 3, 1) := by decide +kernel
theorem dX12_readsMore_61 : decode cX12_readsMore 61 = .ok (.bipush 43, 2) := by decide +kernel
theorem dX12_readsMore_63 : decode cX12_readsMore 63 = .ok (.if_icmp .ne 10, 3) := by decide +kernel
theorem dX12_readsMore_66 : decode cX12_readsMore 66 = .ok (.aload_n 0, 1) := by decide +kernel
theorem dX12_readsMore_67 : decode cX12_readsMore 67 = .ok (.getfield 152, 3) := by decide +kernel
theorem dX12_readsMore_70 : decode cX12_readsMore 70 = .ok (.goto 8, 3) := by decide +kernel
theorem dX12_readsMore_73 : decode cX12_readsMore 73 = .ok (.aload_n 0, 1) := by decide +kernel
theorem dX12_readsMore_74 : decode cX12_readsMore 74 = .ok (.getfield 152, 3) := by decide +kernel
theorem dX12_readsMore_77 : decode cX12_readsMore 77 = .ok (.ineg, 1) := by decide +kernel
theorem dX12_readsMore_78 : decode cX12_readsMore 78 = .ok (.iadd, 1) := by decide +kernel
theorem dX12_readsMore_79 : decode cX12_readsMore 79 = .ok (.invokestatic 269, 3) := by decide +kernel
theorem dX12_readsMore_82 : decode cX12_readsMore 82 = .ok (.invokestatic 272, 3) := by decide +kernel
theorem dX12_readsMore_85 : decode cX12_readsMore 85 = .ok (.iastore, 1) := by decide +kernel
theorem dX12_readsMore_86 : decode cX12_readsMore 86 = .ok (.iconst 1, 1) := by decide +kernel
theorem dX12_readsMore_87 : decode cX12_readsMore 87 = .ok (.ireturn, 1) := by decide +kernel
theorem dX12_readsBench_0 : decode cX12_readsBench 0 = .ok (.aload_n 0, 1) := by decide +kernel
theorem dX12_readsBench_1 : decode cX12_readsBench 1 = .ok (.aload_n 0, 1) := by decide +kernel
theorem dX12_readsBench_2 : decode cX12_readsBench 2 = .ok (.getfield 135, 3) := by decide +kernel
theorem dX12_readsBench_5 : decode cX12_readsBench 5 = .ok (.iconst 1, 1) := by decide +kernel
theorem dX12_readsBench_6 : decode cX12_readsBench 6 = .ok (.iadd, 1) := by decide +kernel
theorem dX12_readsBench_7 : decode cX12_readsBench 7 = .ok (.putfield 135, 3) := by decide +kernel
theorem dX12_readsBench_10 : decode cX12_readsBench 10 = .ok (.aload_n 0, 1) := by decide +kernel
theorem dX12_readsBench_11 : decode cX12_readsBench 11 = .ok (.getfield 135, 3) := by decide +kernel
theorem dX12_readsBench_14 : decode cX12_readsBench 14 = .ok (.istore_n 2, 1) := by decide +kernel
theorem dX12_readsBench_15 : decode cX12_readsBench 15 = .ok (.aload_n 0, 1) := by decide +kernel
theorem dX12_readsBench_16 : decode cX12_readsBench 16 = .ok (.iconst 4, 1) := by decide +kernel
theorem dX12_readsBench_17 : decode cX12_readsBench 17 = .ok (.invokevirtual 257, 3) := by decide +kernel
theorem dX12_readsBench_20 : decode cX12_readsBench 20 = .ok (.ifCond .ne 5, 3) := by decide +kernel
theorem dX12_readsBench_23 : decode cX12_readsBench 23 = .ok (.iconst 0, 1) := by decide +kernel
theorem dX12_readsBench_24 : decode cX12_readsBench 24 = .ok (.ireturn, 1) := by decide +kernel
theorem dX12_readsBench_25 : decode cX12_readsBench 25 = .ok (.aload_n 0, 1) := by decide +kernel
theorem dX12_readsBench_26 : decode cX12_readsBench 26 = .ok (.getfield 152, 3) := by decide +kernel
theorem dX12_readsBench_29 : decode cX12_readsBench 29 = .ok (.istore_n 3, 1) := by decide +kernel
theorem dX12_readsBench_30 : decode cX12_readsBench 30 = .ok (.iload_n 3, 1) := by decide +kernel
theorem dX12_readsBench_31 : decode cX12_readsBench 31 = .ok (.iconst 1, 1) := by decide +kernel
theorem dX12_readsBench_32 : decode cX12_readsBench 32 = .ok (.bipush 20, 2) := by decide +kernel
theorem dX12_readsBench_34 : decode cX12_readsBench 34 = .ok (.invokestatic 113, 3) := by decide +kernel
theorem dX12_readsBench_37 : decode cX12_readsBench 37 = .ok (.ifCond .ne 10, 3) := by decide +kernel
theorem dX12_readsBench_40 : decode cX12_readsBench 40 = .ok (.aload_n 0, 1) := by decide +kernel
theorem dX12_readsBench_41 : decode cX12_readsBench 41 = .ok (.iconst 3, 1) := by decide +kernel
theorem dX12_readsBench_42 : decode cX12_readsBench 42 = .ok (.iload_n 2, 1) := by decide +kernel
theorem dX12_readsBench_43 : decode cX12_readsBench 43 = .ok (.invokevirtual 148, 3) := by decide +kernel
theorem dX12_readsBench_46 : decode cX12_readsBench 46 = .ok (.ireturn, 1) := by decide +kernel
theorem dX12_readsBench_47 : decode cX12_readsBench 47 = .ok (.aload_n 0, 1) := by decide +kernel
theorem dX12_readsBench_48 : decode cX12_readsBench 48 = .ok (.bipush 58, 2) := by decide +kernel
theorem dX12_readsBench_50 : decode cX12_readsBench 50 = .ok (.invokevirtual 226, 3) := by decide +kernel
theorem dX12_readsBench_53 : decode cX12_readsBench 53 = .ok (.ifCond .ne 5, 3) := by decide +kernel
theorem dX12_readsBench_56 : decode cX12_readsBench 56 = .ok (.iconst 0, 1) := by decide +kernel
theorem dX12_readsBench_57 : decode cX12_readsBench 57 = .ok (.ireturn, 1) := by decide +kernel
theorem dX12_readsBench_58 : decode cX12_readsBench 58 = .ok (.aload_n 0, 1) := by decide +kernel
theorem dX12_readsBench_59 : decode cX12_readsBench 59 = .ok (.getfield 135, 3) := by decide +kernel
theorem dX12_readsBench_62 : decode cX12_readsBench 62 = .ok (.istore_n 2, 1) := by decide +kernel
theorem dX12_readsBench_63 : decode cX12_readsBench 63 = .ok (.aload_n 0, 1) := by decide +kernel
theorem dX12_readsBench_64 : decode cX12_readsBench 64 = .ok (.iconst 4, 1) := by decide +kernel
theorem dX12_readsBench_65 : decode cX12_readsBench 65 = .ok (.invokevirtual 257, 3) := by decide +kernel
theorem dX12_readsBench_68 : decode cX12_readsBench 68 = .ok (.ifCond .ne 5, 3) := by decide +kernel
theorem dX12_readsBench_71 : decode cX12_readsBench 71 = .ok (.iconst 0, 1) := by decide +kernel
theorem dX12_readsBench_72 : decode cX12_readsBench 72 = .ok (.ireturn, 1) := by decide +kernel
theorem dX12_readsBench_73 : decode cX12_readsBench 73 = .ok (.aload_n 0, 1) := by decide +kernel
theorem dX12_readsBench_74 : decode cX12_readsBench 74 = .ok (.getfield 152, 3) := by decide +kernel
theorem dX12_readsBench_77 : decode cX12_readsBench 77 = .ok (.sipush 255, 3) := by decide +kernel
theorem dX12_readsBench_80 : decode cX12_readsBench 80 = .ok (.if_icmp .le 10, 3) := by decide +kernel
theorem dX12_readsBench_83 : decode cX12_readsBench 83 = .ok (.aload_n 0, 1) := by decide +kernel
theorem dX12_readsBench_84 : decode cX12_readsBench 84 = .ok (.iconst 3, 1) := by decide +kernel
theorem dX12_readsBench_85 : decode cX12_readsBench 85 = .ok (.iload_n 2, 1) := by decide +kernel
theorem dX12_readsBench_86 : decode cX12_readsBench 86 = .ok (.invokevirtual 148, 3) := by decide +kernel
theorem dX12_readsBench_89 : decode cX12_readsBench 89 = .ok (.ireturn, 1) := by decide +kernel
theorem dX12_readsBench_90 : decode cX12_readsBench 90 = .ok (.aload_n 0, 1) := by decide +kernel
theorem dX12_readsBench_91 : decode cX12_readsBench 91 = .ok (.getfield 7, 3) := by decide +kernel
theorem dX12_readsBench_94 : decode cX12_readsBench 94 = .ok (.iconst 2, 1) := by decide +kernel
theorem dX12_readsBench_95 : decode cX12_readsBench 95 = .ok (.bipush 20, 2) := by decide +kernel
theorem dX12_readsBench_97 : decode cX12_readsBench 97 = .ok (.iload_n 1, 1) := by decide +kernel
theorem dX12_readsBench_98 : decode cX12_readsBench 98 = .ok (.imul, 1) := by decide +kernel
theorem dX12_readsBench_99 : decode cX12_readsBench 99 = .ok (.iadd, 1) := by decide +kernel
theorem dX12_readsBench_100 : decode cX12_readsBench 100 = .ok (.iload_n 3, 1) := by decide +kernel
theorem dX12_readsBench_101 : decode cX12_readsBench 101 = .ok (.iadd, 1) := by decide +kernel
theorem dX12_readsBench_102 : decode cX12_readsBench 102 = .ok (.iconst 1, 1) := by decide +kernel
theorem dX12_readsBench_103 : decode cX12_readsBench 103 = .ok (.isub, 1) := by decide +kernel
theorem dX12_readsBench_104 : decode cX12_readsBench 104 = .ok (.aload_n 0, 1) := by decide +kernel
theorem dX12_readsBench_105 : decode cX12_readsBench 105 = .ok (.getfield 152, 3) := by decide +kernel
theorem dX12_readsBench_108 : decode cX12_readsBench 108 = .ok (.iastore, 1) := by decide +kernel
theorem dX12_readsBench_109 : decode cX12_readsBench 109 = .ok (.iconst 1, 1) := by decide +kernel
theorem dX12_readsBench_110 : decode cX12_readsBench 110 = .ok (.ireturn, 1) := by decide +kernel
theorem dX12_readsLine_0 : decode cX12_readsLine 0 = .ok (.aload_n 0, 1) := by decide +kernel
theorem dX12_readsLine_1 : decode cX12_readsLine 1 = .ok (.invokevirtual 141, 3) := by decide +kernel
theorem dX12_readsLine_4 : decode cX12_readsLine 4 = .ok (.istore_n 1, 1) := by decide +kernel
theorem dX12_readsLine_5 : decode cX12_readsLine 5 = .ok (.iload_n 1, 1) := by decide +kernel
theorem dX12_readsLine_6 : decode cX12_readsLine 6 = .ok (.bipush 108, 2) := by decide +kernel
theorem dX12_readsLine_8 : decode cX12_readsLine 8 = .ok (.if_icmp .eq 31, 3) := by decide +kernel
theorem dX12_readsLine_11 : decode cX12_readsLine 11 = .ok (.iload_n 1, 1) := by decide +kernel
theorem dX12_readsLine_12 : decode cX12_readsLine 12 = .ok (.bipush 114, 2) := by decide +kernel
theorem dX12_readsLine_14 : decode cX12_readsLine 14 = .ok (.if_icmp .eq 25, 3) := by decide +kernel
theorem dX12_readsLine_17 : decode cX12_readsLine 17 = .ok (.iload_n 1, 1) := by decide +kernel
theorem dX12_readsLine_18 : decode cX12_readsLine 18 = .ok (.bipush 115, 2) := by decide +kernel
theorem dX12_readsLine_20 : decode cX12_readsLine 20 = .ok (.if_icmp .eq 19, 3) := by decide +kernel
theorem dX12_readsLine_23 : decode cX12_readsLine 23 = .ok (.iload_n 1, 1) := by decide +kernel
theorem dX12_readsLine_24 : decode cX12_readsLine 24 = .ok (.bipush 100, 2) := by decide +kernel
theorem dX12_readsLine_26 : decode cX12_readsLine 26 = .ok (.if_icmp .eq 13, 3) := by decide +kernel
theorem dX12_readsLine_29 : decode cX12_readsLine 29 = .ok (.aload_n 0, 1) := by decide +kernel
theorem dX12_readsLine_30 : decode cX12_readsLine 30 = .ok (.iconst 1, 1) := by decide +kernel
theorem dX12_readsLine_31 : decode cX12_readsLine 31 = .ok (.aload_n 0, 1) := by decide +kernel
theorem dX12_readsLine_32 : decode cX12_readsLine 32 = .ok (.getfield 135, 3) := by decide +kernel
theorem dX12_readsLine_35 : decode cX12_readsLine 35 = .ok (.invokevirtual 148, 3) := by decide +kernel
theorem dX12_readsLine_38 : decode cX12_readsLine 38 = .ok (.ireturn, 1) := by decide +kernel
theorem dX12_readsLine_39 : decode cX12_readsLine 39 = .ok (.aload_n 0, 1) := by decide +kernel
theorem dX12_readsLine_40 : decode cX12_readsLine 40 = .ok (.getfield 275, 3) := by decide +kernel
theorem dX12_readsLine_43 : decode cX12_readsLine 43 = .ok (.bipush 20, 2) := by decide +kernel
theorem dX12_readsLine_45 : decode cX12_readsLine 45 = .ok (.if_icmp .ne 13, 3) := by decide +kernel
theorem dX12_readsLine_48 : decode cX12_readsLine 48 = .ok (.aload_n 0, 1) := by decide +kernel
theorem dX12_readsLine_49 : decode cX12_readsLine 49 = .ok (.iconst 4, 1) := by decide +kernel
theorem dX12_readsLine_50 : decode cX12_readsLine 50 = .ok (.aload_n 0, 1) := by decide +kernel
theorem dX12_readsLine_51 : decode cX12_readsLine 51 = .ok (.getfield 135, 3) := by decide +kernel
theorem dX12_readsLine_54 : decode cX12_readsLine 54 = .ok (.invokevirtual 148, 3) := by decide +kernel
theorem dX12_readsLine_57 : decode cX12_readsLine 57 = .ok (.ireturn, 1) := by decide +kernel
theorem dX12_readsLine_58 : decode cX12_readsLine 58 = .ok (.aload_n 0, 1) := by decide +kernel
theorem dX12_readsLine_59 : decode cX12_readsLine 59 = .ok (.aload_n 0, 1) := by decide +kernel
theorem dX12_readsLine_60 : decode cX12_readsLine 60 = .ok (.getfield 275, 3) := by decide +kernel
theorem dX12_readsLine_63 : decode cX12_readsLine 63 = .ok (.iconst 1, 1) := by decide +kernel
theorem dX12_readsLine_64 : decode cX12_readsLine 64 = .ok (.iadd, 1) := by decide +kernel
theorem dX12_readsLine_65 : decode cX12_readsLine 65 = .ok (.putfield 275, 3) := by decide +kernel
theorem dX12_readsLine_68 : decode cX12_readsLine 68 = .ok (.aload_n 0, 1) := by decide +kernel
theorem dX12_readsLine_69 : decode cX12_readsLine 69 = .ok (.aload_n 0, 1) := by decide +kernel
theorem dX12_readsLine_70 : decode cX12_readsLine 70 = .ok (.getfield 135, 3) := by decide +kernel
theorem dX12_readsLine_73 : decode cX12_readsLine 73 = .ok (.iconst 1, 1) := by decide +kernel
theorem dX12_readsLine_74 : decode cX12_readsLine 74 = .ok (.iadd, 1) := by decide +kernel
theorem dX12_readsLine_75 : decode cX12_readsLine 75 = .ok (.putfield 135, 3) := by decide +kernel
theorem dX12_readsLine_78 : decode cX12_readsLine 78 = .ok (.iload_n 1, 1) := by decide +kernel
theorem dX12_readsLine_79 : decode cX12_readsLine 79 = .ok (.bipush 115, 2) := by decide +kernel
theorem dX12_readsLine_81 : decode cX12_readsLine 81 = .ok (.if_icmp .ne 12, 3) := by decide +kernel
theorem dX12_readsLine_84 : decode cX12_readsLine 84 = .ok (.aload_n 0, 1) := by decide +kernel
theorem dX12_readsLine_85 : decode cX12_readsLine 85 = .ok (.bipush 42, 2) := by decide +kernel
theorem dX12_readsLine_87 : decode cX12_readsLine 87 = .ok (.ldc 108, 2) := by decide +kernel
theorem dX12_readsLine_89 : decode cX12_readsLine 89 = .ok (.invokevirtual 278, 3) := by decide +kernel
theorem dX12_readsLine_92 : decode cX12_readsLine 92 = .ok (.ireturn, 1) := by decide +kernel
theorem dX12_readsLine_93 : decode cX12_readsLine 93 = .ok (.iload_n 1, 1) := by decide +kernel
theorem dX12_readsLine_94 : decode cX12_readsLine 94 = .ok (.bipush 100, 2) := by decide +kernel
theorem dX12_readsLine_96 : decode cX12_readsLine 96 = .ok (.if_icmp .ne 13, 3) := by decide +kernel
theorem dX12_readsLine_99 : decode cX12_readsLine 99 = .ok (.aload_n 0, 1) := by decide +kernel
theorem dX12_readsLine_100 : decode cX12_readsLine 100 = .ok (.bipush 43, 2) := by decide +kernel
theorem dX12_readsLine_102 : decode cX12_readsLine 102 = .ok (.ldc_w 281, 3) := by decide +kernel
theorem dX12_readsLine_105 : decode cX12_readsLine 105 = .ok (.invokevirtual 278, 3) := by decide +kernel
theorem dX12_readsLine_108 : decode cX12_readsLine 108 = .ok (.ireturn, 1) := by decide +kernel
theorem dX12_readsLine_109 : decode cX12_readsLine 109 = .ok (.iload_n 1, 1) := by decide +kernel
theorem dX12_readsLine_110 : decode cX12_readsLine 110 = .ok (.bipush 108, 2) := by decide +kernel
theorem dX12_readsLine_112 : decode cX12_readsLine 112 = .ok (.if_icmp .ne 7, 3) := by decide +kernel
theorem dX12_readsLine_115 : decode cX12_readsLine 115 = .ok (.iconst 0, 1) := by decide +kernel
theorem dX12_readsLine_116 : decode cX12_readsLine 116 = .ok (.goto 4, 3) := by decide +kernel
theorem dX12_readsLine_119 : decode cX12_readsLine 119 = .ok (.iconst 1, 1) := by decide +kernel
theorem dX12_readsLine_120 : decode cX12_readsLine 120 = .ok (.istore_n 2, 1) := by decide +kernel
theorem dX12_readsLine_121 : decode cX12_readsLine 121 = .ok (.aload_n 0, 1) := by decide +kernel
theorem dX12_readsLine_122 : decode cX12_readsLine 122 = .ok (.invokevirtual 141, 3) := by decide +kernel
theorem dX12_readsLine_125 : decode cX12_readsLine 125 = .ok (.bipush 98, 2) := by decide +kernel
theorem dX12_readsLine_127 : decode cX12_readsLine 127 = .ok (.if_icmp .ne 11, 3) := by decide +kernel
theorem dX12_readsLine_130 : decode cX12_readsLine 130 = .ok (.aload_n 0, 1) := by decide +kernel
theorem dX12_readsLine_131 : decode cX12_readsLine 131 = .ok (.iload_n 2, 1) := by decide +kernel
theorem dX12_readsLine_132 : decode cX12_readsLine 132 = .ok (.invokevirtual 282, 3) := by decide +kernel
theorem dX12_readsLine_135 : decode cX12_readsLine 135 = .ok (.goto 13, 3) := by decide +kernel
theorem dX12_readsLine_138 : decode cX12_readsLine 138 = .ok (.aload_n 0, 1) := by decide +kernel
theorem dX12_readsLine_139 : decode cX12_readsLine 139 = .ok (.iconst 0, 1) := by decide +kernel
theorem dX12_readsLine_140 : decode cX12_readsLine 140 = .ok (.iload_n 2, 1) := by decide +kernel
theorem dX12_readsLine_141 : decode cX12_readsLine 141 = .ok (.iadd, 1) := by decide +kernel
theorem dX12_readsLine_142 : decode cX12_readsLine 142 = .ok (.sipush 9999, 3) := by decide +kernel
theorem dX12_readsLine_145 : decode cX12_readsLine 145 = .ok (.invokevirtual 278, 3) := by decide +kernel
theorem dX12_readsLine_148 : decode cX12_readsLine 148 = .ok (.ireturn, 1) := by decide +kernel
theorem dX12_orders_0 : decode cX12_orders 0 = .ok (.iload_n 1, 1) := by decide +kernel
theorem dX12_orders_1 : decode cX12_orders 1 = .ok (.iconst 1, 1) := by decide +kernel
theorem dX12_orders_2 : decode cX12_orders 2 = .ok (.bipush 120, 2) := by decide +kernel
theorem dX12_orders_4 : decode cX12_orders 4 = .ok (.invokestatic 113, 3) := by decide +kernel
theorem dX12_orders_7 : decode cX12_orders 7 = .ok (.ifCond .eq 11, 3) := by decide +kernel
theorem dX12_orders_10 : decode cX12_orders 10 = .ok (.iload_n 1, 1) := by decide +kernel
theorem dX12_orders_11 : decode cX12_orders 11 = .ok (.aload_n 0, 1) := by decide +kernel
theorem dX12_orders_12 : decode cX12_orders 12 = .ok (.getfield 128, 3) := by decide +kernel
theorem dX12_orders_15 : decode cX12_orders 15 = .ok (.if_icmp .le 5, 3) := by decide +kernel
theorem dX12_orders_18 : decode cX12_orders 18 = .ok (.iconst (-1), 1) := by decide +kernel
theorem dX12_orders_19 : decode cX12_orders 19 = .ok (.ireturn, 1) := by decide +kernel
theorem dX12_orders_20 : decode cX12_orders 20 = .ok (.aload_n 0, 1) := by decide +kernel
theorem dX12_orders_21 : decode cX12_orders 21 = .ok (.iload_n 1, 1) := by decide +kernel
theorem dX12_orders_22 : decode cX12_orders 22 = .ok (.invokevirtual 220, 3) := by decide +kernel
theorem dX12_orders_25 : decode cX12_orders 25 = .ok (.aload_n 0, 1) := by decide +kernel
theorem dX12_orders_26 : decode cX12_orders 26 = .ok (.iconst 0, 1) := by decide +kernel
theorem dX12_orders_27 : decode cX12_orders 27 = .ok (.putfield 275, 3) := by decide +kernel
theorem dX12_orders_30 : decode cX12_orders 30 = .ok (.aload_n 0, 1) := by decide +kernel
theorem dX12_orders_31 : decode cX12_orders 31 = .ok (.getfield 7, 3) := by decide +kernel
theorem dX12_orders_34 : decode cX12_orders 34 = .ok (.aload_n 0, 1) := by decide +kernel
theorem dX12_orders_35 : decode cX12_orders 35 = .ok (.getfield 13, 3) := by decide +kernel
theorem dX12_orders_38 : decode cX12_orders 38 = .ok (.invokestatic 285, 3) := by decide +kernel
theorem dX12_orders_41 : decode cX12_orders 41 = .ok (.aload_n 0, 1) := by decide +kernel
theorem dX12_orders_42 : decode cX12_orders 42 = .ok (.invokevirtual 289, 3) := by decide +kernel
theorem dX12_orders_45 : decode cX12_orders 45 = .ok (.istore_n 2, 1) := by decide +kernel
theorem dX12_orders_46 : decode cX12_orders 46 = .ok (.iload_n 2, 1) := by decide +kernel
theorem dX12_orders_47 : decode cX12_orders 47 = .ok (.ifCond .eq 39, 3) := by decide +kernel
theorem dX12_orders_50 : decode cX12_orders 50 = .ok (.aload_n 0, 1) := by decide +kernel
theorem dX12_orders_51 : decode cX12_orders 51 = .ok (.getfield 135, 3) := by decide +kernel
theorem dX12_orders_54 : decode cX12_orders 54 = .ok (.aload_n 0, 1) := by decide +kernel
theorem dX12_orders_55 : decode cX12_orders 55 = .ok (.getfield 138, 3) := by decide +kernel
theorem dX12_orders_58 : decode cX12_orders 58 = .ok (.if_icmp .ge 28, 3) := by decide +kernel
theorem dX12_orders_61 : decode cX12_orders 61 = .ok (.aload_n 0, 1) := by decide +kernel
theorem dX12_orders_62 : decode cX12_orders 62 = .ok (.bipush 59, 2) := by decide +kernel
theorem dX12_orders_64 : decode cX12_orders 64 = .ok (.invokevirtual 226, 3) := by decide +kernel
theorem dX12_orders_67 : decode cX12_orders 67 = .ok (.ifCond .eq 14, 3) := by decide +kernel
theorem dX12_orders_70 : decode cX12_orders 70 = .ok (.aload_n 0, 1) := by decide +kernel
theorem dX12_orders_71 : decode cX12_orders 71 = .ok (.invokevirtual 289, 3) := by decide +kernel
theorem dX12_orders_74 : decode cX12_orders 74 = .ok (.ifCond .eq 7, 3) := by decide +kernel
theorem dX12_orders_77 : decode cX12_orders 77 = .ok (.iconst 1, 1) := by decide +kernel
theorem dX12_orders_78 : decode cX12_orders 78 = .ok (.goto 4, 3) := by decide +kernel
theorem dX12_orders_81 : decode cX12_orders 81 = .ok (.iconst 0, 1) := by decide +kernel
theorem dX12_orders_82 : decode cX12_orders 82 = .ok (.istore_n 2, 1) := by decide +kernel
theorem dX12_orders_83 : decode cX12_orders 83 = .ok (.goto (-37), 3) := by decide +kernel
theorem dX12_orders_86 : decode cX12_orders 86 = .ok (.aload_n 0, 1) := by decide +kernel
theorem dX12_orders_87 : decode cX12_orders 87 = .ok (.iconst 0, 1) := by decide +kernel
theorem dX12_orders_88 : decode cX12_orders 88 = .ok (.putfield 128, 3) := by decide +kernel
theorem dX12_orders_91 : decode cX12_orders 91 = .ok (.iload_n 2, 1) := by decide +kernel
theorem dX12_orders_92 : decode cX12_orders 92 = .ok (.ifCond .eq 8, 3) := by decide +kernel
theorem dX12_orders_95 : decode cX12_orders 95 = .ok (.aload_n 0, 1) := by decide +kernel
theorem dX12_orders_96 : decode cX12_orders 96 = .ok (.getfield 275, 3) := by decide +kernel
theorem dX12_orders_99 : decode cX12_orders 99 = .ok (.ireturn, 1) := by decide +kernel
theorem dX12_orders_100 : decode cX12_orders 100 = .ok (.aload_n 0, 1) := by decide +kernel
theorem dX12_orders_101 : decode cX12_orders 101 = .ok (.getfield 13, 3) := by decide +kernel
theorem dX12_orders_104 : decode cX12_orders 104 = .ok (.aload_n 0, 1) := by decide +kernel
theorem dX12_orders_105 : decode cX12_orders 105 = .ok (.getfield 7, 3) := by decide +kernel
theorem dX12_orders_108 : decode cX12_orders 108 = .ok (.invokestatic 285, 3) := by decide +kernel
theorem dX12_orders_111 : decode cX12_orders 111 = .ok (.aload_n 0, 1) := by decide +kernel
theorem dX12_orders_112 : decode cX12_orders 112 = .ok (.getfield 145, 3) := by decide +kernel
theorem dX12_orders_115 : decode cX12_orders 115 = .ok (.ireturn, 1) := by decide +kernel
theorem dX12_draws_0 : decode cX12_draws 0 = .ok (.aload_n 0, 1) := by decide +kernel
theorem dX12_draws_1 : decode cX12_draws 1 = .ok (.getfield 7, 3) := by decide +kernel
theorem dX12_draws_4 : decode cX12_draws 4 = .ok (.bipush 46, 2) := by decide +kernel
theorem dX12_draws_6 : decode cX12_draws 6 = .ok (.sipush 25173, 3) := by decide +kernel
theorem dX12_draws_9 : decode cX12_draws 9 = .ok (.aload_n 0, 1) := by decide +kernel
theorem dX12_draws_10 : decode cX12_draws 10 = .ok (.getfield 7, 3) := by decide +kernel
theorem dX12_draws_13 : decode cX12_draws 13 = .ok (.bipush 46, 2) := by decide +kernel
theorem dX12_draws_15 : decode cX12_draws 15 = .ok (.iaload, 1) := by decide +kernel
theorem dX12_draws_16 : decode cX12_draws 16 = .ok (.imul, 1) := by decide +kernel
theorem dX12_draws_17 : decode cX12_draws 17 = .ok (.sipush 13849, 3) := by decide +kernel
theorem dX12_draws_20 : decode cX12_draws 20 = .ok (.iadd, 1) := by decide +kernel
theorem dX12_draws_21 : decode cX12_draws 21 = .ok (.ldc_w 292, 3) := by decide +kernel
theorem dX12_draws_24 : decode cX12_draws 24 = .ok (.irem, 1) := by decide +kernel
theorem dX12_draws_25 : decode cX12_draws 25 = .ok (.iastore, 1) := by decide +kernel
theorem dX12_draws_26 : decode cX12_draws 26 = .ok (.aload_n 0, 1) := by decide +kernel
theorem dX12_draws_27 : decode cX12_draws 27 = .ok (.getfield 7, 3) := by decide +kernel
theorem dX12_draws_30 : decode cX12_draws 30 = .ok (.bipush 46, 2) := by decide +kernel
theorem dX12_draws_32 : decode cX12_draws 32 = .ok (.iaload, 1) := by decide +kernel
theorem dX12_draws_33 : decode cX12_draws 33 = .ok (.bipush 10, 2) := by decide +kernel
theorem dX12_draws_35 : decode cX12_draws 35 = .ok (.irem, 1) := by decide +kernel
theorem dX12_draws_36 : decode cX12_draws 36 = .ok (.ireturn, 1) := by decide +kernel
theorem dX12_feels_0 : decode cX12_feels 0 = .ok (.iconst 0, 1) := by decide +kernel
theorem dX12_feels_1 : decode cX12_feels 1 = .ok (.istore_n 2, 1) := by decide +kernel
theorem dX12_feels_2 : decode cX12_feels 2 = .ok (.iload_n 2, 1) := by decide +kernel
theorem dX12_feels_3 : decode cX12_feels 3 = .ok (.iconst 5, 1) := by decide +kernel
theorem dX12_feels_4 : decode cX12_feels 4 = .ok (.if_icmp .ge 16, 3) := by decide +kernel
theorem dX12_feels_7 : decode cX12_feels 7 = .ok (.aload_n 0, 1) := by decide +kernel
theorem dX12_feels_8 : decode cX12_feels 8 = .ok (.getfield 65, 3) := by decide +kernel
theorem dX12_feels_11 : decode cX12_feels 11 = .ok (.iload_n 2, 1) := by decide +kernel
theorem dX12_feels_12 : decode cX12_feels 12 = .ok (.iconst 0, 1) := by decide +kernel
theorem dX12_feels_13 : decode cX12_feels 13 = .ok (.iastore, 1) := by decide +kernel
theorem dX12_feels_14 : decode cX12_feels 14 = .ok (.iinc 2 1, 3) := by decide +kernel
theorem dX12_feels_17 : decode cX12_feels 17 = .ok (.goto (-15), 3) := by decide +kernel
theorem dX12_feels_20 : decode cX12_feels 20 = .ok (.aload_n 0, 1) := by decide +kernel
theorem dX12_feels_21 : decode cX12_feels 21 = .ok (.getfield 65, 3) := by decide +kernel
theorem dX12_feels_24 : decode cX12_feels 24 = .ok (.iconst 5, 1) := by decide +kernel
theorem dX12_feels_25 : decode cX12_feels 25 = .ok (.aload_n 0, 1) := by decide +kernel
theorem dX12_feels_26 : decode cX12_feels 26 = .ok (.getfield 7, 3) := by decide +kernel
theorem dX12_feels_29 : decode cX12_feels 29 = .ok (.bipush 42, 2) := by decide +kernel
theorem dX12_feels_31 : decode cX12_feels 31 = .ok (.iaload, 1) := by decide +kernel
theorem dX12_feels_32 : decode cX12_feels 32 = .ok (.iastore, 1) := by decide +kernel
theorem dX12_feels_33 : decode cX12_feels 33 = .ok (.aload_n 0, 1) := by decide +kernel
theorem dX12_feels_34 : decode cX12_feels 34 = .ok (.getfield 65, 3) := by decide +kernel
theorem dX12_feels_37 : decode cX12_feels 37 = .ok (.bipush 6, 2) := by decide +kernel
theorem dX12_feels_39 : decode cX12_feels 39 = .ok (.aload_n 0, 1) := by decide +kernel
theorem dX12_feels_40 : decode cX12_feels 40 = .ok (.getfield 7, 3) := by decide +kernel
theorem dX12_feels_43 : decode cX12_feels 43 = .ok (.bipush 43, 2) := by decide +kernel
theorem dX12_feels_45 : decode cX12_feels 45 = .ok (.iaload, 1) := by decide +kernel
theorem dX12_feels_46 : decode cX12_feels 46 = .ok (.bipush 100, 2) := by decide +kernel
theorem dX12_feels_48 : decode cX12_feels 48 = .ok (.idiv, 1) := by decide +kernel
theorem dX12_feels_49 : decode cX12_feels 49 = .ok (.iastore, 1) := by decide +kernel
theorem dX12_feels_50 : decode cX12_feels 50 = .ok (.aload_n 0, 1) := by decide +kernel
theorem dX12_feels_51 : decode cX12_feels 51 = .ok (.getfield 65, 3) := by decide +kernel
theorem dX12_feels_54 : decode cX12_feels 54 = .ok (.bipush 7, 2) := by decide +kernel
theorem dX12_feels_56 : decode cX12_feels 56 = .ok (.aload_n 0, 1) := by decide +kernel
theorem dX12_feels_57 : decode cX12_feels 57 = .ok (.getfield 7, 3) := by decide +kernel
theorem dX12_feels_60 : decode cX12_feels 60 = .ok (.bipush 44, 2) := by decide +kernel
theorem dX12_feels_62 : decode cX12_feels 62 = .ok (.iaload, 1) := by decide +kernel
theorem dX12_feels_63 : decode cX12_feels 63 = .ok (.bipush 100, 2) := by decide +kernel
theorem dX12_feels_65 : decode cX12_feels 65 = .ok (.irem, 1) := by decide +kernel
theorem dX12_feels_66 : decode cX12_feels 66 = .ok (.iastore, 1) := by decide +kernel
theorem dX12_feels_67 : decode cX12_feels 67 = .ok (.aload_n 0, 1) := by decide +kernel
theorem dX12_feels_68 : decode cX12_feels 68 = .ok (.getfield 65, 3) := by decide +kernel
theorem dX12_feels_71 : decode cX12_feels 71 = .ok (.bipush 8, 2) := by decide +kernel
theorem dX12_feels_73 : decode cX12_feels 73 = .ok (.iload_n 1, 1) := by decide +kernel
theorem dX12_feels_74 : decode cX12_feels 74 = .ok (.iastore, 1) := by decide +kernel
theorem dX12_feels_75 : decode cX12_feels 75 = .ok (.return_, 1) := by decide +kernel
theorem dX12_mayCome_0 : decode cX12_mayCome 0 = .ok (.iconst 1, 1) := by decide +kernel
theorem dX12_mayCome_1 : decode cX12_mayCome 1 = .ok (.iload_n 1, 1) := by decide +kernel
theorem dX12_mayCome_2 : decode cX12_mayCome 2 = .ok (.isub, 1) := by decide +kernel
theorem dX12_mayCome_3 : decode cX12_mayCome 3 = .ok (.istore_n 2, 1) := by decide +kernel
theorem dX12_mayCome_4 : decode cX12_mayCome 4 = .ok (.aload_n 0, 1) := by decide +kernel
theorem dX12_mayCome_5 : decode cX12_mayCome 5 = .ok (.iload_n 2, 1) := by decide +kernel
theorem dX12_mayCome_6 : decode cX12_mayCome 6 = .ok (.invokevirtual 121, 3) := by decide +kernel
theorem dX12_mayCome_9 : decode cX12_mayCome 9 = .ok (.iconst 2, 1) := by decide +kernel
theorem dX12_mayCome_10 : decode cX12_mayCome 10 = .ok (.iadd, 1) := by decide +kernel
theorem dX12_mayCome_11 : decode cX12_mayCome 11 = .ok (.aload_n 0, 1) := by decide +kernel
theorem dX12_mayCome_12 : decode cX12_mayCome 12 = .ok (.iload_n 1, 1) := by decide +kernel
theorem dX12_mayCome_13 : decode cX12_mayCome 13 = .ok (.invokevirtual 121, 3) := by decide +kernel
theorem dX12_mayCome_16 : decode cX12_mayCome 16 = .ok (.iconst 1, 1) := by decide +kernel
theorem dX12_mayCome_17 : decode cX12_mayCome 17 = .ok (.iadd, 1) := by decide +kernel
theorem dX12_mayCome_18 : decode cX12_mayCome 18 = .ok (.invokestatic 272, 3) := by decide +kernel
theorem dX12_mayCome_21 : decode cX12_mayCome 21 = .ok (.istore_n 3, 1) := by decide +kernel
theorem dX12_mayCome_22 : decode cX12_mayCome 22 = .ok (.aload_n 0, 1) := by decide +kernel
theorem dX12_mayCome_23 : decode cX12_mayCome 23 = .ok (.iload_n 2, 1) := by decide +kernel
theorem dX12_mayCome_24 : decode cX12_mayCome 24 = .ok (.invokevirtual 125, 3) := by decide +kernel
theorem dX12_mayCome_27 : decode cX12_mayCome 27 = .ok (.ifCond .eq 13, 3) := by decide +kernel
theorem dX12_mayCome_30 : decode cX12_mayCome 30 = .ok (.iload_n 3, 1) := by decide +kernel
theorem dX12_mayCome_31 : decode cX12_mayCome 31 = .ok (.aload_n 0, 1) := by decide +kernel
theorem dX12_mayCome_32 : decode cX12_mayCome 32 = .ok (.getfield 19, 3) := by decide +kernel
theorem dX12_mayCome_35 : decode cX12_mayCome 35 = .ok (.iload_n 1, 1) := by decide +kernel
theorem dX12_mayCome_36 : decode cX12_mayCome 36 = .ok (.iaload, 1) := by decide +kernel
theorem dX12_mayCome_37 : decode cX12_mayCome 37 = .ok (.if_icmp .le 9, 3) := by decide +kernel
theorem dX12_mayCome_40 : decode cX12_mayCome 40 = .ok (.aload_n 0, 1) := by decide +kernel
theorem dX12_mayCome_41 : decode cX12_mayCome 41 = .ok (.iload_n 1, 1) := by decide +kernel
theorem dX12_mayCome_42 : decode cX12_mayCome 42 = .ok (.invokevirtual 293, 3) := by decide +kernel
theorem dX12_mayCome_45 : decode cX12_mayCome 45 = .ok (.ireturn, 1) := by decide +kernel
theorem dX12_mayCome_46 : decode cX12_mayCome 46 = .ok (.aload_n 0, 1) := by decide +kernel
theorem dX12_mayCome_47 : decode cX12_mayCome 47 = .ok (.iload_n 1, 1) := by decide +kernel
theorem dX12_mayCome_48 : decode cX12_mayCome 48 = .ok (.iload_n 3, 1) := by decide +kernel
theorem dX12_mayCome_49 : decode cX12_mayCome 49 = .ok (.invokevirtual 117, 3) := by decide +kernel
theorem dX12_mayCome_52 : decode cX12_mayCome 52 = .ok (.iconst 1, 1) := by decide +kernel
theorem dX12_mayCome_53 : decode cX12_mayCome 53 = .ok (.isub, 1) := by decide +kernel
theorem dX12_mayCome_54 : decode cX12_mayCome 54 = .ok (.ireturn, 1) := by decide +kernel
theorem dX12_works_0 : decode cX12_works 0 = .ok (.aload_n 0, 1) := by decide +kernel
theorem dX12_works_1 : decode cX12_works 1 = .ok (.aload_n 0, 1) := by decide +kernel
theorem dX12_works_2 : decode cX12_works 2 = .ok (.invokevirtual 296, 3) := by decide +kernel
theorem dX12_works_5 : decode cX12_works 5 = .ok (.invokevirtual 299, 3) := by decide +kernel
theorem dX12_works_8 : decode cX12_works 8 = .ok (.aload_n 0, 1) := by decide +kernel
theorem dX12_works_9 : decode cX12_works 9 = .ok (.getfield 65, 3) := by decide +kernel
theorem dX12_works_12 : decode cX12_works 12 = .ok (.iconst 0, 1) := by decide +kernel
theorem dX12_works_13 : decode cX12_works 13 = .ok (.iload_n 1, 1) := by decide +kernel
theorem dX12_works_14 : decode cX12_works 14 = .ok (.iastore, 1) := by decide +kernel
theorem dX12_works_15 : decode cX12_works 15 = .ok (.aload_n 0, 1) := by decide +kernel
theorem dX12_works_16 : decode cX12_works 16 = .ok (.getfield 65, 3) := by decide +kernel
theorem dX12_works_19 : decode cX12_works 19 = .ok (.iconst 1, 1) := by decide +kernel
theorem dX12_works_20 : decode cX12_works 20 = .ok (.aload_n 0, 1) := by decide +kernel
theorem dX12_works_21 : decode cX12_works 21 = .ok (.iload_n 1, 1) := by decide +kernel
theorem dX12_works_22 : decode cX12_works 22 = .ok (.invokevirtual 121, 3) := by decide +kernel
theorem dX12_works_25 : decode cX12_works 25 = .ok (.iastore, 1) := by decide +kernel
theorem dX12_works_26 : decode cX12_works 26 = .ok (.aload_n 0, 1) := by decide +kernel
theorem dX12_works_27 : decode cX12_works 27 = .ok (.getfield 65, 3) := by decide +kernel
theorem dX12_works_30 : decode cX12_works 30 = .ok (.iconst 2, 1) := by decide +kernel
theorem dX12_works_31 : decode cX12_works 31 = .ok (.aload_n 0, 1) := by decide +kernel
theorem dX12_works_32 : decode cX12_works 32 = .ok (.iconst 1, 1) := by decide +kernel
theorem dX12_works_33 : decode cX12_works 33 = .ok (.iload_n 1, 1) := by decide +kernel
theorem dX12_works_34 : decode cX12_works 34 = .ok (.isub, 1) := by decide +kernel
theorem dX12_works_35 : decode cX12_works 35 = .ok (.invokevirtual 121, 3) := by decide +kernel
theorem dX12_works_38 : decode cX12_works 38 = .ok (.iastore, 1) := by decide +kernel
theorem dX12_works_39 : decode cX12_works 39 = .ok (.aload_n 0, 1) := by decide +kernel
theorem dX12_works_40 : decode cX12_works 40 = .ok (.getfield 65, 3) := by decide +kernel
theorem dX12_works_43 : decode cX12_works 43 = .ok (.iconst 3, 1) := by decide +kernel
theorem dX12_works_44 : decode cX12_works 44 = .ok (.aload_n 0, 1) := by decide +kernel
theorem dX12_works_45 : decode cX12_works 45 = .ok (.iload_n 1, 1) := by decide +kernel
theorem dX12_works_46 : decode cX12_works 46 = .ok (.invokevirtual 125, 3) := by decide +kernel
theorem dX12_works_49 : decode cX12_works 49 = .ok (.iastore, 1) := by decide +kernel
theorem dX12_works_50 : decode cX12_works 50 = .ok (.aload_n 0, 1) := by decide +kernel
theorem dX12_works_51 : decode cX12_works 51 = .ok (.getfield 65, 3) := by decide +kernel
theorem dX12_works_54 : decode cX12_works 54 = .ok (.iconst 4, 1) := by decide +kernel
theorem dX12_works_55 : decode cX12_works 55 = .ok (.aload_n 0, 1) := by decide +kernel
theorem dX12_works_56 : decode cX12_works 56 = .ok (.iload_n 1, 1) := by decide +kernel
theorem dX12_works_57 : decode cX12_works 57 = .ok (.invokevirtual 302, 3) := by decide +kernel
theorem dX12_works_60 : decode cX12_works 60 = .ok (.iastore, 1) := by decide +kernel
theorem dX12_works_61 : decode cX12_works 61 = .ok (.aload_n 0, 1) := by decide +kernel
theorem dX12_works_62 : decode cX12_works 62 = .ok (.bipush 120, 2) := by decide +kernel
theorem dX12_works_64 : decode cX12_works 64 = .ok (.invokevirtual 305, 3) := by decide +kernel
theorem dX12_works_67 : decode cX12_works 67 = .ok (.istore_n 2, 1) := by decide +kernel
theorem dX12_works_68 : decode cX12_works 68 = .ok (.aload_n 0, 1) := by decide +kernel
theorem dX12_works_69 : decode cX12_works 69 = .ok (.bipush 119, 2) := by decide +kernel
theorem dX12_works_71 : decode cX12_works 71 = .ok (.bipush 99, 2) := by decide +kernel
theorem dX12_works_73 : decode cX12_works 73 = .ok (.invokevirtual 308, 3) := by decide +kernel
theorem dX12_works_76 : decode cX12_works 76 = .ok (.istore_n 3, 1) := by decide +kernel
theorem dX12_works_77 : decode cX12_works 77 = .ok (.aload_n 0, 1) := by decide +kernel
theorem dX12_works_78 : decode cX12_works 78 = .ok (.bipush 99, 2) := by decide +kernel
theorem dX12_works_80 : decode cX12_works 80 = .ok (.bipush 99, 2) := by decide +kernel
theorem dX12_works_82 : decode cX12_works 82 = .ok (.invokevirtual 308, 3) := by decide +kernel
theorem dX12_works_85 : decode cX12_works 85 = .ok (.istore 4, 2) := by decide +kernel
theorem dX12_works_87 : decode cX12_works 87 = .ok (.iload_n 2, 1) := by decide +kernel
theorem dX12_works_88 : decode cX12_works 88 = .ok (.ifCond .eq 4, 3) := by decide +kernel
theorem dX12_works_91 : decode cX12_works 91 = .ok (.return_, 1) := by decide +kernel
theorem dX12_works_92 : decode cX12_works 92 = .ok (.iload_n 3, 1) := by decide +kernel
theorem dX12_works_93 : decode cX12_works 93 = .ok (.aload_n 0, 1) := by decide +kernel
theorem dX12_works_94 : decode cX12_works 94 = .ok (.getfield 7, 3) := by decide +kernel
theorem dX12_works_97 : decode cX12_works 97 = .ok (.bipush 42, 2) := by decide +kernel
theorem dX12_works_99 : decode cX12_works 99 = .ok (.iaload, 1) := by decide +kernel
theorem dX12_works_100 : decode cX12_works 100 = .ok (.invokestatic 269, 3) := by decide +kernel
theorem dX12_works_103 : decode cX12_works 103 = .ok (.iconst 0, 1) := by decide +kernel
theorem dX12_works_104 : decode cX12_works 104 = .ok (.aload_n 0, 1) := by decide +kernel
theorem dX12_works_105 : decode cX12_works 105 = .ok (.iload_n 1, 1) := by decide +kernel
theorem dX12_works_106 : decode cX12_works 106 = .ok (.invokevirtual 311, 3) := by decide +kernel
theorem dX12_works_109 : decode cX12_works 109 = .ok (.aload_n 0, 1) := by decide +kernel
theorem dX12_works_110 : decode cX12_works 110 = .ok (.getfield 7, 3) := by decide +kernel
theorem dX12_works_113 : decode cX12_works 113 = .ok (.iconst 0, 1) := by decide +kernel
theorem dX12_works_114 : decode cX12_works 114 = .ok (.iload_n 1, 1) := by decide +kernel
theorem dX12_works_115 : decode cX12_works 115 = .ok (.iadd, 1) := by decide +kernel
theorem dX12_works_116 : decode cX12_works 116 = .ok (.iaload, 1) := by decide +kernel
theorem dX12_works_117 : decode cX12_works 117 = .ok (.isub, 1) := by decide +kernel
theorem dX12_works_118 : decode cX12_works 118 = .ok (.invokestatic 272, 3) := by decide +kernel
theorem dX12_works_121 : decode cX12_works 121 = .ok (.invokestatic 269, 3) := by decide +kernel
theorem dX12_works_124 : decode cX12_works 124 = .ok (.istore 5, 2) := by decide +kernel
theorem dX12_works_126 : decode cX12_works 126 = .ok (.aload_n 0, 1) := by decide +kernel
theorem dX12_works_127 : decode cX12_works 127 = .ok (.getfield 7, 3) := by decide +kernel
theorem dX12_works_130 : decode cX12_works 130 = .ok (.iconst 0, 1) := by decide +kernel
theorem dX12_works_131 : decode cX12_works 131 = .ok (.iload_n 1, 1) := by decide +kernel
theorem dX12_works_132 : decode cX12_works 132 = .ok (.iadd, 1) := by decide +kernel
theorem dX12_works_133 : decode cX12_works 133 = .ok (.aload_n 0, 1) := by decide +kernel
theorem dX12_works_134 : decode cX12_works 134 = .ok (.getfield 7, 3) := by decide +kernel
theorem dX12_works_137 : decode cX12_works 137 = .ok (.iconst 0, 1) := by decide +kernel
theorem dX12_works_138 : decode cX12_works 138 = .ok (.iload_n 1, 1) := by decide +kernel
theorem dX12_works_139 : decode cX12_works 139 = .ok (.iadd, 1) := by decide +kernel
theorem dX12_works_140 : decode cX12_works 140 = .ok (.iaload, 1) := by decide +kernel
theorem dX12_works_141 : decode cX12_works 141 = .ok (.iload 5, 2) := by decide +kernel
theorem dX12_works_143 : decode cX12_works 143 = .ok (.iadd, 1) := by decide +kernel
theorem dX12_works_144 : decode cX12_works 144 = .ok (.iastore, 1) := by decide +kernel
theorem dX12_works_145 : decode cX12_works 145 = .ok (.aload_n 0, 1) := by decide +kernel
theorem dX12_works_146 : decode cX12_works 146 = .ok (.getfield 7, 3) := by decide +kernel
theorem dX12_works_149 : decode cX12_works 149 = .ok (.bipush 42, 2) := by decide +kernel
theorem dX12_works_151 : decode cX12_works 151 = .ok (.aload_n 0, 1) := by decide +kernel
theorem dX12_works_152 : decode cX12_works 152 = .ok (.getfield 7, 3) := by decide +kernel
theorem dX12_works_155 : decode cX12_works 155 = .ok (.bipush 42, 2) := by decide +kernel
theorem dX12_works_157 : decode cX12_works 157 = .ok (.iaload, 1) := by decide +kernel
theorem dX12_works_158 : decode cX12_works 158 = .ok (.iload 5, 2) := by decide +kernel
theorem dX12_works_160 : decode cX12_works 160 = .ok (.isub, 1) := by decide +kernel
theorem dX12_works_161 : decode cX12_works 161 = .ok (.iastore, 1) := by decide +kernel
theorem dX12_works_162 : decode cX12_works 162 = .ok (.aload_n 0, 1) := by decide +kernel
theorem dX12_works_163 : decode cX12_works 163 = .ok (.getfield 7, 3) := by decide +kernel
theorem dX12_works_166 : decode cX12_works 166 = .ok (.bipush 43, 2) := by decide +kernel
theorem dX12_works_168 : decode cX12_works 168 = .ok (.ldc_w 281, 3) := by decide +kernel
theorem dX12_works_171 : decode cX12_works 171 = .ok (.aload_n 0, 1) := by decide +kernel
theorem dX12_works_172 : decode cX12_works 172 = .ok (.getfield 7, 3) := by decide +kernel
theorem dX12_works_175 : decode cX12_works 175 = .ok (.bipush 43, 2) := by decide +kernel
theorem dX12_works_177 : decode cX12_works 177 = .ok (.iaload, 1) := by decide +kernel
theorem dX12_works_178 : decode cX12_works 178 = .ok (.iload 4, 2) := by decide +kernel
theorem dX12_works_180 : decode cX12_works 180 = .ok (.iload 5, 2) := by decide +kernel
theorem dX12_works_182 : decode cX12_works 182 = .ok (.imul, 1) := by decide +kernel
theorem dX12_works_183 : decode cX12_works 183 = .ok (.iadd, 1) := by decide +kernel
theorem dX12_works_184 : decode cX12_works 184 = .ok (.invokestatic 269, 3) := by decide +kernel
theorem dX12_works_187 : decode cX12_works 187 = .ok (.iastore, 1) := by decide +kernel
theorem dX12_works_188 : decode cX12_works 188 = .ok (.aload_n 0, 1) := by decide +kernel
theorem dX12_works_189 : decode cX12_works 189 = .ok (.aload_n 0, 1) := by decide +kernel
theorem dX12_works_190 : decode cX12_works 190 = .ok (.getfield 314, 3) := by decide +kernel
theorem dX12_works_193 : decode cX12_works 193 = .ok (.iload 5, 2) := by decide +kernel
theorem dX12_works_195 : decode cX12_works 195 = .ok (.iadd, 1) := by decide +kernel
theorem dX12_works_196 : decode cX12_works 196 = .ok (.putfield 314, 3) := by decide +kernel
theorem dX12_works_199 : decode cX12_works 199 = .ok (.return_, 1) := by decide +kernel
theorem dX12_tiltNow_0 : decode cX12_tiltNow 0 = .ok (.aload_n 0, 1) := by decide +kernel
theorem dX12_tiltNow_1 : decode cX12_tiltNow 1 = .ok (.iconst 0, 1) := by decide +kernel
theorem dX12_tiltNow_2 : decode cX12_tiltNow 2 = .ok (.invokevirtual 317, 3) := by decide +kernel
theorem dX12_tiltNow_5 : decode cX12_tiltNow 5 = .ok (.aload_n 0, 1) := by decide +kernel
theorem dX12_tiltNow_6 : decode cX12_tiltNow 6 = .ok (.iconst 1, 1) := by decide +kernel
theorem dX12_tiltNow_7 : decode cX12_tiltNow 7 = .ok (.invokevirtual 317, 3) := by decide +kernel
theorem dX12_tiltNow_10 : decode cX12_tiltNow 10 = .ok (.isub, 1) := by decide +kernel
theorem dX12_tiltNow_11 : decode cX12_tiltNow 11 = .ok (.invokestatic 320, 3) := by decide +kernel
theorem dX12_tiltNow_14 : decode cX12_tiltNow 14 = .ok (.ireturn, 1) := by decide +kernel
theorem dX12_dayGoes_0 : decode cX12_dayGoes 0 = .ok (.aload_n 0, 1) := by decide +kernel
theorem dX12_dayGoes_1 : decode cX12_dayGoes 1 = .ok (.aload_n 0, 1) := by decide +kernel
theorem dX12_dayGoes_2 : decode cX12_dayGoes 2 = .ok (.invokevirtual 296, 3) := by decide +kernel
theorem dX12_dayGoes_5 : decode cX12_dayGoes 5 = .ok (.invokevirtual 299, 3) := by decide +kernel
theorem dX12_dayGoes_8 : decode cX12_dayGoes 8 = .ok (.aload_n 0, 1) := by decide +kernel
theorem dX12_dayGoes_9 : decode cX12_dayGoes 9 = .ok (.bipush 105, 2) := by decide +kernel
theorem dX12_dayGoes_11 : decode cX12_dayGoes 11 = .ok (.sipush 999, 3) := by decide +kernel
theorem dX12_dayGoes_14 : decode cX12_dayGoes 14 = .ok (.invokevirtual 308, 3) := by decide +kernel
theorem dX12_dayGoes_17 : decode cX12_dayGoes 17 = .ok (.istore_n 1, 1) := by decide +kernel
theorem dX12_dayGoes_18 : decode cX12_dayGoes 18 = .ok (.aload_n 0, 1) := by decide +kernel
theorem dX12_dayGoes_19 : decode cX12_dayGoes 19 = .ok (.bipush 110, 2) := by decide +kernel
theorem dX12_dayGoes_21 : decode cX12_dayGoes 21 = .ok (.sipush 9999, 3) := by decide +kernel
theorem dX12_dayGoes_24 : decode cX12_dayGoes 24 = .ok (.invokevirtual 308, 3) := by decide +kernel
theorem dX12_dayGoes_27 : decode cX12_dayGoes 27 = .ok (.istore_n 2, 1) := by decide +kernel
theorem dX12_dayGoes_28 : decode cX12_dayGoes 28 = .ok (.aload_n 0, 1) := by decide +kernel
theorem dX12_dayGoes_29 : decode cX12_dayGoes 29 = .ok (.getfield 7, 3) := by decide +kernel
theorem dX12_dayGoes_32 : decode cX12_dayGoes 32 = .ok (.bipush 42, 2) := by decide +kernel
theorem dX12_dayGoes_34 : decode cX12_dayGoes 34 = .ok (.ldc 108, 2) := by decide +kernel
theorem dX12_dayGoes_36 : decode cX12_dayGoes 36 = .ok (.aload_n 0, 1) := by decide +kernel
theorem dX12_dayGoes_37 : decode cX12_dayGoes 37 = .ok (.getfield 7, 3) := by decide +kernel
theorem dX12_dayGoes_40 : decode cX12_dayGoes 40 = .ok (.bipush 42, 2) := by decide +kernel
theorem dX12_dayGoes_42 : decode cX12_dayGoes 42 = .ok (.iaload, 1) := by decide +kernel
theorem dX12_dayGoes_43 : decode cX12_dayGoes 43 = .ok (.iload_n 1, 1) := by decide +kernel
theorem dX12_dayGoes_44 : decode cX12_dayGoes 44 = .ok (.iadd, 1) := by decide +kernel
theorem dX12_dayGoes_45 : decode cX12_dayGoes 45 = .ok (.invokestatic 269, 3) := by decide +kernel
theorem dX12_dayGoes_48 : decode cX12_dayGoes 48 = .ok (.iastore, 1) := by decide +kernel
theorem dX12_dayGoes_49 : decode cX12_dayGoes 49 = .ok (.aload_n 0, 1) := by decide +kernel
theorem dX12_dayGoes_50 : decode cX12_dayGoes 50 = .ok (.getfield 7, 3) := by decide +kernel
theorem dX12_dayGoes_53 : decode cX12_dayGoes 53 = .ok (.bipush 43, 2) := by decide +kernel
theorem dX12_dayGoes_55 : decode cX12_dayGoes 55 = .ok (.ldc_w 281, 3) := by decide +kernel
theorem dX12_dayGoes_58 : decode cX12_dayGoes 58 = .ok (.aload_n 0, 1) := by decide +kernel
theorem dX12_dayGoes_59 : decode cX12_dayGoes 59 = .ok (.getfield 7, 3) := by decide +kernel
theorem dX12_dayGoes_62 : decode cX12_dayGoes 62 = .ok (.bipush 43, 2) := by decide +kernel
theorem dX12_dayGoes_64 : decode cX12_dayGoes 64 = .ok (.iaload, 1) := by decide +kernel
theorem dX12_dayGoes_65 : decode cX12_dayGoes 65 = .ok (.iload_n 2, 1) := by decide +kernel
theorem dX12_dayGoes_66 : decode cX12_dayGoes 66 = .ok (.iadd, 1) := by decide +kernel
theorem dX12_dayGoes_67 : decode cX12_dayGoes 67 = .ok (.invokestatic 269, 3) := by decide +kernel
theorem dX12_dayGoes_70 : decode cX12_dayGoes 70 = .ok (.iastore, 1) := by decide +kernel
theorem dX12_dayGoes_71 : decode cX12_dayGoes 71 = .ok (.iconst 0, 1) := by decide +kernel
theorem dX12_dayGoes_72 : decode cX12_dayGoes 72 = .ok (.istore_n 3, 1) := by decide +kernel
theorem dX12_dayGoes_73 : decode cX12_dayGoes 73 = .ok (.iload_n 3, 1) := by decide +kernel
theorem dX12_dayGoes_74 : decode cX12_dayGoes 74 = .ok (.iconst 2, 1) := by decide +kernel
theorem dX12_dayGoes_75 : decode cX12_dayGoes 75 = .ok (.if_icmp .ge 22, 3) := by decide +kernel
theorem dX12_dayGoes_78 : decode cX12_dayGoes 78 = .ok (.aload_n 0, 1) := by decide +kernel
theorem dX12_dayGoes_79 : decode cX12_dayGoes 79 = .ok (.iload_n 3, 1) := by decide +kernel
theorem dX12_dayGoes_80 : decode cX12_dayGoes 80 = .ok (.invokevirtual 323, 3) := by decide +kernel
theorem dX12_dayGoes_83 : decode cX12_dayGoes 83 = .ok (.ifCond .ne 8, 3) := by decide +kernel
theorem dX12_dayGoes_86 : decode cX12_dayGoes 86 = .ok (.aload_n 0, 1) := by decide +kernel
theorem dX12_dayGoes_87 : decode cX12_dayGoes 87 = .ok (.iload_n 3, 1) := by decide +kernel
theorem dX12_dayGoes_88 : decode cX12_dayGoes 88 = .ok (.invokevirtual 326, 3) := by decide +kernel
theorem dX12_dayGoes_91 : decode cX12_dayGoes 91 = .ok (.iinc 3 1, 3) := by decide +kernel
theorem dX12_dayGoes_94 : decode cX12_dayGoes 94 = .ok (.goto (-21), 3) := by decide +kernel
theorem dX12_dayGoes_97 : decode cX12_dayGoes 97 = .ok (.aload_n 0, 1) := by decide +kernel
theorem dX12_dayGoes_98 : decode cX12_dayGoes 98 = .ok (.invokevirtual 329, 3) := by decide +kernel
theorem dX12_dayGoes_101 : decode cX12_dayGoes 101 = .ok (.aload_n 0, 1) := by decide +kernel
theorem dX12_dayGoes_102 : decode cX12_dayGoes 102 = .ok (.getfield 109, 3) := by decide +kernel
theorem dX12_dayGoes_105 : decode cX12_dayGoes 105 = .ok (.if_icmp .le 68, 3) := by decide +kernel
theorem dX12_dayGoes_108 : decode cX12_dayGoes 108 = .ok (.aload_n 0, 1) := by decide +kernel
theorem dX12_dayGoes_109 : decode cX12_dayGoes 109 = .ok (.iconst 0, 1) := by decide +kernel
theorem dX12_dayGoes_110 : decode cX12_dayGoes 110 = .ok (.invokevirtual 317, 3) := by decide +kernel
theorem dX12_dayGoes_113 : decode cX12_dayGoes 113 = .ok (.aload_n 0, 1) := by decide +kernel
theorem dX12_dayGoes_114 : decode cX12_dayGoes 114 = .ok (.iconst 1, 1) := by decide +kernel
theorem dX12_dayGoes_115 : decode cX12_dayGoes 115 = .ok (.invokevirtual 317, 3) := by decide +kernel
theorem dX12_dayGoes_118 : decode cX12_dayGoes 118 = .ok (.if_icmp .le 7, 3) := by decide +kernel
theorem dX12_dayGoes_121 : decode cX12_dayGoes 121 = .ok (.iconst 0, 1) := by decide +kernel
theorem dX12_dayGoes_122 : decode cX12_dayGoes 122 = .ok (.goto 4, 3) := by decide +kernel
theorem dX12_dayGoes_125 : decode cX12_dayGoes 125 = .ok (.iconst 1, 1) := by decide +kernel
theorem dX12_dayGoes_126 : decode cX12_dayGoes 126 = .ok (.istore_n 3, 1) := by decide +kernel
theorem dX12_dayGoes_127 : decode cX12_dayGoes 127 = .ok (.aload_n 0, 1) := by decide +kernel
theorem dX12_dayGoes_128 : decode cX12_dayGoes 128 = .ok (.getfield 7, 3) := by decide +kernel
theorem dX12_dayGoes_131 : decode cX12_dayGoes 131 = .ok (.iconst 0, 1) := by decide +kernel
theorem dX12_dayGoes_132 : decode cX12_dayGoes 132 = .ok (.iload_n 3, 1) := by decide +kernel
theorem dX12_dayGoes_133 : decode cX12_dayGoes 133 = .ok (.iadd, 1) := by decide +kernel
theorem dX12_dayGoes_134 : decode cX12_dayGoes 134 = .ok (.aload_n 0, 1) := by decide +kernel
theorem dX12_dayGoes_135 : decode cX12_dayGoes 135 = .ok (.iload_n 3, 1) := by decide +kernel
theorem dX12_dayGoes_136 : decode cX12_dayGoes 136 = .ok (.aload_n 0, 1) := by decide +kernel
theorem dX12_dayGoes_137 : decode cX12_dayGoes 137 = .ok (.iload_n 3, 1) := by decide +kernel
theorem dX12_dayGoes_138 : decode cX12_dayGoes 138 = .ok (.invokevirtual 121, 3) := by decide +kernel
theorem dX12_dayGoes_141 : decode cX12_dayGoes 141 = .ok (.iconst 1, 1) := by decide +kernel
theorem dX12_dayGoes_142 : decode cX12_dayGoes 142 = .ok (.isub, 1) := by decide +kernel
theorem dX12_dayGoes_143 : decode cX12_dayGoes 143 = .ok (.invokevirtual 117, 3) := by decide +kernel
theorem dX12_dayGoes_146 : decode cX12_dayGoes 146 = .ok (.iastore, 1) := by decide +kernel
theorem dX12_dayGoes_147 : decode cX12_dayGoes 147 = .ok (.aload_n 0, 1) := by decide +kernel
theorem dX12_dayGoes_148 : decode cX12_dayGoes 148 = .ok (.getfield 7, 3) := by decide +kernel
theorem dX12_dayGoes_151 : decode cX12_dayGoes 151 = .ok (.bipush 45, 2) := by decide +kernel
theorem dX12_dayGoes_153 : decode cX12_dayGoes 153 = .ok (.aload_n 0, 1) := by decide +kernel
theorem dX12_dayGoes_154 : decode cX12_dayGoes 154 = .ok (.getfield 7, 3) := by decide +kernel
theorem dX12_dayGoes_157 : decode cX12_dayGoes 157 = .ok (.bipush 45, 2) := by decide +kernel
theorem dX12_dayGoes_159 : decode cX12_dayGoes 159 = .ok (.iaload, 1) := by decide +kernel
theorem dX12_dayGoes_160 : decode cX12_dayGoes 160 = .ok (.iconst 1, 1) := by decide +kernel
theorem dX12_dayGoes_161 : decode cX12_dayGoes 161 = .ok (.iadd, 1) := by decide +kernel
theorem dX12_dayGoes_162 : decode cX12_dayGoes 162 = .ok (.iastore, 1) := by decide +kernel
theorem dX12_dayGoes_163 : decode cX12_dayGoes 163 = .ok (.aload_n 0, 1) := by decide +kernel
theorem dX12_dayGoes_164 : decode cX12_dayGoes 164 = .ok (.aload_n 0, 1) := by decide +kernel
theorem dX12_dayGoes_165 : decode cX12_dayGoes 165 = .ok (.getfield 332, 3) := by decide +kernel
theorem dX12_dayGoes_168 : decode cX12_dayGoes 168 = .ok (.iconst 1, 1) := by decide +kernel
theorem dX12_dayGoes_169 : decode cX12_dayGoes 169 = .ok (.iadd, 1) := by decide +kernel
theorem dX12_dayGoes_170 : decode cX12_dayGoes 170 = .ok (.putfield 332, 3) := by decide +kernel
theorem dX12_dayGoes_173 : decode cX12_dayGoes 173 = .ok (.aload_n 0, 1) := by decide +kernel
theorem dX12_dayGoes_174 : decode cX12_dayGoes 174 = .ok (.getfield 7, 3) := by decide +kernel
theorem dX12_dayGoes_177 : decode cX12_dayGoes 177 = .ok (.bipush 44, 2) := by decide +kernel
theorem dX12_dayGoes_179 : decode cX12_dayGoes 179 = .ok (.aload_n 0, 1) := by decide +kernel
theorem dX12_dayGoes_180 : decode cX12_dayGoes 180 = .ok (.getfield 7, 3) := by decide +kernel
theorem dX12_dayGoes_183 : decode cX12_dayGoes 183 = .ok (.bipush 44, 2) := by decide +kernel
theorem dX12_dayGoes_185 : decode cX12_dayGoes 185 = .ok (.iaload, 1) := by decide +kernel
theorem dX12_dayGoes_186 : decode cX12_dayGoes 186 = .ok (.iconst 1, 1) := by decide +kernel
theorem dX12_dayGoes_187 : decode cX12_dayGoes 187 = .ok (.iadd, 1) := by decide +kernel
theorem dX12_dayGoes_188 : decode cX12_dayGoes 188 = .ok (.iastore, 1) := by decide +kernel
theorem dX12_dayGoes_189 : decode cX12_dayGoes 189 = .ok (.return_, 1) := by decide +kernel
theorem dX12_beginsDays_0 : decode cX12_beginsDays 0 = .ok (.aload_n 0, 1) := by decide +kernel
theorem dX12_beginsDays_1 : decode cX12_beginsDays 1 = .ok (.iconst 0, 1) := by decide +kernel
theorem dX12_beginsDays_2 : decode cX12_beginsDays 2 = .ok (.putfield 314, 3) := by decide +kernel
theorem dX12_beginsDays_5 : decode cX12_beginsDays 5 = .ok (.aload_n 0, 1) := by decide +kernel
theorem dX12_beginsDays_6 : decode cX12_beginsDays 6 = .ok (.iconst 0, 1) := by decide +kernel
theorem dX12_beginsDays_7 : decode cX12_beginsDays 7 = .ok (.putfield 332, 3) := by decide +kernel
theorem dX12_beginsDays_10 : decode cX12_beginsDays 10 = .ok (.return_, 1) := by decide +kernel
theorem dX12_daysGo_0 : decode cX12_daysGo 0 = .ok (.aload_n 0, 1) := by decide +kernel
theorem dX12_daysGo_1 : decode cX12_daysGo 1 = .ok (.invokevirtual 335, 3) := by decide +kernel
theorem dX12_daysGo_4 : decode cX12_daysGo 4 = .ok (.iconst 0, 1) := by decide +kernel
theorem dX12_daysGo_5 : decode cX12_daysGo 5 = .ok (.istore_n 2, 1) := by decide +kernel
theorem dX12_daysGo_6 : decode cX12_daysGo 6 = .ok (.iload_n 2, 1) := by decide +kernel
theorem dX12_daysGo_7 : decode cX12_daysGo 7 = .ok (.iload_n 1, 1) := by decide +kernel
theorem dX12_daysGo_8 : decode cX12_daysGo 8 = .ok (.if_icmp .ge 26, 3) := by decide +kernel
theorem dX12_daysGo_11 : decode cX12_daysGo 11 = .ok (.aload_n 0, 1) := by decide +kernel
theorem dX12_daysGo_12 : decode cX12_daysGo 12 = .ok (.getfield 7, 3) := by decide +kernel
theorem dX12_daysGo_15 : decode cX12_daysGo 15 = .ok (.bipush 44, 2) := by decide +kernel
theorem dX12_daysGo_17 : decode cX12_daysGo 17 = .ok (.iaload, 1) := by decide +kernel
theorem dX12_daysGo_18 : decode cX12_daysGo 18 = .ok (.sipush 9999, 3) := by decide +kernel
theorem dX12_daysGo_21 : decode cX12_daysGo 21 = .ok (.if_icmp .ge 13, 3) := by decide +kernel
theorem dX12_daysGo_24 : decode cX12_daysGo 24 = .ok (.aload_n 0, 1) := by decide +kernel
theorem dX12_daysGo_25 : decode cX12_daysGo 25 = .ok (.invokevirtual 338, 3) := by decide +kernel
theorem dX12_daysGo_28 : decode cX12_daysGo 28 = .ok (.iinc 2 1, 3) := by decide +kernel
theorem dX12_daysGo_31 : decode cX12_daysGo 31 = .ok (.goto (-25), 3) := by decide +kernel
theorem dX12_daysGo_34 : decode cX12_daysGo 34 = .ok (.return_, 1) := by decide +kernel
theorem dX12_days_0 : decode cX12_days 0 = .ok (.iload_n 1, 1) := by decide +kernel
theorem dX12_days_1 : decode cX12_days 1 = .ok (.iconst 1, 1) := by decide +kernel
theorem dX12_days_2 : decode cX12_days 2 = .ok (.sipush 240, 3) := by decide +kernel
theorem dX12_days_5 : decode cX12_days 5 = .ok (.invokestatic 113, 3) := by decide +kernel
theorem dX12_days_8 : decode cX12_days 8 = .ok (.ifCond .ne 5, 3) := by decide +kernel
theorem dX12_days_11 : decode cX12_days 11 = .ok (.iconst (-1), 1) := by decide +kernel
theorem dX12_days_12 : decode cX12_days 12 = .ok (.ireturn, 1) := by decide +kernel
theorem dX12_days_13 : decode cX12_days 13 = .ok (.aload_n 0, 1) := by decide +kernel
theorem dX12_days_14 : decode cX12_days 14 = .ok (.iload_n 1, 1) := by decide +kernel
theorem dX12_days_15 : decode cX12_days 15 = .ok (.invokevirtual 341, 3) := by decide +kernel
theorem dX12_days_18 : decode cX12_days 18 = .ok (.aload_n 0, 1) := by decide +kernel
theorem dX12_days_19 : decode cX12_days 19 = .ok (.getfield 314, 3) := by decide +kernel
theorem dX12_days_22 : decode cX12_days 22 = .ok (.ireturn, 1) := by decide +kernel
theorem dX12_tried_0 : decode cX12_tried 0 = .ok (.iload_n 1, 1) := by decide +kernel
theorem dX12_tried_1 : decode cX12_tried 1 = .ok (.iconst 1, 1) := by decide +kernel
theorem dX12_tried_2 : decode cX12_tried 2 = .ok (.sipush 240, 3) := by decide +kernel
theorem dX12_tried_5 : decode cX12_tried 5 = .ok (.invokestatic 113, 3) := by decide +kernel
theorem dX12_tried_8 : decode cX12_tried 8 = .ok (.ifCond .eq 23, 3) := by decide +kernel
theorem dX12_tried_11 : decode cX12_tried 11 = .ok (.iload_n 2, 1) := by decide +kernel
theorem dX12_tried_12 : decode cX12_tried 12 = .ok (.iconst 0, 1) := by decide +kernel
theorem dX12_tried_13 : decode cX12_tried 13 = .ok (.iconst 3, 1) := by decide +kernel
theorem dX12_tried_14 : decode cX12_tried 14 = .ok (.invokestatic 113, 3) := by decide +kernel
theorem dX12_tried_17 : decode cX12_tried 17 = .ok (.ifCond .ne 16, 3) := by decide +kernel
theorem dX12_tried_20 : decode cX12_tried 20 = .ok (.iload_n 2, 1) := by decide +kernel
theorem dX12_tried_21 : decode cX12_tried 21 = .ok (.bipush 10, 2) := by decide +kernel
theorem dX12_tried_23 : decode cX12_tried 23 = .ok (.bipush 11, 2) := by decide +kernel
theorem dX12_tried_25 : decode cX12_tried 25 = .ok (.invokestatic 113, 3) := by decide +kernel
theorem dX12_tried_28 : decode cX12_tried 28 = .ok (.ifCond .ne 5, 3) := by decide +kernel
theorem dX12_tried_31 : decode cX12_tried 31 = .ok (.iconst (-1), 1) := by decide +kernel
theorem dX12_tried_32 : decode cX12_tried 32 = .ok (.ireturn, 1) := by decide +kernel
theorem dX12_tried_33 : decode cX12_tried 33 = .ok (.aload_n 0, 1) := by decide +kernel
theorem dX12_tried_34 : decode cX12_tried 34 = .ok (.getfield 7, 3) := by decide +kernel
theorem dX12_tried_37 : decode cX12_tried 37 = .ok (.aload_n 0, 1) := by decide +kernel
theorem dX12_tried_38 : decode cX12_tried 38 = .ok (.getfield 13, 3) := by decide +kernel
theorem dX12_tried_41 : decode cX12_tried 41 = .ok (.invokestatic 285, 3) := by decide +kernel
theorem dX12_tried_44 : decode cX12_tried 44 = .ok (.aload_n 0, 1) := by decide +kernel
theorem dX12_tried_45 : decode cX12_tried 45 = .ok (.iload_n 1, 1) := by decide +kernel
theorem dX12_tried_46 : decode cX12_tried 46 = .ok (.invokevirtual 341, 3) := by decide +kernel
theorem dX12_tried_49 : decode cX12_tried 49 = .ok (.iload_n 2, 1) := by decide +kernel
theorem dX12_tried_50 : decode cX12_tried 50 = .ok (.tableswitch 68 0 3 #[30, 38, 46, 57], 30) := by decide +kernel
theorem dX12_tried_80 : decode cX12_tried 80 = .ok (.aload_n 0, 1) := by decide +kernel
theorem dX12_tried_81 : decode cX12_tried 81 = .ok (.getfield 314, 3) := by decide +kernel
theorem dX12_tried_84 : decode cX12_tried 84 = .ok (.istore_n 3, 1) := by decide +kernel
theorem dX12_tried_85 : decode cX12_tried 85 = .ok (.goto 42, 3) := by decide +kernel
theorem dX12_tried_88 : decode cX12_tried 88 = .ok (.aload_n 0, 1) := by decide +kernel
theorem dX12_tried_89 : decode cX12_tried 89 = .ok (.getfield 332, 3) := by decide +kernel
theorem dX12_tried_92 : decode cX12_tried 92 = .ok (.istore_n 3, 1) := by decide +kernel
theorem dX12_tried_93 : decode cX12_tried 93 = .ok (.goto 34, 3) := by decide +kernel
theorem dX12_tried_96 : decode cX12_tried 96 = .ok (.aload_n 0, 1) := by decide +kernel
theorem dX12_tried_97 : decode cX12_tried 97 = .ok (.getfield 7, 3) := by decide +kernel
theorem dX12_tried_100 : decode cX12_tried 100 = .ok (.bipush 43, 2) := by decide +kernel
theorem dX12_tried_102 : decode cX12_tried 102 = .ok (.iaload, 1) := by decide +kernel
theorem dX12_tried_103 : decode cX12_tried 103 = .ok (.istore_n 3, 1) := by decide +kernel
theorem dX12_tried_104 : decode cX12_tried 104 = .ok (.goto 23, 3) := by decide +kernel
theorem dX12_tried_107 : decode cX12_tried 107 = .ok (.aload_n 0, 1) := by decide +kernel
theorem dX12_tried_108 : decode cX12_tried 108 = .ok (.getfield 7, 3) := by decide +kernel
theorem dX12_tried_111 : decode cX12_tried 111 = .ok (.bipush 42, 2) := by decide +kernel
theorem dX12_tried_113 : decode cX12_tried 113 = .ok (.iaload, 1) := by decide +kernel
theorem dX12_tried_114 : decode cX12_tried 114 = .ok (.istore_n 3, 1) := by decide +kernel
theorem dX12_tried_115 : decode cX12_tried 115 = .ok (.goto 12, 3) := by decide +kernel
theorem dX12_tried_118 : decode cX12_tried 118 = .ok (.aload_n 0, 1) := by decide +kernel
theorem dX12_tried_119 : decode cX12_tried 119 = .ok (.iload_n 2, 1) := by decide +kernel
theorem dX12_tried_120 : decode cX12_tried 120 = .ok (.bipush 10, 2) := by decide +kernel
theorem dX12_tried_122 : decode cX12_tried 122 = .ok (.isub, 1) := by decide +kernel
theorem dX12_tried_123 : decode cX12_tried 123 = .ok (.invokevirtual 121, 3) := by decide +kernel
theorem dX12_tried_126 : decode cX12_tried 126 = .ok (.istore_n 3, 1) := by decide +kernel
theorem dX12_tried_127 : decode cX12_tried 127 = .ok (.aload_n 0, 1) := by decide +kernel
theorem dX12_tried_128 : decode cX12_tried 128 = .ok (.getfield 13, 3) := by decide +kernel
theorem dX12_tried_131 : decode cX12_tried 131 = .ok (.aload_n 0, 1) := by decide +kernel
theorem dX12_tried_132 : decode cX12_tried 132 = .ok (.getfield 7, 3) := by decide +kernel
theorem dX12_tried_135 : decode cX12_tried 135 = .ok (.invokestatic 285, 3) := by decide +kernel
theorem dX12_tried_138 : decode cX12_tried 138 = .ok (.iload_n 3, 1) := by decide +kernel
theorem dX12_tried_139 : decode cX12_tried 139 = .ok (.ireturn, 1) := by decide +kernel
theorem dX12_sideIs_0 : decode cX12_sideIs 0 = .ok (.iload_n 1, 1) := by decide +kernel
theorem dX12_sideIs_1 : decode cX12_sideIs 1 = .ok (.invokestatic 263, 3) := by decide +kernel
theorem dX12_sideIs_4 : decode cX12_sideIs 4 = .ok (.ifCond .ne 5, 3) := by decide +kernel
theorem dX12_sideIs_7 : decode cX12_sideIs 7 = .ok (.iconst (-1), 1) := by decide +kernel
theorem dX12_sideIs_8 : decode cX12_sideIs 8 = .ok (.ireturn, 1) := by decide +kernel
theorem dX12_sideIs_9 : decode cX12_sideIs 9 = .ok (.iload_n 2, 1) := by decide +kernel
theorem dX12_sideIs_10 : decode cX12_sideIs 10 = .ok (.tableswitch 96 0 6 #[42, 49, 55, 64, 70, 76, 90], 42) := by decide +kernel
theorem dX12_sideIs_52 : decode cX12_sideIs 52 = .ok (.aload_n 0, 1) := by decide +kernel
theorem dX12_sideIs_53 : decode cX12_sideIs 53 = .ok (.getfield 19, 3) := by decide +kernel
theorem dX12_sideIs_56 : decode cX12_sideIs 56 = .ok (.iload_n 1, 1) := by decide +kernel
theorem dX12_sideIs_57 : decode cX12_sideIs 57 = .ok (.iaload, 1) := by decide +kernel
theorem dX12_sideIs_58 : decode cX12_sideIs 58 = .ok (.ireturn, 1) := by decide +kernel
theorem dX12_sideIs_59 : decode cX12_sideIs 59 = .ok (.aload_n 0, 1) := by decide +kernel
theorem dX12_sideIs_60 : decode cX12_sideIs 60 = .ok (.iload_n 1, 1) := by decide +kernel
theorem dX12_sideIs_61 : decode cX12_sideIs 61 = .ok (.invokevirtual 121, 3) := by decide +kernel
theorem dX12_sideIs_64 : decode cX12_sideIs 64 = .ok (.ireturn, 1) := by decide +kernel
theorem dX12_sideIs_65 : decode cX12_sideIs 65 = .ok (.aload_n 0, 1) := by decide +kernel
theorem dX12_sideIs_66 : decode cX12_sideIs 66 = .ok (.getfield 7, 3) := by decide +kernel
theorem dX12_sideIs_69 : decode cX12_sideIs 69 = .ok (.iconst 0, 1) := by decide +kernel
theorem dX12_sideIs_70 : decode cX12_sideIs 70 = .ok (.iload_n 1, 1) := by decide +kernel
theorem dX12_sideIs_71 : decode cX12_sideIs 71 = .ok (.iadd, 1) := by decide +kernel
theorem dX12_sideIs_72 : decode cX12_sideIs 72 = .ok (.iaload, 1) := by decide +kernel
theorem dX12_sideIs_73 : decode cX12_sideIs 73 = .ok (.ireturn, 1) := by decide +kernel
theorem dX12_sideIs_74 : decode cX12_sideIs 74 = .ok (.aload_n 0, 1) := by decide +kernel
theorem dX12_sideIs_75 : decode cX12_sideIs 75 = .ok (.iload_n 1, 1) := by decide +kernel
theorem dX12_sideIs_76 : decode cX12_sideIs 76 = .ok (.invokevirtual 302, 3) := by decide +kernel
theorem dX12_sideIs_79 : decode cX12_sideIs 79 = .ok (.ireturn, 1) := by decide +kernel
theorem dX12_sideIs_80 : decode cX12_sideIs 80 = .ok (.aload_n 0, 1) := by decide +kernel
theorem dX12_sideIs_81 : decode cX12_sideIs 81 = .ok (.iload_n 1, 1) := by decide +kernel
theorem dX12_sideIs_82 : decode cX12_sideIs 82 = .ok (.invokevirtual 317, 3) := by decide +kernel
theorem dX12_sideIs_85 : decode cX12_sideIs 85 = .ok (.ireturn, 1) := by decide +kernel
theorem dX12_sideIs_86 : decode cX12_sideIs 86 = .ok (.aload_n 0, 1) := by decide +kernel
theorem dX12_sideIs_87 : decode cX12_sideIs 87 = .ok (.iload_n 1, 1) := by decide +kernel
theorem dX12_sideIs_88 : decode cX12_sideIs 88 = .ok (.invokevirtual 323, 3) := by decide +kernel
theorem dX12_sideIs_91 : decode cX12_sideIs 91 = .ok (.ifCond .eq 7, 3) := by decide +kernel
theorem dX12_sideIs_94 : decode cX12_sideIs 94 = .ok (.iconst 1, 1) := by decide +kernel
theorem dX12_sideIs_95 : decode cX12_sideIs 95 = .ok (.goto 4, 3) := by decide +kernel
theorem dX12_sideIs_98 : decode cX12_sideIs 98 = .ok (.iconst 0, 1) := by decide +kernel
theorem dX12_sideIs_99 : decode cX12_sideIs 99 = .ok (.ireturn, 1) := by decide +kernel
theorem dX12_sideIs_100 : decode cX12_sideIs 100 = .ok (.aload_n 0, 1) := by decide +kernel
theorem dX12_sideIs_101 : decode cX12_sideIs 101 = .ok (.iload_n 1, 1) := by decide +kernel
theorem dX12_sideIs_102 : decode cX12_sideIs 102 = .ok (.invokevirtual 293, 3) := by decide +kernel
theorem dX12_sideIs_105 : decode cX12_sideIs 105 = .ok (.ireturn, 1) := by decide +kernel
theorem dX12_sideIs_106 : decode cX12_sideIs 106 = .ok (.iconst (-1), 1) := by decide +kernel
theorem dX12_sideIs_107 : decode cX12_sideIs 107 = .ok (.ireturn, 1) := by decide +kernel
theorem dX12_archIs_0 : decode cX12_archIs 0 = .ok (.iload_n 1, 1) := by decide +kernel
theorem dX12_archIs_1 : decode cX12_archIs 1 = .ok (.invokestatic 263, 3) := by decide +kernel
theorem dX12_archIs_4 : decode cX12_archIs 4 = .ok (.ifCond .eq 26, 3) := by decide +kernel
theorem dX12_archIs_7 : decode cX12_archIs 7 = .ok (.iload_n 2, 1) := by decide +kernel
theorem dX12_archIs_8 : decode cX12_archIs 8 = .ok (.iconst 1, 1) := by decide +kernel
theorem dX12_archIs_9 : decode cX12_archIs 9 = .ok (.aload_n 0, 1) := by decide +kernel
theorem dX12_archIs_10 : decode cX12_archIs 10 = .ok (.getfield 19, 3) := by decide +kernel
theorem dX12_archIs_13 : decode cX12_archIs 13 = .ok (.iload_n 1, 1) := by decide +kernel
theorem dX12_archIs_14 : decode cX12_archIs 14 = .ok (.iaload, 1) := by decide +kernel
theorem dX12_archIs_15 : decode cX12_archIs 15 = .ok (.invokestatic 113, 3) := by decide +kernel
theorem dX12_archIs_18 : decode cX12_archIs 18 = .ok (.ifCond .eq 12, 3) := by decide +kernel
theorem dX12_archIs_21 : decode cX12_archIs 21 = .ok (.iload_n 3, 1) := by decide +kernel
theorem dX12_archIs_22 : decode cX12_archIs 22 = .ok (.iconst 0, 1) := by decide +kernel
theorem dX12_archIs_23 : decode cX12_archIs 23 = .ok (.iconst 2, 1) := by decide +kernel
theorem dX12_archIs_24 : decode cX12_archIs 24 = .ok (.invokestatic 113, 3) := by decide +kernel
theorem dX12_archIs_27 : decode cX12_archIs 27 = .ok (.ifCond .ne 5, 3) := by decide +kernel
theorem dX12_archIs_30 : decode cX12_archIs 30 = .ok (.iconst (-1), 1) := by decide +kernel
theorem dX12_archIs_31 : decode cX12_archIs 31 = .ok (.ireturn, 1) := by decide +kernel
theorem dX12_archIs_32 : decode cX12_archIs 32 = .ok (.iload_n 3, 1) := by decide +kernel
theorem dX12_archIs_33 : decode cX12_archIs 33 = .ok (.iconst 1, 1) := by decide +kernel
theorem dX12_archIs_34 : decode cX12_archIs 34 = .ok (.if_icmp .ne 18, 3) := by decide +kernel
theorem dX12_archIs_37 : decode cX12_archIs 37 = .ok (.iload_n 2, 1) := by decide +kernel
theorem dX12_archIs_38 : decode cX12_archIs 38 = .ok (.aload_n 0, 1) := by decide +kernel
theorem dX12_archIs_39 : decode cX12_archIs 39 = .ok (.iload_n 1, 1) := by decide +kernel
theorem dX12_archIs_40 : decode cX12_archIs 40 = .ok (.invokevirtual 121, 3) := by decide +kernel
theorem dX12_archIs_43 : decode cX12_archIs 43 = .ok (.if_icmp .gt 7, 3) := by decide +kernel
theorem dX12_archIs_46 : decode cX12_archIs 46 = .ok (.iconst 1, 1) := by decide +kernel
theorem dX12_archIs_47 : decode cX12_archIs 47 = .ok (.goto 4, 3) := by decide +kernel
theorem dX12_archIs_50 : decode cX12_archIs 50 = .ok (.iconst 0, 1) := by decide +kernel
theorem dX12_archIs_51 : decode cX12_archIs 51 = .ok (.ireturn, 1) := by decide +kernel
theorem dX12_archIs_52 : decode cX12_archIs 52 = .ok (.iload_n 3, 1) := by decide +kernel
theorem dX12_archIs_53 : decode cX12_archIs 53 = .ok (.ifCond .ne 19, 3) := by decide +kernel
theorem dX12_archIs_56 : decode cX12_archIs 56 = .ok (.aload_n 0, 1) := by decide +kernel
theorem dX12_archIs_57 : decode cX12_archIs 57 = .ok (.getfield 22, 3) := by decide +kernel
theorem dX12_archIs_60 : decode cX12_archIs 60 = .ok (.bipush 20, 2) := by decide +kernel
theorem dX12_archIs_62 : decode cX12_archIs 62 = .ok (.iload_n 1, 1) := by decide +kernel
theorem dX12_archIs_63 : decode cX12_archIs 63 = .ok (.imul, 1) := by decide +kernel
theorem dX12_archIs_64 : decode cX12_archIs 64 = .ok (.iload_n 2, 1) := by decide +kernel
theorem dX12_archIs_65 : decode cX12_archIs 65 = .ok (.iadd, 1) := by decide +kernel
theorem dX12_archIs_66 : decode cX12_archIs 66 = .ok (.iconst 1, 1) := by decide +kernel
theorem dX12_archIs_67 : decode cX12_archIs 67 = .ok (.isub, 1) := by decide +kernel
theorem dX12_archIs_68 : decode cX12_archIs 68 = .ok (.iaload, 1) := by decide +kernel
theorem dX12_archIs_69 : decode cX12_archIs 69 = .ok (.goto 18, 3) := by decide +kernel
theorem dX12_archIs_72 : decode cX12_archIs 72 = .ok (.aload_n 0, 1) := by decide +kernel
theorem dX12_archIs_73 : decode cX12_archIs 73 = .ok (.getfield 7, 3) := by decide +kernel
theorem dX12_archIs_76 : decode cX12_archIs 76 = .ok (.iconst 2, 1) := by decide +kernel
theorem dX12_archIs_77 : decode cX12_archIs 77 = .ok (.bipush 20, 2) := by decide +kernel
theorem dX12_archIs_79 : decode cX12_archIs 79 = .ok (.iload_n 1, 1) := by decide +kernel
theorem dX12_archIs_80 : decode cX12_archIs 80 = .ok (.imul, 1) := by decide +kernel
theorem dX12_archIs_81 : decode cX12_archIs 81 = .ok (.iadd, 1) := by decide +kernel
theorem dX12_archIs_82 : decode cX12_archIs 82 = .ok (.iload_n 2, 1) := by decide +kernel
theorem dX12_archIs_83 : decode cX12_archIs 83 = .ok (.iadd, 1) := by decide +kernel
theorem dX12_archIs_84 : decode cX12_archIs 84 = .ok (.iconst 1, 1) := by decide +kernel
theorem dX12_archIs_85 : decode cX12_archIs 85 = .ok (.isub, 1) := by decide +kernel
theorem dX12_archIs_86 : decode cX12_archIs 86 = .ok (.iaload, 1) := by decide +kernel
theorem dX12_archIs_87 : decode cX12_archIs 87 = .ok (.ireturn, 1) := by decide +kernel
theorem dX12_whoTouches_0 : decode cX12_whoTouches 0 = .ok (.aload_n 0, 1) := by decide +kernel
theorem dX12_whoTouches_1 : decode cX12_whoTouches 1 = .ok (.iconst 0, 1) := by decide +kernel
theorem dX12_whoTouches_2 : decode cX12_whoTouches 2 = .ok (.invokevirtual 323, 3) := by decide +kernel
theorem dX12_whoTouches_5 : decode cX12_whoTouches 5 = .ok (.ifCond .eq 13, 3) := by decide +kernel
theorem dX12_whoTouches_8 : decode cX12_whoTouches 8 = .ok (.aload_n 0, 1) := by decide +kernel
theorem dX12_whoTouches_9 : decode cX12_whoTouches 9 = .ok (.iconst 1, 1) := by decide +kernel
theorem dX12_whoTouches_10 : decode cX12_whoTouches 10 = .ok (.invokevirtual 323, 3) := by decide +kernel
theorem dX12_whoTouches_13 : decode cX12_whoTouches 13 = .ok (.ifCond .eq 5, 3) := by decide +kernel
theorem dX12_whoTouches_16 : decode cX12_whoTouches 16 = .ok (.iconst 2, 1) := by decide +kernel
theorem dX12_whoTouches_17 : decode cX12_whoTouches 17 = .ok (.ireturn, 1) := by decide +kernel
theorem dX12_whoTouches_18 : decode cX12_whoTouches 18 = .ok (.aload_n 0, 1) := by decide +kernel
theorem dX12_whoTouches_19 : decode cX12_whoTouches 19 = .ok (.iconst 0, 1) := by decide +kernel
theorem dX12_whoTouches_20 : decode cX12_whoTouches 20 = .ok (.invokevirtual 323, 3) := by decide +kernel
theorem dX12_whoTouches_23 : decode cX12_whoTouches 23 = .ok (.ifCond .eq 7, 3) := by decide +kernel
theorem dX12_whoTouches_26 : decode cX12_whoTouches 26 = .ok (.iconst 0, 1) := by decide +kernel
theorem dX12_whoTouches_27 : decode cX12_whoTouches 27 = .ok (.goto 16, 3) := by decide +kernel
theorem dX12_whoTouches_30 : decode cX12_whoTouches 30 = .ok (.aload_n 0, 1) := by decide +kernel
theorem dX12_whoTouches_31 : decode cX12_whoTouches 31 = .ok (.iconst 1, 1) := by decide +kernel
theorem dX12_whoTouches_32 : decode cX12_whoTouches 32 = .ok (.invokevirtual 323, 3) := by decide +kernel
theorem dX12_whoTouches_35 : decode cX12_whoTouches 35 = .ok (.ifCond .eq 7, 3) := by decide +kernel
theorem dX12_whoTouches_38 : decode cX12_whoTouches 38 = .ok (.iconst 1, 1) := by decide +kernel
theorem dX12_whoTouches_39 : decode cX12_whoTouches 39 = .ok (.goto 4, 3) := by decide +kernel
theorem dX12_whoTouches_42 : decode cX12_whoTouches 42 = .ok (.iconst (-1), 1) := by decide +kernel
theorem dX12_whoTouches_43 : decode cX12_whoTouches 43 = .ok (.ireturn, 1) := by decide +kernel
theorem dX12_touches_0 : decode cX12_touches 0 = .ok (.iload_n 1, 1) := by decide +kernel
theorem dX12_touches_1 : decode cX12_touches 1 = .ok (.iconst 1, 1) := by decide +kernel
theorem dX12_touches_2 : decode cX12_touches 2 = .ok (.sipush 240, 3) := by decide +kernel
theorem dX12_touches_5 : decode cX12_touches 5 = .ok (.invokestatic 113, 3) := by decide +kernel
theorem dX12_touches_8 : decode cX12_touches 8 = .ok (.ifCond .eq 12, 3) := by decide +kernel
theorem dX12_touches_11 : decode cX12_touches 11 = .ok (.iload_n 2, 1) := by decide +kernel
theorem dX12_touches_12 : decode cX12_touches 12 = .ok (.iconst 0, 1) := by decide +kernel
theorem dX12_touches_13 : decode cX12_touches 13 = .ok (.iconst 1, 1) := by decide +kernel
theorem dX12_touches_14 : decode cX12_touches 14 = .ok (.invokestatic 113, 3) := by decide +kernel
theorem dX12_touches_17 : decode cX12_touches 17 = .ok (.ifCond .ne 5, 3) := by decide +kernel
theorem dX12_touches_20 : decode cX12_touches 20 = .ok (.iconst (-1), 1) := by decide +kernel
theorem dX12_touches_21 : decode cX12_touches 21 = .ok (.ireturn, 1) := by decide +kernel
theorem dX12_touches_22 : decode cX12_touches 22 = .ok (.aload_n 0, 1) := by decide +kernel
theorem dX12_touches_23 : decode cX12_touches 23 = .ok (.getfield 7, 3) := by decide +kernel
theorem dX12_touches_26 : decode cX12_touches 26 = .ok (.aload_n 0, 1) := by decide +kernel
theorem dX12_touches_27 : decode cX12_touches 27 = .ok (.getfield 13, 3) := by decide +kernel
theorem dX12_touches_30 : decode cX12_touches 30 = .ok (.invokestatic 285, 3) := by decide +kernel
theorem dX12_touches_33 : decode cX12_touches 33 = .ok (.aload_n 0, 1) := by decide +kernel
theorem dX12_touches_34 : decode cX12_touches 34 = .ok (.invokevirtual 335, 3) := by decide +kernel
theorem dX12_touches_37 : decode cX12_touches 37 = .ok (.iconst 0, 1) := by decide +kernel
theorem dX12_touches_38 : decode cX12_touches 38 = .ok (.istore_n 3, 1) := by decide +kernel
theorem dX12_touches_39 : decode cX12_touches 39 = .ok (.iload_n 3, 1) := by decide +kernel
theorem dX12_touches_40 : decode cX12_touches 40 = .ok (.iload_n 1, 1) := by decide +kernel
theorem dX12_touches_41 : decode cX12_touches 41 = .ok (.if_icmp .ge 35, 3) := by decide +kernel
theorem dX12_touches_44 : decode cX12_touches 44 = .ok (.aload_n 0, 1) := by decide +kernel
theorem dX12_touches_45 : decode cX12_touches 45 = .ok (.invokevirtual 344, 3) := by decide +kernel
theorem dX12_touches_48 : decode cX12_touches 48 = .ok (.iconst (-1), 1) := by decide +kernel
theorem dX12_touches_49 : decode cX12_touches 49 = .ok (.if_icmp .ne 27, 3) := by decide +kernel
theorem dX12_touches_52 : decode cX12_touches 52 = .ok (.aload_n 0, 1) := by decide +kernel
theorem dX12_touches_53 : decode cX12_touches 53 = .ok (.getfield 7, 3) := by decide +kernel
theorem dX12_touches_56 : decode cX12_touches 56 = .ok (.bipush 44, 2) := by decide +kernel
theorem dX12_touches_58 : decode cX12_touches 58 = .ok (.iaload, 1) := by decide +kernel
theorem dX12_touches_59 : decode cX12_touches 59 = .ok (.sipush 9999, 3) := by decide +kernel
theorem dX12_touches_62 : decode cX12_touches 62 = .ok (.if_icmp .ge 14, 3) := by decide +kernel
theorem dX12_touches_65 : decode cX12_touches 65 = .ok (.aload_n 0, 1) := by decide +kernel
theorem dX12_touches_66 : decode cX12_touches 66 = .ok (.invokevirtual 338, 3) := by decide +kernel
theorem dX12_touches_69 : decode cX12_touches 69 = .ok (.iload_n 3, 1) := by decide +kernel
theorem dX12_touches_70 : decode cX12_touches 70 = .ok (.iconst 1, 1) := by decide +kernel
theorem dX12_touches_71 : decode cX12_touches 71 = .ok (.iadd, 1) := by decide +kernel
theorem dX12_touches_72 : decode cX12_touches 72 = .ok (.istore_n 3, 1) := by decide +kernel
theorem dX12_touches_73 : decode cX12_touches 73 = .ok (.goto (-34), 3) := by decide +kernel
theorem dX12_touches_76 : decode cX12_touches 76 = .ok (.aload_n 0, 1) := by decide +kernel
theorem dX12_touches_77 : decode cX12_touches 77 = .ok (.invokevirtual 344, 3) := by decide +kernel
theorem dX12_touches_80 : decode cX12_touches 80 = .ok (.istore 4, 2) := by decide +kernel
theorem dX12_touches_82 : decode cX12_touches 82 = .ok (.aload_n 0, 1) := by decide +kernel
theorem dX12_touches_83 : decode cX12_touches 83 = .ok (.getfield 13, 3) := by decide +kernel
theorem dX12_touches_86 : decode cX12_touches 86 = .ok (.aload_n 0, 1) := by decide +kernel
theorem dX12_touches_87 : decode cX12_touches 87 = .ok (.getfield 7, 3) := by decide +kernel
theorem dX12_touches_90 : decode cX12_touches 90 = .ok (.invokestatic 285, 3) := by decide +kernel
theorem dX12_touches_93 : decode cX12_touches 93 = .ok (.iload 4, 2) := by decide +kernel
theorem dX12_touches_95 : decode cX12_touches 95 = .ok (.iconst (-1), 1) := by decide +kernel
theorem dX12_touches_96 : decode cX12_touches 96 = .ok (.if_icmp .ne 6, 3) := by decide +kernel
theorem dX12_touches_99 : decode cX12_touches 99 = .ok (.bipush (-2), 2) := by decide +kernel
theorem dX12_touches_101 : decode cX12_touches 101 = .ok (.ireturn, 1) := by decide +kernel
theorem dX12_touches_102 : decode cX12_touches 102 = .ok (.iload_n 2, 1) := by decide +kernel
theorem dX12_touches_103 : decode cX12_touches 103 = .ok (.ifCond .ne 7, 3) := by decide +kernel
theorem dX12_touches_106 : decode cX12_touches 106 = .ok (.iload_n 3, 1) := by decide +kernel
theorem dX12_touches_107 : decode cX12_touches 107 = .ok (.goto 5, 3) := by decide +kernel
theorem dX12_touches_110 : decode cX12_touches 110 = .ok (.iload 4, 2) := by decide +kernel
theorem dX12_touches_112 : decode cX12_touches 112 = .ok (.ireturn, 1) := by decide +kernel
theorem dX12_ahead_0 : decode cX12_ahead 0 = .ok (.iload_n 1, 1) := by decide +kernel
theorem dX12_ahead_1 : decode cX12_ahead 1 = .ok (.iconst 1, 1) := by decide +kernel
theorem dX12_ahead_2 : decode cX12_ahead 2 = .ok (.sipush 240, 3) := by decide +kernel
theorem dX12_ahead_5 : decode cX12_ahead 5 = .ok (.invokestatic 113, 3) := by decide +kernel
theorem dX12_ahead_8 : decode cX12_ahead 8 = .ok (.ifCond .ne 5, 3) := by decide +kernel
theorem dX12_ahead_11 : decode cX12_ahead 11 = .ok (.iconst (-1), 1) := by decide +kernel
theorem dX12_ahead_12 : decode cX12_ahead 12 = .ok (.ireturn, 1) := by decide +kernel
theorem dX12_ahead_13 : decode cX12_ahead 13 = .ok (.aload_n 0, 1) := by decide +kernel
theorem dX12_ahead_14 : decode cX12_ahead 14 = .ok (.getfield 7, 3) := by decide +kernel
theorem dX12_ahead_17 : decode cX12_ahead 17 = .ok (.aload_n 0, 1) := by decide +kernel
theorem dX12_ahead_18 : decode cX12_ahead 18 = .ok (.getfield 13, 3) := by decide +kernel
theorem dX12_ahead_21 : decode cX12_ahead 21 = .ok (.invokestatic 285, 3) := by decide +kernel
theorem dX12_ahead_24 : decode cX12_ahead 24 = .ok (.aload_n 0, 1) := by decide +kernel
theorem dX12_ahead_25 : decode cX12_ahead 25 = .ok (.invokevirtual 335, 3) := by decide +kernel
theorem dX12_ahead_28 : decode cX12_ahead 28 = .ok (.aload_n 0, 1) := by decide +kernel
theorem dX12_ahead_29 : decode cX12_ahead 29 = .ok (.iconst 0, 1) := by decide +kernel
theorem dX12_ahead_30 : decode cX12_ahead 30 = .ok (.invokevirtual 121, 3) := by decide +kernel
theorem dX12_ahead_33 : decode cX12_ahead 33 = .ok (.aload_n 0, 1) := by decide +kernel
theorem dX12_ahead_34 : decode cX12_ahead 34 = .ok (.iconst 1, 1) := by decide +kernel
theorem dX12_ahead_35 : decode cX12_ahead 35 = .ok (.invokevirtual 121, 3) := by decide +kernel
theorem dX12_ahead_38 : decode cX12_ahead 38 = .ok (.isub, 1) := by decide +kernel
theorem dX12_ahead_39 : decode cX12_ahead 39 = .ok (.invokestatic 320, 3) := by decide +kernel
theorem dX12_ahead_42 : decode cX12_ahead 42 = .ok (.istore_n 2, 1) := by decide +kernel
theorem dX12_ahead_43 : decode cX12_ahead 43 = .ok (.iconst 0, 1) := by decide +kernel
theorem dX12_ahead_44 : decode cX12_ahead 44 = .ok (.istore_n 3, 1) := by decide +kernel
theorem dX12_ahead_45 : decode cX12_ahead 45 = .ok (.iload_n 3, 1) := by decide +kernel
theorem dX12_ahead_46 : decode cX12_ahead 46 = .ok (.iload_n 1, 1) := by decide +kernel
theorem dX12_ahead_47 : decode cX12_ahead 47 = .ok (.if_icmp .ge 45, 3) := by decide +kernel
theorem dX12_ahead_50 : decode cX12_ahead 50 = .ok (.aload_n 0, 1) := by decide +kernel
theorem dX12_ahead_51 : decode cX12_ahead 51 = .ok (.getfield 7, 3) := by decide +kernel
theorem dX12_ahead_54 : decode cX12_ahead 54 = .ok (.bipush 44, 2) := by decide +kernel
theorem dX12_ahead_56 : decode cX12_ahead 56 = .ok (.iaload, 1) := by decide +kernel
theorem dX12_ahead_57 : decode cX12_ahead 57 = .ok (.sipush 9999, 3) := by decide +kernel
theorem dX12_ahead_60 : decode cX12_ahead 60 = .ok (.if_icmp .ge 32, 3) := by decide +kernel
theorem dX12_ahead_63 : decode cX12_ahead 63 = .ok (.aload_n 0, 1) := by decide +kernel
theorem dX12_ahead_64 : decode cX12_ahead 64 = .ok (.invokevirtual 338, 3) := by decide +kernel
theorem dX12_ahead_67 : decode cX12_ahead 67 = .ok (.iload_n 2, 1) := by decide +kernel
theorem dX12_ahead_68 : decode cX12_ahead 68 = .ok (.aload_n 0, 1) := by decide +kernel
theorem dX12_ahead_69 : decode cX12_ahead 69 = .ok (.iconst 0, 1) := by decide +kernel
theorem dX12_ahead_70 : decode cX12_ahead 70 = .ok (.invokevirtual 121, 3) := by decide +kernel
theorem dX12_ahead_73 : decode cX12_ahead 73 = .ok (.aload_n 0, 1) := by decide +kernel
theorem dX12_ahead_74 : decode cX12_ahead 74 = .ok (.iconst 1, 1) := by decide +kernel
theorem dX12_ahead_75 : decode cX12_ahead 75 = .ok (.invokevirtual 121, 3) := by decide +kernel
theorem dX12_ahead_78 : decode cX12_ahead 78 = .ok (.isub, 1) := by decide +kernel
theorem dX12_ahead_79 : decode cX12_ahead 79 = .ok (.invokestatic 320, 3) := by decide +kernel
theorem dX12_ahead_82 : decode cX12_ahead 82 = .ok (.invokestatic 272, 3) := by decide +kernel
theorem dX12_ahead_85 : decode cX12_ahead 85 = .ok (.istore_n 2, 1) := by decide +kernel
theorem dX12_ahead_86 : decode cX12_ahead 86 = .ok (.iinc 3 1, 3) := by decide +kernel
theorem dX12_ahead_89 : decode cX12_ahead 89 = .ok (.goto (-44), 3) := by decide +kernel
theorem dX12_ahead_92 : decode cX12_ahead 92 = .ok (.aload_n 0, 1) := by decide +kernel
theorem dX12_ahead_93 : decode cX12_ahead 93 = .ok (.getfield 13, 3) := by decide +kernel
theorem dX12_ahead_96 : decode cX12_ahead 96 = .ok (.aload_n 0, 1) := by decide +kernel
theorem dX12_ahead_97 : decode cX12_ahead 97 = .ok (.getfield 7, 3) := by decide +kernel
theorem dX12_ahead_100 : decode cX12_ahead 100 = .ok (.invokestatic 285, 3) := by decide +kernel
theorem dX12_ahead_103 : decode cX12_ahead 103 = .ok (.iload_n 2, 1) := by decide +kernel
theorem dX12_ahead_104 : decode cX12_ahead 104 = .ok (.ireturn, 1) := by decide +kernel
theorem dX12_beyond_0 : decode cX12_beyond 0 = .ok (.iload_n 1, 1) := by decide +kernel
theorem dX12_beyond_1 : decode cX12_beyond 1 = .ok (.iconst 1, 1) := by decide +kernel
theorem dX12_beyond_2 : decode cX12_beyond 2 = .ok (.sipush 240, 3) := by decide +kernel
theorem dX12_beyond_5 : decode cX12_beyond 5 = .ok (.invokestatic 113, 3) := by decide +kernel
theorem dX12_beyond_8 : decode cX12_beyond 8 = .ok (.ifCond .eq 14, 3) := by decide +kernel
theorem dX12_beyond_11 : decode cX12_beyond 11 = .ok (.iload_n 2, 1) := by decide +kernel
theorem dX12_beyond_12 : decode cX12_beyond 12 = .ok (.iconst 0, 1) := by decide +kernel
theorem dX12_beyond_13 : decode cX12_beyond 13 = .ok (.ldc_w 281, 3) := by decide +kernel
theorem dX12_beyond_16 : decode cX12_beyond 16 = .ok (.invokestatic 113, 3) := by decide +kernel
theorem dX12_beyond_19 : decode cX12_beyond 19 = .ok (.ifCond .ne 5, 3) := by decide +kernel
theorem dX12_beyond_22 : decode cX12_beyond 22 = .ok (.iconst (-1), 1) := by decide +kernel
theorem dX12_beyond_23 : decode cX12_beyond 23 = .ok (.ireturn, 1) := by decide +kernel
theorem dX12_beyond_24 : decode cX12_beyond 24 = .ok (.aload_n 0, 1) := by decide +kernel
theorem dX12_beyond_25 : decode cX12_beyond 25 = .ok (.getfield 7, 3) := by decide +kernel
theorem dX12_beyond_28 : decode cX12_beyond 28 = .ok (.aload_n 0, 1) := by decide +kernel
theorem dX12_beyond_29 : decode cX12_beyond 29 = .ok (.getfield 13, 3) := by decide +kernel
theorem dX12_beyond_32 : decode cX12_beyond 32 = .ok (.invokestatic 285, 3) := by decide +kernel
theorem dX12_beyond_35 : decode cX12_beyond 35 = .ok (.aload_n 0, 1) := by decide +kernel
theorem dX12_beyond_36 : decode cX12_beyond 36 = .ok (.invokevirtual 335, 3) := by decide +kernel
theorem dX12_beyond_39 : decode cX12_beyond 39 = .ok (.iconst 0, 1) := by decide +kernel
theorem dX12_beyond_40 : decode cX12_beyond 40 = .ok (.istore_n 3, 1) := by decide +kernel
theorem dX12_beyond_41 : decode cX12_beyond 41 = .ok (.iload_n 3, 1) := by decide +kernel
theorem dX12_beyond_42 : decode cX12_beyond 42 = .ok (.iload_n 1, 1) := by decide +kernel
theorem dX12_beyond_43 : decode cX12_beyond 43 = .ok (.if_icmp .ge 38, 3) := by decide +kernel
theorem dX12_beyond_46 : decode cX12_beyond 46 = .ok (.aload_n 0, 1) := by decide +kernel
theorem dX12_beyond_47 : decode cX12_beyond 47 = .ok (.getfield 7, 3) := by decide +kernel
theorem dX12_beyond_50 : decode cX12_beyond 50 = .ok (.bipush 43, 2) := by decide +kernel
theorem dX12_beyond_52 : decode cX12_beyond 52 = .ok (.iaload, 1) := by decide +kernel
theorem dX12_beyond_53 : decode cX12_beyond 53 = .ok (.iload_n 2, 1) := by decide +kernel
theorem dX12_beyond_54 : decode cX12_beyond 54 = .ok (.if_icmp .gt 27, 3) := by decide +kernel
theorem dX12_beyond_57 : decode cX12_beyond 57 = .ok (.aload_n 0, 1) := by decide +kernel
theorem dX12_beyond_58 : decode cX12_beyond 58 = .ok (.getfield 7, 3) := by decide +kernel
theorem dX12_beyond_61 : decode cX12_beyond 61 = .ok (.bipush 44, 2) := by decide +kernel
theorem dX12_beyond_63 : decode cX12_beyond 63 = .ok (.iaload, 1) := by decide +kernel
theorem dX12_beyond_64 : decode cX12_beyond 64 = .ok (.sipush 9999, 3) := by decide +kernel
theorem dX12_beyond_67 : decode cX12_beyond 67 = .ok (.if_icmp .ge 14, 3) := by decide +kernel
theorem dX12_beyond_70 : decode cX12_beyond 70 = .ok (.aload_n 0, 1) := by decide +kernel
theorem dX12_beyond_71 : decode cX12_beyond 71 = .ok (.invokevirtual 338, 3) := by decide +kernel
theorem dX12_beyond_74 : decode cX12_beyond 74 = .ok (.iload_n 3, 1) := by decide +kernel
theorem dX12_beyond_75 : decode cX12_beyond 75 = .ok (.iconst 1, 1) := by decide +kernel
theorem dX12_beyond_76 : decode cX12_beyond 76 = .ok (.iadd, 1) := by decide +kernel
theorem dX12_beyond_77 : decode cX12_beyond 77 = .ok (.istore_n 3, 1) := by decide +kernel
theorem dX12_beyond_78 : decode cX12_beyond 78 = .ok (.goto (-37), 3) := by decide +kernel
theorem dX12_beyond_81 : decode cX12_beyond 81 = .ok (.aload_n 0, 1) := by decide +kernel
theorem dX12_beyond_82 : decode cX12_beyond 82 = .ok (.getfield 7, 3) := by decide +kernel
theorem dX12_beyond_85 : decode cX12_beyond 85 = .ok (.bipush 43, 2) := by decide +kernel
theorem dX12_beyond_87 : decode cX12_beyond 87 = .ok (.iaload, 1) := by decide +kernel
theorem dX12_beyond_88 : decode cX12_beyond 88 = .ok (.iload_n 2, 1) := by decide +kernel
theorem dX12_beyond_89 : decode cX12_beyond 89 = .ok (.if_icmp .le 7, 3) := by decide +kernel
theorem dX12_beyond_92 : decode cX12_beyond 92 = .ok (.iconst 1, 1) := by decide +kernel
theorem dX12_beyond_93 : decode cX12_beyond 93 = .ok (.goto 4, 3) := by decide +kernel
theorem dX12_beyond_96 : decode cX12_beyond 96 = .ok (.iconst 0, 1) := by decide +kernel
theorem dX12_beyond_97 : decode cX12_beyond 97 = .ok (.istore 4, 2) := by decide +kernel
theorem dX12_beyond_99 : decode cX12_beyond 99 = .ok (.aload_n 0, 1) := by decide +kernel
theorem dX12_beyond_100 : decode cX12_beyond 100 = .ok (.getfield 13, 3) := by decide +kernel
theorem dX12_beyond_103 : decode cX12_beyond 103 = .ok (.aload_n 0, 1) := by decide +kernel
theorem dX12_beyond_104 : decode cX12_beyond 104 = .ok (.getfield 7, 3) := by decide +kernel
theorem dX12_beyond_107 : decode cX12_beyond 107 = .ok (.invokestatic 285, 3) := by decide +kernel
theorem dX12_beyond_110 : decode cX12_beyond 110 = .ok (.iload 4, 2) := by decide +kernel
theorem dX12_beyond_112 : decode cX12_beyond 112 = .ok (.ifCond .eq 7, 3) := by decide +kernel
theorem dX12_beyond_115 : decode cX12_beyond 115 = .ok (.iload_n 3, 1) := by decide +kernel
theorem dX12_beyond_116 : decode cX12_beyond 116 = .ok (.goto 5, 3) := by decide +kernel
theorem dX12_beyond_119 : decode cX12_beyond 119 = .ok (.bipush (-2), 2) := by decide +kernel
theorem dX12_beyond_121 : decode cX12_beyond 121 = .ok (.ireturn, 1) := by decide +kernel
theorem dX12_even_0 : decode cX12_even 0 = .ok (.iload_n 1, 1) := by decide +kernel
theorem dX12_even_1 : decode cX12_even 1 = .ok (.iconst 1, 1) := by decide +kernel
theorem dX12_even_2 : decode cX12_even 2 = .ok (.bipush 8, 2) := by decide +kernel
theorem dX12_even_4 : decode cX12_even 4 = .ok (.invokestatic 113, 3) := by decide +kernel
theorem dX12_even_7 : decode cX12_even 7 = .ok (.ifCond .eq 20, 3) := by decide +kernel
theorem dX12_even_10 : decode cX12_even 10 = .ok (.iload_n 2, 1) := by decide +kernel
theorem dX12_even_11 : decode cX12_even 11 = .ok (.iconst 0, 1) := by decide +kernel
theorem dX12_even_12 : decode cX12_even 12 = .ok (.iconst 1, 1) := by decide +kernel
theorem dX12_even_13 : decode cX12_even 13 = .ok (.invokestatic 113, 3) := by decide +kernel
theorem dX12_even_16 : decode cX12_even 16 = .ok (.ifCond .eq 11, 3) := by decide +kernel
theorem dX12_even_19 : decode cX12_even 19 = .ok (.iload_n 1, 1) := by decide +kernel
theorem dX12_even_20 : decode cX12_even 20 = .ok (.aload_n 0, 1) := by decide +kernel
theorem dX12_even_21 : decode cX12_even 21 = .ok (.getfield 128, 3) := by decide +kernel
theorem dX12_even_24 : decode cX12_even 24 = .ok (.if_icmp .le 5, 3) := by decide +kernel
theorem dX12_even_27 : decode cX12_even 27 = .ok (.iconst (-1), 1) := by decide +kernel
theorem dX12_even_28 : decode cX12_even 28 = .ok (.ireturn, 1) := by decide +kernel
theorem dX12_even_29 : decode cX12_even 29 = .ok (.aload_n 0, 1) := by decide +kernel
theorem dX12_even_30 : decode cX12_even 30 = .ok (.iconst 0, 1) := by decide +kernel
theorem dX12_even_31 : decode cX12_even 31 = .ok (.putfield 128, 3) := by decide +kernel
theorem dX12_even_34 : decode cX12_even 34 = .ok (.aload_n 0, 1) := by decide +kernel
theorem dX12_even_35 : decode cX12_even 35 = .ok (.iconst 0, 1) := by decide +kernel
theorem dX12_even_36 : decode cX12_even 36 = .ok (.invokevirtual 121, 3) := by decide +kernel
theorem dX12_even_39 : decode cX12_even 39 = .ok (.ifCond .eq 11, 3) := by decide +kernel
theorem dX12_even_42 : decode cX12_even 42 = .ok (.aload_n 0, 1) := by decide +kernel
theorem dX12_even_43 : decode cX12_even 43 = .ok (.iconst 1, 1) := by decide +kernel
theorem dX12_even_44 : decode cX12_even 44 = .ok (.invokevirtual 121, 3) := by decide +kernel
theorem dX12_even_47 : decode cX12_even 47 = .ok (.ifCond .ne 6, 3) := by decide +kernel
theorem dX12_even_50 : decode cX12_even 50 = .ok (.bipush (-2), 2) := by decide +kernel
theorem dX12_even_52 : decode cX12_even 52 = .ok (.ireturn, 1) := by decide +kernel
theorem dX12_even_53 : decode cX12_even 53 = .ok (.iconst 0, 1) := by decide +kernel
theorem dX12_even_54 : decode cX12_even 54 = .ok (.istore_n 3, 1) := by decide +kernel
theorem dX12_even_55 : decode cX12_even 55 = .ok (.iload_n 3, 1) := by decide +kernel
theorem dX12_even_56 : decode cX12_even 56 = .ok (.iload_n 1, 1) := by decide +kernel
theorem dX12_even_57 : decode cX12_even 57 = .ok (.if_icmp .ge 20, 3) := by decide +kernel
theorem dX12_even_60 : decode cX12_even 60 = .ok (.aload_n 0, 1) := by decide +kernel
theorem dX12_even_61 : decode cX12_even 61 = .ok (.iload_n 3, 1) := by decide +kernel
theorem dX12_even_62 : decode cX12_even 62 = .ok (.invokevirtual 245, 3) := by decide +kernel
theorem dX12_even_65 : decode cX12_even 65 = .ok (.ifCond .ne 6, 3) := by decide +kernel
theorem dX12_even_68 : decode cX12_even 68 = .ok (.bipush (-3), 2) := by decide +kernel
theorem dX12_even_70 : decode cX12_even 70 = .ok (.ireturn, 1) := by decide +kernel
theorem dX12_even_71 : decode cX12_even 71 = .ok (.iinc 3 1, 3) := by decide +kernel
theorem dX12_even_74 : decode cX12_even 74 = .ok (.goto (-19), 3) := by decide +kernel
theorem dX12_even_77 : decode cX12_even 77 = .ok (.aload_n 0, 1) := by decide +kernel
theorem dX12_even_78 : decode cX12_even 78 = .ok (.iconst 0, 1) := by decide +kernel
theorem dX12_even_79 : decode cX12_even 79 = .ok (.invokevirtual 317, 3) := by decide +kernel
theorem dX12_even_82 : decode cX12_even 82 = .ok (.aload_n 0, 1) := by decide +kernel
theorem dX12_even_83 : decode cX12_even 83 = .ok (.iconst 1, 1) := by decide +kernel
theorem dX12_even_84 : decode cX12_even 84 = .ok (.invokevirtual 317, 3) := by decide +kernel
theorem dX12_even_87 : decode cX12_even 87 = .ok (.isub, 1) := by decide +kernel
theorem dX12_even_88 : decode cX12_even 88 = .ok (.istore_n 3, 1) := by decide +kernel
theorem dX12_even_89 : decode cX12_even 89 = .ok (.ldc_w 347, 3) := by decide +kernel
theorem dX12_even_92 : decode cX12_even 92 = .ok (.istore 4, 2) := by decide +kernel
theorem dX12_even_94 : decode cX12_even 94 = .ok (.iconst 0, 1) := by decide +kernel
theorem dX12_even_95 : decode cX12_even 95 = .ok (.istore 5, 2) := by decide +kernel
theorem dX12_even_97 : decode cX12_even 97 = .ok (.iload 5, 2) := by decide +kernel
theorem dX12_even_99 : decode cX12_even 99 = .ok (.iconst 1, 1) := by decide +kernel
theorem dX12_even_100 : decode cX12_even 100 = .ok (.iload_n 1, 1) := by decide +kernel
theorem dX12_even_101 : decode cX12_even 101 = .ok (.ishl, 1) := by decide +kernel
theorem dX12_even_102 : decode cX12_even 102 = .ok (.if_icmp .ge 92, 3) := by decide +kernel
theorem dX12_even_105 : decode cX12_even 105 = .ok (.iconst 0, 1) := by decide +kernel
theorem dX12_even_106 : decode cX12_even 106 = .ok (.istore 6, 2) := by decide +kernel
theorem dX12_even_108 : decode cX12_even 108 = .ok (.iload 6, 2) := by decide +kernel
theorem dX12_even_110 : decode cX12_even 110 = .ok (.iconst 1, 1) := by decide +kernel
theorem dX12_even_111 : decode cX12_even 111 = .ok (.iload_n 1, 1) := by decide +kernel
theorem dX12_even_112 : decode cX12_even 112 = .ok (.ishl, 1) := by decide +kernel
theorem dX12_even_113 : decode cX12_even 113 = .ok (.if_icmp .ge 75, 3) := by decide +kernel
theorem dX12_even_116 : decode cX12_even 116 = .ok (.iload 5, 2) := by decide +kernel
theorem dX12_even_118 : decode cX12_even 118 = .ok (.iload 6, 2) := by decide +kernel
theorem dX12_even_120 : decode cX12_even 120 = .ok (.iand, 1) := by decide +kernel
theorem dX12_even_121 : decode cX12_even 121 = .ok (.ifCond .eq 6, 3) := by decide +kernel
theorem dX12_even_124 : decode cX12_even 124 = .ok (.goto 58, 3) := by decide +kernel
theorem dX12_even_127 : decode cX12_even 127 = .ok (.iload_n 3, 1) := by decide +kernel
theorem dX12_even_128 : decode cX12_even 128 = .ok (.aload_n 0, 1) := by decide +kernel
theorem dX12_even_129 : decode cX12_even 129 = .ok (.iconst 0, 1) := by decide +kernel
theorem dX12_even_130 : decode cX12_even 130 = .ok (.invokevirtual 121, 3) := by decide +kernel
theorem dX12_even_133 : decode cX12_even 133 = .ok (.aload_n 0, 1) := by decide +kernel
theorem dX12_even_134 : decode cX12_even 134 = .ok (.iload 5, 2) := by decide +kernel
theorem dX12_even_136 : decode cX12_even 136 = .ok (.iload_n 1, 1) := by decide +kernel
theorem dX12_even_137 : decode cX12_even 137 = .ok (.invokevirtual 348, 3) := by decide +kernel
theorem dX12_even_140 : decode cX12_even 140 = .ok (.imul, 1) := by decide +kernel
theorem dX12_even_141 : decode cX12_even 141 = .ok (.iadd, 1) := by decide +kernel
theorem dX12_even_142 : decode cX12_even 142 = .ok (.aload_n 0, 1) := by decide +kernel
theorem dX12_even_143 : decode cX12_even 143 = .ok (.iconst 1, 1) := by decide +kernel
theorem dX12_even_144 : decode cX12_even 144 = .ok (.invokevirtual 121, 3) := by decide +kernel
theorem dX12_even_147 : decode cX12_even 147 = .ok (.aload_n 0, 1) := by decide +kernel
theorem dX12_even_148 : decode cX12_even 148 = .ok (.iload 6, 2) := by decide +kernel
theorem dX12_even_150 : decode cX12_even 150 = .ok (.iload_n 1, 1) := by decide +kernel
theorem dX12_even_151 : decode cX12_even 151 = .ok (.invokevirtual 348, 3) := by decide +kernel
theorem dX12_even_154 : decode cX12_even 154 = .ok (.imul, 1) := by decide +kernel
theorem dX12_even_155 : decode cX12_even 155 = .ok (.isub, 1) := by decide +kernel
theorem dX12_even_156 : decode cX12_even 156 = .ok (.invokestatic 320, 3) := by decide +kernel
theorem dX12_even_159 : decode cX12_even 159 = .ok (.istore 7, 2) := by decide +kernel
theorem dX12_even_161 : decode cX12_even 161 = .ok (.iload 4, 2) := by decide +kernel
theorem dX12_even_163 : decode cX12_even 163 = .ok (.bipush 10, 2) := by decide +kernel
theorem dX12_even_165 : decode cX12_even 165 = .ok (.iload 7, 2) := by decide +kernel
theorem dX12_even_167 : decode cX12_even 167 = .ok (.imul, 1) := by decide +kernel
theorem dX12_even_168 : decode cX12_even 168 = .ok (.iload 5, 2) := by decide +kernel
theorem dX12_even_170 : decode cX12_even 170 = .ok (.iload 6, 2) := by decide +kernel
theorem dX12_even_172 : decode cX12_even 172 = .ok (.ior, 1) := by decide +kernel
theorem dX12_even_173 : decode cX12_even 173 = .ok (.invokestatic 351, 3) := by decide +kernel
theorem dX12_even_176 : decode cX12_even 176 = .ok (.iadd, 1) := by decide +kernel
theorem dX12_even_177 : decode cX12_even 177 = .ok (.invokestatic 269, 3) := by decide +kernel
theorem dX12_even_180 : decode cX12_even 180 = .ok (.istore 4, 2) := by decide +kernel
theorem dX12_even_182 : decode cX12_even 182 = .ok (.iinc 6 1, 3) := by decide +kernel
theorem dX12_even_185 : decode cX12_even 185 = .ok (.goto (-77), 3) := by decide +kernel
theorem dX12_even_188 : decode cX12_even 188 = .ok (.iinc 5 1, 3) := by decide +kernel
theorem dX12_even_191 : decode cX12_even 191 = .ok (.goto (-94), 3) := by decide +kernel
theorem dX12_even_194 : decode cX12_even 194 = .ok (.iload_n 2, 1) := by decide +kernel
theorem dX12_even_195 : decode cX12_even 195 = .ok (.ifCond .ne 11, 3) := by decide +kernel
theorem dX12_even_198 : decode cX12_even 198 = .ok (.iload 4, 2) := by decide +kernel
theorem dX12_even_200 : decode cX12_even 200 = .ok (.bipush 10, 2) := by decide +kernel
theorem dX12_even_202 : decode cX12_even 202 = .ok (.idiv, 1) := by decide +kernel
theorem dX12_even_203 : decode cX12_even 203 = .ok (.goto 8, 3) := by decide +kernel
theorem dX12_even_206 : decode cX12_even 206 = .ok (.iload 4, 2) := by decide +kernel
theorem dX12_even_208 : decode cX12_even 208 = .ok (.bipush 10, 2) := by decide +kernel
theorem dX12_even_210 : decode cX12_even 210 = .ok (.irem, 1) := by decide +kernel
theorem dX12_even_211 : decode cX12_even 211 = .ok (.ireturn, 1) := by decide +kernel
theorem dX12_sumOf_0 : decode cX12_sumOf 0 = .ok (.iconst 0, 1) := by decide +kernel
theorem dX12_sumOf_1 : decode cX12_sumOf 1 = .ok (.istore_n 3, 1) := by decide +kernel
theorem dX12_sumOf_2 : decode cX12_sumOf 2 = .ok (.iconst 0, 1) := by decide +kernel
theorem dX12_sumOf_3 : decode cX12_sumOf 3 = .ok (.istore 4, 2) := by decide +kernel
theorem dX12_sumOf_5 : decode cX12_sumOf 5 = .ok (.iload 4, 2) := by decide +kernel
theorem dX12_sumOf_7 : decode cX12_sumOf 7 = .ok (.iload_n 2, 1) := by decide +kernel
theorem dX12_sumOf_8 : decode cX12_sumOf 8 = .ok (.if_icmp .ge 27, 3) := by decide +kernel
theorem dX12_sumOf_11 : decode cX12_sumOf 11 = .ok (.iload_n 1, 1) := by decide +kernel
theorem dX12_sumOf_12 : decode cX12_sumOf 12 = .ok (.iload 4, 2) := by decide +kernel
theorem dX12_sumOf_14 : decode cX12_sumOf 14 = .ok (.invokestatic 354, 3) := by decide +kernel
theorem dX12_sumOf_17 : decode cX12_sumOf 17 = .ok (.ifCond .eq 12, 3) := by decide +kernel
theorem dX12_sumOf_20 : decode cX12_sumOf 20 = .ok (.iload_n 3, 1) := by decide +kernel
theorem dX12_sumOf_21 : decode cX12_sumOf 21 = .ok (.aload_n 0, 1) := by decide +kernel
theorem dX12_sumOf_22 : decode cX12_sumOf 22 = .ok (.iload 4, 2) := by decide +kernel
theorem dX12_sumOf_24 : decode cX12_sumOf 24 = .ok (.invokevirtual 245, 3) := by decide +kernel
theorem dX12_sumOf_27 : decode cX12_sumOf 27 = .ok (.iadd, 1) := by decide +kernel
theorem dX12_sumOf_28 : decode cX12_sumOf 28 = .ok (.istore_n 3, 1) := by decide +kernel
theorem dX12_sumOf_29 : decode cX12_sumOf 29 = .ok (.iinc 4 1, 3) := by decide +kernel
theorem dX12_sumOf_32 : decode cX12_sumOf 32 = .ok (.goto (-27), 3) := by decide +kernel
theorem dX12_sumOf_35 : decode cX12_sumOf 35 = .ok (.iload_n 3, 1) := by decide +kernel
theorem dX12_sumOf_36 : decode cX12_sumOf 36 = .ok (.ireturn, 1) := by decide +kernel
theorem dX12_mayStand_0 : decode cX12_mayStand 0 = .ok (.iload_n 1, 1) := by decide +kernel
theorem dX12_mayStand_1 : decode cX12_mayStand 1 = .ok (.aload_n 0, 1) := by decide +kernel
theorem dX12_mayStand_2 : decode cX12_mayStand 2 = .ok (.getfield 19, 3) := by decide +kernel
theorem dX12_mayStand_5 : decode cX12_mayStand 5 = .ok (.iconst 0, 1) := by decide +kernel
theorem dX12_mayStand_6 : decode cX12_mayStand 6 = .ok (.iaload, 1) := by decide +kernel
theorem dX12_mayStand_7 : decode cX12_mayStand 7 = .ok (.if_icmp .ge 12, 3) := by decide +kernel
theorem dX12_mayStand_10 : decode cX12_mayStand 10 = .ok (.iload_n 2, 1) := by decide +kernel
theorem dX12_mayStand_11 : decode cX12_mayStand 11 = .ok (.iload_n 1, 1) := by decide +kernel
theorem dX12_mayStand_12 : decode cX12_mayStand 12 = .ok (.isub, 1) := by decide +kernel
theorem dX12_mayStand_13 : decode cX12_mayStand 13 = .ok (.iconst 1, 1) := by decide +kernel
theorem dX12_mayStand_14 : decode cX12_mayStand 14 = .ok (.if_icmp .le 5, 3) := by decide +kernel
theorem dX12_mayStand_17 : decode cX12_mayStand 17 = .ok (.iconst 0, 1) := by decide +kernel
theorem dX12_mayStand_18 : decode cX12_mayStand 18 = .ok (.ireturn, 1) := by decide +kernel
theorem dX12_mayStand_19 : decode cX12_mayStand 19 = .ok (.iload_n 2, 1) := by decide +kernel
theorem dX12_mayStand_20 : decode cX12_mayStand 20 = .ok (.aload_n 0, 1) := by decide +kernel
theorem dX12_mayStand_21 : decode cX12_mayStand 21 = .ok (.getfield 19, 3) := by decide +kernel
theorem dX12_mayStand_24 : decode cX12_mayStand 24 = .ok (.iconst 1, 1) := by decide +kernel
theorem dX12_mayStand_25 : decode cX12_mayStand 25 = .ok (.iaload, 1) := by decide +kernel
theorem dX12_mayStand_26 : decode cX12_mayStand 26 = .ok (.if_icmp .ge 10, 3) := by decide +kernel
theorem dX12_mayStand_29 : decode cX12_mayStand 29 = .ok (.iload_n 1, 1) := by decide +kernel
theorem dX12_mayStand_30 : decode cX12_mayStand 30 = .ok (.iload_n 2, 1) := by decide +kernel
theorem dX12_mayStand_31 : decode cX12_mayStand 31 = .ok (.isub, 1) := by decide +kernel
theorem dX12_mayStand_32 : decode cX12_mayStand 32 = .ok (.iconst 1, 1) := by decide +kernel
theorem dX12_mayStand_33 : decode cX12_mayStand 33 = .ok (.if_icmp .gt 7, 3) := by decide +kernel
theorem dX12_mayStand_36 : decode cX12_mayStand 36 = .ok (.iconst 1, 1) := by decide +kernel
theorem dX12_mayStand_37 : decode cX12_mayStand 37 = .ok (.goto 4, 3) := by decide +kernel
theorem dX12_mayStand_40 : decode cX12_mayStand 40 = .ok (.iconst 0, 1) := by decide +kernel
theorem dX12_mayStand_41 : decode cX12_mayStand 41 = .ok (.ireturn, 1) := by decide +kernel
theorem dX12_inARow_0 : decode cX12_inARow 0 = .ok (.aload_n 0, 1) := by decide +kernel
theorem dX12_inARow_1 : decode cX12_inARow 1 = .ok (.getfield 19, 3) := by decide +kernel
theorem dX12_inARow_4 : decode cX12_inARow 4 = .ok (.iconst 0, 1) := by decide +kernel
theorem dX12_inARow_5 : decode cX12_inARow 5 = .ok (.iaload, 1) := by decide +kernel
theorem dX12_inARow_6 : decode cX12_inARow 6 = .ok (.istore_n 1, 1) := by decide +kernel
theorem dX12_inARow_7 : decode cX12_inARow 7 = .ok (.iload_n 1, 1) := by decide +kernel
theorem dX12_inARow_8 : decode cX12_inARow 8 = .ok (.aload_n 0, 1) := by decide +kernel
theorem dX12_inARow_9 : decode cX12_inARow 9 = .ok (.iconst 0, 1) := by decide +kernel
theorem dX12_inARow_10 : decode cX12_inARow 10 = .ok (.invokevirtual 121, 3) := by decide +kernel
theorem dX12_inARow_13 : decode cX12_inARow 13 = .ok (.if_icmp .lt 149, 3) := by decide +kernel
theorem dX12_inARow_16 : decode cX12_inARow 16 = .ok (.aload_n 0, 1) := by decide +kernel
theorem dX12_inARow_17 : decode cX12_inARow 17 = .ok (.getfield 19, 3) := by decide +kernel
theorem dX12_inARow_20 : decode cX12_inARow 20 = .ok (.iconst 1, 1) := by decide +kernel
theorem dX12_inARow_21 : decode cX12_inARow 21 = .ok (.iaload, 1) := by decide +kernel
theorem dX12_inARow_22 : decode cX12_inARow 22 = .ok (.istore_n 2, 1) := by decide +kernel
theorem dX12_inARow_23 : decode cX12_inARow 23 = .ok (.iload_n 2, 1) := by decide +kernel
theorem dX12_inARow_24 : decode cX12_inARow 24 = .ok (.aload_n 0, 1) := by decide +kernel
theorem dX12_inARow_25 : decode cX12_inARow 25 = .ok (.iconst 1, 1) := by decide +kernel
theorem dX12_inARow_26 : decode cX12_inARow 26 = .ok (.invokevirtual 121, 3) := by decide +kernel
theorem dX12_inARow_29 : decode cX12_inARow 29 = .ok (.if_icmp .lt 127, 3) := by decide +kernel
theorem dX12_inARow_32 : decode cX12_inARow 32 = .ok (.iload_n 1, 1) := by decide +kernel
theorem dX12_inARow_33 : decode cX12_inARow 33 = .ok (.aload_n 0, 1) := by decide +kernel
theorem dX12_inARow_34 : decode cX12_inARow 34 = .ok (.getfield 19, 3) := by decide +kernel
theorem dX12_inARow_37 : decode cX12_inARow 37 = .ok (.iconst 0, 1) := by decide +kernel
theorem dX12_inARow_38 : decode cX12_inARow 38 = .ok (.iaload, 1) := by decide +kernel
theorem dX12_inARow_39 : decode cX12_inARow 39 = .ok (.if_icmp .ne 17, 3) := by decide +kernel
theorem dX12_inARow_42 : decode cX12_inARow 42 = .ok (.iload_n 2, 1) := by decide +kernel
theorem dX12_inARow_43 : decode cX12_inARow 43 = .ok (.aload_n 0, 1) := by decide +kernel
theorem dX12_inARow_44 : decode cX12_inARow 44 = .ok (.getfield 19, 3) := by decide +kernel
theorem dX12_inARow_47 : decode cX12_inARow 47 = .ok (.iconst 1, 1) := by decide +kernel
theorem dX12_inARow_48 : decode cX12_inARow 48 = .ok (.iaload, 1) := by decide +kernel
theorem dX12_inARow_49 : decode cX12_inARow 49 = .ok (.if_icmp .ne 7, 3) := by decide +kernel
theorem dX12_inARow_52 : decode cX12_inARow 52 = .ok (.iconst 1, 1) := by decide +kernel
theorem dX12_inARow_53 : decode cX12_inARow 53 = .ok (.goto 4, 3) := by decide +kernel
theorem dX12_inARow_56 : decode cX12_inARow 56 = .ok (.iconst 0, 1) := by decide +kernel
theorem dX12_inARow_57 : decode cX12_inARow 57 = .ok (.istore_n 3, 1) := by decide +kernel
theorem dX12_inARow_58 : decode cX12_inARow 58 = .ok (.iload_n 1, 1) := by decide +kernel
theorem dX12_inARow_59 : decode cX12_inARow 59 = .ok (.aload_n 0, 1) := by decide +kernel
theorem dX12_inARow_60 : decode cX12_inARow 60 = .ok (.getfield 19, 3) := by decide +kernel
theorem dX12_inARow_63 : decode cX12_inARow 63 = .ok (.iconst 0, 1) := by decide +kernel
theorem dX12_inARow_64 : decode cX12_inARow 64 = .ok (.iaload, 1) := by decide +kernel
theorem dX12_inARow_65 : decode cX12_inARow 65 = .ok (.if_icmp .ge 30, 3) := by decide +kernel
theorem dX12_inARow_68 : decode cX12_inARow 68 = .ok (.aload_n 0, 1) := by decide +kernel
theorem dX12_inARow_69 : decode cX12_inARow 69 = .ok (.iload_n 1, 1) := by decide +kernel
theorem dX12_inARow_70 : decode cX12_inARow 70 = .ok (.iconst 1, 1) := by decide +kernel
theorem dX12_inARow_71 : decode cX12_inARow 71 = .ok (.iadd, 1) := by decide +kernel
theorem dX12_inARow_72 : decode cX12_inARow 72 = .ok (.iload_n 2, 1) := by decide +kernel
theorem dX12_inARow_73 : decode cX12_inARow 73 = .ok (.invokevirtual 357, 3) := by decide +kernel
theorem dX12_inARow_76 : decode cX12_inARow 76 = .ok (.ifCond .eq 19, 3) := by decide +kernel
theorem dX12_inARow_79 : decode cX12_inARow 79 = .ok (.iload_n 3, 1) := by decide +kernel
theorem dX12_inARow_80 : decode cX12_inARow 80 = .ok (.aload_n 0, 1) := by decide +kernel
theorem dX12_inARow_81 : decode cX12_inARow 81 = .ok (.getfield 80, 3) := by decide +kernel
theorem dX12_inARow_84 : decode cX12_inARow 84 = .ok (.bipush 21, 2) := by decide +kernel
theorem dX12_inARow_86 : decode cX12_inARow 86 = .ok (.iload_n 1, 1) := by decide +kernel
theorem dX12_inARow_87 : decode cX12_inARow 87 = .ok (.iconst 1, 1) := by decide +kernel
theorem dX12_inARow_88 : decode cX12_inARow 88 = .ok (.iadd, 1) := by decide +kernel
theorem dX12_inARow_89 : decode cX12_inARow 89 = .ok (.imul, 1) := by decide +kernel
theorem dX12_inARow_90 : decode cX12_inARow 90 = .ok (.iload_n 2, 1) := by decide +kernel
theorem dX12_inARow_91 : decode cX12_inARow 91 = .ok (.iadd, 1) := by decide +kernel
theorem dX12_inARow_92 : decode cX12_inARow 92 = .ok (.iaload, 1) := by decide +kernel
theorem dX12_inARow_93 : decode cX12_inARow 93 = .ok (.iadd, 1) := by decide +kernel
theorem dX12_inARow_94 : decode cX12_inARow 94 = .ok (.istore_n 3, 1) := by decide +kernel
theorem dX12_inARow_95 : decode cX12_inARow 95 = .ok (.iload_n 2, 1) := by decide +kernel
theorem dX12_inARow_96 : decode cX12_inARow 96 = .ok (.aload_n 0, 1) := by decide +kernel
theorem dX12_inARow_97 : decode cX12_inARow 97 = .ok (.getfield 19, 3) := by decide +kernel
theorem dX12_inARow_100 : decode cX12_inARow 100 = .ok (.iconst 1, 1) := by decide +kernel
theorem dX12_inARow_101 : decode cX12_inARow 101 = .ok (.iaload, 1) := by decide +kernel
theorem dX12_inARow_102 : decode cX12_inARow 102 = .ok (.if_icmp .ge 30, 3) := by decide +kernel
theorem dX12_inARow_105 : decode cX12_inARow 105 = .ok (.aload_n 0, 1) := by decide +kernel
theorem dX12_inARow_106 : decode cX12_inARow 106 = .ok (.iload_n 1, 1) := by decide +kernel
theorem dX12_inARow_107 : decode cX12_inARow 107 = .ok (.iload_n 2, 1) := by decide +kernel
theorem dX12_inARow_108 : decode cX12_inARow 108 = .ok (.iconst 1, 1) := by decide +kernel
theorem dX12_inARow_109 : decode cX12_inARow 109 = .ok (.iadd, 1) := by decide +kernel
theorem dX12_inARow_110 : decode cX12_inARow 110 = .ok (.invokevirtual 357, 3) := by decide +kernel
theorem dX12_inARow_113 : decode cX12_inARow 113 = .ok (.ifCond .eq 19, 3) := by decide +kernel
theorem dX12_inARow_116 : decode cX12_inARow 116 = .ok (.iload_n 3, 1) := by decide +kernel
theorem dX12_inARow_117 : decode cX12_inARow 117 = .ok (.aload_n 0, 1) := by decide +kernel
theorem dX12_inARow_118 : decode cX12_inARow 118 = .ok (.getfield 80, 3) := by decide +kernel
theorem dX12_inARow_121 : decode cX12_inARow 121 = .ok (.bipush 21, 2) := by decide +kernel
theorem dX12_inARow_123 : decode cX12_inARow 123 = .ok (.iload_n 1, 1) := by decide +kernel
theorem dX12_inARow_124 : decode cX12_inARow 124 = .ok (.imul, 1) := by decide +kernel
theorem dX12_inARow_125 : decode cX12_inARow 125 = .ok (.iload_n 2, 1) := by decide +kernel
theorem dX12_inARow_126 : decode cX12_inARow 126 = .ok (.iadd, 1) := by decide +kernel
theorem dX12_inARow_127 : decode cX12_inARow 127 = .ok (.iconst 1, 1) := by decide +kernel
theorem dX12_inARow_128 : decode cX12_inARow 128 = .ok (.iadd, 1) := by decide +kernel
theorem dX12_inARow_129 : decode cX12_inARow 129 = .ok (.iaload, 1) := by decide +kernel
theorem dX12_inARow_130 : decode cX12_inARow 130 = .ok (.iadd, 1) := by decide +kernel
theorem dX12_inARow_131 : decode cX12_inARow 131 = .ok (.istore_n 3, 1) := by decide +kernel
theorem dX12_inARow_132 : decode cX12_inARow 132 = .ok (.aload_n 0, 1) := by decide +kernel
theorem dX12_inARow_133 : decode cX12_inARow 133 = .ok (.getfield 80, 3) := by decide +kernel
theorem dX12_inARow_136 : decode cX12_inARow 136 = .ok (.bipush 21, 2) := by decide +kernel
theorem dX12_inARow_138 : decode cX12_inARow 138 = .ok (.iload_n 1, 1) := by decide +kernel
theorem dX12_inARow_139 : decode cX12_inARow 139 = .ok (.imul, 1) := by decide +kernel
theorem dX12_inARow_140 : decode cX12_inARow 140 = .ok (.iload_n 2, 1) := by decide +kernel
theorem dX12_inARow_141 : decode cX12_inARow 141 = .ok (.iadd, 1) := by decide +kernel
theorem dX12_inARow_142 : decode cX12_inARow 142 = .ok (.ldc_w 360, 3) := by decide +kernel
theorem dX12_inARow_145 : decode cX12_inARow 145 = .ok (.iload_n 3, 1) := by decide +kernel
theorem dX12_inARow_146 : decode cX12_inARow 146 = .ok (.invokestatic 269, 3) := by decide +kernel
theorem dX12_inARow_149 : decode cX12_inARow 149 = .ok (.iastore, 1) := by decide +kernel
theorem dX12_inARow_150 : decode cX12_inARow 150 = .ok (.iinc 2 (-1), 3) := by decide +kernel
theorem dX12_inARow_153 : decode cX12_inARow 153 = .ok (.goto (-130), 3) := by decide +kernel
theorem dX12_inARow_156 : decode cX12_inARow 156 = .ok (.iinc 1 (-1), 3) := by decide +kernel
theorem dX12_inARow_159 : decode cX12_inARow 159 = .ok (.goto (-152), 3) := by decide +kernel
theorem dX12_inARow_162 : decode cX12_inARow 162 = .ok (.aload_n 0, 1) := by decide +kernel
theorem dX12_inARow_163 : decode cX12_inARow 163 = .ok (.getfield 80, 3) := by decide +kernel
theorem dX12_inARow_166 : decode cX12_inARow 166 = .ok (.bipush 21, 2) := by decide +kernel
theorem dX12_inARow_168 : decode cX12_inARow 168 = .ok (.aload_n 0, 1) := by decide +kernel
theorem dX12_inARow_169 : decode cX12_inARow 169 = .ok (.iconst 0, 1) := by decide +kernel
theorem dX12_inARow_170 : decode cX12_inARow 170 = .ok (.invokevirtual 121, 3) := by decide +kernel
theorem dX12_inARow_173 : decode cX12_inARow 173 = .ok (.imul, 1) := by decide +kernel
theorem dX12_inARow_174 : decode cX12_inARow 174 = .ok (.aload_n 0, 1) := by decide +kernel
theorem dX12_inARow_175 : decode cX12_inARow 175 = .ok (.iconst 1, 1) := by decide +kernel
theorem dX12_inARow_176 : decode cX12_inARow 176 = .ok (.invokevirtual 121, 3) := by decide +kernel
theorem dX12_inARow_179 : decode cX12_inARow 179 = .ok (.iadd, 1) := by decide +kernel
theorem dX12_inARow_180 : decode cX12_inARow 180 = .ok (.iaload, 1) := by decide +kernel
theorem dX12_inARow_181 : decode cX12_inARow 181 = .ok (.ireturn, 1) := by decide +kernel
theorem dX12_isOver_0 : decode cX12_isOver 0 = .ok (.iconst 0, 1) := by decide +kernel
theorem dX12_isOver_1 : decode cX12_isOver 1 = .ok (.istore 5, 2) := by decide +kernel
theorem dX12_isOver_3 : decode cX12_isOver 3 = .ok (.iload_n 2, 1) := by decide +kernel
theorem dX12_isOver_4 : decode cX12_isOver 4 = .ok (.istore 6, 2) := by decide +kernel
theorem dX12_isOver_6 : decode cX12_isOver 6 = .ok (.iload 4, 2) := by decide +kernel
theorem dX12_isOver_8 : decode cX12_isOver 8 = .ok (.istore 7, 2) := by decide +kernel
theorem dX12_isOver_10 : decode cX12_isOver 10 = .ok (.iload 5, 2) := by decide +kernel
theorem dX12_isOver_12 : decode cX12_isOver 12 = .ok (.iload_n 0, 1) := by decide +kernel
theorem dX12_isOver_13 : decode cX12_isOver 13 = .ok (.if_icmp .ge 32, 3) := by decide +kernel
theorem dX12_isOver_16 : decode cX12_isOver 16 = .ok (.iload 6, 2) := by decide +kernel
theorem dX12_isOver_18 : decode cX12_isOver 18 = .ok (.ifCond .ge 5, 3) := by decide +kernel
theorem dX12_isOver_21 : decode cX12_isOver 21 = .ok (.iconst 0, 1) := by decide +kernel
theorem dX12_isOver_22 : decode cX12_isOver 22 = .ok (.ireturn, 1) := by decide +kernel
theorem dX12_isOver_23 : decode cX12_isOver 23 = .ok (.iload 5, 2) := by decide +kernel
theorem dX12_isOver_25 : decode cX12_isOver 25 = .ok (.iload_n 3, 1) := by decide +kernel
theorem dX12_isOver_26 : decode cX12_isOver 26 = .ok (.iadd, 1) := by decide +kernel
theorem dX12_isOver_27 : decode cX12_isOver 27 = .ok (.istore 5, 2) := by decide +kernel
theorem dX12_isOver_29 : decode cX12_isOver 29 = .ok (.iload 6, 2) := by decide +kernel
theorem dX12_isOver_31 : decode cX12_isOver 31 = .ok (.iload 7, 2) := by decide +kernel
theorem dX12_isOver_33 : decode cX12_isOver 33 = .ok (.iadd, 1) := by decide +kernel
theorem dX12_isOver_34 : decode cX12_isOver 34 = .ok (.istore 6, 2) := by decide +kernel
theorem dX12_isOver_36 : decode cX12_isOver 36 = .ok (.iload 7, 2) := by decide +kernel
theorem dX12_isOver_38 : decode cX12_isOver 38 = .ok (.iconst 1, 1) := by decide +kernel
theorem dX12_isOver_39 : decode cX12_isOver 39 = .ok (.isub, 1) := by decide +kernel
theorem dX12_isOver_40 : decode cX12_isOver 40 = .ok (.istore 7, 2) := by decide +kernel
theorem dX12_isOver_42 : decode cX12_isOver 42 = .ok (.goto (-32), 3) := by decide +kernel
theorem dX12_isOver_45 : decode cX12_isOver 45 = .ok (.iload 6, 2) := by decide +kernel
theorem dX12_isOver_47 : decode cX12_isOver 47 = .ok (.iload_n 1, 1) := by decide +kernel
theorem dX12_isOver_48 : decode cX12_isOver 48 = .ok (.if_icmp .lt 7, 3) := by decide +kernel
theorem dX12_isOver_51 : decode cX12_isOver 51 = .ok (.iconst 1, 1) := by decide +kernel
theorem dX12_isOver_52 : decode cX12_isOver 52 = .ok (.goto 4, 3) := by decide +kernel
theorem dX12_isOver_55 : decode cX12_isOver 55 = .ok (.iconst 0, 1) := by decide +kernel
theorem dX12_isOver_56 : decode cX12_isOver 56 = .ok (.ireturn, 1) := by decide +kernel
theorem dX12_ball_0 : decode cX12_ball 0 = .ok (.iload_n 1, 1) := by decide +kernel
theorem dX12_ball_1 : decode cX12_ball 1 = .ok (.iconst 1, 1) := by decide +kernel
theorem dX12_ball_2 : decode cX12_ball 2 = .ok (.sipush 200, 3) := by decide +kernel
theorem dX12_ball_5 : decode cX12_ball 5 = .ok (.invokestatic 113, 3) := by decide +kernel
theorem dX12_ball_8 : decode cX12_ball 8 = .ok (.ifCond .eq 45, 3) := by decide +kernel
theorem dX12_ball_11 : decode cX12_ball 11 = .ok (.iload_n 2, 1) := by decide +kernel
theorem dX12_ball_12 : decode cX12_ball 12 = .ok (.iconst 0, 1) := by decide +kernel
theorem dX12_ball_13 : decode cX12_ball 13 = .ok (.bipush 99, 2) := by decide +kernel
theorem dX12_ball_15 : decode cX12_ball 15 = .ok (.invokestatic 113, 3) := by decide +kernel
theorem dX12_ball_18 : decode cX12_ball 18 = .ok (.ifCond .eq 35, 3) := by decide +kernel
theorem dX12_ball_21 : decode cX12_ball 21 = .ok (.iload_n 3, 1) := by decide +kernel
theorem dX12_ball_22 : decode cX12_ball 22 = .ok (.iconst 0, 1) := by decide +kernel
theorem dX12_ball_23 : decode cX12_ball 23 = .ok (.bipush 99, 2) := by decide +kernel
theorem dX12_ball_25 : decode cX12_ball 25 = .ok (.invokestatic 113, 3) := by decide +kernel
theorem dX12_ball_28 : decode cX12_ball 28 = .ok (.ifCond .eq 25, 3) := by decide +kernel
theorem dX12_ball_31 : decode cX12_ball 31 = .ok (.iload 4, 2) := by decide +kernel
theorem dX12_ball_33 : decode cX12_ball 33 = .ok (.iconst 1, 1) := by decide +kernel
theorem dX12_ball_34 : decode cX12_ball 34 = .ok (.bipush 20, 2) := by decide +kernel
theorem dX12_ball_36 : decode cX12_ball 36 = .ok (.invokestatic 113, 3) := by decide +kernel
theorem dX12_ball_39 : decode cX12_ball 39 = .ok (.ifCond .eq 14, 3) := by decide +kernel
theorem dX12_ball_42 : decode cX12_ball 42 = .ok (.iload 5, 2) := by decide +kernel
theorem dX12_ball_44 : decode cX12_ball 44 = .ok (.iconst 0, 1) := by decide +kernel
theorem dX12_ball_45 : decode cX12_ball 45 = .ok (.bipush 20, 2) := by decide +kernel
theorem dX12_ball_47 : decode cX12_ball 47 = .ok (.invokestatic 113, 3) := by decide +kernel
theorem dX12_ball_50 : decode cX12_ball 50 = .ok (.ifCond .ne 5, 3) := by decide +kernel
theorem dX12_ball_53 : decode cX12_ball 53 = .ok (.iconst (-1), 1) := by decide +kernel
theorem dX12_ball_54 : decode cX12_ball 54 = .ok (.ireturn, 1) := by decide +kernel
theorem dX12_ball_55 : decode cX12_ball 55 = .ok (.iload_n 1, 1) := by decide +kernel
theorem dX12_ball_56 : decode cX12_ball 56 = .ok (.iload_n 2, 1) := by decide +kernel
theorem dX12_ball_57 : decode cX12_ball 57 = .ok (.iload_n 3, 1) := by decide +kernel
theorem dX12_ball_58 : decode cX12_ball 58 = .ok (.iload 4, 2) := by decide +kernel
theorem dX12_ball_60 : decode cX12_ball 60 = .ok (.iload 5, 2) := by decide +kernel
theorem dX12_ball_62 : decode cX12_ball 62 = .ok (.invokestatic 361, 3) := by decide +kernel
theorem dX12_ball_65 : decode cX12_ball 65 = .ok (.ifCond .eq 7, 3) := by decide +kernel
theorem dX12_ball_68 : decode cX12_ball 68 = .ok (.iconst 1, 1) := by decide +kernel
theorem dX12_ball_69 : decode cX12_ball 69 = .ok (.goto 4, 3) := by decide +kernel
theorem dX12_ball_72 : decode cX12_ball 72 = .ok (.iconst 0, 1) := by decide +kernel
theorem dX12_ball_73 : decode cX12_ball 73 = .ok (.ireturn, 1) := by decide +kernel
theorem dX12_leastSpeed_0 : decode cX12_leastSpeed 0 = .ok (.iload_n 1, 1) := by decide +kernel
theorem dX12_leastSpeed_1 : decode cX12_leastSpeed 1 = .ok (.iconst 1, 1) := by decide +kernel
theorem dX12_leastSpeed_2 : decode cX12_leastSpeed 2 = .ok (.sipush 200, 3) := by decide +kernel
theorem dX12_leastSpeed_5 : decode cX12_leastSpeed 5 = .ok (.invokestatic 113, 3) := by decide +kernel
theorem dX12_leastSpeed_8 : decode cX12_leastSpeed 8 = .ok (.ifCond .eq 34, 3) := by decide +kernel
theorem dX12_leastSpeed_11 : decode cX12_leastSpeed 11 = .ok (.iload_n 2, 1) := by decide +kernel
theorem dX12_leastSpeed_12 : decode cX12_leastSpeed 12 = .ok (.iconst 0, 1) := by decide +kernel
theorem dX12_leastSpeed_13 : decode cX12_leastSpeed 13 = .ok (.bipush 99, 2) := by decide +kernel
theorem dX12_leastSpeed_15 : decode cX12_leastSpeed 15 = .ok (.invokestatic 113, 3) := by decide +kernel
theorem dX12_leastSpeed_18 : decode cX12_leastSpeed 18 = .ok (.ifCond .eq 24, 3) := by decide +kernel
theorem dX12_leastSpeed_21 : decode cX12_leastSpeed 21 = .ok (.iload_n 3, 1) := by decide +kernel
theorem dX12_leastSpeed_22 : decode cX12_leastSpeed 22 = .ok (.iconst 0, 1) := by decide +kernel
theorem dX12_leastSpeed_23 : decode cX12_leastSpeed 23 = .ok (.bipush 99, 2) := by decide +kernel
theorem dX12_leastSpeed_25 : decode cX12_leastSpeed 25 = .ok (.invokestatic 113, 3) := by decide +kernel
theorem dX12_leastSpeed_28 : decode cX12_leastSpeed 28 = .ok (.ifCond .eq 14, 3) := by decide +kernel
theorem dX12_leastSpeed_31 : decode cX12_leastSpeed 31 = .ok (.iload 4, 2) := by decide +kernel
theorem dX12_leastSpeed_33 : decode cX12_leastSpeed 33 = .ok (.iconst 0, 1) := by decide +kernel
theorem dX12_leastSpeed_34 : decode cX12_leastSpeed 34 = .ok (.bipush 20, 2) := by decide +kernel
theorem dX12_leastSpeed_36 : decode cX12_leastSpeed 36 = .ok (.invokestatic 113, 3) := by decide +kernel
theorem dX12_leastSpeed_39 : decode cX12_leastSpeed 39 = .ok (.ifCond .ne 5, 3) := by decide +kernel
theorem dX12_leastSpeed_42 : decode cX12_leastSpeed 42 = .ok (.iconst (-1), 1) := by decide +kernel
theorem dX12_leastSpeed_43 : decode cX12_leastSpeed 43 = .ok (.ireturn, 1) := by decide +kernel
theorem dX12_leastSpeed_44 : decode cX12_leastSpeed 44 = .ok (.iconst 1, 1) := by decide +kernel
theorem dX12_leastSpeed_45 : decode cX12_leastSpeed 45 = .ok (.istore 5, 2) := by decide +kernel
theorem dX12_leastSpeed_47 : decode cX12_leastSpeed 47 = .ok (.iload 5, 2) := by decide +kernel
theorem dX12_leastSpeed_49 : decode cX12_leastSpeed 49 = .ok (.bipush 20, 2) := by decide +kernel
theorem dX12_leastSpeed_51 : decode cX12_leastSpeed 51 = .ok (.if_icmp .gt 25, 3) := by decide +kernel
theorem dX12_leastSpeed_54 : decode cX12_leastSpeed 54 = .ok (.iload_n 1, 1) := by decide +kernel
theorem dX12_leastSpeed_55 : decode cX12_leastSpeed 55 = .ok (.iload_n 2, 1) := by decide +kernel
theorem dX12_leastSpeed_56 : decode cX12_leastSpeed 56 = .ok (.iload_n 3, 1) := by decide +kernel
theorem dX12_leastSpeed_57 : decode cX12_leastSpeed 57 = .ok (.iload 5, 2) := by decide +kernel
theorem dX12_leastSpeed_59 : decode cX12_leastSpeed 59 = .ok (.iload 4, 2) := by decide +kernel
theorem dX12_leastSpeed_61 : decode cX12_leastSpeed 61 = .ok (.invokestatic 361, 3) := by decide +kernel
theorem dX12_leastSpeed_64 : decode cX12_leastSpeed 64 = .ok (.ifCond .eq 6, 3) := by decide +kernel
theorem dX12_leastSpeed_67 : decode cX12_leastSpeed 67 = .ok (.iload 5, 2) := by decide +kernel
theorem dX12_leastSpeed_69 : decode cX12_leastSpeed 69 = .ok (.ireturn, 1) := by decide +kernel
theorem dX12_leastSpeed_70 : decode cX12_leastSpeed 70 = .ok (.iinc 5 1, 3) := by decide +kernel
theorem dX12_leastSpeed_73 : decode cX12_leastSpeed 73 = .ok (.goto (-26), 3) := by decide +kernel
theorem dX12_leastSpeed_76 : decode cX12_leastSpeed 76 = .ok (.bipush (-2), 2) := by decide +kernel
theorem dX12_leastSpeed_78 : decode cX12_leastSpeed 78 = .ok (.ireturn, 1) := by decide +kernel
theorem dX12_piles_0 : decode cX12_piles 0 = .ok (.iload_n 1, 1) := by decide +kernel
theorem dX12_piles_1 : decode cX12_piles 1 = .ok (.iconst 1, 1) := by decide +kernel
theorem dX12_piles_2 : decode cX12_piles 2 = .ok (.bipush 60, 2) := by decide +kernel
theorem dX12_piles_4 : decode cX12_piles 4 = .ok (.invokestatic 113, 3) := by decide +kernel
theorem dX12_piles_7 : decode cX12_piles 7 = .ok (.ifCond .eq 31, 3) := by decide +kernel
theorem dX12_piles_10 : decode cX12_piles 10 = .ok (.iload_n 2, 1) := by decide +kernel
theorem dX12_piles_11 : decode cX12_piles 11 = .ok (.iconst 1, 1) := by decide +kernel
theorem dX12_piles_12 : decode cX12_piles 12 = .ok (.bipush 60, 2) := by decide +kernel
theorem dX12_piles_14 : decode cX12_piles 14 = .ok (.invokestatic 113, 3) := by decide +kernel
theorem dX12_piles_17 : decode cX12_piles 17 = .ok (.ifCond .eq 21, 3) := by decide +kernel
theorem dX12_piles_20 : decode cX12_piles 20 = .ok (.iload_n 3, 1) := by decide +kernel
theorem dX12_piles_21 : decode cX12_piles 21 = .ok (.iconst 0, 1) := by decide +kernel
theorem dX12_piles_22 : decode cX12_piles 22 = .ok (.iconst 1, 1) := by decide +kernel
theorem dX12_piles_23 : decode cX12_piles 23 = .ok (.invokestatic 113, 3) := by decide +kernel
theorem dX12_piles_26 : decode cX12_piles 26 = .ok (.ifCond .eq 12, 3) := by decide +kernel
theorem dX12_piles_29 : decode cX12_piles 29 = .ok (.aload_n 0, 1) := by decide +kernel
theorem dX12_piles_30 : decode cX12_piles 30 = .ok (.getfield 128, 3) := by decide +kernel
theorem dX12_piles_33 : decode cX12_piles 33 = .ok (.bipush 8, 2) := by decide +kernel
theorem dX12_piles_35 : decode cX12_piles 35 = .ok (.if_icmp .ge 5, 3) := by decide +kernel
theorem dX12_piles_38 : decode cX12_piles 38 = .ok (.iconst (-1), 1) := by decide +kernel
theorem dX12_piles_39 : decode cX12_piles 39 = .ok (.ireturn, 1) := by decide +kernel
theorem dX12_piles_40 : decode cX12_piles 40 = .ok (.aload_n 0, 1) := by decide +kernel
theorem dX12_piles_41 : decode cX12_piles 41 = .ok (.iconst 0, 1) := by decide +kernel
theorem dX12_piles_42 : decode cX12_piles 42 = .ok (.putfield 128, 3) := by decide +kernel
theorem dX12_piles_45 : decode cX12_piles 45 = .ok (.aload_n 0, 1) := by decide +kernel
theorem dX12_piles_46 : decode cX12_piles 46 = .ok (.getfield 83, 3) := by decide +kernel
theorem dX12_piles_49 : decode cX12_piles 49 = .ok (.iconst 0, 1) := by decide +kernel
theorem dX12_piles_50 : decode cX12_piles 50 = .ok (.iconst 0, 1) := by decide +kernel
theorem dX12_piles_51 : decode cX12_piles 51 = .ok (.iastore, 1) := by decide +kernel
theorem dX12_piles_52 : decode cX12_piles 52 = .ok (.iconst (-1), 1) := by decide +kernel
theorem dX12_piles_53 : decode cX12_piles 53 = .ok (.istore 4, 2) := by decide +kernel
theorem dX12_piles_55 : decode cX12_piles 55 = .ok (.iconst 0, 1) := by decide +kernel
theorem dX12_piles_56 : decode cX12_piles 56 = .ok (.istore 5, 2) := by decide +kernel
theorem dX12_piles_58 : decode cX12_piles 58 = .ok (.iload 5, 2) := by decide +kernel
theorem dX12_piles_60 : decode cX12_piles 60 = .ok (.iload_n 1, 1) := by decide +kernel
theorem dX12_piles_61 : decode cX12_piles 61 = .ok (.if_icmp .ge 158, 3) := by decide +kernel
theorem dX12_piles_64 : decode cX12_piles 64 = .ok (.iload 5, 2) := by decide +kernel
theorem dX12_piles_66 : decode cX12_piles 66 = .ok (.ifCond .le 13, 3) := by decide +kernel
theorem dX12_piles_69 : decode cX12_piles 69 = .ok (.aload_n 0, 1) := by decide +kernel
theorem dX12_piles_70 : decode cX12_piles 70 = .ok (.getfield 83, 3) := by decide +kernel
theorem dX12_piles_73 : decode cX12_piles 73 = .ok (.iload 5, 2) := by decide +kernel
theorem dX12_piles_75 : decode cX12_piles 75 = .ok (.ldc_w 347, 3) := by decide +kernel
theorem dX12_piles_78 : decode cX12_piles 78 = .ok (.iastore, 1) := by decide +kernel
theorem dX12_piles_79 : decode cX12_piles 79 = .ok (.iload 5, 2) := by decide +kernel
theorem dX12_piles_81 : decode cX12_piles 81 = .ok (.ifCond .le 27, 3) := by decide +kernel
theorem dX12_piles_84 : decode cX12_piles 84 = .ok (.aload_n 0, 1) := by decide +kernel
theorem dX12_piles_85 : decode cX12_piles 85 = .ok (.iload 5, 2) := by decide +kernel
theorem dX12_piles_87 : decode cX12_piles 87 = .ok (.bipush 8, 2) := by decide +kernel
theorem dX12_piles_89 : decode cX12_piles 89 = .ok (.idiv, 1) := by decide +kernel
theorem dX12_piles_90 : decode cX12_piles 90 = .ok (.invokevirtual 245, 3) := by decide +kernel
theorem dX12_piles_93 : decode cX12_piles 93 = .ok (.iload 5, 2) := by decide +kernel
theorem dX12_piles_95 : decode cX12_piles 95 = .ok (.bipush 8, 2) := by decide +kernel
theorem dX12_piles_97 : decode cX12_piles 97 = .ok (.irem, 1) := by decide +kernel
theorem dX12_piles_98 : decode cX12_piles 98 = .ok (.invokestatic 354, 3) := by decide +kernel
theorem dX12_piles_101 : decode cX12_piles 101 = .ok (.ifCond .eq 7, 3) := by decide +kernel
theorem dX12_piles_104 : decode cX12_piles 104 = .ok (.iconst 1, 1) := by decide +kernel
