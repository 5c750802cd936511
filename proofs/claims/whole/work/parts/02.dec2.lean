theorem dX7_claimed_82 : decode cX7_claimed 82 = .ok (.iload 8, 2) := by decide +kernel
theorem dX7_claimed_84 : decode cX7_claimed 84 = .ok (.invokestatic 95, 3) := by decide +kernel
theorem dX7_claimed_87 : decode cX7_claimed 87 = .ok (.istore 9, 2) := by decide +kernel
theorem dX7_claimed_89 : decode cX7_claimed 89 = .ok (.aload_n 0, 1) := by decide +kernel
theorem dX7_claimed_90 : decode cX7_claimed 90 = .ok (.iload_n 1, 1) := by decide +kernel
theorem dX7_claimed_91 : decode cX7_claimed 91 = .ok (.iconst 1, 1) := by decide +kernel
theorem dX7_claimed_92 : decode cX7_claimed 92 = .ok (.iload 8, 2) := by decide +kernel
theorem dX7_claimed_94 : decode cX7_claimed 94 = .ok (.invokestatic 95, 3) := by decide +kernel
theorem dX7_claimed_97 : decode cX7_claimed 97 = .ok (.istore 10, 2) := by decide +kernel
theorem dX7_claimed_99 : decode cX7_claimed 99 = .ok (.iload 5, 2) := by decide +kernel
theorem dX7_claimed_101 : decode cX7_claimed 101 = .ok (.iload 9, 2) := by decide +kernel
theorem dX7_claimed_103 : decode cX7_claimed 103 = .ok (.ifCond .le 12, 3) := by decide +kernel
theorem dX7_claimed_106 : decode cX7_claimed 106 = .ok (.iload 10, 2) := by decide +kernel
theorem dX7_claimed_108 : decode cX7_claimed 108 = .ok (.ifCond .le 7, 3) := by decide +kernel
theorem dX7_claimed_111 : decode cX7_claimed 111 = .ok (.iconst 1, 1) := by decide +kernel
theorem dX7_claimed_112 : decode cX7_claimed 112 = .ok (.goto 4, 3) := by decide +kernel
theorem dX7_claimed_115 : decode cX7_claimed 115 = .ok (.iconst 0, 1) := by decide +kernel
theorem dX7_claimed_116 : decode cX7_claimed 116 = .ok (.iadd, 1) := by decide +kernel
theorem dX7_claimed_117 : decode cX7_claimed 117 = .ok (.istore 5, 2) := by decide +kernel
theorem dX7_claimed_119 : decode cX7_claimed 119 = .ok (.iload 6, 2) := by decide +kernel
theorem dX7_claimed_121 : decode cX7_claimed 121 = .ok (.iload 9, 2) := by decide +kernel
theorem dX7_claimed_123 : decode cX7_claimed 123 = .ok (.iload 10, 2) := by decide +kernel
theorem dX7_claimed_125 : decode cX7_claimed 125 = .ok (.iadd, 1) := by decide +kernel
theorem dX7_claimed_126 : decode cX7_claimed 126 = .ok (.ifCond .ne 7, 3) := by decide +kernel
theorem dX7_claimed_129 : decode cX7_claimed 129 = .ok (.iconst 1, 1) := by decide +kernel
theorem dX7_claimed_130 : decode cX7_claimed 130 = .ok (.goto 4, 3) := by decide +kernel
theorem dX7_claimed_133 : decode cX7_claimed 133 = .ok (.iconst 0, 1) := by decide +kernel
theorem dX7_claimed_134 : decode cX7_claimed 134 = .ok (.iadd, 1) := by decide +kernel
theorem dX7_claimed_135 : decode cX7_claimed 135 = .ok (.istore 6, 2) := by decide +kernel
theorem dX7_claimed_137 : decode cX7_claimed 137 = .ok (.iload 7, 2) := by decide +kernel
theorem dX7_claimed_139 : decode cX7_claimed 139 = .ok (.iload 9, 2) := by decide +kernel
theorem dX7_claimed_141 : decode cX7_claimed 141 = .ok (.iload 10, 2) := by decide +kernel
theorem dX7_claimed_143 : decode cX7_claimed 143 = .ok (.iadd, 1) := by decide +kernel
theorem dX7_claimed_144 : decode cX7_claimed 144 = .ok (.invokestatic 83, 3) := by decide +kernel
theorem dX7_claimed_147 : decode cX7_claimed 147 = .ok (.istore 7, 2) := by decide +kernel
theorem dX7_claimed_149 : decode cX7_claimed 149 = .ok (.iinc 8 1, 3) := by decide +kernel
theorem dX7_claimed_152 : decode cX7_claimed 152 = .ok (.goto (-88), 3) := by decide +kernel
theorem dX7_claimed_155 : decode cX7_claimed 155 = .ok (.iload_n 2, 1) := by decide +kernel
theorem dX7_claimed_156 : decode cX7_claimed 156 = .ok (.ifCond .ne 8, 3) := by decide +kernel
theorem dX7_claimed_159 : decode cX7_claimed 159 = .ok (.iload 5, 2) := by decide +kernel
theorem dX7_claimed_161 : decode cX7_claimed 161 = .ok (.goto 15, 3) := by decide +kernel
theorem dX7_claimed_164 : decode cX7_claimed 164 = .ok (.iload_n 2, 1) := by decide +kernel
theorem dX7_claimed_165 : decode cX7_claimed 165 = .ok (.iconst 1, 1) := by decide +kernel
theorem dX7_claimed_166 : decode cX7_claimed 166 = .ok (.if_icmp .ne 8, 3) := by decide +kernel
theorem dX7_claimed_169 : decode cX7_claimed 169 = .ok (.iload 6, 2) := by decide +kernel
theorem dX7_claimed_171 : decode cX7_claimed 171 = .ok (.goto 5, 3) := by decide +kernel
theorem dX7_claimed_174 : decode cX7_claimed 174 = .ok (.iload 7, 2) := by decide +kernel
theorem dX7_claimed_176 : decode cX7_claimed 176 = .ok (.ireturn, 1) := by decide +kernel
theorem dX7_claimsOf_0 : decode cX7_claimsOf 0 = .ok (.iconst 0, 1) := by decide +kernel
theorem dX7_claimsOf_1 : decode cX7_claimsOf 1 = .ok (.istore 4, 2) := by decide +kernel
theorem dX7_claimsOf_3 : decode cX7_claimsOf 3 = .ok (.iload_n 2, 1) := by decide +kernel
theorem dX7_claimsOf_4 : decode cX7_claimsOf 4 = .ok (.istore 5, 2) := by decide +kernel
theorem dX7_claimsOf_6 : decode cX7_claimsOf 6 = .ok (.iload 5, 2) := by decide +kernel
theorem dX7_claimsOf_8 : decode cX7_claimsOf 8 = .ok (.iload_n 1, 1) := by decide +kernel
theorem dX7_claimsOf_9 : decode cX7_claimsOf 9 = .ok (.if_icmp .ge 38, 3) := by decide +kernel
theorem dX7_claimsOf_12 : decode cX7_claimsOf 12 = .ok (.aload_n 0, 1) := by decide +kernel
theorem dX7_claimsOf_13 : decode cX7_claimsOf 13 = .ok (.iconst 2, 1) := by decide +kernel
theorem dX7_claimsOf_14 : decode cX7_claimsOf 14 = .ok (.iload 5, 2) := by decide +kernel
theorem dX7_claimsOf_16 : decode cX7_claimsOf 16 = .ok (.imul, 1) := by decide +kernel
theorem dX7_claimsOf_17 : decode cX7_claimsOf 17 = .ok (.invokevirtual 43, 3) := by decide +kernel
theorem dX7_claimsOf_20 : decode cX7_claimsOf 20 = .ok (.iload_n 3, 1) := by decide +kernel
theorem dX7_claimsOf_21 : decode cX7_claimsOf 21 = .ok (.if_icmp .gt 20, 3) := by decide +kernel
theorem dX7_claimsOf_24 : decode cX7_claimsOf 24 = .ok (.iload_n 3, 1) := by decide +kernel
theorem dX7_claimsOf_25 : decode cX7_claimsOf 25 = .ok (.aload_n 0, 1) := by decide +kernel
theorem dX7_claimsOf_26 : decode cX7_claimsOf 26 = .ok (.iconst 2, 1) := by decide +kernel
theorem dX7_claimsOf_27 : decode cX7_claimsOf 27 = .ok (.iload 5, 2) := by decide +kernel
theorem dX7_claimsOf_29 : decode cX7_claimsOf 29 = .ok (.imul, 1) := by decide +kernel
theorem dX7_claimsOf_30 : decode cX7_claimsOf 30 = .ok (.iconst 1, 1) := by decide +kernel
theorem dX7_claimsOf_31 : decode cX7_claimsOf 31 = .ok (.iadd, 1) := by decide +kernel
theorem dX7_claimsOf_32 : decode cX7_claimsOf 32 = .ok (.invokevirtual 43, 3) := by decide +kernel
theorem dX7_claimsOf_35 : decode cX7_claimsOf 35 = .ok (.if_icmp .ge 6, 3) := by decide +kernel
theorem dX7_claimsOf_38 : decode cX7_claimsOf 38 = .ok (.iinc 4 1, 3) := by decide +kernel
theorem dX7_claimsOf_41 : decode cX7_claimsOf 41 = .ok (.iinc 5 2, 3) := by decide +kernel
theorem dX7_claimsOf_44 : decode cX7_claimsOf 44 = .ok (.goto (-38), 3) := by decide +kernel
theorem dX7_claimsOf_47 : decode cX7_claimsOf 47 = .ok (.iload 4, 2) := by decide +kernel
theorem dX7_claimsOf_49 : decode cX7_claimsOf 49 = .ok (.ireturn, 1) := by decide +kernel
theorem dX7_leastMinutes_0 : decode cX7_leastMinutes 0 = .ok (.aload_n 0, 1) := by decide +kernel
theorem dX7_leastMinutes_1 : decode cX7_leastMinutes 1 = .ok (.aload_n 1, 1) := by decide +kernel
theorem dX7_leastMinutes_2 : decode cX7_leastMinutes 2 = .ok (.iload_n 2, 1) := by decide +kernel
theorem dX7_leastMinutes_3 : decode cX7_leastMinutes 3 = .ok (.invokevirtual 98, 3) := by decide +kernel
theorem dX7_leastMinutes_6 : decode cX7_leastMinutes 6 = .ok (.aload_n 0, 1) := by decide +kernel
theorem dX7_leastMinutes_7 : decode cX7_leastMinutes 7 = .ok (.getfield 18, 3) := by decide +kernel
theorem dX7_leastMinutes_10 : decode cX7_leastMinutes 10 = .ok (.iconst 0, 1) := by decide +kernel
theorem dX7_leastMinutes_11 : decode cX7_leastMinutes 11 = .ok (.invokestatic 71, 3) := by decide +kernel
theorem dX7_leastMinutes_14 : decode cX7_leastMinutes 14 = .ok (.istore_n 3, 1) := by decide +kernel
theorem dX7_leastMinutes_15 : decode cX7_leastMinutes 15 = .ok (.aload_n 0, 1) := by decide +kernel
theorem dX7_leastMinutes_16 : decode cX7_leastMinutes 16 = .ok (.getfield 18, 3) := by decide +kernel
theorem dX7_leastMinutes_19 : decode cX7_leastMinutes 19 = .ok (.iconst 1, 1) := by decide +kernel
theorem dX7_leastMinutes_20 : decode cX7_leastMinutes 20 = .ok (.invokestatic 71, 3) := by decide +kernel
theorem dX7_leastMinutes_23 : decode cX7_leastMinutes 23 = .ok (.istore 4, 2) := by decide +kernel
theorem dX7_leastMinutes_25 : decode cX7_leastMinutes 25 = .ok (.iconst 0, 1) := by decide +kernel
theorem dX7_leastMinutes_26 : decode cX7_leastMinutes 26 = .ok (.istore 5, 2) := by decide +kernel
theorem dX7_leastMinutes_28 : decode cX7_leastMinutes 28 = .ok (.iload_n 2, 1) := by decide +kernel
theorem dX7_leastMinutes_29 : decode cX7_leastMinutes 29 = .ok (.istore 6, 2) := by decide +kernel
theorem dX7_leastMinutes_31 : decode cX7_leastMinutes 31 = .ok (.iconst 0, 1) := by decide +kernel
theorem dX7_leastMinutes_32 : decode cX7_leastMinutes 32 = .ok (.istore 7, 2) := by decide +kernel
theorem dX7_leastMinutes_34 : decode cX7_leastMinutes 34 = .ok (.iload 7, 2) := by decide +kernel
theorem dX7_leastMinutes_36 : decode cX7_leastMinutes 36 = .ok (.bipush 10, 2) := by decide +kernel
theorem dX7_leastMinutes_38 : decode cX7_leastMinutes 38 = .ok (.if_icmp .ge 70, 3) := by decide +kernel
theorem dX7_leastMinutes_41 : decode cX7_leastMinutes 41 = .ok (.iload 6, 2) := by decide +kernel
theorem dX7_leastMinutes_43 : decode cX7_leastMinutes 43 = .ok (.iconst 3, 1) := by decide +kernel
theorem dX7_leastMinutes_44 : decode cX7_leastMinutes 44 = .ok (.if_icmp .le 64, 3) := by decide +kernel
theorem dX7_leastMinutes_47 : decode cX7_leastMinutes 47 = .ok (.aload_n 0, 1) := by decide +kernel
theorem dX7_leastMinutes_48 : decode cX7_leastMinutes 48 = .ok (.getfield 18, 3) := by decide +kernel
theorem dX7_leastMinutes_51 : decode cX7_leastMinutes 51 = .ok (.iload 6, 2) := by decide +kernel
theorem dX7_leastMinutes_53 : decode cX7_leastMinutes 53 = .ok (.iconst 1, 1) := by decide +kernel
theorem dX7_leastMinutes_54 : decode cX7_leastMinutes 54 = .ok (.isub, 1) := by decide +kernel
theorem dX7_leastMinutes_55 : decode cX7_leastMinutes 55 = .ok (.invokestatic 71, 3) := by decide +kernel
theorem dX7_leastMinutes_58 : decode cX7_leastMinutes 58 = .ok (.istore 8, 2) := by decide +kernel
theorem dX7_leastMinutes_60 : decode cX7_leastMinutes 60 = .ok (.aload_n 0, 1) := by decide +kernel
theorem dX7_leastMinutes_61 : decode cX7_leastMinutes 61 = .ok (.getfield 18, 3) := by decide +kernel
theorem dX7_leastMinutes_64 : decode cX7_leastMinutes 64 = .ok (.iload 6, 2) := by decide +kernel
theorem dX7_leastMinutes_66 : decode cX7_leastMinutes 66 = .ok (.iconst 2, 1) := by decide +kernel
theorem dX7_leastMinutes_67 : decode cX7_leastMinutes 67 = .ok (.isub, 1) := by decide +kernel
theorem dX7_leastMinutes_68 : decode cX7_leastMinutes 68 = .ok (.invokestatic 71, 3) := by decide +kernel
theorem dX7_leastMinutes_71 : decode cX7_leastMinutes 71 = .ok (.istore 9, 2) := by decide +kernel
theorem dX7_leastMinutes_73 : decode cX7_leastMinutes 73 = .ok (.iload 5, 2) := by decide +kernel
theorem dX7_leastMinutes_75 : decode cX7_leastMinutes 75 = .ok (.iload_n 3, 1) := by decide +kernel
theorem dX7_leastMinutes_76 : decode cX7_leastMinutes 76 = .ok (.iconst 2, 1) := by decide +kernel
theorem dX7_leastMinutes_77 : decode cX7_leastMinutes 77 = .ok (.iload 4, 2) := by decide +kernel
theorem dX7_leastMinutes_79 : decode cX7_leastMinutes 79 = .ok (.imul, 1) := by decide +kernel
theorem dX7_leastMinutes_80 : decode cX7_leastMinutes 80 = .ok (.iadd, 1) := by decide +kernel
theorem dX7_leastMinutes_81 : decode cX7_leastMinutes 81 = .ok (.iload 8, 2) := by decide +kernel
theorem dX7_leastMinutes_83 : decode cX7_leastMinutes 83 = .ok (.iadd, 1) := by decide +kernel
theorem dX7_leastMinutes_84 : decode cX7_leastMinutes 84 = .ok (.iconst 2, 1) := by decide +kernel
theorem dX7_leastMinutes_85 : decode cX7_leastMinutes 85 = .ok (.iload_n 3, 1) := by decide +kernel
theorem dX7_leastMinutes_86 : decode cX7_leastMinutes 86 = .ok (.imul, 1) := by decide +kernel
theorem dX7_leastMinutes_87 : decode cX7_leastMinutes 87 = .ok (.iload 9, 2) := by decide +kernel
theorem dX7_leastMinutes_89 : decode cX7_leastMinutes 89 = .ok (.iadd, 1) := by decide +kernel
theorem dX7_leastMinutes_90 : decode cX7_leastMinutes 90 = .ok (.iload 8, 2) := by decide +kernel
theorem dX7_leastMinutes_92 : decode cX7_leastMinutes 92 = .ok (.iadd, 1) := by decide +kernel
theorem dX7_leastMinutes_93 : decode cX7_leastMinutes 93 = .ok (.invokestatic 46, 3) := by decide +kernel
theorem dX7_leastMinutes_96 : decode cX7_leastMinutes 96 = .ok (.iadd, 1) := by decide +kernel
theorem dX7_leastMinutes_97 : decode cX7_leastMinutes 97 = .ok (.istore 5, 2) := by decide +kernel
theorem dX7_leastMinutes_99 : decode cX7_leastMinutes 99 = .ok (.iinc 6 (-2), 3) := by decide +kernel
theorem dX7_leastMinutes_102 : decode cX7_leastMinutes 102 = .ok (.iinc 7 1, 3) := by decide +kernel
theorem dX7_leastMinutes_105 : decode cX7_leastMinutes 105 = .ok (.goto (-71), 3) := by decide +kernel
theorem dX7_leastMinutes_108 : decode cX7_leastMinutes 108 = .ok (.iload 6, 2) := by decide +kernel
theorem dX7_leastMinutes_110 : decode cX7_leastMinutes 110 = .ok (.iconst 3, 1) := by decide +kernel
theorem dX7_leastMinutes_111 : decode cX7_leastMinutes 111 = .ok (.if_icmp .ne 20, 3) := by decide +kernel
theorem dX7_leastMinutes_114 : decode cX7_leastMinutes 114 = .ok (.iload 5, 2) := by decide +kernel
theorem dX7_leastMinutes_116 : decode cX7_leastMinutes 116 = .ok (.iload_n 3, 1) := by decide +kernel
theorem dX7_leastMinutes_117 : decode cX7_leastMinutes 117 = .ok (.iadd, 1) := by decide +kernel
theorem dX7_leastMinutes_118 : decode cX7_leastMinutes 118 = .ok (.iload 4, 2) := by decide +kernel
theorem dX7_leastMinutes_120 : decode cX7_leastMinutes 120 = .ok (.iadd, 1) := by decide +kernel
theorem dX7_leastMinutes_121 : decode cX7_leastMinutes 121 = .ok (.aload_n 0, 1) := by decide +kernel
theorem dX7_leastMinutes_122 : decode cX7_leastMinutes 122 = .ok (.getfield 18, 3) := by decide +kernel
theorem dX7_leastMinutes_125 : decode cX7_leastMinutes 125 = .ok (.iconst 2, 1) := by decide +kernel
theorem dX7_leastMinutes_126 : decode cX7_leastMinutes 126 = .ok (.invokestatic 71, 3) := by decide +kernel
theorem dX7_leastMinutes_129 : decode cX7_leastMinutes 129 = .ok (.iadd, 1) := by decide +kernel
theorem dX7_leastMinutes_130 : decode cX7_leastMinutes 130 = .ok (.ireturn, 1) := by decide +kernel
theorem dX7_leastMinutes_131 : decode cX7_leastMinutes 131 = .ok (.iload 5, 2) := by decide +kernel
theorem dX7_leastMinutes_133 : decode cX7_leastMinutes 133 = .ok (.iload 6, 2) := by decide +kernel
theorem dX7_leastMinutes_135 : decode cX7_leastMinutes 135 = .ok (.iconst 2, 1) := by decide +kernel
theorem dX7_leastMinutes_136 : decode cX7_leastMinutes 136 = .ok (.if_icmp .ne 8, 3) := by decide +kernel
theorem dX7_leastMinutes_139 : decode cX7_leastMinutes 139 = .ok (.iload 4, 2) := by decide +kernel
theorem dX7_leastMinutes_141 : decode cX7_leastMinutes 141 = .ok (.goto 4, 3) := by decide +kernel
theorem dX7_leastMinutes_144 : decode cX7_leastMinutes 144 = .ok (.iload_n 3, 1) := by decide +kernel
theorem dX7_leastMinutes_145 : decode cX7_leastMinutes 145 = .ok (.iadd, 1) := by decide +kernel
theorem dX7_leastMinutes_146 : decode cX7_leastMinutes 146 = .ok (.ireturn, 1) := by decide +kernel
theorem dX7_sortMinutes_0 : decode cX7_sortMinutes 0 = .ok (.iconst 0, 1) := by decide +kernel
theorem dX7_sortMinutes_1 : decode cX7_sortMinutes 1 = .ok (.istore_n 3, 1) := by decide +kernel
theorem dX7_sortMinutes_2 : decode cX7_sortMinutes 2 = .ok (.iload_n 3, 1) := by decide +kernel
theorem dX7_sortMinutes_3 : decode cX7_sortMinutes 3 = .ok (.iload_n 2, 1) := by decide +kernel
theorem dX7_sortMinutes_4 : decode cX7_sortMinutes 4 = .ok (.if_icmp .ge 84, 3) := by decide +kernel
theorem dX7_sortMinutes_7 : decode cX7_sortMinutes 7 = .ok (.aload_n 1, 1) := by decide +kernel
theorem dX7_sortMinutes_8 : decode cX7_sortMinutes 8 = .ok (.iload_n 3, 1) := by decide +kernel
theorem dX7_sortMinutes_9 : decode cX7_sortMinutes 9 = .ok (.invokevirtual 43, 3) := by decide +kernel
theorem dX7_sortMinutes_12 : decode cX7_sortMinutes 12 = .ok (.istore 4, 2) := by decide +kernel
theorem dX7_sortMinutes_14 : decode cX7_sortMinutes 14 = .ok (.iload_n 3, 1) := by decide +kernel
theorem dX7_sortMinutes_15 : decode cX7_sortMinutes 15 = .ok (.istore 5, 2) := by decide +kernel
theorem dX7_sortMinutes_17 : decode cX7_sortMinutes 17 = .ok (.iload_n 3, 1) := by decide +kernel
theorem dX7_sortMinutes_18 : decode cX7_sortMinutes 18 = .ok (.iconst 1, 1) := by decide +kernel
theorem dX7_sortMinutes_19 : decode cX7_sortMinutes 19 = .ok (.isub, 1) := by decide +kernel
theorem dX7_sortMinutes_20 : decode cX7_sortMinutes 20 = .ok (.istore 6, 2) := by decide +kernel
theorem dX7_sortMinutes_22 : decode cX7_sortMinutes 22 = .ok (.iload 6, 2) := by decide +kernel
theorem dX7_sortMinutes_24 : decode cX7_sortMinutes 24 = .ok (.ifCond .lt 47, 3) := by decide +kernel
theorem dX7_sortMinutes_27 : decode cX7_sortMinutes 27 = .ok (.aload_n 0, 1) := by decide +kernel
theorem dX7_sortMinutes_28 : decode cX7_sortMinutes 28 = .ok (.getfield 18, 3) := by decide +kernel
theorem dX7_sortMinutes_31 : decode cX7_sortMinutes 31 = .ok (.iload 6, 2) := by decide +kernel
theorem dX7_sortMinutes_33 : decode cX7_sortMinutes 33 = .ok (.invokestatic 71, 3) := by decide +kernel
theorem dX7_sortMinutes_36 : decode cX7_sortMinutes 36 = .ok (.iload 4, 2) := by decide +kernel
theorem dX7_sortMinutes_38 : decode cX7_sortMinutes 38 = .ok (.if_icmp .le 33, 3) := by decide +kernel
theorem dX7_sortMinutes_41 : decode cX7_sortMinutes 41 = .ok (.aload_n 0, 1) := by decide +kernel
theorem dX7_sortMinutes_42 : decode cX7_sortMinutes 42 = .ok (.getfield 18, 3) := by decide +kernel
theorem dX7_sortMinutes_45 : decode cX7_sortMinutes 45 = .ok (.iload 6, 2) := by decide +kernel
theorem dX7_sortMinutes_47 : decode cX7_sortMinutes 47 = .ok (.iconst 1, 1) := by decide +kernel
theorem dX7_sortMinutes_48 : decode cX7_sortMinutes 48 = .ok (.iadd, 1) := by decide +kernel
theorem dX7_sortMinutes_49 : decode cX7_sortMinutes 49 = .ok (.aload_n 0, 1) := by decide +kernel
theorem dX7_sortMinutes_50 : decode cX7_sortMinutes 50 = .ok (.getfield 18, 3) := by decide +kernel
theorem dX7_sortMinutes_53 : decode cX7_sortMinutes 53 = .ok (.iload 6, 2) := by decide +kernel
theorem dX7_sortMinutes_55 : decode cX7_sortMinutes 55 = .ok (.invokestatic 71, 3) := by decide +kernel
theorem dX7_sortMinutes_58 : decode cX7_sortMinutes 58 = .ok (.invokestatic 67, 3) := by decide +kernel
theorem dX7_sortMinutes_61 : decode cX7_sortMinutes 61 = .ok (.iload 6, 2) := by decide +kernel
theorem dX7_sortMinutes_63 : decode cX7_sortMinutes 63 = .ok (.istore 5, 2) := by decide +kernel
theorem dX7_sortMinutes_65 : decode cX7_sortMinutes 65 = .ok (.iinc 6 (-1), 3) := by decide +kernel
theorem dX7_sortMinutes_68 : decode cX7_sortMinutes 68 = .ok (.goto (-46), 3) := by decide +kernel
theorem dX7_sortMinutes_71 : decode cX7_sortMinutes 71 = .ok (.aload_n 0, 1) := by decide +kernel
theorem dX7_sortMinutes_72 : decode cX7_sortMinutes 72 = .ok (.getfield 18, 3) := by decide +kernel
theorem dX7_sortMinutes_75 : decode cX7_sortMinutes 75 = .ok (.iload 5, 2) := by decide +kernel
theorem dX7_sortMinutes_77 : decode cX7_sortMinutes 77 = .ok (.iload 4, 2) := by decide +kernel
theorem dX7_sortMinutes_79 : decode cX7_sortMinutes 79 = .ok (.invokestatic 67, 3) := by decide +kernel
theorem dX7_sortMinutes_82 : decode cX7_sortMinutes 82 = .ok (.iinc 3 1, 3) := by decide +kernel
theorem dX7_sortMinutes_85 : decode cX7_sortMinutes 85 = .ok (.goto (-83), 3) := by decide +kernel
theorem dX7_sortMinutes_88 : decode cX7_sortMinutes 88 = .ok (.return_, 1) := by decide +kernel
theorem dX7_weds_0 : decode cX7_weds 0 = .ok (.iconst 0, 1) := by decide +kernel
theorem dX7_weds_1 : decode cX7_weds 1 = .ok (.istore 4, 2) := by decide +kernel
theorem dX7_weds_3 : decode cX7_weds 3 = .ok (.iload 4, 2) := by decide +kernel
theorem dX7_weds_5 : decode cX7_weds 5 = .ok (.iload_n 2, 1) := by decide +kernel
theorem dX7_weds_6 : decode cX7_weds 6 = .ok (.if_icmp .ge 29, 3) := by decide +kernel
theorem dX7_weds_9 : decode cX7_weds 9 = .ok (.aload_n 0, 1) := by decide +kernel
theorem dX7_weds_10 : decode cX7_weds 10 = .ok (.getfield 21, 3) := by decide +kernel
theorem dX7_weds_13 : decode cX7_weds 13 = .ok (.iload 4, 2) := by decide +kernel
theorem dX7_weds_15 : decode cX7_weds 15 = .ok (.iconst 0, 1) := by decide +kernel
theorem dX7_weds_16 : decode cX7_weds 16 = .ok (.invokestatic 67, 3) := by decide +kernel
theorem dX7_weds_19 : decode cX7_weds 19 = .ok (.aload_n 0, 1) := by decide +kernel
theorem dX7_weds_20 : decode cX7_weds 20 = .ok (.getfield 24, 3) := by decide +kernel
theorem dX7_weds_23 : decode cX7_weds 23 = .ok (.iload 4, 2) := by decide +kernel
theorem dX7_weds_25 : decode cX7_weds 25 = .ok (.iconst (-1), 1) := by decide +kernel
theorem dX7_weds_26 : decode cX7_weds 26 = .ok (.invokestatic 67, 3) := by decide +kernel
theorem dX7_weds_29 : decode cX7_weds 29 = .ok (.iinc 4 1, 3) := by decide +kernel
theorem dX7_weds_32 : decode cX7_weds 32 = .ok (.goto (-29), 3) := by decide +kernel
theorem dX7_weds_35 : decode cX7_weds 35 = .ok (.iconst 0, 1) := by decide +kernel
theorem dX7_weds_36 : decode cX7_weds 36 = .ok (.istore 4, 2) := by decide +kernel
theorem dX7_weds_38 : decode cX7_weds 38 = .ok (.iconst 0, 1) := by decide +kernel
theorem dX7_weds_39 : decode cX7_weds 39 = .ok (.istore 5, 2) := by decide +kernel
theorem dX7_weds_41 : decode cX7_weds 41 = .ok (.iload 5, 2) := by decide +kernel
theorem dX7_weds_43 : decode cX7_weds 43 = .ok (.iconst 2, 1) := by decide +kernel
theorem dX7_weds_44 : decode cX7_weds 44 = .ok (.iload_n 2, 1) := by decide +kernel
theorem dX7_weds_45 : decode cX7_weds 45 = .ok (.imul, 1) := by decide +kernel
theorem dX7_weds_46 : decode cX7_weds 46 = .ok (.iload_n 2, 1) := by decide +kernel
theorem dX7_weds_47 : decode cX7_weds 47 = .ok (.imul, 1) := by decide +kernel
theorem dX7_weds_48 : decode cX7_weds 48 = .ok (.if_icmp .ge 103, 3) := by decide +kernel
theorem dX7_weds_51 : decode cX7_weds 51 = .ok (.iload 4, 2) := by decide +kernel
theorem dX7_weds_53 : decode cX7_weds 53 = .ok (.ifCond .lt 98, 3) := by decide +kernel
theorem dX7_weds_56 : decode cX7_weds 56 = .ok (.aload_n 1, 1) := by decide +kernel
theorem dX7_weds_57 : decode cX7_weds 57 = .ok (.iload 4, 2) := by decide +kernel
theorem dX7_weds_59 : decode cX7_weds 59 = .ok (.iload_n 2, 1) := by decide +kernel
theorem dX7_weds_60 : decode cX7_weds 60 = .ok (.imul, 1) := by decide +kernel
theorem dX7_weds_61 : decode cX7_weds 61 = .ok (.aload_n 0, 1) := by decide +kernel
theorem dX7_weds_62 : decode cX7_weds 62 = .ok (.getfield 21, 3) := by decide +kernel
theorem dX7_weds_65 : decode cX7_weds 65 = .ok (.iload 4, 2) := by decide +kernel
theorem dX7_weds_67 : decode cX7_weds 67 = .ok (.invokestatic 71, 3) := by decide +kernel
theorem dX7_weds_70 : decode cX7_weds 70 = .ok (.iadd, 1) := by decide +kernel
theorem dX7_weds_71 : decode cX7_weds 71 = .ok (.invokevirtual 43, 3) := by decide +kernel
theorem dX7_weds_74 : decode cX7_weds 74 = .ok (.istore 6, 2) := by decide +kernel
theorem dX7_weds_76 : decode cX7_weds 76 = .ok (.aload_n 0, 1) := by decide +kernel
theorem dX7_weds_77 : decode cX7_weds 77 = .ok (.getfield 21, 3) := by decide +kernel
theorem dX7_weds_80 : decode cX7_weds 80 = .ok (.iload 4, 2) := by decide +kernel
theorem dX7_weds_82 : decode cX7_weds 82 = .ok (.aload_n 0, 1) := by decide +kernel
theorem dX7_weds_83 : decode cX7_weds 83 = .ok (.getfield 21, 3) := by decide +kernel
theorem dX7_weds_86 : decode cX7_weds 86 = .ok (.iload 4, 2) := by decide +kernel
theorem dX7_weds_88 : decode cX7_weds 88 = .ok (.invokestatic 71, 3) := by decide +kernel
theorem dX7_weds_91 : decode cX7_weds 91 = .ok (.iconst 1, 1) := by decide +kernel
theorem dX7_weds_92 : decode cX7_weds 92 = .ok (.iadd, 1) := by decide +kernel
theorem dX7_weds_93 : decode cX7_weds 93 = .ok (.invokestatic 67, 3) := by decide +kernel
theorem dX7_weds_96 : decode cX7_weds 96 = .ok (.aload_n 0, 1) := by decide +kernel
theorem dX7_weds_97 : decode cX7_weds 97 = .ok (.getfield 24, 3) := by decide +kernel
theorem dX7_weds_100 : decode cX7_weds 100 = .ok (.iload 6, 2) := by decide +kernel
theorem dX7_weds_102 : decode cX7_weds 102 = .ok (.invokestatic 71, 3) := by decide +kernel
theorem dX7_weds_105 : decode cX7_weds 105 = .ok (.istore 7, 2) := by decide +kernel
theorem dX7_weds_107 : decode cX7_weds 107 = .ok (.iload 7, 2) := by decide +kernel
theorem dX7_weds_109 : decode cX7_weds 109 = .ok (.iconst (-1), 1) := by decide +kernel
theorem dX7_weds_110 : decode cX7_weds 110 = .ok (.if_icmp .eq 17, 3) := by decide +kernel
theorem dX7_weds_113 : decode cX7_weds 113 = .ok (.aload_n 1, 1) := by decide +kernel
theorem dX7_weds_114 : decode cX7_weds 114 = .ok (.iload_n 2, 1) := by decide +kernel
theorem dX7_weds_115 : decode cX7_weds 115 = .ok (.iload 6, 2) := by decide +kernel
theorem dX7_weds_117 : decode cX7_weds 117 = .ok (.iload 4, 2) := by decide +kernel
theorem dX7_weds_119 : decode cX7_weds 119 = .ok (.iload 7, 2) := by decide +kernel
theorem dX7_weds_121 : decode cX7_weds 121 = .ok (.invokestatic 102, 3) := by decide +kernel
theorem dX7_weds_124 : decode cX7_weds 124 = .ok (.ifCond .eq 14, 3) := by decide +kernel
theorem dX7_weds_127 : decode cX7_weds 127 = .ok (.aload_n 0, 1) := by decide +kernel
theorem dX7_weds_128 : decode cX7_weds 128 = .ok (.getfield 24, 3) := by decide +kernel
theorem dX7_weds_131 : decode cX7_weds 131 = .ok (.iload 6, 2) := by decide +kernel
theorem dX7_weds_133 : decode cX7_weds 133 = .ok (.iload 4, 2) := by decide +kernel
theorem dX7_weds_135 : decode cX7_weds 135 = .ok (.invokestatic 67, 3) := by decide +kernel
theorem dX7_weds_138 : decode cX7_weds 138 = .ok (.aload_n 0, 1) := by decide +kernel
theorem dX7_weds_139 : decode cX7_weds 139 = .ok (.iload_n 2, 1) := by decide +kernel
theorem dX7_weds_140 : decode cX7_weds 140 = .ok (.invokevirtual 106, 3) := by decide +kernel
theorem dX7_weds_143 : decode cX7_weds 143 = .ok (.istore 4, 2) := by decide +kernel
theorem dX7_weds_145 : decode cX7_weds 145 = .ok (.iinc 5 1, 3) := by decide +kernel
theorem dX7_weds_148 : decode cX7_weds 148 = .ok (.goto (-107), 3) := by decide +kernel
theorem dX7_weds_151 : decode cX7_weds 151 = .ok (.iconst 0, 1) := by decide +kernel
theorem dX7_weds_152 : decode cX7_weds 152 = .ok (.istore 5, 2) := by decide +kernel
theorem dX7_weds_154 : decode cX7_weds 154 = .ok (.iload 5, 2) := by decide +kernel
theorem dX7_weds_156 : decode cX7_weds 156 = .ok (.iload_n 2, 1) := by decide +kernel
theorem dX7_weds_157 : decode cX7_weds 157 = .ok (.if_icmp .ge 25, 3) := by decide +kernel
theorem dX7_weds_160 : decode cX7_weds 160 = .ok (.aload_n 0, 1) := by decide +kernel
theorem dX7_weds_161 : decode cX7_weds 161 = .ok (.getfield 24, 3) := by decide +kernel
theorem dX7_weds_164 : decode cX7_weds 164 = .ok (.iload 5, 2) := by decide +kernel
theorem dX7_weds_166 : decode cX7_weds 166 = .ok (.invokestatic 71, 3) := by decide +kernel
theorem dX7_weds_169 : decode cX7_weds 169 = .ok (.iload_n 3, 1) := by decide +kernel
theorem dX7_weds_170 : decode cX7_weds 170 = .ok (.if_icmp .ne 6, 3) := by decide +kernel
theorem dX7_weds_173 : decode cX7_weds 173 = .ok (.iload 5, 2) := by decide +kernel
theorem dX7_weds_175 : decode cX7_weds 175 = .ok (.ireturn, 1) := by decide +kernel
theorem dX7_weds_176 : decode cX7_weds 176 = .ok (.iinc 5 1, 3) := by decide +kernel
theorem dX7_weds_179 : decode cX7_weds 179 = .ok (.goto (-25), 3) := by decide +kernel
theorem dX7_weds_182 : decode cX7_weds 182 = .ok (.iconst (-1), 1) := by decide +kernel
theorem dX7_weds_183 : decode cX7_weds 183 = .ok (.ireturn, 1) := by decide +kernel
theorem dX7_firstSingle_0 : decode cX7_firstSingle 0 = .ok (.iconst 0, 1) := by decide +kernel
theorem dX7_firstSingle_1 : decode cX7_firstSingle 1 = .ok (.istore_n 2, 1) := by decide +kernel
theorem dX7_firstSingle_2 : decode cX7_firstSingle 2 = .ok (.iconst 0, 1) := by decide +kernel
theorem dX7_firstSingle_3 : decode cX7_firstSingle 3 = .ok (.istore_n 3, 1) := by decide +kernel
theorem dX7_firstSingle_4 : decode cX7_firstSingle 4 = .ok (.iload_n 3, 1) := by decide +kernel
theorem dX7_firstSingle_5 : decode cX7_firstSingle 5 = .ok (.iload_n 1, 1) := by decide +kernel
theorem dX7_firstSingle_6 : decode cX7_firstSingle 6 = .ok (.if_icmp .ge 33, 3) := by decide +kernel
theorem dX7_firstSingle_9 : decode cX7_firstSingle 9 = .ok (.aload_n 0, 1) := by decide +kernel
theorem dX7_firstSingle_10 : decode cX7_firstSingle 10 = .ok (.getfield 24, 3) := by decide +kernel
theorem dX7_firstSingle_13 : decode cX7_firstSingle 13 = .ok (.iload_n 3, 1) := by decide +kernel
theorem dX7_firstSingle_14 : decode cX7_firstSingle 14 = .ok (.invokestatic 71, 3) := by decide +kernel
theorem dX7_firstSingle_17 : decode cX7_firstSingle 17 = .ok (.ifCond .lt 16, 3) := by decide +kernel
theorem dX7_firstSingle_20 : decode cX7_firstSingle 20 = .ok (.iload_n 2, 1) := by decide +kernel
theorem dX7_firstSingle_21 : decode cX7_firstSingle 21 = .ok (.iconst 1, 1) := by decide +kernel
theorem dX7_firstSingle_22 : decode cX7_firstSingle 22 = .ok (.aload_n 0, 1) := by decide +kernel
theorem dX7_firstSingle_23 : decode cX7_firstSingle 23 = .ok (.getfield 24, 3) := by decide +kernel
theorem dX7_firstSingle_26 : decode cX7_firstSingle 26 = .ok (.iload_n 3, 1) := by decide +kernel
theorem dX7_firstSingle_27 : decode cX7_firstSingle 27 = .ok (.invokestatic 71, 3) := by decide +kernel
theorem dX7_firstSingle_30 : decode cX7_firstSingle 30 = .ok (.ishl, 1) := by decide +kernel
theorem dX7_firstSingle_31 : decode cX7_firstSingle 31 = .ok (.ior, 1) := by decide +kernel
theorem dX7_firstSingle_32 : decode cX7_firstSingle 32 = .ok (.istore_n 2, 1) := by decide +kernel
theorem dX7_firstSingle_33 : decode cX7_firstSingle 33 = .ok (.iinc 3 1, 3) := by decide +kernel
theorem dX7_firstSingle_36 : decode cX7_firstSingle 36 = .ok (.goto (-32), 3) := by decide +kernel
theorem dX7_firstSingle_39 : decode cX7_firstSingle 39 = .ok (.iconst 0, 1) := by decide +kernel
theorem dX7_firstSingle_40 : decode cX7_firstSingle 40 = .ok (.istore_n 3, 1) := by decide +kernel
theorem dX7_firstSingle_41 : decode cX7_firstSingle 41 = .ok (.iload_n 3, 1) := by decide +kernel
theorem dX7_firstSingle_42 : decode cX7_firstSingle 42 = .ok (.iload_n 1, 1) := by decide +kernel
theorem dX7_firstSingle_43 : decode cX7_firstSingle 43 = .ok (.if_icmp .ge 19, 3) := by decide +kernel
theorem dX7_firstSingle_46 : decode cX7_firstSingle 46 = .ok (.iload_n 2, 1) := by decide +kernel
theorem dX7_firstSingle_47 : decode cX7_firstSingle 47 = .ok (.iload_n 3, 1) := by decide +kernel
theorem dX7_firstSingle_48 : decode cX7_firstSingle 48 = .ok (.ishr, 1) := by decide +kernel
theorem dX7_firstSingle_49 : decode cX7_firstSingle 49 = .ok (.iconst 1, 1) := by decide +kernel
theorem dX7_firstSingle_50 : decode cX7_firstSingle 50 = .ok (.iand, 1) := by decide +kernel
theorem dX7_firstSingle_51 : decode cX7_firstSingle 51 = .ok (.ifCond .ne 5, 3) := by decide +kernel
theorem dX7_firstSingle_54 : decode cX7_firstSingle 54 = .ok (.iload_n 3, 1) := by decide +kernel
theorem dX7_firstSingle_55 : decode cX7_firstSingle 55 = .ok (.ireturn, 1) := by decide +kernel
theorem dX7_firstSingle_56 : decode cX7_firstSingle 56 = .ok (.iinc 3 1, 3) := by decide +kernel
theorem dX7_firstSingle_59 : decode cX7_firstSingle 59 = .ok (.goto (-18), 3) := by decide +kernel
theorem dX7_firstSingle_62 : decode cX7_firstSingle 62 = .ok (.iconst (-1), 1) := by decide +kernel
theorem dX7_firstSingle_63 : decode cX7_firstSingle 63 = .ok (.ireturn, 1) := by decide +kernel
theorem dX7_likes_0 : decode cX7_likes 0 = .ok (.iconst 0, 1) := by decide +kernel
theorem dX7_likes_1 : decode cX7_likes 1 = .ok (.istore 5, 2) := by decide +kernel
theorem dX7_likes_3 : decode cX7_likes 3 = .ok (.iload 5, 2) := by decide +kernel
theorem dX7_likes_5 : decode cX7_likes 5 = .ok (.iload_n 1, 1) := by decide +kernel
theorem dX7_likes_6 : decode cX7_likes 6 = .ok (.if_icmp .ge 50, 3) := by decide +kernel
theorem dX7_likes_9 : decode cX7_likes 9 = .ok (.aload_n 0, 1) := by decide +kernel
theorem dX7_likes_10 : decode cX7_likes 10 = .ok (.iload_n 1, 1) := by decide +kernel
theorem dX7_likes_11 : decode cX7_likes 11 = .ok (.iload_n 1, 1) := by decide +kernel
theorem dX7_likes_12 : decode cX7_likes 12 = .ok (.imul, 1) := by decide +kernel
theorem dX7_likes_13 : decode cX7_likes 13 = .ok (.iload_n 2, 1) := by decide +kernel
theorem dX7_likes_14 : decode cX7_likes 14 = .ok (.iload_n 1, 1) := by decide +kernel
theorem dX7_likes_15 : decode cX7_likes 15 = .ok (.imul, 1) := by decide +kernel
theorem dX7_likes_16 : decode cX7_likes 16 = .ok (.iadd, 1) := by decide +kernel
theorem dX7_likes_17 : decode cX7_likes 17 = .ok (.iload 5, 2) := by decide +kernel
theorem dX7_likes_19 : decode cX7_likes 19 = .ok (.iadd, 1) := by decide +kernel
theorem dX7_likes_20 : decode cX7_likes 20 = .ok (.invokevirtual 43, 3) := by decide +kernel
theorem dX7_likes_23 : decode cX7_likes 23 = .ok (.istore 6, 2) := by decide +kernel
theorem dX7_likes_25 : decode cX7_likes 25 = .ok (.iload 6, 2) := by decide +kernel
theorem dX7_likes_27 : decode cX7_likes 27 = .ok (.iload_n 3, 1) := by decide +kernel
theorem dX7_likes_28 : decode cX7_likes 28 = .ok (.if_icmp .eq 10, 3) := by decide +kernel
theorem dX7_likes_31 : decode cX7_likes 31 = .ok (.iload 6, 2) := by decide +kernel
theorem dX7_likes_33 : decode cX7_likes 33 = .ok (.iload 4, 2) := by decide +kernel
theorem dX7_likes_35 : decode cX7_likes 35 = .ok (.if_icmp .ne 15, 3) := by decide +kernel
theorem dX7_likes_38 : decode cX7_likes 38 = .ok (.iload 6, 2) := by decide +kernel
theorem dX7_likes_40 : decode cX7_likes 40 = .ok (.iload_n 3, 1) := by decide +kernel
theorem dX7_likes_41 : decode cX7_likes 41 = .ok (.if_icmp .ne 7, 3) := by decide +kernel
theorem dX7_likes_44 : decode cX7_likes 44 = .ok (.iconst 1, 1) := by decide +kernel
theorem dX7_likes_45 : decode cX7_likes 45 = .ok (.goto 4, 3) := by decide +kernel
theorem dX7_likes_48 : decode cX7_likes 48 = .ok (.iconst 0, 1) := by decide +kernel
theorem dX7_likes_49 : decode cX7_likes 49 = .ok (.ireturn, 1) := by decide +kernel
theorem dX7_likes_50 : decode cX7_likes 50 = .ok (.iinc 5 1, 3) := by decide +kernel
theorem dX7_likes_53 : decode cX7_likes 53 = .ok (.goto (-50), 3) := by decide +kernel
theorem dX7_likes_56 : decode cX7_likes 56 = .ok (.iconst 0, 1) := by decide +kernel
theorem dX7_likes_57 : decode cX7_likes 57 = .ok (.ireturn, 1) := by decide +kernel
theorem dX7_mixtures_0 : decode cX7_mixtures 0 = .ok (.iconst 0, 1) := by decide +kernel
theorem dX7_mixtures_1 : decode cX7_mixtures 1 = .ok (.istore_n 2, 1) := by decide +kernel
theorem dX7_mixtures_2 : decode cX7_mixtures 2 = .ok (.iconst 0, 1) := by decide +kernel
theorem dX7_mixtures_3 : decode cX7_mixtures 3 = .ok (.istore_n 3, 1) := by decide +kernel
theorem dX7_mixtures_4 : decode cX7_mixtures 4 = .ok (.iload_n 3, 1) := by decide +kernel
theorem dX7_mixtures_5 : decode cX7_mixtures 5 = .ok (.iconst 1, 1) := by decide +kernel
theorem dX7_mixtures_6 : decode cX7_mixtures 6 = .ok (.iload_n 0, 1) := by decide +kernel
theorem dX7_mixtures_7 : decode cX7_mixtures 7 = .ok (.ishl, 1) := by decide +kernel
theorem dX7_mixtures_8 : decode cX7_mixtures 8 = .ok (.if_icmp .ge 26, 3) := by decide +kernel
theorem dX7_mixtures_11 : decode cX7_mixtures 11 = .ok (.iload_n 2, 1) := by decide +kernel
theorem dX7_mixtures_12 : decode cX7_mixtures 12 = .ok (.iload_n 3, 1) := by decide +kernel
theorem dX7_mixtures_13 : decode cX7_mixtures 13 = .ok (.iload_n 0, 1) := by decide +kernel
theorem dX7_mixtures_14 : decode cX7_mixtures 14 = .ok (.invokestatic 109, 3) := by decide +kernel
theorem dX7_mixtures_17 : decode cX7_mixtures 17 = .ok (.iload_n 1, 1) := by decide +kernel
theorem dX7_mixtures_18 : decode cX7_mixtures 18 = .ok (.if_icmp .gt 7, 3) := by decide +kernel
theorem dX7_mixtures_21 : decode cX7_mixtures 21 = .ok (.iconst 1, 1) := by decide +kernel
theorem dX7_mixtures_22 : decode cX7_mixtures 22 = .ok (.goto 4, 3) := by decide +kernel
theorem dX7_mixtures_25 : decode cX7_mixtures 25 = .ok (.iconst 0, 1) := by decide +kernel
theorem dX7_mixtures_26 : decode cX7_mixtures 26 = .ok (.iadd, 1) := by decide +kernel
theorem dX7_mixtures_27 : decode cX7_mixtures 27 = .ok (.istore_n 2, 1) := by decide +kernel
theorem dX7_mixtures_28 : decode cX7_mixtures 28 = .ok (.iinc 3 1, 3) := by decide +kernel
theorem dX7_mixtures_31 : decode cX7_mixtures 31 = .ok (.goto (-27), 3) := by decide +kernel
theorem dX7_mixtures_34 : decode cX7_mixtures 34 = .ok (.iload_n 2, 1) := by decide +kernel
theorem dX7_mixtures_35 : decode cX7_mixtures 35 = .ok (.ireturn, 1) := by decide +kernel
theorem dX7_leastMixture_0 : decode cX7_leastMixture 0 = .ok (.iconst 0, 1) := by decide +kernel
theorem dX7_leastMixture_1 : decode cX7_leastMixture 1 = .ok (.istore_n 2, 1) := by decide +kernel
theorem dX7_leastMixture_2 : decode cX7_leastMixture 2 = .ok (.iload_n 2, 1) := by decide +kernel
theorem dX7_leastMixture_3 : decode cX7_leastMixture 3 = .ok (.iconst 1, 1) := by decide +kernel
theorem dX7_leastMixture_4 : decode cX7_leastMixture 4 = .ok (.iload_n 0, 1) := by decide +kernel
theorem dX7_leastMixture_5 : decode cX7_leastMixture 5 = .ok (.ishl, 1) := by decide +kernel
theorem dX7_leastMixture_6 : decode cX7_leastMixture 6 = .ok (.if_icmp .ge 20, 3) := by decide +kernel
theorem dX7_leastMixture_9 : decode cX7_leastMixture 9 = .ok (.iload_n 2, 1) := by decide +kernel
theorem dX7_leastMixture_10 : decode cX7_leastMixture 10 = .ok (.iload_n 0, 1) := by decide +kernel
theorem dX7_leastMixture_11 : decode cX7_leastMixture 11 = .ok (.invokestatic 109, 3) := by decide +kernel
theorem dX7_leastMixture_14 : decode cX7_leastMixture 14 = .ok (.iload_n 1, 1) := by decide +kernel
theorem dX7_leastMixture_15 : decode cX7_leastMixture 15 = .ok (.if_icmp .gt 5, 3) := by decide +kernel
theorem dX7_leastMixture_18 : decode cX7_leastMixture 18 = .ok (.iload_n 2, 1) := by decide +kernel
theorem dX7_leastMixture_19 : decode cX7_leastMixture 19 = .ok (.ireturn, 1) := by decide +kernel
theorem dX7_leastMixture_20 : decode cX7_leastMixture 20 = .ok (.iinc 2 1, 3) := by decide +kernel
theorem dX7_leastMixture_23 : decode cX7_leastMixture 23 = .ok (.goto (-21), 3) := by decide +kernel
theorem dX7_leastMixture_26 : decode cX7_leastMixture 26 = .ok (.bipush (-2), 2) := by decide +kernel
theorem dX7_leastMixture_28 : decode cX7_leastMixture 28 = .ok (.ireturn, 1) := by decide +kernel
theorem dX7_longestRun_0 : decode cX7_longestRun 0 = .ok (.iconst 1, 1) := by decide +kernel
theorem dX7_longestRun_1 : decode cX7_longestRun 1 = .ok (.istore_n 2, 1) := by decide +kernel
theorem dX7_longestRun_2 : decode cX7_longestRun 2 = .ok (.iconst 1, 1) := by decide +kernel
theorem dX7_longestRun_3 : decode cX7_longestRun 3 = .ok (.istore_n 3, 1) := by decide +kernel
theorem dX7_longestRun_4 : decode cX7_longestRun 4 = .ok (.iconst 1, 1) := by decide +kernel
theorem dX7_longestRun_5 : decode cX7_longestRun 5 = .ok (.istore 4, 2) := by decide +kernel
theorem dX7_longestRun_7 : decode cX7_longestRun 7 = .ok (.iload 4, 2) := by decide +kernel
theorem dX7_longestRun_9 : decode cX7_longestRun 9 = .ok (.iload_n 1, 1) := by decide +kernel
theorem dX7_longestRun_10 : decode cX7_longestRun 10 = .ok (.if_icmp .ge 40, 3) := by decide +kernel
theorem dX7_longestRun_13 : decode cX7_longestRun 13 = .ok (.iload_n 0, 1) := by decide +kernel
theorem dX7_longestRun_14 : decode cX7_longestRun 14 = .ok (.iload 4, 2) := by decide +kernel
theorem dX7_longestRun_16 : decode cX7_longestRun 16 = .ok (.ishr, 1) := by decide +kernel
theorem dX7_longestRun_17 : decode cX7_longestRun 17 = .ok (.iconst 1, 1) := by decide +kernel
theorem dX7_longestRun_18 : decode cX7_longestRun 18 = .ok (.iand, 1) := by decide +kernel
theorem dX7_longestRun_19 : decode cX7_longestRun 19 = .ok (.iload_n 0, 1) := by decide +kernel
theorem dX7_longestRun_20 : decode cX7_longestRun 20 = .ok (.iload 4, 2) := by decide +kernel
theorem dX7_longestRun_22 : decode cX7_longestRun 22 = .ok (.iconst 1, 1) := by decide +kernel
theorem dX7_longestRun_23 : decode cX7_longestRun 23 = .ok (.isub, 1) := by decide +kernel
theorem dX7_longestRun_24 : decode cX7_longestRun 24 = .ok (.ishr, 1) := by decide +kernel
theorem dX7_longestRun_25 : decode cX7_longestRun 25 = .ok (.iconst 1, 1) := by decide +kernel
theorem dX7_longestRun_26 : decode cX7_longestRun 26 = .ok (.iand, 1) := by decide +kernel
theorem dX7_longestRun_27 : decode cX7_longestRun 27 = .ok (.if_icmp .ne 9, 3) := by decide +kernel
theorem dX7_longestRun_30 : decode cX7_longestRun 30 = .ok (.iload_n 3, 1) := by decide +kernel
theorem dX7_longestRun_31 : decode cX7_longestRun 31 = .ok (.iconst 1, 1) := by decide +kernel
theorem dX7_longestRun_32 : decode cX7_longestRun 32 = .ok (.iadd, 1) := by decide +kernel
theorem dX7_longestRun_33 : decode cX7_longestRun 33 = .ok (.goto 4, 3) := by decide +kernel
theorem dX7_longestRun_36 : decode cX7_longestRun 36 = .ok (.iconst 1, 1) := by decide +kernel
theorem dX7_longestRun_37 : decode cX7_longestRun 37 = .ok (.istore_n 3, 1) := by decide +kernel
theorem dX7_longestRun_38 : decode cX7_longestRun 38 = .ok (.iload_n 2, 1) := by decide +kernel
theorem dX7_longestRun_39 : decode cX7_longestRun 39 = .ok (.iload_n 3, 1) := by decide +kernel
theorem dX7_longestRun_40 : decode cX7_longestRun 40 = .ok (.invokestatic 83, 3) := by decide +kernel
theorem dX7_longestRun_43 : decode cX7_longestRun 43 = .ok (.istore_n 2, 1) := by decide +kernel
theorem dX7_longestRun_44 : decode cX7_longestRun 44 = .ok (.iinc 4 1, 3) := by decide +kernel
theorem dX7_longestRun_47 : decode cX7_longestRun 47 = .ok (.goto (-40), 3) := by decide +kernel
theorem dX7_longestRun_50 : decode cX7_longestRun 50 = .ok (.iload_n 2, 1) := by decide +kernel
theorem dX7_longestRun_51 : decode cX7_longestRun 51 = .ok (.ireturn, 1) := by decide +kernel
theorem dX7_yearsTillPaid_0 : decode cX7_yearsTillPaid 0 = .ok (.iload_n 0, 1) := by decide +kernel
theorem dX7_yearsTillPaid_1 : decode cX7_yearsTillPaid 1 = .ok (.istore_n 3, 1) := by decide +kernel
theorem dX7_yearsTillPaid_2 : decode cX7_yearsTillPaid 2 = .ok (.iconst 0, 1) := by decide +kernel
theorem dX7_yearsTillPaid_3 : decode cX7_yearsTillPaid 3 = .ok (.istore 4, 2) := by decide +kernel
theorem dX7_yearsTillPaid_5 : decode cX7_yearsTillPaid 5 = .ok (.iload 4, 2) := by decide +kernel
theorem dX7_yearsTillPaid_7 : decode cX7_yearsTillPaid 7 = .ok (.sipush 200, 3) := by decide +kernel
theorem dX7_yearsTillPaid_10 : decode cX7_yearsTillPaid 10 = .ok (.if_icmp .gt 43, 3) := by decide +kernel
theorem dX7_yearsTillPaid_13 : decode cX7_yearsTillPaid 13 = .ok (.iload_n 3, 1) := by decide +kernel
theorem dX7_yearsTillPaid_14 : decode cX7_yearsTillPaid 14 = .ok (.ifCond .gt 6, 3) := by decide +kernel
theorem dX7_yearsTillPaid_17 : decode cX7_yearsTillPaid 17 = .ok (.iload 4, 2) := by decide +kernel
theorem dX7_yearsTillPaid_19 : decode cX7_yearsTillPaid 19 = .ok (.ireturn, 1) := by decide +kernel
theorem dX7_yearsTillPaid_20 : decode cX7_yearsTillPaid 20 = .ok (.iload_n 3, 1) := by decide +kernel
theorem dX7_yearsTillPaid_21 : decode cX7_yearsTillPaid 21 = .ok (.iload_n 3, 1) := by decide +kernel
theorem dX7_yearsTillPaid_22 : decode cX7_yearsTillPaid 22 = .ok (.iload_n 2, 1) := by decide +kernel
theorem dX7_yearsTillPaid_23 : decode cX7_yearsTillPaid 23 = .ok (.imul, 1) := by decide +kernel
theorem dX7_yearsTillPaid_24 : decode cX7_yearsTillPaid 24 = .ok (.bipush 99, 2) := by decide +kernel
theorem dX7_yearsTillPaid_26 : decode cX7_yearsTillPaid 26 = .ok (.iadd, 1) := by decide +kernel
theorem dX7_yearsTillPaid_27 : decode cX7_yearsTillPaid 27 = .ok (.bipush 100, 2) := by decide +kernel
theorem dX7_yearsTillPaid_29 : decode cX7_yearsTillPaid 29 = .ok (.idiv, 1) := by decide +kernel
theorem dX7_yearsTillPaid_30 : decode cX7_yearsTillPaid 30 = .ok (.iadd, 1) := by decide +kernel
theorem dX7_yearsTillPaid_31 : decode cX7_yearsTillPaid 31 = .ok (.iload_n 1, 1) := by decide +kernel
theorem dX7_yearsTillPaid_32 : decode cX7_yearsTillPaid 32 = .ok (.isub, 1) := by decide +kernel
theorem dX7_yearsTillPaid_33 : decode cX7_yearsTillPaid 33 = .ok (.istore 5, 2) := by decide +kernel
theorem dX7_yearsTillPaid_35 : decode cX7_yearsTillPaid 35 = .ok (.iload 5, 2) := by decide +kernel
theorem dX7_yearsTillPaid_37 : decode cX7_yearsTillPaid 37 = .ok (.iload_n 3, 1) := by decide +kernel
theorem dX7_yearsTillPaid_38 : decode cX7_yearsTillPaid 38 = .ok (.if_icmp .lt 6, 3) := by decide +kernel
theorem dX7_yearsTillPaid_41 : decode cX7_yearsTillPaid 41 = .ok (.bipush (-2), 2) := by decide +kernel
theorem dX7_yearsTillPaid_43 : decode cX7_yearsTillPaid 43 = .ok (.ireturn, 1) := by decide +kernel
theorem dX7_yearsTillPaid_44 : decode cX7_yearsTillPaid 44 = .ok (.iload 5, 2) := by decide +kernel
theorem dX7_yearsTillPaid_46 : decode cX7_yearsTillPaid 46 = .ok (.istore_n 3, 1) := by decide +kernel
theorem dX7_yearsTillPaid_47 : decode cX7_yearsTillPaid 47 = .ok (.iinc 4 1, 3) := by decide +kernel
theorem dX7_yearsTillPaid_50 : decode cX7_yearsTillPaid 50 = .ok (.goto (-45), 3) := by decide +kernel
theorem dX7_yearsTillPaid_53 : decode cX7_yearsTillPaid 53 = .ok (.bipush (-2), 2) := by decide +kernel
theorem dX7_yearsTillPaid_55 : decode cX7_yearsTillPaid 55 = .ok (.ireturn, 1) := by decide +kernel
theorem dX8_init_0 : decode cX8_init 0 = .ok (.aload_n 0, 1) := by decide +kernel
theorem dX8_init_1 : decode cX8_init 1 = .ok (.invokespecial 3, 3) := by decide +kernel
theorem dX8_init_4 : decode cX8_init 4 = .ok (.aload_n 0, 1) := by decide +kernel
theorem dX8_init_5 : decode cX8_init 5 = .ok (.bipush 40, 2) := by decide +kernel
theorem dX8_init_7 : decode cX8_init 7 = .ok (.newarray .int, 2) := by decide +kernel
theorem dX8_init_9 : decode cX8_init 9 = .ok (.putfield 9, 3) := by decide +kernel
theorem dX8_init_12 : decode cX8_init 12 = .ok (.aload_n 0, 1) := by decide +kernel
theorem dX8_init_13 : decode cX8_init 13 = .ok (.iconst 1, 1) := by decide +kernel
theorem dX8_init_14 : decode cX8_init 14 = .ok (.putfield 15, 3) := by decide +kernel
theorem dX8_init_17 : decode cX8_init 17 = .ok (.return_, 1) := by decide +kernel
theorem dX8_copy_0 : decode cX8_copy 0 = .ok (.aload_n 0, 1) := by decide +kernel
theorem dX8_copy_1 : decode cX8_copy 1 = .ok (.aload_n 1, 1) := by decide +kernel
theorem dX8_copy_2 : decode cX8_copy 2 = .ok (.getfield 19, 3) := by decide +kernel
theorem dX8_copy_5 : decode cX8_copy 5 = .ok (.putfield 19, 3) := by decide +kernel
theorem dX8_copy_8 : decode cX8_copy 8 = .ok (.aload_n 0, 1) := by decide +kernel
theorem dX8_copy_9 : decode cX8_copy 9 = .ok (.aload_n 1, 1) := by decide +kernel
theorem dX8_copy_10 : decode cX8_copy 10 = .ok (.getfield 22, 3) := by decide +kernel
theorem dX8_copy_13 : decode cX8_copy 13 = .ok (.putfield 22, 3) := by decide +kernel
theorem dX8_copy_16 : decode cX8_copy 16 = .ok (.aload_n 1, 1) := by decide +kernel
theorem dX8_copy_17 : decode cX8_copy 17 = .ok (.getfield 9, 3) := by decide +kernel
theorem dX8_copy_20 : decode cX8_copy 20 = .ok (.iconst 0, 1) := by decide +kernel
theorem dX8_copy_21 : decode cX8_copy 21 = .ok (.aload_n 0, 1) := by decide +kernel
theorem dX8_copy_22 : decode cX8_copy 22 = .ok (.getfield 9, 3) := by decide +kernel
theorem dX8_copy_25 : decode cX8_copy 25 = .ok (.iconst 0, 1) := by decide +kernel
theorem dX8_copy_26 : decode cX8_copy 26 = .ok (.bipush 40, 2) := by decide +kernel
theorem dX8_copy_28 : decode cX8_copy 28 = .ok (.invokestatic 25, 3) := by decide +kernel
theorem dX8_copy_31 : decode cX8_copy 31 = .ok (.aload_n 0, 1) := by decide +kernel
theorem dX8_copy_32 : decode cX8_copy 32 = .ok (.aload_n 1, 1) := by decide +kernel
theorem dX8_copy_33 : decode cX8_copy 33 = .ok (.getfield 31, 3) := by decide +kernel
theorem dX8_copy_36 : decode cX8_copy 36 = .ok (.putfield 31, 3) := by decide +kernel
theorem dX8_copy_39 : decode cX8_copy 39 = .ok (.aload_n 0, 1) := by decide +kernel
theorem dX8_copy_40 : decode cX8_copy 40 = .ok (.aload_n 1, 1) := by decide +kernel
theorem dX8_copy_41 : decode cX8_copy 41 = .ok (.getfield 34, 3) := by decide +kernel
theorem dX8_copy_44 : decode cX8_copy 44 = .ok (.putfield 34, 3) := by decide +kernel
theorem dX8_copy_47 : decode cX8_copy 47 = .ok (.aload_n 0, 1) := by decide +kernel
theorem dX8_copy_48 : decode cX8_copy 48 = .ok (.aload_n 1, 1) := by decide +kernel
theorem dX8_copy_49 : decode cX8_copy 49 = .ok (.getfield 37, 3) := by decide +kernel
theorem dX8_copy_52 : decode cX8_copy 52 = .ok (.putfield 37, 3) := by decide +kernel
theorem dX8_copy_55 : decode cX8_copy 55 = .ok (.aload_n 0, 1) := by decide +kernel
theorem dX8_copy_56 : decode cX8_copy 56 = .ok (.aload_n 1, 1) := by decide +kernel
theorem dX8_copy_57 : decode cX8_copy 57 = .ok (.getfield 40, 3) := by decide +kernel
theorem dX8_copy_60 : decode cX8_copy 60 = .ok (.putfield 40, 3) := by decide +kernel
theorem dX8_copy_63 : decode cX8_copy 63 = .ok (.aload_n 0, 1) := by decide +kernel
theorem dX8_copy_64 : decode cX8_copy 64 = .ok (.aload_n 1, 1) := by decide +kernel
theorem dX8_copy_65 : decode cX8_copy 65 = .ok (.getfield 15, 3) := by decide +kernel
theorem dX8_copy_68 : decode cX8_copy 68 = .ok (.putfield 15, 3) := by decide +kernel
theorem dX8_copy_71 : decode cX8_copy 71 = .ok (.return_, 1) := by decide +kernel
theorem dX8_laidOn_0 : decode cX8_laidOn 0 = .ok (.iload_n 1, 1) := by decide +kernel
theorem dX8_laidOn_1 : decode cX8_laidOn 1 = .ok (.ifCond .ne 10, 3) := by decide +kernel
theorem dX8_laidOn_4 : decode cX8_laidOn 4 = .ok (.aload_n 0, 1) := by decide +kernel
theorem dX8_laidOn_5 : decode cX8_laidOn 5 = .ok (.getfield 19, 3) := by decide +kernel
theorem dX8_laidOn_8 : decode cX8_laidOn 8 = .ok (.goto 7, 3) := by decide +kernel
theorem dX8_laidOn_11 : decode cX8_laidOn 11 = .ok (.aload_n 0, 1) := by decide +kernel
theorem dX8_laidOn_12 : decode cX8_laidOn 12 = .ok (.getfield 22, 3) := by decide +kernel
theorem dX8_laidOn_15 : decode cX8_laidOn 15 = .ok (.ireturn, 1) := by decide +kernel
theorem dX8_setLaid_0 : decode cX8_setLaid 0 = .ok (.iload_n 1, 1) := by decide +kernel
theorem dX8_setLaid_1 : decode cX8_setLaid 1 = .ok (.ifCond .ne 11, 3) := by decide +kernel
theorem dX8_setLaid_4 : decode cX8_setLaid 4 = .ok (.aload_n 0, 1) := by decide +kernel
theorem dX8_setLaid_5 : decode cX8_setLaid 5 = .ok (.iload_n 2, 1) := by decide +kernel
theorem dX8_setLaid_6 : decode cX8_setLaid 6 = .ok (.putfield 19, 3) := by decide +kernel
theorem dX8_setLaid_9 : decode cX8_setLaid 9 = .ok (.goto 8, 3) := by decide +kernel
theorem dX8_setLaid_12 : decode cX8_setLaid 12 = .ok (.aload_n 0, 1) := by decide +kernel
theorem dX8_setLaid_13 : decode cX8_setLaid 13 = .ok (.iload_n 2, 1) := by decide +kernel
theorem dX8_setLaid_14 : decode cX8_setLaid 14 = .ok (.putfield 22, 3) := by decide +kernel
theorem dX8_setLaid_17 : decode cX8_setLaid 17 = .ok (.return_, 1) := by decide +kernel
theorem dX8_lay_0 : decode cX8_lay 0 = .ok (.aload_n 0, 1) := by decide +kernel
theorem dX8_lay_1 : decode cX8_lay 1 = .ok (.iload_n 1, 1) := by decide +kernel
theorem dX8_lay_2 : decode cX8_lay 2 = .ok (.aload_n 0, 1) := by decide +kernel
theorem dX8_lay_3 : decode cX8_lay 3 = .ok (.iload_n 1, 1) := by decide +kernel
theorem dX8_lay_4 : decode cX8_lay 4 = .ok (.invokevirtual 43, 3) := by decide +kernel
theorem dX8_lay_7 : decode cX8_lay 7 = .ok (.iload_n 2, 1) := by decide +kernel
theorem dX8_lay_8 : decode cX8_lay 8 = .ok (.iadd, 1) := by decide +kernel
theorem dX8_lay_9 : decode cX8_lay 9 = .ok (.sipush 9999, 3) := by decide +kernel
theorem dX8_lay_12 : decode cX8_lay 12 = .ok (.invokestatic 47, 3) := by decide +kernel
theorem dX8_lay_15 : decode cX8_lay 15 = .ok (.invokevirtual 51, 3) := by decide +kernel
theorem dX8_lay_18 : decode cX8_lay 18 = .ok (.return_, 1) := by decide +kernel
theorem dX8_benchAt_0 : decode cX8_benchAt 0 = .ok (.aload_n 0, 1) := by decide +kernel
theorem dX8_benchAt_1 : decode cX8_benchAt 1 = .ok (.getfield 9, 3) := by decide +kernel
theorem dX8_benchAt_4 : decode cX8_benchAt 4 = .ok (.iload_n 1, 1) := by decide +kernel
theorem dX8_benchAt_5 : decode cX8_benchAt 5 = .ok (.bipush 20, 2) := by decide +kernel
theorem dX8_benchAt_7 : decode cX8_benchAt 7 = .ok (.imul, 1) := by decide +kernel
theorem dX8_benchAt_8 : decode cX8_benchAt 8 = .ok (.iload_n 2, 1) := by decide +kernel
theorem dX8_benchAt_9 : decode cX8_benchAt 9 = .ok (.iadd, 1) := by decide +kernel
theorem dX8_benchAt_10 : decode cX8_benchAt 10 = .ok (.iconst 1, 1) := by decide +kernel
theorem dX8_benchAt_11 : decode cX8_benchAt 11 = .ok (.isub, 1) := by decide +kernel
theorem dX8_benchAt_12 : decode cX8_benchAt 12 = .ok (.invokestatic 55, 3) := by decide +kernel
theorem dX8_benchAt_15 : decode cX8_benchAt 15 = .ok (.ireturn, 1) := by decide +kernel
theorem dX8_putBench_0 : decode cX8_putBench 0 = .ok (.aload_n 0, 1) := by decide +kernel
theorem dX8_putBench_1 : decode cX8_putBench 1 = .ok (.getfield 9, 3) := by decide +kernel
theorem dX8_putBench_4 : decode cX8_putBench 4 = .ok (.iload_n 1, 1) := by decide +kernel
theorem dX8_putBench_5 : decode cX8_putBench 5 = .ok (.bipush 20, 2) := by decide +kernel
theorem dX8_putBench_7 : decode cX8_putBench 7 = .ok (.imul, 1) := by decide +kernel
theorem dX8_putBench_8 : decode cX8_putBench 8 = .ok (.iload_n 2, 1) := by decide +kernel
theorem dX8_putBench_9 : decode cX8_putBench 9 = .ok (.iadd, 1) := by decide +kernel
theorem dX8_putBench_10 : decode cX8_putBench 10 = .ok (.iconst 1, 1) := by decide +kernel
theorem dX8_putBench_11 : decode cX8_putBench 11 = .ok (.isub, 1) := by decide +kernel
theorem dX8_putBench_12 : decode cX8_putBench 12 = .ok (.iload_n 3, 1) := by decide +kernel
theorem dX8_putBench_13 : decode cX8_putBench 13 = .ok (.invokestatic 59, 3) := by decide +kernel
theorem dX8_putBench_16 : decode cX8_putBench 16 = .ok (.return_, 1) := by decide +kernel
theorem dX8_addStore_0 : decode cX8_addStore 0 = .ok (.aload_n 0, 1) := by decide +kernel
theorem dX8_addStore_1 : decode cX8_addStore 1 = .ok (.aload_n 0, 1) := by decide +kernel
theorem dX8_addStore_2 : decode cX8_addStore 2 = .ok (.getfield 31, 3) := by decide +kernel
theorem dX8_addStore_5 : decode cX8_addStore 5 = .ok (.iload_n 1, 1) := by decide +kernel
theorem dX8_addStore_6 : decode cX8_addStore 6 = .ok (.iadd, 1) := by decide +kernel
theorem dX8_addStore_7 : decode cX8_addStore 7 = .ok (.ldc 63, 2) := by decide +kernel
theorem dX8_addStore_9 : decode cX8_addStore 9 = .ok (.invokestatic 47, 3) := by decide +kernel
theorem dX8_addStore_12 : decode cX8_addStore 12 = .ok (.putfield 31, 3) := by decide +kernel
theorem dX8_addStore_15 : decode cX8_addStore 15 = .ok (.return_, 1) := by decide +kernel
theorem dX8_addDebt_0 : decode cX8_addDebt 0 = .ok (.aload_n 0, 1) := by decide +kernel
theorem dX8_addDebt_1 : decode cX8_addDebt 1 = .ok (.aload_n 0, 1) := by decide +kernel
theorem dX8_addDebt_2 : decode cX8_addDebt 2 = .ok (.getfield 34, 3) := by decide +kernel
theorem dX8_addDebt_5 : decode cX8_addDebt 5 = .ok (.iload_n 1, 1) := by decide +kernel
theorem dX8_addDebt_6 : decode cX8_addDebt 6 = .ok (.iadd, 1) := by decide +kernel
theorem dX8_addDebt_7 : decode cX8_addDebt 7 = .ok (.ldc 64, 2) := by decide +kernel
theorem dX8_addDebt_9 : decode cX8_addDebt 9 = .ok (.invokestatic 47, 3) := by decide +kernel
theorem dX8_addDebt_12 : decode cX8_addDebt 12 = .ok (.putfield 34, 3) := by decide +kernel
theorem dX8_addDebt_15 : decode cX8_addDebt 15 = .ok (.return_, 1) := by decide +kernel
theorem dX8_nextDraw_0 : decode cX8_nextDraw 0 = .ok (.aload_n 0, 1) := by decide +kernel
theorem dX8_nextDraw_1 : decode cX8_nextDraw 1 = .ok (.sipush 25173, 3) := by decide +kernel
theorem dX8_nextDraw_4 : decode cX8_nextDraw 4 = .ok (.aload_n 0, 1) := by decide +kernel
theorem dX8_nextDraw_5 : decode cX8_nextDraw 5 = .ok (.getfield 15, 3) := by decide +kernel
theorem dX8_nextDraw_8 : decode cX8_nextDraw 8 = .ok (.imul, 1) := by decide +kernel
theorem dX8_nextDraw_9 : decode cX8_nextDraw 9 = .ok (.sipush 13849, 3) := by decide +kernel
theorem dX8_nextDraw_12 : decode cX8_nextDraw 12 = .ok (.iadd, 1) := by decide +kernel
theorem dX8_nextDraw_13 : decode cX8_nextDraw 13 = .ok (.ldc 65, 2) := by decide +kernel
theorem dX8_nextDraw_15 : decode cX8_nextDraw 15 = .ok (.irem, 1) := by decide +kernel
theorem dX8_nextDraw_16 : decode cX8_nextDraw 16 = .ok (.putfield 15, 3) := by decide +kernel
theorem dX8_nextDraw_19 : decode cX8_nextDraw 19 = .ok (.aload_n 0, 1) := by decide +kernel
theorem dX8_nextDraw_20 : decode cX8_nextDraw 20 = .ok (.getfield 15, 3) := by decide +kernel
theorem dX8_nextDraw_23 : decode cX8_nextDraw 23 = .ok (.bipush 10, 2) := by decide +kernel
theorem dX8_nextDraw_25 : decode cX8_nextDraw 25 = .ok (.irem, 1) := by decide +kernel
theorem dX8_nextDraw_26 : decode cX8_nextDraw 26 = .ok (.ireturn, 1) := by decide +kernel
theorem dX8_bounded_0 : decode cX8_bounded 0 = .ok (.iconst 0, 1) := by decide +kernel
theorem dX8_bounded_1 : decode cX8_bounded 1 = .ok (.iload_n 0, 1) := by decide +kernel
theorem dX8_bounded_2 : decode cX8_bounded 2 = .ok (.iload_n 1, 1) := by decide +kernel
theorem dX8_bounded_3 : decode cX8_bounded 3 = .ok (.invokestatic 66, 3) := by decide +kernel
theorem dX8_bounded_6 : decode cX8_bounded 6 = .ok (.invokestatic 71, 3) := by decide +kernel
theorem dX8_bounded_9 : decode cX8_bounded 9 = .ok (.ireturn, 1) := by decide +kernel
theorem dX9_init_0 : decode cX9_init 0 = .ok (.aload_n 0, 1) := by decide +kernel
theorem dX9_init_1 : decode cX9_init 1 = .ok (.invokespecial 3, 3) := by decide +kernel
theorem dX9_init_4 : decode cX9_init 4 = .ok (.aload_n 0, 1) := by decide +kernel
theorem dX9_init_5 : decode cX9_init 5 = .ok (.sipush 240, 3) := by decide +kernel
theorem dX9_init_8 : decode cX9_init 8 = .ok (.newarray .int, 2) := by decide +kernel
theorem dX9_init_10 : decode cX9_init 10 = .ok (.putfield 9, 3) := by decide +kernel
theorem dX9_init_13 : decode cX9_init 13 = .ok (.return_, 1) := by decide +kernel
theorem dX9_begin_0 : decode cX9_begin 0 = .ok (.aload_n 0, 1) := by decide +kernel
theorem dX9_begin_1 : decode cX9_begin 1 = .ok (.iconst 0, 1) := by decide +kernel
theorem dX9_begin_2 : decode cX9_begin 2 = .ok (.iload_n 2, 1) := by decide +kernel
theorem dX9_begin_3 : decode cX9_begin 3 = .ok (.aload_n 1, 1) := by decide +kernel
theorem dX9_begin_4 : decode cX9_begin 4 = .ok (.arraylength, 1) := by decide +kernel
theorem dX9_begin_5 : decode cX9_begin 5 = .ok (.aload_n 0, 1) := by decide +kernel
theorem dX9_begin_6 : decode cX9_begin 6 = .ok (.getfield 9, 3) := by decide +kernel
theorem dX9_begin_9 : decode cX9_begin 9 = .ok (.arraylength, 1) := by decide +kernel
theorem dX9_begin_10 : decode cX9_begin 10 = .ok (.invokestatic 15, 3) := by decide +kernel
theorem dX9_begin_13 : decode cX9_begin 13 = .ok (.invokestatic 15, 3) := by decide +kernel
theorem dX9_begin_16 : decode cX9_begin 16 = .ok (.invokestatic 21, 3) := by decide +kernel
theorem dX9_begin_19 : decode cX9_begin 19 = .ok (.putfield 24, 3) := by decide +kernel
theorem dX9_begin_22 : decode cX9_begin 22 = .ok (.aload_n 1, 1) := by decide +kernel
theorem dX9_begin_23 : decode cX9_begin 23 = .ok (.iconst 0, 1) := by decide +kernel
theorem dX9_begin_24 : decode cX9_begin 24 = .ok (.aload_n 0, 1) := by decide +kernel
theorem dX9_begin_25 : decode cX9_begin 25 = .ok (.getfield 9, 3) := by decide +kernel
theorem dX9_begin_28 : decode cX9_begin 28 = .ok (.iconst 0, 1) := by decide +kernel
theorem dX9_begin_29 : decode cX9_begin 29 = .ok (.aload_n 0, 1) := by decide +kernel
theorem dX9_begin_30 : decode cX9_begin 30 = .ok (.getfield 24, 3) := by decide +kernel
theorem dX9_begin_33 : decode cX9_begin 33 = .ok (.invokestatic 28, 3) := by decide +kernel
theorem dX9_begin_36 : decode cX9_begin 36 = .ok (.aload_n 0, 1) := by decide +kernel
theorem dX9_begin_37 : decode cX9_begin 37 = .ok (.iconst 0, 1) := by decide +kernel
theorem dX9_begin_38 : decode cX9_begin 38 = .ok (.putfield 34, 3) := by decide +kernel
theorem dX9_begin_41 : decode cX9_begin 41 = .ok (.aload_n 0, 1) := by decide +kernel
theorem dX9_begin_42 : decode cX9_begin 42 = .ok (.iconst 0, 1) := by decide +kernel
theorem dX9_begin_43 : decode cX9_begin 43 = .ok (.putfield 37, 3) := by decide +kernel
theorem dX9_begin_46 : decode cX9_begin 46 = .ok (.return_, 1) := by decide +kernel
theorem dX9_at_0 : decode cX9_at 0 = .ok (.iload_n 1, 1) := by decide +kernel
theorem dX9_at_1 : decode cX9_at 1 = .ok (.ifCond .lt 29, 3) := by decide +kernel
theorem dX9_at_4 : decode cX9_at 4 = .ok (.iload_n 1, 1) := by decide +kernel
theorem dX9_at_5 : decode cX9_at 5 = .ok (.aload_n 0, 1) := by decide +kernel
theorem dX9_at_6 : decode cX9_at 6 = .ok (.getfield 24, 3) := by decide +kernel
theorem dX9_at_9 : decode cX9_at 9 = .ok (.if_icmp .ge 21, 3) := by decide +kernel
theorem dX9_at_12 : decode cX9_at 12 = .ok (.iload_n 1, 1) := by decide +kernel
theorem dX9_at_13 : decode cX9_at 13 = .ok (.aload_n 0, 1) := by decide +kernel
theorem dX9_at_14 : decode cX9_at 14 = .ok (.getfield 9, 3) := by decide +kernel
theorem dX9_at_17 : decode cX9_at 17 = .ok (.arraylength, 1) := by decide +kernel
theorem dX9_at_18 : decode cX9_at 18 = .ok (.if_icmp .ge 12, 3) := by decide +kernel
theorem dX9_at_21 : decode cX9_at 21 = .ok (.aload_n 0, 1) := by decide +kernel
theorem dX9_at_22 : decode cX9_at 22 = .ok (.getfield 9, 3) := by decide +kernel
theorem dX9_at_25 : decode cX9_at 25 = .ok (.iload_n 1, 1) := by decide +kernel
theorem dX9_at_26 : decode cX9_at 26 = .ok (.iaload, 1) := by decide +kernel
theorem dX9_at_27 : decode cX9_at 27 = .ok (.goto 4, 3) := by decide +kernel
theorem dX9_at_30 : decode cX9_at 30 = .ok (.iconst (-1), 1) := by decide +kernel
theorem dX9_at_31 : decode cX9_at 31 = .ok (.ireturn, 1) := by decide +kernel
theorem dX9_sign_0 : decode cX9_sign 0 = .ok (.aload_n 0, 1) := by decide +kernel
theorem dX9_sign_1 : decode cX9_sign 1 = .ok (.aload_n 0, 1) := by decide +kernel
theorem dX9_sign_2 : decode cX9_sign 2 = .ok (.getfield 34, 3) := by decide +kernel
theorem dX9_sign_5 : decode cX9_sign 5 = .ok (.invokevirtual 40, 3) := by decide +kernel
theorem dX9_sign_8 : decode cX9_sign 8 = .ok (.ireturn, 1) := by decide +kernel
theorem dX9_sound_0 : decode cX9_sound 0 = .ok (.aload_n 0, 1) := by decide +kernel
theorem dX9_sound_1 : decode cX9_sound 1 = .ok (.getfield 37, 3) := by decide +kernel
theorem dX9_sound_4 : decode cX9_sound 4 = .ok (.ifCond .ne 7, 3) := by decide +kernel
theorem dX9_sound_7 : decode cX9_sound 7 = .ok (.iconst 1, 1) := by decide +kernel
theorem dX9_sound_8 : decode cX9_sound 8 = .ok (.goto 4, 3) := by decide +kernel
theorem dX9_sound_11 : decode cX9_sound 11 = .ok (.iconst 0, 1) := by decide +kernel
theorem dX9_sound_12 : decode cX9_sound 12 = .ok (.ireturn, 1) := by decide +kernel
theorem dX9_digit_0 : decode cX9_digit 0 = .ok (.aload_n 0, 1) := by decide +kernel
theorem dX9_digit_1 : decode cX9_digit 1 = .ok (.aload_n 0, 1) := by decide +kernel
theorem dX9_digit_2 : decode cX9_digit 2 = .ok (.getfield 34, 3) := by decide +kernel
theorem dX9_digit_5 : decode cX9_digit 5 = .ok (.invokevirtual 40, 3) := by decide +kernel
theorem dX9_digit_8 : decode cX9_digit 8 = .ok (.istore_n 1, 1) := by decide +kernel
theorem dX9_digit_9 : decode cX9_digit 9 = .ok (.iload_n 1, 1) := by decide +kernel
theorem dX9_digit_10 : decode cX9_digit 10 = .ok (.bipush 48, 2) := by decide +kernel
theorem dX9_digit_12 : decode cX9_digit 12 = .ok (.if_icmp .lt 13, 3) := by decide +kernel
theorem dX9_digit_15 : decode cX9_digit 15 = .ok (.iload_n 1, 1) := by decide +kernel
theorem dX9_digit_16 : decode cX9_digit 16 = .ok (.bipush 57, 2) := by decide +kernel
theorem dX9_digit_18 : decode cX9_digit 18 = .ok (.if_icmp .gt 7, 3) := by decide +kernel
theorem dX9_digit_21 : decode cX9_digit 21 = .ok (.iconst 1, 1) := by decide +kernel
theorem dX9_digit_22 : decode cX9_digit 22 = .ok (.goto 4, 3) := by decide +kernel
theorem dX9_digit_25 : decode cX9_digit 25 = .ok (.iconst 0, 1) := by decide +kernel
theorem dX9_digit_26 : decode cX9_digit 26 = .ok (.ireturn, 1) := by decide +kernel
theorem dX9_refuse_0 : decode cX9_refuse 0 = .ok (.aload_n 0, 1) := by decide +kernel
theorem dX9_refuse_1 : decode cX9_refuse 1 = .ok (.getfield 37, 3) := by decide +kernel
theorem dX9_refuse_4 : decode cX9_refuse 4 = .ok (.ifCond .ne 14, 3) := by decide +kernel
theorem dX9_refuse_7 : decode cX9_refuse 7 = .ok (.aload_n 0, 1) := by decide +kernel
theorem dX9_refuse_8 : decode cX9_refuse 8 = .ok (.sipush (-1000), 3) := by decide +kernel
theorem dX9_refuse_11 : decode cX9_refuse 11 = .ok (.iload_n 1, 1) := by decide +kernel
theorem dX9_refuse_12 : decode cX9_refuse 12 = .ok (.imul, 1) := by decide +kernel
theorem dX9_refuse_13 : decode cX9_refuse 13 = .ok (.iload_n 2, 1) := by decide +kernel
theorem dX9_refuse_14 : decode cX9_refuse 14 = .ok (.isub, 1) := by decide +kernel
theorem dX9_refuse_15 : decode cX9_refuse 15 = .ok (.putfield 37, 3) := by decide +kernel
theorem dX9_refuse_18 : decode cX9_refuse 18 = .ok (.return_, 1) := by decide +kernel
theorem dX9_pass_0 : decode cX9_pass 0 = .ok (.aload_n 0, 1) := by decide +kernel
theorem dX9_pass_1 : decode cX9_pass 1 = .ok (.invokevirtual 44, 3) := by decide +kernel
theorem dX9_pass_4 : decode cX9_pass 4 = .ok (.ifCond .eq 24, 3) := by decide +kernel
theorem dX9_pass_7 : decode cX9_pass 7 = .ok (.aload_n 0, 1) := by decide +kernel
theorem dX9_pass_8 : decode cX9_pass 8 = .ok (.invokevirtual 48, 3) := by decide +kernel
theorem dX9_pass_11 : decode cX9_pass 11 = .ok (.iload_n 1, 1) := by decide +kernel
theorem dX9_pass_12 : decode cX9_pass 12 = .ok (.if_icmp .ne 16, 3) := by decide +kernel
theorem dX9_pass_15 : decode cX9_pass 15 = .ok (.aload_n 0, 1) := by decide +kernel
theorem dX9_pass_16 : decode cX9_pass 16 = .ok (.dup, 1) := by decide +kernel
theorem dX9_pass_17 : decode cX9_pass 17 = .ok (.getfield 34, 3) := by decide +kernel
theorem dX9_pass_20 : decode cX9_pass 20 = .ok (.iconst 1, 1) := by decide +kernel
theorem dX9_pass_21 : decode cX9_pass 21 = .ok (.iadd, 1) := by decide +kernel
theorem dX9_pass_22 : decode cX9_pass 22 = .ok (.putfield 34, 3) := by decide +kernel
theorem dX9_pass_25 : decode cX9_pass 25 = .ok (.goto 12, 3) := by decide +kernel
theorem dX9_pass_28 : decode cX9_pass 28 = .ok (.aload_n 0, 1) := by decide +kernel
theorem dX9_pass_29 : decode cX9_pass 29 = .ok (.iconst 1, 1) := by decide +kernel
theorem dX9_pass_30 : decode cX9_pass 30 = .ok (.aload_n 0, 1) := by decide +kernel
theorem dX9_pass_31 : decode cX9_pass 31 = .ok (.getfield 34, 3) := by decide +kernel
theorem dX9_pass_34 : decode cX9_pass 34 = .ok (.invokevirtual 52, 3) := by decide +kernel
theorem dX9_pass_37 : decode cX9_pass 37 = .ok (.return_, 1) := by decide +kernel
theorem dX9_either_0 : decode cX9_either 0 = .ok (.aload_n 0, 1) := by decide +kernel
theorem dX9_either_1 : decode cX9_either 1 = .ok (.aload_n 0, 1) := by decide +kernel
theorem dX9_either_2 : decode cX9_either 2 = .ok (.getfield 34, 3) := by decide +kernel
theorem dX9_either_5 : decode cX9_either 5 = .ok (.invokevirtual 40, 3) := by decide +kernel
theorem dX9_either_8 : decode cX9_either 8 = .ok (.istore 4, 2) := by decide +kernel
theorem dX9_either_10 : decode cX9_either 10 = .ok (.aload_n 0, 1) := by decide +kernel
theorem dX9_either_11 : decode cX9_either 11 = .ok (.invokevirtual 44, 3) := by decide +kernel
theorem dX9_either_14 : decode cX9_either 14 = .ok (.ifCond .eq 21, 3) := by decide +kernel
theorem dX9_either_17 : decode cX9_either 17 = .ok (.iload 4, 2) := by decide +kernel
theorem dX9_either_19 : decode cX9_either 19 = .ok (.iload_n 1, 1) := by decide +kernel
theorem dX9_either_20 : decode cX9_either 20 = .ok (.if_icmp .eq 17, 3) := by decide +kernel
theorem dX9_either_23 : decode cX9_either 23 = .ok (.iload 4, 2) := by decide +kernel
theorem dX9_either_25 : decode cX9_either 25 = .ok (.iload_n 2, 1) := by decide +kernel
theorem dX9_either_26 : decode cX9_either 26 = .ok (.if_icmp .eq 11, 3) := by decide +kernel
theorem dX9_either_29 : decode cX9_either 29 = .ok (.iload 4, 2) := by decide +kernel
theorem dX9_either_31 : decode cX9_either 31 = .ok (.iload_n 3, 1) := by decide +kernel
theorem dX9_either_32 : decode cX9_either 32 = .ok (.if_icmp .eq 5, 3) := by decide +kernel
theorem dX9_either_35 : decode cX9_either 35 = .ok (.iconst 0, 1) := by decide +kernel
theorem dX9_either_36 : decode cX9_either 36 = .ok (.ireturn, 1) := by decide +kernel
theorem dX9_either_37 : decode cX9_either 37 = .ok (.aload_n 0, 1) := by decide +kernel
theorem dX9_either_38 : decode cX9_either 38 = .ok (.dup, 1) := by decide +kernel
theorem dX9_either_39 : decode cX9_either 39 = .ok (.getfield 34, 3) := by decide +kernel
theorem dX9_either_42 : decode cX9_either 42 = .ok (.iconst 1, 1) := by decide +kernel
theorem dX9_either_43 : decode cX9_either 43 = .ok (.iadd, 1) := by decide +kernel
theorem dX9_either_44 : decode cX9_either 44 = .ok (.putfield 34, 3) := by decide +kernel
theorem dX9_either_47 : decode cX9_either 47 = .ok (.iload 4, 2) := by decide +kernel
theorem dX9_either_49 : decode cX9_either 49 = .ok (.ireturn, 1) := by decide +kernel
theorem dX9_goesOn_0 : decode cX9_goesOn 0 = .ok (.aload_n 0, 1) := by decide +kernel
theorem dX9_goesOn_1 : decode cX9_goesOn 1 = .ok (.iload_n 1, 1) := by decide +kernel
theorem dX9_goesOn_2 : decode cX9_goesOn 2 = .ok (.iload_n 1, 1) := by decide +kernel
theorem dX9_goesOn_3 : decode cX9_goesOn 3 = .ok (.iload_n 1, 1) := by decide +kernel
theorem dX9_goesOn_4 : decode cX9_goesOn 4 = .ok (.invokevirtual 56, 3) := by decide +kernel
theorem dX9_goesOn_7 : decode cX9_goesOn 7 = .ok (.ifCond .eq 7, 3) := by decide +kernel
theorem dX9_goesOn_10 : decode cX9_goesOn 10 = .ok (.iconst 1, 1) := by decide +kernel
theorem dX9_goesOn_11 : decode cX9_goesOn 11 = .ok (.goto 4, 3) := by decide +kernel
theorem dX9_goesOn_14 : decode cX9_goesOn 14 = .ok (.iconst 0, 1) := by decide +kernel
theorem dX9_goesOn_15 : decode cX9_goesOn 15 = .ok (.ireturn, 1) := by decide +kernel
theorem dX9_mustEnd_0 : decode cX9_mustEnd 0 = .ok (.aload_n 0, 1) := by decide +kernel
theorem dX9_mustEnd_1 : decode cX9_mustEnd 1 = .ok (.getfield 34, 3) := by decide +kernel
theorem dX9_mustEnd_4 : decode cX9_mustEnd 4 = .ok (.aload_n 0, 1) := by decide +kernel
theorem dX9_mustEnd_5 : decode cX9_mustEnd 5 = .ok (.getfield 24, 3) := by decide +kernel
theorem dX9_mustEnd_8 : decode cX9_mustEnd 8 = .ok (.if_icmp .ge 12, 3) := by decide +kernel
theorem dX9_mustEnd_11 : decode cX9_mustEnd 11 = .ok (.aload_n 0, 1) := by decide +kernel
theorem dX9_mustEnd_12 : decode cX9_mustEnd 12 = .ok (.iconst 1, 1) := by decide +kernel
theorem dX9_mustEnd_13 : decode cX9_mustEnd 13 = .ok (.aload_n 0, 1) := by decide +kernel
theorem dX9_mustEnd_14 : decode cX9_mustEnd 14 = .ok (.getfield 34, 3) := by decide +kernel
theorem dX9_mustEnd_17 : decode cX9_mustEnd 17 = .ok (.invokevirtual 52, 3) := by decide +kernel
theorem dX9_mustEnd_20 : decode cX9_mustEnd 20 = .ok (.return_, 1) := by decide +kernel
theorem dX9_readNumber_0 : decode cX9_readNumber 0 = .ok (.aload_n 0, 1) := by decide +kernel
theorem dX9_readNumber_1 : decode cX9_readNumber 1 = .ok (.invokevirtual 60, 3) := by decide +kernel
theorem dX9_readNumber_4 : decode cX9_readNumber 4 = .ok (.ifCond .ne 14, 3) := by decide +kernel
theorem dX9_readNumber_7 : decode cX9_readNumber 7 = .ok (.aload_n 0, 1) := by decide +kernel
theorem dX9_readNumber_8 : decode cX9_readNumber 8 = .ok (.iconst 1, 1) := by decide +kernel
theorem dX9_readNumber_9 : decode cX9_readNumber 9 = .ok (.aload_n 0, 1) := by decide +kernel
theorem dX9_readNumber_10 : decode cX9_readNumber 10 = .ok (.getfield 34, 3) := by decide +kernel
theorem dX9_readNumber_13 : decode cX9_readNumber 13 = .ok (.invokevirtual 52, 3) := by decide +kernel
theorem dX9_readNumber_16 : decode cX9_readNumber 16 = .ok (.iconst 0, 1) := by decide +kernel
theorem dX9_readNumber_17 : decode cX9_readNumber 17 = .ok (.ireturn, 1) := by decide +kernel
theorem dX9_readNumber_18 : decode cX9_readNumber 18 = .ok (.iconst 0, 1) := by decide +kernel
theorem dX9_readNumber_19 : decode cX9_readNumber 19 = .ok (.istore_n 2, 1) := by decide +kernel
theorem dX9_readNumber_20 : decode cX9_readNumber 20 = .ok (.iconst 0, 1) := by decide +kernel
theorem dX9_readNumber_21 : decode cX9_readNumber 21 = .ok (.istore_n 3, 1) := by decide +kernel
theorem dX9_readNumber_22 : decode cX9_readNumber 22 = .ok (.iload_n 3, 1) := by decide +kernel
theorem dX9_readNumber_23 : decode cX9_readNumber 23 = .ok (.iload_n 1, 1) := by decide +kernel
theorem dX9_readNumber_24 : decode cX9_readNumber 24 = .ok (.if_icmp .ge 43, 3) := by decide +kernel
theorem dX9_readNumber_27 : decode cX9_readNumber 27 = .ok (.aload_n 0, 1) := by decide +kernel
theorem dX9_readNumber_28 : decode cX9_readNumber 28 = .ok (.invokevirtual 60, 3) := by decide +kernel
theorem dX9_readNumber_31 : decode cX9_readNumber 31 = .ok (.ifCond .eq 36, 3) := by decide +kernel
theorem dX9_readNumber_34 : decode cX9_readNumber 34 = .ok (.iload_n 2, 1) := by decide +kernel
theorem dX9_readNumber_35 : decode cX9_readNumber 35 = .ok (.bipush 10, 2) := by decide +kernel
theorem dX9_readNumber_37 : decode cX9_readNumber 37 = .ok (.imul, 1) := by decide +kernel
theorem dX9_readNumber_38 : decode cX9_readNumber 38 = .ok (.aload_n 0, 1) := by decide +kernel
theorem dX9_readNumber_39 : decode cX9_readNumber 39 = .ok (.aload_n 0, 1) := by decide +kernel
theorem dX9_readNumber_40 : decode cX9_readNumber 40 = .ok (.getfield 34, 3) := by decide +kernel
theorem dX9_readNumber_43 : decode cX9_readNumber 43 = .ok (.invokevirtual 40, 3) := by decide +kernel
theorem dX9_readNumber_46 : decode cX9_readNumber 46 = .ok (.iadd, 1) := by decide +kernel
theorem dX9_readNumber_47 : decode cX9_readNumber 47 = .ok (.bipush 48, 2) := by decide +kernel
theorem dX9_readNumber_49 : decode cX9_readNumber 49 = .ok (.isub, 1) := by decide +kernel
theorem dX9_readNumber_50 : decode cX9_readNumber 50 = .ok (.istore_n 2, 1) := by decide +kernel
theorem dX9_readNumber_51 : decode cX9_readNumber 51 = .ok (.aload_n 0, 1) := by decide +kernel
theorem dX9_readNumber_52 : decode cX9_readNumber 52 = .ok (.dup, 1) := by decide +kernel
theorem dX9_readNumber_53 : decode cX9_readNumber 53 = .ok (.getfield 34, 3) := by decide +kernel
theorem dX9_readNumber_56 : decode cX9_readNumber 56 = .ok (.iconst 1, 1) := by decide +kernel
theorem dX9_readNumber_57 : decode cX9_readNumber 57 = .ok (.iadd, 1) := by decide +kernel
theorem dX9_readNumber_58 : decode cX9_readNumber 58 = .ok (.putfield 34, 3) := by decide +kernel
theorem dX9_readNumber_61 : decode cX9_readNumber 61 = .ok (.iinc 3 1, 3) := by decide +kernel
theorem dX9_readNumber_64 : decode cX9_readNumber 64 = .ok (.goto (-42), 3) := by decide +kernel
theorem dX9_readNumber_67 : decode cX9_readNumber 67 = .ok (.aload_n 0, 1) := by decide +kernel
theorem dX9_readNumber_68 : decode cX9_readNumber 68 = .ok (.invokevirtual 60, 3) := by decide +kernel
theorem dX9_readNumber_71 : decode cX9_readNumber 71 = .ok (.ifCond .eq 12, 3) := by decide +kernel
theorem dX9_readNumber_74 : decode cX9_readNumber 74 = .ok (.aload_n 0, 1) := by decide +kernel
theorem dX9_readNumber_75 : decode cX9_readNumber 75 = .ok (.iconst 2, 1) := by decide +kernel
theorem dX9_readNumber_76 : decode cX9_readNumber 76 = .ok (.aload_n 0, 1) := by decide +kernel
theorem dX9_readNumber_77 : decode cX9_readNumber 77 = .ok (.getfield 34, 3) := by decide +kernel
theorem dX9_readNumber_80 : decode cX9_readNumber 80 = .ok (.invokevirtual 52, 3) := by decide +kernel
theorem dX9_readNumber_83 : decode cX9_readNumber 83 = .ok (.iload_n 2, 1) := by decide +kernel
theorem dX9_readNumber_84 : decode cX9_readNumber 84 = .ok (.ireturn, 1) := by decide +kernel
theorem dX9_readBounded_0 : decode cX9_readBounded 0 = .ok (.aload_n 0, 1) := by decide +kernel
theorem dX9_readBounded_1 : decode cX9_readBounded 1 = .ok (.getfield 34, 3) := by decide +kernel
theorem dX9_readBounded_4 : decode cX9_readBounded 4 = .ok (.istore 4, 2) := by decide +kernel
theorem dX9_readBounded_6 : decode cX9_readBounded 6 = .ok (.aload_n 0, 1) := by decide +kernel
theorem dX9_readBounded_7 : decode cX9_readBounded 7 = .ok (.iload_n 1, 1) := by decide +kernel
theorem dX9_readBounded_8 : decode cX9_readBounded 8 = .ok (.invokevirtual 63, 3) := by decide +kernel
theorem dX9_readBounded_11 : decode cX9_readBounded 11 = .ok (.istore 5, 2) := by decide +kernel
theorem dX9_readBounded_13 : decode cX9_readBounded 13 = .ok (.iload 5, 2) := by decide +kernel
theorem dX9_readBounded_15 : decode cX9_readBounded 15 = .ok (.iload_n 2, 1) := by decide +kernel
theorem dX9_readBounded_16 : decode cX9_readBounded 16 = .ok (.iload_n 3, 1) := by decide +kernel
theorem dX9_readBounded_17 : decode cX9_readBounded 17 = .ok (.invokestatic 66, 3) := by decide +kernel
theorem dX9_readBounded_20 : decode cX9_readBounded 20 = .ok (.ifCond .ne 10, 3) := by decide +kernel
theorem dX9_readBounded_23 : decode cX9_readBounded 23 = .ok (.aload_n 0, 1) := by decide +kernel
theorem dX9_readBounded_24 : decode cX9_readBounded 24 = .ok (.iconst 3, 1) := by decide +kernel
theorem dX9_readBounded_25 : decode cX9_readBounded 25 = .ok (.iload 4, 2) := by decide +kernel
theorem dX9_readBounded_27 : decode cX9_readBounded 27 = .ok (.invokevirtual 52, 3) := by decide +kernel
theorem dX9_readBounded_30 : decode cX9_readBounded 30 = .ok (.iload 5, 2) := by decide +kernel
theorem dX9_readBounded_32 : decode cX9_readBounded 32 = .ok (.ireturn, 1) := by decide +kernel
theorem dX9_tellsEachOnce_0 : decode cX9_tellsEachOnce 0 = .ok (.iconst 0, 1) := by decide +kernel
theorem dX9_tellsEachOnce_1 : decode cX9_tellsEachOnce 1 = .ok (.istore_n 3, 1) := by decide +kernel
theorem dX9_tellsEachOnce_2 : decode cX9_tellsEachOnce 2 = .ok (.iconst 0, 1) := by decide +kernel
theorem dX9_tellsEachOnce_3 : decode cX9_tellsEachOnce 3 = .ok (.istore 4, 2) := by decide +kernel
theorem dX9_tellsEachOnce_5 : decode cX9_tellsEachOnce 5 = .ok (.iload 4, 2) := by decide +kernel
theorem dX9_tellsEachOnce_7 : decode cX9_tellsEachOnce 7 = .ok (.iload_n 2, 1) := by decide +kernel
theorem dX9_tellsEachOnce_8 : decode cX9_tellsEachOnce 8 = .ok (.if_icmp .ge 49, 3) := by decide +kernel
theorem dX9_tellsEachOnce_11 : decode cX9_tellsEachOnce 11 = .ok (.aload_n 0, 1) := by decide +kernel
theorem dX9_tellsEachOnce_12 : decode cX9_tellsEachOnce 12 = .ok (.iload_n 1, 1) := by decide +kernel
theorem dX9_tellsEachOnce_13 : decode cX9_tellsEachOnce 13 = .ok (.iload 4, 2) := by decide +kernel
theorem dX9_tellsEachOnce_15 : decode cX9_tellsEachOnce 15 = .ok (.iadd, 1) := by decide +kernel
theorem dX9_tellsEachOnce_16 : decode cX9_tellsEachOnce 16 = .ok (.invokevirtual 40, 3) := by decide +kernel
theorem dX9_tellsEachOnce_19 : decode cX9_tellsEachOnce 19 = .ok (.istore 5, 2) := by decide +kernel
theorem dX9_tellsEachOnce_21 : decode cX9_tellsEachOnce 21 = .ok (.iload 5, 2) := by decide +kernel
theorem dX9_tellsEachOnce_23 : decode cX9_tellsEachOnce 23 = .ok (.iconst 0, 1) := by decide +kernel
theorem dX9_tellsEachOnce_24 : decode cX9_tellsEachOnce 24 = .ok (.iload_n 2, 1) := by decide +kernel
theorem dX9_tellsEachOnce_25 : decode cX9_tellsEachOnce 25 = .ok (.iconst 1, 1) := by decide +kernel
theorem dX9_tellsEachOnce_26 : decode cX9_tellsEachOnce 26 = .ok (.isub, 1) := by decide +kernel
theorem dX9_tellsEachOnce_27 : decode cX9_tellsEachOnce 27 = .ok (.invokestatic 66, 3) := by decide +kernel
theorem dX9_tellsEachOnce_30 : decode cX9_tellsEachOnce 30 = .ok (.ifCond .eq 12, 3) := by decide +kernel
theorem dX9_tellsEachOnce_33 : decode cX9_tellsEachOnce 33 = .ok (.iload_n 3, 1) := by decide +kernel
theorem dX9_tellsEachOnce_34 : decode cX9_tellsEachOnce 34 = .ok (.iload 5, 2) := by decide +kernel
theorem dX9_tellsEachOnce_36 : decode cX9_tellsEachOnce 36 = .ok (.ishr, 1) := by decide +kernel
theorem dX9_tellsEachOnce_37 : decode cX9_tellsEachOnce 37 = .ok (.iconst 1, 1) := by decide +kernel
theorem dX9_tellsEachOnce_38 : decode cX9_tellsEachOnce 38 = .ok (.iand, 1) := by decide +kernel
theorem dX9_tellsEachOnce_39 : decode cX9_tellsEachOnce 39 = .ok (.ifCond .eq 5, 3) := by decide +kernel
theorem dX9_tellsEachOnce_42 : decode cX9_tellsEachOnce 42 = .ok (.iconst 0, 1) := by decide +kernel
theorem dX9_tellsEachOnce_43 : decode cX9_tellsEachOnce 43 = .ok (.ireturn, 1) := by decide +kernel
theorem dX9_tellsEachOnce_44 : decode cX9_tellsEachOnce 44 = .ok (.iload_n 3, 1) := by decide +kernel
theorem dX9_tellsEachOnce_45 : decode cX9_tellsEachOnce 45 = .ok (.iconst 1, 1) := by decide +kernel
theorem dX9_tellsEachOnce_46 : decode cX9_tellsEachOnce 46 = .ok (.iload 5, 2) := by decide +kernel
theorem dX9_tellsEachOnce_48 : decode cX9_tellsEachOnce 48 = .ok (.ishl, 1) := by decide +kernel
theorem dX9_tellsEachOnce_49 : decode cX9_tellsEachOnce 49 = .ok (.ior, 1) := by decide +kernel
theorem dX9_tellsEachOnce_50 : decode cX9_tellsEachOnce 50 = .ok (.istore_n 3, 1) := by decide +kernel
theorem dX9_tellsEachOnce_51 : decode cX9_tellsEachOnce 51 = .ok (.iinc 4 1, 3) := by decide +kernel
theorem dX9_tellsEachOnce_54 : decode cX9_tellsEachOnce 54 = .ok (.goto (-49), 3) := by decide +kernel
theorem dX9_tellsEachOnce_57 : decode cX9_tellsEachOnce 57 = .ok (.iconst 1, 1) := by decide +kernel
theorem dX9_tellsEachOnce_58 : decode cX9_tellsEachOnce 58 = .ok (.ireturn, 1) := by decide +kernel
theorem dX10_init_0 : decode cX10_init 0 = .ok (.aload_n 0, 1) := by decide +kernel
theorem dX10_init_1 : decode cX10_init 1 = .ok (.invokespecial 3, 3) := by decide +kernel
theorem dX10_init_4 : decode cX10_init 4 = .ok (.aload_n 0, 1) := by decide +kernel
theorem dX10_init_5 : decode cX10_init 5 = .ok (.new 9, 3) := by decide +kernel
theorem dX10_init_8 : decode cX10_init 8 = .ok (.dup, 1) := by decide +kernel
theorem dX10_init_9 : decode cX10_init 9 = .ok (.invokespecial 11, 3) := by decide +kernel
theorem dX10_init_12 : decode cX10_init 12 = .ok (.putfield 12, 3) := by decide +kernel
theorem dX10_init_15 : decode cX10_init 15 = .ok (.aload_n 0, 1) := by decide +kernel
theorem dX10_init_16 : decode cX10_init 16 = .ok (.new 9, 3) := by decide +kernel
theorem dX10_init_19 : decode cX10_init 19 = .ok (.dup, 1) := by decide +kernel
theorem dX10_init_20 : decode cX10_init 20 = .ok (.invokespecial 11, 3) := by decide +kernel
theorem dX10_init_23 : decode cX10_init 23 = .ok (.putfield 18, 3) := by decide +kernel
theorem dX10_init_26 : decode cX10_init 26 = .ok (.aload_n 0, 1) := by decide +kernel
theorem dX10_init_27 : decode cX10_init 27 = .ok (.new 21, 3) := by decide +kernel
theorem dX10_init_30 : decode cX10_init 30 = .ok (.dup, 1) := by decide +kernel
theorem dX10_init_31 : decode cX10_init 31 = .ok (.invokespecial 23, 3) := by decide +kernel
theorem dX10_init_34 : decode cX10_init 34 = .ok (.putfield 24, 3) := by decide +kernel
theorem dX10_init_37 : decode cX10_init 37 = .ok (.aload_n 0, 1) := by decide +kernel
theorem dX10_init_38 : decode cX10_init 38 = .ok (.bipush 9, 2) := by decide +kernel
theorem dX10_init_40 : decode cX10_init 40 = .ok (.newarray .int, 2) := by decide +kernel
theorem dX10_init_42 : decode cX10_init 42 = .ok (.putfield 30, 3) := by decide +kernel
theorem dX10_init_45 : decode cX10_init 45 = .ok (.aload_n 0, 1) := by decide +kernel
theorem dX10_init_46 : decode cX10_init 46 = .ok (.new 34, 3) := by decide +kernel
theorem dX10_init_49 : decode cX10_init 49 = .ok (.dup, 1) := by decide +kernel
theorem dX10_init_50 : decode cX10_init 50 = .ok (.invokespecial 36, 3) := by decide +kernel
theorem dX10_init_53 : decode cX10_init 53 = .ok (.putfield 37, 3) := by decide +kernel
theorem dX10_init_56 : decode cX10_init 56 = .ok (.aload_n 0, 1) := by decide +kernel
theorem dX10_init_57 : decode cX10_init 57 = .ok (.ldc 41, 2) := by decide +kernel
theorem dX10_init_59 : decode cX10_init 59 = .ok (.putfield 42, 3) := by decide +kernel
theorem dX10_init_62 : decode cX10_init 62 = .ok (.return_, 1) := by decide +kernel
theorem dX10_built_0 : decode cX10_built 0 = .ok (.iload_n 1, 1) := by decide +kernel
theorem dX10_built_1 : decode cX10_built 1 = .ok (.ifCond .ne 10, 3) := by decide +kernel
theorem dX10_built_4 : decode cX10_built 4 = .ok (.aload_n 0, 1) := by decide +kernel
theorem dX10_built_5 : decode cX10_built 5 = .ok (.getfield 12, 3) := by decide +kernel
theorem dX10_built_8 : decode cX10_built 8 = .ok (.goto 7, 3) := by decide +kernel
theorem dX10_built_11 : decode cX10_built 11 = .ok (.aload_n 0, 1) := by decide +kernel
theorem dX10_built_12 : decode cX10_built 12 = .ok (.getfield 18, 3) := by decide +kernel
theorem dX10_built_15 : decode cX10_built 15 = .ok (.areturn, 1) := by decide +kernel
theorem dX10_standing_0 : decode cX10_standing 0 = .ok (.aload_n 0, 1) := by decide +kernel
theorem dX10_standing_1 : decode cX10_standing 1 = .ok (.iload_n 1, 1) := by decide +kernel
theorem dX10_standing_2 : decode cX10_standing 2 = .ok (.invokevirtual 46, 3) := by decide +kernel
theorem dX10_standing_5 : decode cX10_standing 5 = .ok (.aload_n 0, 1) := by decide +kernel
theorem dX10_standing_6 : decode cX10_standing 6 = .ok (.getfield 24, 3) := by decide +kernel
theorem dX10_standing_9 : decode cX10_standing 9 = .ok (.iload_n 1, 1) := by decide +kernel
theorem dX10_standing_10 : decode cX10_standing 10 = .ok (.invokevirtual 50, 3) := by decide +kernel
theorem dX10_standing_13 : decode cX10_standing 13 = .ok (.invokevirtual 54, 3) := by decide +kernel
theorem dX10_standing_16 : decode cX10_standing 16 = .ok (.ireturn, 1) := by decide +kernel
theorem dX10_toBuild_0 : decode cX10_toBuild 0 = .ok (.aload_n 0, 1) := by decide +kernel
theorem dX10_toBuild_1 : decode cX10_toBuild 1 = .ok (.iload_n 1, 1) := by decide +kernel
theorem dX10_toBuild_2 : decode cX10_toBuild 2 = .ok (.invokevirtual 46, 3) := by decide +kernel
theorem dX10_toBuild_5 : decode cX10_toBuild 5 = .ok (.getfield 57, 3) := by decide +kernel
theorem dX10_toBuild_8 : decode cX10_toBuild 8 = .ok (.aload_n 0, 1) := by decide +kernel
theorem dX10_toBuild_9 : decode cX10_toBuild 9 = .ok (.iload_n 1, 1) := by decide +kernel
theorem dX10_toBuild_10 : decode cX10_toBuild 10 = .ok (.invokevirtual 60, 3) := by decide +kernel
theorem dX10_toBuild_13 : decode cX10_toBuild 13 = .ok (.isub, 1) := by decide +kernel
theorem dX10_toBuild_14 : decode cX10_toBuild 14 = .ok (.ireturn, 1) := by decide +kernel
theorem dX10_reached_0 : decode cX10_reached 0 = .ok (.aload_n 0, 1) := by decide +kernel
theorem dX10_reached_1 : decode cX10_reached 1 = .ok (.iload_n 1, 1) := by decide +kernel
theorem dX10_reached_2 : decode cX10_reached 2 = .ok (.invokevirtual 46, 3) := by decide +kernel
theorem dX10_reached_5 : decode cX10_reached 5 = .ok (.getfield 57, 3) := by decide +kernel
theorem dX10_reached_8 : decode cX10_reached 8 = .ok (.istore_n 2, 1) := by decide +kernel
theorem dX10_reached_9 : decode cX10_reached 9 = .ok (.iload_n 2, 1) := by decide +kernel
theorem dX10_reached_10 : decode cX10_reached 10 = .ok (.ifCond .le 16, 3) := by decide +kernel
theorem dX10_reached_13 : decode cX10_reached 13 = .ok (.aload_n 0, 1) := by decide +kernel
theorem dX10_reached_14 : decode cX10_reached 14 = .ok (.iload_n 1, 1) := by decide +kernel
theorem dX10_reached_15 : decode cX10_reached 15 = .ok (.invokevirtual 60, 3) := by decide +kernel
theorem dX10_reached_18 : decode cX10_reached 18 = .ok (.iload_n 2, 1) := by decide +kernel
theorem dX10_reached_19 : decode cX10_reached 19 = .ok (.if_icmp .ne 7, 3) := by decide +kernel
theorem dX10_reached_22 : decode cX10_reached 22 = .ok (.iconst 1, 1) := by decide +kernel
theorem dX10_reached_23 : decode cX10_reached 23 = .ok (.goto 4, 3) := by decide +kernel
theorem dX10_reached_26 : decode cX10_reached 26 = .ok (.iconst 0, 1) := by decide +kernel
theorem dX10_reached_27 : decode cX10_reached 27 = .ok (.ireturn, 1) := by decide +kernel
theorem dX10_lacking_0 : decode cX10_lacking 0 = .ok (.aload_n 0, 1) := by decide +kernel
theorem dX10_lacking_1 : decode cX10_lacking 1 = .ok (.iload_n 1, 1) := by decide +kernel
theorem dX10_lacking_2 : decode cX10_lacking 2 = .ok (.invokevirtual 60, 3) := by decide +kernel
theorem dX10_lacking_5 : decode cX10_lacking 5 = .ok (.istore_n 2, 1) := by decide +kernel
theorem dX10_lacking_6 : decode cX10_lacking 6 = .ok (.aload_n 0, 1) := by decide +kernel
theorem dX10_lacking_7 : decode cX10_lacking 7 = .ok (.iload_n 1, 1) := by decide +kernel
theorem dX10_lacking_8 : decode cX10_lacking 8 = .ok (.invokevirtual 46, 3) := by decide +kernel
theorem dX10_lacking_11 : decode cX10_lacking 11 = .ok (.astore_n 3, 1) := by decide +kernel
theorem dX10_lacking_12 : decode cX10_lacking 12 = .ok (.iload_n 2, 1) := by decide +kernel
theorem dX10_lacking_13 : decode cX10_lacking 13 = .ok (.aload_n 3, 1) := by decide +kernel
theorem dX10_lacking_14 : decode cX10_lacking 14 = .ok (.getfield 57, 3) := by decide +kernel
theorem dX10_lacking_17 : decode cX10_lacking 17 = .ok (.if_icmp .ge 22, 3) := by decide +kernel
theorem dX10_lacking_20 : decode cX10_lacking 20 = .ok (.aload_n 3, 1) := by decide +kernel
theorem dX10_lacking_21 : decode cX10_lacking 21 = .ok (.iload_n 2, 1) := by decide +kernel
theorem dX10_lacking_22 : decode cX10_lacking 22 = .ok (.iconst 1, 1) := by decide +kernel
theorem dX10_lacking_23 : decode cX10_lacking 23 = .ok (.iadd, 1) := by decide +kernel
theorem dX10_lacking_24 : decode cX10_lacking 24 = .ok (.invokevirtual 63, 3) := by decide +kernel
theorem dX10_lacking_27 : decode cX10_lacking 27 = .ok (.aload_n 0, 1) := by decide +kernel
theorem dX10_lacking_28 : decode cX10_lacking 28 = .ok (.getfield 24, 3) := by decide +kernel
theorem dX10_lacking_31 : decode cX10_lacking 31 = .ok (.iload_n 1, 1) := by decide +kernel
theorem dX10_lacking_32 : decode cX10_lacking 32 = .ok (.invokevirtual 50, 3) := by decide +kernel
theorem dX10_lacking_35 : decode cX10_lacking 35 = .ok (.isub, 1) := by decide +kernel
theorem dX10_lacking_36 : decode cX10_lacking 36 = .ok (.goto 4, 3) := by decide +kernel
theorem dX10_lacking_39 : decode cX10_lacking 39 = .ok (.iconst 0, 1) := by decide +kernel
theorem dX10_lacking_40 : decode cX10_lacking 40 = .ok (.ireturn, 1) := by decide +kernel
theorem dX10_weight_0 : decode cX10_weight 0 = .ok (.aload_n 0, 1) := by decide +kernel
theorem dX10_weight_1 : decode cX10_weight 1 = .ok (.iload_n 1, 1) := by decide +kernel
theorem dX10_weight_2 : decode cX10_weight 2 = .ok (.invokevirtual 60, 3) := by decide +kernel
theorem dX10_weight_5 : decode cX10_weight 5 = .ok (.istore_n 2, 1) := by decide +kernel
theorem dX10_weight_6 : decode cX10_weight 6 = .ok (.iconst 0, 1) := by decide +kernel
theorem dX10_weight_7 : decode cX10_weight 7 = .ok (.istore_n 3, 1) := by decide +kernel
theorem dX10_weight_8 : decode cX10_weight 8 = .ok (.iconst 1, 1) := by decide +kernel
theorem dX10_weight_9 : decode cX10_weight 9 = .ok (.istore 4, 2) := by decide +kernel
theorem dX10_weight_11 : decode cX10_weight 11 = .ok (.iload 4, 2) := by decide +kernel
theorem dX10_weight_13 : decode cX10_weight 13 = .ok (.iload_n 2, 1) := by decide +kernel
theorem dX10_weight_14 : decode cX10_weight 14 = .ok (.if_icmp .gt 43, 3) := by decide +kernel
theorem dX10_weight_17 : decode cX10_weight 17 = .ok (.iload 4, 2) := by decide +kernel
theorem dX10_weight_19 : decode cX10_weight 19 = .ok (.bipush 20, 2) := by decide +kernel
theorem dX10_weight_21 : decode cX10_weight 21 = .ok (.if_icmp .gt 36, 3) := by decide +kernel
theorem dX10_weight_24 : decode cX10_weight 24 = .ok (.iload_n 3, 1) := by decide +kernel
theorem dX10_weight_25 : decode cX10_weight 25 = .ok (.aload_n 0, 1) := by decide +kernel
theorem dX10_weight_26 : decode cX10_weight 26 = .ok (.iload_n 1, 1) := by decide +kernel
theorem dX10_weight_27 : decode cX10_weight 27 = .ok (.invokevirtual 46, 3) := by decide +kernel
theorem dX10_weight_30 : decode cX10_weight 30 = .ok (.iload 4, 2) := by decide +kernel
theorem dX10_weight_32 : decode cX10_weight 32 = .ok (.invokevirtual 66, 3) := by decide +kernel
theorem dX10_weight_35 : decode cX10_weight 35 = .ok (.aload_n 0, 1) := by decide +kernel
theorem dX10_weight_36 : decode cX10_weight 36 = .ok (.getfield 24, 3) := by decide +kernel
theorem dX10_weight_39 : decode cX10_weight 39 = .ok (.iload_n 1, 1) := by decide +kernel
theorem dX10_weight_40 : decode cX10_weight 40 = .ok (.iload 4, 2) := by decide +kernel
theorem dX10_weight_42 : decode cX10_weight 42 = .ok (.invokevirtual 69, 3) := by decide +kernel
theorem dX10_weight_45 : decode cX10_weight 45 = .ok (.iadd, 1) := by decide +kernel
theorem dX10_weight_46 : decode cX10_weight 46 = .ok (.iload 4, 2) := by decide +kernel
theorem dX10_weight_48 : decode cX10_weight 48 = .ok (.imul, 1) := by decide +kernel
theorem dX10_weight_49 : decode cX10_weight 49 = .ok (.iadd, 1) := by decide +kernel
theorem dX10_weight_50 : decode cX10_weight 50 = .ok (.istore_n 3, 1) := by decide +kernel
theorem dX10_weight_51 : decode cX10_weight 51 = .ok (.iinc 4 1, 3) := by decide +kernel
theorem dX10_weight_54 : decode cX10_weight 54 = .ok (.goto (-43), 3) := by decide +kernel
theorem dX10_weight_57 : decode cX10_weight 57 = .ok (.iload_n 3, 1) := by decide +kernel
theorem dX10_weight_58 : decode cX10_weight 58 = .ok (.ireturn, 1) := by decide +kernel
theorem dX10_passDays_0 : decode cX10_passDays 0 = .ok (.iconst 0, 1) := by decide +kernel
theorem dX10_passDays_1 : decode cX10_passDays 1 = .ok (.istore_n 2, 1) := by decide +kernel
theorem dX10_passDays_2 : decode cX10_passDays 2 = .ok (.iconst 0, 1) := by decide +kernel
theorem dX10_passDays_3 : decode cX10_passDays 3 = .ok (.istore_n 3, 1) := by decide +kernel
theorem dX10_passDays_4 : decode cX10_passDays 4 = .ok (.iload_n 3, 1) := by decide +kernel
theorem dX10_passDays_5 : decode cX10_passDays 5 = .ok (.iload_n 1, 1) := by decide +kernel
theorem dX10_passDays_6 : decode cX10_passDays 6 = .ok (.if_icmp .ge 23, 3) := by decide +kernel
theorem dX10_passDays_9 : decode cX10_passDays 9 = .ok (.iload_n 3, 1) := by decide +kernel
theorem dX10_passDays_10 : decode cX10_passDays 10 = .ok (.sipush 240, 3) := by decide +kernel
theorem dX10_passDays_13 : decode cX10_passDays 13 = .ok (.if_icmp .ge 16, 3) := by decide +kernel
theorem dX10_passDays_16 : decode cX10_passDays 16 = .ok (.iload_n 2, 1) := by decide +kernel
theorem dX10_passDays_17 : decode cX10_passDays 17 = .ok (.aload_n 0, 1) := by decide +kernel
theorem dX10_passDays_18 : decode cX10_passDays 18 = .ok (.invokevirtual 73, 3) := by decide +kernel
theorem dX10_passDays_21 : decode cX10_passDays 21 = .ok (.iadd, 1) := by decide +kernel
theorem dX10_passDays_22 : decode cX10_passDays 22 = .ok (.istore_n 2, 1) := by decide +kernel
theorem dX10_passDays_23 : decode cX10_passDays 23 = .ok (.iinc 3 1, 3) := by decide +kernel
theorem dX10_passDays_26 : decode cX10_passDays 26 = .ok (.goto (-22), 3) := by decide +kernel
theorem dX10_passDays_29 : decode cX10_passDays 29 = .ok (.iload_n 2, 1) := by decide +kernel
theorem dX10_passDays_30 : decode cX10_passDays 30 = .ok (.ireturn, 1) := by decide +kernel
theorem dX10_passDay_0 : decode cX10_passDay 0 = .ok (.aload_n 0, 1) := by decide +kernel
theorem dX10_passDay_1 : decode cX10_passDay 1 = .ok (.getfield 24, 3) := by decide +kernel
theorem dX10_passDay_4 : decode cX10_passDay 4 = .ok (.getfield 77, 3) := by decide +kernel
theorem dX10_passDay_7 : decode cX10_passDay 7 = .ok (.sipush 9999, 3) := by decide +kernel
theorem dX10_passDay_10 : decode cX10_passDay 10 = .ok (.if_icmp .lt 5, 3) := by decide +kernel
theorem dX10_passDay_13 : decode cX10_passDay 13 = .ok (.iconst 0, 1) := by decide +kernel
theorem dX10_passDay_14 : decode cX10_passDay 14 = .ok (.ireturn, 1) := by decide +kernel
theorem dX10_passDay_15 : decode cX10_passDay 15 = .ok (.aload_n 0, 1) := by decide +kernel
theorem dX10_passDay_16 : decode cX10_passDay 16 = .ok (.invokevirtual 80, 3) := by decide +kernel
theorem dX10_passDay_19 : decode cX10_passDay 19 = .ok (.aload_n 0, 1) := by decide +kernel
theorem dX10_passDay_20 : decode cX10_passDay 20 = .ok (.iconst 0, 1) := by decide +kernel
theorem dX10_passDay_21 : decode cX10_passDay 21 = .ok (.invokevirtual 83, 3) := by decide +kernel
theorem dX10_passDay_24 : decode cX10_passDay 24 = .ok (.istore_n 1, 1) := by decide +kernel
theorem dX10_passDay_25 : decode cX10_passDay 25 = .ok (.iload_n 1, 1) := by decide +kernel
theorem dX10_passDay_26 : decode cX10_passDay 26 = .ok (.aload_n 0, 1) := by decide +kernel
theorem dX10_passDay_27 : decode cX10_passDay 27 = .ok (.iconst 1, 1) := by decide +kernel
theorem dX10_passDay_28 : decode cX10_passDay 28 = .ok (.invokevirtual 83, 3) := by decide +kernel
theorem dX10_passDay_31 : decode cX10_passDay 31 = .ok (.iadd, 1) := by decide +kernel
theorem dX10_passDay_32 : decode cX10_passDay 32 = .ok (.istore_n 1, 1) := by decide +kernel
theorem dX10_passDay_33 : decode cX10_passDay 33 = .ok (.aload_n 0, 1) := by decide +kernel
theorem dX10_passDay_34 : decode cX10_passDay 34 = .ok (.invokevirtual 86, 3) := by decide +kernel
theorem dX10_passDay_37 : decode cX10_passDay 37 = .ok (.aload_n 0, 1) := by decide +kernel
theorem dX10_passDay_38 : decode cX10_passDay 38 = .ok (.getfield 24, 3) := by decide +kernel
theorem dX10_passDay_41 : decode cX10_passDay 41 = .ok (.dup, 1) := by decide +kernel
theorem dX10_passDay_42 : decode cX10_passDay 42 = .ok (.getfield 77, 3) := by decide +kernel
theorem dX10_passDay_45 : decode cX10_passDay 45 = .ok (.iconst 1, 1) := by decide +kernel
theorem dX10_passDay_46 : decode cX10_passDay 46 = .ok (.iadd, 1) := by decide +kernel
theorem dX10_passDay_47 : decode cX10_passDay 47 = .ok (.putfield 77, 3) := by decide +kernel
theorem dX10_passDay_50 : decode cX10_passDay 50 = .ok (.iload_n 1, 1) := by decide +kernel
theorem dX10_passDay_51 : decode cX10_passDay 51 = .ok (.ireturn, 1) := by decide +kernel
theorem dX10_deliver_0 : decode cX10_deliver 0 = .ok (.aload_n 0, 1) := by decide +kernel
theorem dX10_deliver_1 : decode cX10_deliver 1 = .ok (.aload_n 0, 1) := by decide +kernel
theorem dX10_deliver_2 : decode cX10_deliver 2 = .ok (.getfield 24, 3) := by decide +kernel
theorem dX10_deliver_5 : decode cX10_deliver 5 = .ok (.invokevirtual 89, 3) := by decide +kernel
theorem dX10_deliver_8 : decode cX10_deliver 8 = .ok (.invokevirtual 92, 3) := by decide +kernel
theorem dX10_deliver_11 : decode cX10_deliver 11 = .ok (.aload_n 0, 1) := by decide +kernel
theorem dX10_deliver_12 : decode cX10_deliver 12 = .ok (.getfield 30, 3) := by decide +kernel
theorem dX10_deliver_15 : decode cX10_deliver 15 = .ok (.iconst 0, 1) := by decide +kernel
theorem dX10_deliver_16 : decode cX10_deliver 16 = .ok (.iconst 0, 1) := by decide +kernel
theorem dX10_deliver_17 : decode cX10_deliver 17 = .ok (.invokestatic 96, 3) := by decide +kernel
theorem dX10_deliver_20 : decode cX10_deliver 20 = .ok (.aload_n 0, 1) := by decide +kernel
theorem dX10_deliver_21 : decode cX10_deliver 21 = .ok (.getfield 30, 3) := by decide +kernel
theorem dX10_deliver_24 : decode cX10_deliver 24 = .ok (.iconst 1, 1) := by decide +kernel
theorem dX10_deliver_25 : decode cX10_deliver 25 = .ok (.iconst 0, 1) := by decide +kernel
theorem dX10_deliver_26 : decode cX10_deliver 26 = .ok (.invokestatic 96, 3) := by decide +kernel
theorem dX10_deliver_29 : decode cX10_deliver 29 = .ok (.aload_n 0, 1) := by decide +kernel
theorem dX10_deliver_30 : decode cX10_deliver 30 = .ok (.getfield 30, 3) := by decide +kernel
theorem dX10_deliver_33 : decode cX10_deliver 33 = .ok (.iconst 2, 1) := by decide +kernel
theorem dX10_deliver_34 : decode cX10_deliver 34 = .ok (.iconst 0, 1) := by decide +kernel
theorem dX10_deliver_35 : decode cX10_deliver 35 = .ok (.invokestatic 96, 3) := by decide +kernel
theorem dX10_deliver_38 : decode cX10_deliver 38 = .ok (.aload_n 0, 1) := by decide +kernel
theorem dX10_deliver_39 : decode cX10_deliver 39 = .ok (.getfield 30, 3) := by decide +kernel
theorem dX10_deliver_42 : decode cX10_deliver 42 = .ok (.iconst 3, 1) := by decide +kernel
theorem dX10_deliver_43 : decode cX10_deliver 43 = .ok (.iconst 0, 1) := by decide +kernel
theorem dX10_deliver_44 : decode cX10_deliver 44 = .ok (.invokestatic 96, 3) := by decide +kernel
theorem dX10_deliver_47 : decode cX10_deliver 47 = .ok (.aload_n 0, 1) := by decide +kernel
theorem dX10_deliver_48 : decode cX10_deliver 48 = .ok (.getfield 30, 3) := by decide +kernel
theorem dX10_deliver_51 : decode cX10_deliver 51 = .ok (.iconst 4, 1) := by decide +kernel
theorem dX10_deliver_52 : decode cX10_deliver 52 = .ok (.iconst 0, 1) := by decide +kernel
theorem dX10_deliver_53 : decode cX10_deliver 53 = .ok (.invokestatic 96, 3) := by decide +kernel
theorem dX10_deliver_56 : decode cX10_deliver 56 = .ok (.aload_n 0, 1) := by decide +kernel
theorem dX10_deliver_57 : decode cX10_deliver 57 = .ok (.getfield 37, 3) := by decide +kernel
theorem dX10_deliver_60 : decode cX10_deliver 60 = .ok (.bipush 105, 2) := by decide +kernel
theorem dX10_deliver_62 : decode cX10_deliver 62 = .ok (.sipush 999, 3) := by decide +kernel
theorem dX10_deliver_65 : decode cX10_deliver 65 = .ok (.aload_n 0, 1) := by decide +kernel
theorem dX10_deliver_66 : decode cX10_deliver 66 = .ok (.getfield 30, 3) := by decide +kernel
theorem dX10_deliver_69 : decode cX10_deliver 69 = .ok (.invokevirtual 100, 3) := by decide +kernel
theorem dX10_deliver_72 : decode cX10_deliver 72 = .ok (.istore_n 1, 1) := by decide +kernel
theorem dX10_deliver_73 : decode cX10_deliver 73 = .ok (.aload_n 0, 1) := by decide +kernel
theorem dX10_deliver_74 : decode cX10_deliver 74 = .ok (.getfield 37, 3) := by decide +kernel
theorem dX10_deliver_77 : decode cX10_deliver 77 = .ok (.bipush 110, 2) := by decide +kernel
theorem dX10_deliver_79 : decode cX10_deliver 79 = .ok (.sipush 9999, 3) := by decide +kernel
theorem dX10_deliver_82 : decode cX10_deliver 82 = .ok (.aload_n 0, 1) := by decide +kernel
theorem dX10_deliver_83 : decode cX10_deliver 83 = .ok (.getfield 30, 3) := by decide +kernel
theorem dX10_deliver_86 : decode cX10_deliver 86 = .ok (.invokevirtual 100, 3) := by decide +kernel
theorem dX10_deliver_89 : decode cX10_deliver 89 = .ok (.istore_n 2, 1) := by decide +kernel
theorem dX10_deliver_90 : decode cX10_deliver 90 = .ok (.aload_n 0, 1) := by decide +kernel
theorem dX10_deliver_91 : decode cX10_deliver 91 = .ok (.getfield 24, 3) := by decide +kernel
theorem dX10_deliver_94 : decode cX10_deliver 94 = .ok (.iload_n 1, 1) := by decide +kernel
theorem dX10_deliver_95 : decode cX10_deliver 95 = .ok (.invokevirtual 104, 3) := by decide +kernel
theorem dX10_deliver_98 : decode cX10_deliver 98 = .ok (.aload_n 0, 1) := by decide +kernel
theorem dX10_deliver_99 : decode cX10_deliver 99 = .ok (.getfield 24, 3) := by decide +kernel
theorem dX10_deliver_102 : decode cX10_deliver 102 = .ok (.iload_n 2, 1) := by decide +kernel
theorem dX10_deliver_103 : decode cX10_deliver 103 = .ok (.invokevirtual 107, 3) := by decide +kernel
theorem dX10_deliver_106 : decode cX10_deliver 106 = .ok (.return_, 1) := by decide +kernel
theorem dX10_work_0 : decode cX10_work 0 = .ok (.aload_n 0, 1) := by decide +kernel
theorem dX10_work_1 : decode cX10_work 1 = .ok (.iload_n 1, 1) := by decide +kernel
theorem dX10_work_2 : decode cX10_work 2 = .ok (.invokevirtual 110, 3) := by decide +kernel
theorem dX10_work_5 : decode cX10_work 5 = .ok (.ifCond .eq 5, 3) := by decide +kernel
theorem dX10_work_8 : decode cX10_work 8 = .ok (.iconst 0, 1) := by decide +kernel
theorem dX10_work_9 : decode cX10_work 9 = .ok (.ireturn, 1) := by decide +kernel
theorem dX10_work_10 : decode cX10_work 10 = .ok (.aload_n 0, 1) := by decide +kernel
theorem dX10_work_11 : decode cX10_work 11 = .ok (.aload_n 0, 1) := by decide +kernel
theorem dX10_work_12 : decode cX10_work 12 = .ok (.getfield 24, 3) := by decide +kernel
theorem dX10_work_15 : decode cX10_work 15 = .ok (.invokevirtual 89, 3) := by decide +kernel
theorem dX10_work_18 : decode cX10_work 18 = .ok (.invokevirtual 92, 3) := by decide +kernel
theorem dX10_work_21 : decode cX10_work 21 = .ok (.aload_n 0, 1) := by decide +kernel
theorem dX10_work_22 : decode cX10_work 22 = .ok (.iload_n 1, 1) := by decide +kernel
theorem dX10_work_23 : decode cX10_work 23 = .ok (.invokevirtual 114, 3) := by decide +kernel
theorem dX10_work_26 : decode cX10_work 26 = .ok (.aload_n 0, 1) := by decide +kernel
theorem dX10_work_27 : decode cX10_work 27 = .ok (.getfield 37, 3) := by decide +kernel
theorem dX10_work_30 : decode cX10_work 30 = .ok (.bipush 120, 2) := by decide +kernel
theorem dX10_work_32 : decode cX10_work 32 = .ok (.aload_n 0, 1) := by decide +kernel
theorem dX10_work_33 : decode cX10_work 33 = .ok (.getfield 30, 3) := by decide +kernel
theorem dX10_work_36 : decode cX10_work 36 = .ok (.invokevirtual 117, 3) := by decide +kernel
theorem dX10_work_39 : decode cX10_work 39 = .ok (.ifCond .eq 5, 3) := by decide +kernel
theorem dX10_work_42 : decode cX10_work 42 = .ok (.iconst 0, 1) := by decide +kernel
theorem dX10_work_43 : decode cX10_work 43 = .ok (.ireturn, 1) := by decide +kernel
theorem dX10_work_44 : decode cX10_work 44 = .ok (.aload_n 0, 1) := by decide +kernel
theorem dX10_work_45 : decode cX10_work 45 = .ok (.getfield 37, 3) := by decide +kernel
theorem dX10_work_48 : decode cX10_work 48 = .ok (.bipush 119, 2) := by decide +kernel
theorem dX10_work_50 : decode cX10_work 50 = .ok (.bipush 99, 2) := by decide +kernel
theorem dX10_work_52 : decode cX10_work 52 = .ok (.aload_n 0, 1) := by decide +kernel
theorem dX10_work_53 : decode cX10_work 53 = .ok (.getfield 30, 3) := by decide +kernel
theorem dX10_work_56 : decode cX10_work 56 = .ok (.invokevirtual 100, 3) := by decide +kernel
theorem dX10_work_59 : decode cX10_work 59 = .ok (.istore_n 2, 1) := by decide +kernel
theorem dX10_work_60 : decode cX10_work 60 = .ok (.aload_n 0, 1) := by decide +kernel
theorem dX10_work_61 : decode cX10_work 61 = .ok (.getfield 37, 3) := by decide +kernel
theorem dX10_work_64 : decode cX10_work 64 = .ok (.bipush 99, 2) := by decide +kernel
theorem dX10_work_66 : decode cX10_work 66 = .ok (.bipush 99, 2) := by decide +kernel
theorem dX10_work_68 : decode cX10_work 68 = .ok (.aload_n 0, 1) := by decide +kernel
theorem dX10_work_69 : decode cX10_work 69 = .ok (.getfield 30, 3) := by decide +kernel
theorem dX10_work_72 : decode cX10_work 72 = .ok (.invokevirtual 100, 3) := by decide +kernel
theorem dX10_work_75 : decode cX10_work 75 = .ok (.istore_n 3, 1) := by decide +kernel
theorem dX10_work_76 : decode cX10_work 76 = .ok (.iconst 0, 1) := by decide +kernel
theorem dX10_work_77 : decode cX10_work 77 = .ok (.iload_n 2, 1) := by decide +kernel
theorem dX10_work_78 : decode cX10_work 78 = .ok (.aload_n 0, 1) := by decide +kernel
theorem dX10_work_79 : decode cX10_work 79 = .ok (.getfield 24, 3) := by decide +kernel
theorem dX10_work_82 : decode cX10_work 82 = .ok (.getfield 121, 3) := by decide +kernel
theorem dX10_work_85 : decode cX10_work 85 = .ok (.aload_n 0, 1) := by decide +kernel
theorem dX10_work_86 : decode cX10_work 86 = .ok (.iload_n 1, 1) := by decide +kernel
theorem dX10_work_87 : decode cX10_work 87 = .ok (.invokevirtual 124, 3) := by decide +kernel
theorem dX10_work_90 : decode cX10_work 90 = .ok (.invokestatic 127, 3) := by decide +kernel
theorem dX10_work_93 : decode cX10_work 93 = .ok (.invokestatic 127, 3) := by decide +kernel
theorem dX10_work_96 : decode cX10_work 96 = .ok (.invokestatic 132, 3) := by decide +kernel
theorem dX10_work_99 : decode cX10_work 99 = .ok (.istore 4, 2) := by decide +kernel
theorem dX10_work_101 : decode cX10_work 101 = .ok (.aload_n 0, 1) := by decide +kernel
theorem dX10_work_102 : decode cX10_work 102 = .ok (.getfield 24, 3) := by decide +kernel
theorem dX10_work_105 : decode cX10_work 105 = .ok (.iload_n 1, 1) := by decide +kernel
theorem dX10_work_106 : decode cX10_work 106 = .ok (.iload 4, 2) := by decide +kernel
theorem dX10_work_108 : decode cX10_work 108 = .ok (.invokevirtual 135, 3) := by decide +kernel
theorem dX10_work_111 : decode cX10_work 111 = .ok (.aload_n 0, 1) := by decide +kernel
theorem dX10_work_112 : decode cX10_work 112 = .ok (.getfield 24, 3) := by decide +kernel
theorem dX10_work_115 : decode cX10_work 115 = .ok (.iload 4, 2) := by decide +kernel
theorem dX10_work_117 : decode cX10_work 117 = .ok (.ineg, 1) := by decide +kernel
theorem dX10_work_118 : decode cX10_work 118 = .ok (.invokevirtual 104, 3) := by decide +kernel
theorem dX10_work_121 : decode cX10_work 121 = .ok (.aload_n 0, 1) := by decide +kernel
theorem dX10_work_122 : decode cX10_work 122 = .ok (.getfield 24, 3) := by decide +kernel
theorem dX10_work_125 : decode cX10_work 125 = .ok (.iload_n 3, 1) := by decide +kernel
theorem dX10_work_126 : decode cX10_work 126 = .ok (.iload 4, 2) := by decide +kernel
theorem dX10_work_128 : decode cX10_work 128 = .ok (.imul, 1) := by decide +kernel
theorem dX10_work_129 : decode cX10_work 129 = .ok (.invokevirtual 107, 3) := by decide +kernel
theorem dX10_work_132 : decode cX10_work 132 = .ok (.iload 4, 2) := by decide +kernel
theorem dX10_work_134 : decode cX10_work 134 = .ok (.ireturn, 1) := by decide +kernel
theorem dX10_mayBeLaid_0 : decode cX10_mayBeLaid 0 = .ok (.aload_n 0, 1) := by decide +kernel
theorem dX10_mayBeLaid_1 : decode cX10_mayBeLaid 1 = .ok (.iload_n 1, 1) := by decide +kernel
theorem dX10_mayBeLaid_2 : decode cX10_mayBeLaid 2 = .ok (.invokevirtual 46, 3) := by decide +kernel
theorem dX10_mayBeLaid_5 : decode cX10_mayBeLaid 5 = .ok (.astore_n 2, 1) := by decide +kernel
theorem dX10_mayBeLaid_6 : decode cX10_mayBeLaid 6 = .ok (.aload_n 0, 1) := by decide +kernel
theorem dX10_mayBeLaid_7 : decode cX10_mayBeLaid 7 = .ok (.iconst 1, 1) := by decide +kernel
theorem dX10_mayBeLaid_8 : decode cX10_mayBeLaid 8 = .ok (.iload_n 1, 1) := by decide +kernel
theorem dX10_mayBeLaid_9 : decode cX10_mayBeLaid 9 = .ok (.isub, 1) := by decide +kernel
theorem dX10_mayBeLaid_10 : decode cX10_mayBeLaid 10 = .ok (.invokevirtual 60, 3) := by decide +kernel
theorem dX10_mayBeLaid_13 : decode cX10_mayBeLaid 13 = .ok (.istore_n 3, 1) := by decide +kernel
theorem dX10_mayBeLaid_14 : decode cX10_mayBeLaid 14 = .ok (.aload_n 2, 1) := by decide +kernel
theorem dX10_mayBeLaid_15 : decode cX10_mayBeLaid 15 = .ok (.invokevirtual 139, 3) := by decide +kernel
theorem dX10_mayBeLaid_18 : decode cX10_mayBeLaid 18 = .ok (.istore 4, 2) := by decide +kernel
theorem dX10_mayBeLaid_20 : decode cX10_mayBeLaid 20 = .ok (.iload_n 3, 1) := by decide +kernel
theorem dX10_mayBeLaid_21 : decode cX10_mayBeLaid 21 = .ok (.aload_n 0, 1) := by decide +kernel
theorem dX10_mayBeLaid_22 : decode cX10_mayBeLaid 22 = .ok (.iconst 1, 1) := by decide +kernel
theorem dX10_mayBeLaid_23 : decode cX10_mayBeLaid 23 = .ok (.iload_n 1, 1) := by decide +kernel
theorem dX10_mayBeLaid_24 : decode cX10_mayBeLaid 24 = .ok (.isub, 1) := by decide +kernel
theorem dX10_mayBeLaid_25 : decode cX10_mayBeLaid 25 = .ok (.invokevirtual 46, 3) := by decide +kernel
theorem dX10_mayBeLaid_28 : decode cX10_mayBeLaid 28 = .ok (.getfield 57, 3) := by decide +kernel
theorem dX10_mayBeLaid_31 : decode cX10_mayBeLaid 31 = .ok (.if_icmp .ge 37, 3) := by decide +kernel
theorem dX10_mayBeLaid_34 : decode cX10_mayBeLaid 34 = .ok (.aload_n 0, 1) := by decide +kernel
theorem dX10_mayBeLaid_35 : decode cX10_mayBeLaid 35 = .ok (.iload_n 1, 1) := by decide +kernel
theorem dX10_mayBeLaid_36 : decode cX10_mayBeLaid 36 = .ok (.invokevirtual 60, 3) := by decide +kernel
theorem dX10_mayBeLaid_39 : decode cX10_mayBeLaid 39 = .ok (.iconst 1, 1) := by decide +kernel
theorem dX10_mayBeLaid_40 : decode cX10_mayBeLaid 40 = .ok (.iadd, 1) := by decide +kernel
theorem dX10_mayBeLaid_41 : decode cX10_mayBeLaid 41 = .ok (.iload_n 3, 1) := by decide +kernel
theorem dX10_mayBeLaid_42 : decode cX10_mayBeLaid 42 = .ok (.iconst 2, 1) := by decide +kernel
theorem dX10_mayBeLaid_43 : decode cX10_mayBeLaid 43 = .ok (.iadd, 1) := by decide +kernel
theorem dX10_mayBeLaid_44 : decode cX10_mayBeLaid 44 = .ok (.invokestatic 132, 3) := by decide +kernel
theorem dX10_mayBeLaid_47 : decode cX10_mayBeLaid 47 = .ok (.istore 5, 2) := by decide +kernel
theorem dX10_mayBeLaid_49 : decode cX10_mayBeLaid 49 = .ok (.iload 5, 2) := by decide +kernel
theorem dX10_mayBeLaid_51 : decode cX10_mayBeLaid 51 = .ok (.aload_n 2, 1) := by decide +kernel
theorem dX10_mayBeLaid_52 : decode cX10_mayBeLaid 52 = .ok (.getfield 57, 3) := by decide +kernel
theorem dX10_mayBeLaid_55 : decode cX10_mayBeLaid 55 = .ok (.if_icmp .gt 13, 3) := by decide +kernel
theorem dX10_mayBeLaid_58 : decode cX10_mayBeLaid 58 = .ok (.aload_n 2, 1) := by decide +kernel
theorem dX10_mayBeLaid_59 : decode cX10_mayBeLaid 59 = .ok (.iload 5, 2) := by decide +kernel
theorem dX10_mayBeLaid_61 : decode cX10_mayBeLaid 61 = .ok (.invokevirtual 63, 3) := by decide +kernel
theorem dX10_mayBeLaid_64 : decode cX10_mayBeLaid 64 = .ok (.iconst 1, 1) := by decide +kernel
theorem dX10_mayBeLaid_65 : decode cX10_mayBeLaid 65 = .ok (.isub, 1) := by decide +kernel
theorem dX10_mayBeLaid_66 : decode cX10_mayBeLaid 66 = .ok (.istore 4, 2) := by decide +kernel
theorem dX10_mayBeLaid_68 : decode cX10_mayBeLaid 68 = .ok (.iload 4, 2) := by decide +kernel
theorem dX10_mayBeLaid_70 : decode cX10_mayBeLaid 70 = .ok (.aload_n 0, 1) := by decide +kernel
theorem dX10_mayBeLaid_71 : decode cX10_mayBeLaid 71 = .ok (.getfield 24, 3) := by decide +kernel
theorem dX10_mayBeLaid_74 : decode cX10_mayBeLaid 74 = .ok (.iload_n 1, 1) := by decide +kernel
theorem dX10_mayBeLaid_75 : decode cX10_mayBeLaid 75 = .ok (.invokevirtual 50, 3) := by decide +kernel
theorem dX10_mayBeLaid_78 : decode cX10_mayBeLaid 78 = .ok (.isub, 1) := by decide +kernel
theorem dX10_mayBeLaid_79 : decode cX10_mayBeLaid 79 = .ok (.ireturn, 1) := by decide +kernel
theorem dX10_fall_0 : decode cX10_fall 0 = .ok (.aload_n 0, 1) := by decide +kernel
theorem dX10_fall_1 : decode cX10_fall 1 = .ok (.iconst 0, 1) := by decide +kernel
theorem dX10_fall_2 : decode cX10_fall 2 = .ok (.invokevirtual 142, 3) := by decide +kernel
theorem dX10_fall_5 : decode cX10_fall 5 = .ok (.aload_n 0, 1) := by decide +kernel
theorem dX10_fall_6 : decode cX10_fall 6 = .ok (.iconst 1, 1) := by decide +kernel
theorem dX10_fall_7 : decode cX10_fall 7 = .ok (.invokevirtual 142, 3) := by decide +kernel
theorem dX10_fall_10 : decode cX10_fall 10 = .ok (.isub, 1) := by decide +kernel
theorem dX10_fall_11 : decode cX10_fall 11 = .ok (.istore_n 1, 1) := by decide +kernel
theorem dX10_fall_12 : decode cX10_fall 12 = .ok (.iload_n 1, 1) := by decide +kernel
theorem dX10_fall_13 : decode cX10_fall 13 = .ok (.invokestatic 145, 3) := by decide +kernel
theorem dX10_fall_16 : decode cX10_fall 16 = .ok (.aload_n 0, 1) := by decide +kernel
theorem dX10_fall_17 : decode cX10_fall 17 = .ok (.getfield 42, 3) := by decide +kernel
theorem dX10_fall_20 : decode cX10_fall 20 = .ok (.if_icmp .gt 4, 3) := by decide +kernel
theorem dX10_fall_23 : decode cX10_fall 23 = .ok (.return_, 1) := by decide +kernel
theorem dX10_fall_24 : decode cX10_fall 24 = .ok (.iload_n 1, 1) := by decide +kernel
theorem dX10_fall_25 : decode cX10_fall 25 = .ok (.ifCond .le 7, 3) := by decide +kernel
theorem dX10_fall_28 : decode cX10_fall 28 = .ok (.iconst 0, 1) := by decide +kernel
theorem dX10_fall_29 : decode cX10_fall 29 = .ok (.goto 4, 3) := by decide +kernel
theorem dX10_fall_32 : decode cX10_fall 32 = .ok (.iconst 1, 1) := by decide +kernel
theorem dX10_fall_33 : decode cX10_fall 33 = .ok (.istore_n 2, 1) := by decide +kernel
theorem dX10_fall_34 : decode cX10_fall 34 = .ok (.aload_n 0, 1) := by decide +kernel
theorem dX10_fall_35 : decode cX10_fall 35 = .ok (.iload_n 2, 1) := by decide +kernel
theorem dX10_fall_36 : decode cX10_fall 36 = .ok (.invokevirtual 60, 3) := by decide +kernel
theorem dX10_fall_39 : decode cX10_fall 39 = .ok (.istore_n 3, 1) := by decide +kernel
theorem dX10_fall_40 : decode cX10_fall 40 = .ok (.iload_n 3, 1) := by decide +kernel
theorem dX10_fall_41 : decode cX10_fall 41 = .ok (.ifCond .le 35, 3) := by decide +kernel
theorem dX10_fall_44 : decode cX10_fall 44 = .ok (.aload_n 0, 1) := by decide +kernel
theorem dX10_fall_45 : decode cX10_fall 45 = .ok (.getfield 24, 3) := by decide +kernel
theorem dX10_fall_48 : decode cX10_fall 48 = .ok (.iload_n 2, 1) := by decide +kernel
theorem dX10_fall_49 : decode cX10_fall 49 = .ok (.aload_n 0, 1) := by decide +kernel
theorem dX10_fall_50 : decode cX10_fall 50 = .ok (.iload_n 2, 1) := by decide +kernel
theorem dX10_fall_51 : decode cX10_fall 51 = .ok (.invokevirtual 46, 3) := by decide +kernel
theorem dX10_fall_54 : decode cX10_fall 54 = .ok (.iload_n 3, 1) := by decide +kernel
theorem dX10_fall_55 : decode cX10_fall 55 = .ok (.iconst 1, 1) := by decide +kernel
theorem dX10_fall_56 : decode cX10_fall 56 = .ok (.isub, 1) := by decide +kernel
theorem dX10_fall_57 : decode cX10_fall 57 = .ok (.invokevirtual 63, 3) := by decide +kernel
theorem dX10_fall_60 : decode cX10_fall 60 = .ok (.invokevirtual 148, 3) := by decide +kernel
theorem dX10_fall_63 : decode cX10_fall 63 = .ok (.aload_n 0, 1) := by decide +kernel
theorem dX10_fall_64 : decode cX10_fall 64 = .ok (.getfield 24, 3) := by decide +kernel
theorem dX10_fall_67 : decode cX10_fall 67 = .ok (.dup, 1) := by decide +kernel
theorem dX10_fall_68 : decode cX10_fall 68 = .ok (.getfield 151, 3) := by decide +kernel
theorem dX10_fall_71 : decode cX10_fall 71 = .ok (.iconst 1, 1) := by decide +kernel
theorem dX10_fall_72 : decode cX10_fall 72 = .ok (.iadd, 1) := by decide +kernel
theorem dX10_fall_73 : decode cX10_fall 73 = .ok (.putfield 151, 3) := by decide +kernel
theorem dX10_fall_76 : decode cX10_fall 76 = .ok (.return_, 1) := by decide +kernel
theorem dX10_tellAll_0 : decode cX10_tellAll 0 = .ok (.aload_n 0, 1) := by decide +kernel
theorem dX10_tellAll_1 : decode cX10_tellAll 1 = .ok (.getfield 30, 3) := by decide +kernel
theorem dX10_tellAll_4 : decode cX10_tellAll 4 = .ok (.iconst 5, 1) := by decide +kernel
theorem dX10_tellAll_5 : decode cX10_tellAll 5 = .ok (.aload_n 0, 1) := by decide +kernel
theorem dX10_tellAll_6 : decode cX10_tellAll 6 = .ok (.getfield 24, 3) := by decide +kernel
theorem dX10_tellAll_9 : decode cX10_tellAll 9 = .ok (.getfield 121, 3) := by decide +kernel
theorem dX10_tellAll_12 : decode cX10_tellAll 12 = .ok (.invokestatic 96, 3) := by decide +kernel
theorem dX10_tellAll_15 : decode cX10_tellAll 15 = .ok (.aload_n 0, 1) := by decide +kernel
theorem dX10_tellAll_16 : decode cX10_tellAll 16 = .ok (.getfield 30, 3) := by decide +kernel
theorem dX10_tellAll_19 : decode cX10_tellAll 19 = .ok (.bipush 6, 2) := by decide +kernel
theorem dX10_tellAll_21 : decode cX10_tellAll 21 = .ok (.aload_n 0, 1) := by decide +kernel
theorem dX10_tellAll_22 : decode cX10_tellAll 22 = .ok (.getfield 24, 3) := by decide +kernel
theorem dX10_tellAll_25 : decode cX10_tellAll 25 = .ok (.getfield 154, 3) := by decide +kernel
theorem dX10_tellAll_28 : decode cX10_tellAll 28 = .ok (.bipush 100, 2) := by decide +kernel
theorem dX10_tellAll_30 : decode cX10_tellAll 30 = .ok (.idiv, 1) := by decide +kernel
theorem dX10_tellAll_31 : decode cX10_tellAll 31 = .ok (.invokestatic 96, 3) := by decide +kernel
theorem dX10_tellAll_34 : decode cX10_tellAll 34 = .ok (.aload_n 0, 1) := by decide +kernel
theorem dX10_tellAll_35 : decode cX10_tellAll 35 = .ok (.getfield 30, 3) := by decide +kernel
theorem dX10_tellAll_38 : decode cX10_tellAll 38 = .ok (.bipush 7, 2) := by decide +kernel
theorem dX10_tellAll_40 : decode cX10_tellAll 40 = .ok (.aload_n 0, 1) := by decide +kernel
theorem dX10_tellAll_41 : decode cX10_tellAll 41 = .ok (.getfield 24, 3) := by decide +kernel
theorem dX10_tellAll_44 : decode cX10_tellAll 44 = .ok (.getfield 77, 3) := by decide +kernel
theorem dX10_tellAll_47 : decode cX10_tellAll 47 = .ok (.bipush 100, 2) := by decide +kernel
theorem dX10_tellAll_49 : decode cX10_tellAll 49 = .ok (.irem, 1) := by decide +kernel
theorem dX10_tellAll_50 : decode cX10_tellAll 50 = .ok (.invokestatic 96, 3) := by decide +kernel
theorem dX10_tellAll_53 : decode cX10_tellAll 53 = .ok (.aload_n 0, 1) := by decide +kernel
theorem dX10_tellAll_54 : decode cX10_tellAll 54 = .ok (.getfield 30, 3) := by decide +kernel
theorem dX10_tellAll_57 : decode cX10_tellAll 57 = .ok (.bipush 8, 2) := by decide +kernel
theorem dX10_tellAll_59 : decode cX10_tellAll 59 = .ok (.iload_n 1, 1) := by decide +kernel
theorem dX10_tellAll_60 : decode cX10_tellAll 60 = .ok (.invokestatic 96, 3) := by decide +kernel
theorem dX10_tellAll_63 : decode cX10_tellAll 63 = .ok (.return_, 1) := by decide +kernel
theorem dX10_tellSide_0 : decode cX10_tellSide 0 = .ok (.aload_n 0, 1) := by decide +kernel
theorem dX10_tellSide_1 : decode cX10_tellSide 1 = .ok (.getfield 30, 3) := by decide +kernel
theorem dX10_tellSide_4 : decode cX10_tellSide 4 = .ok (.iconst 0, 1) := by decide +kernel
theorem dX10_tellSide_5 : decode cX10_tellSide 5 = .ok (.iload_n 1, 1) := by decide +kernel
theorem dX10_tellSide_6 : decode cX10_tellSide 6 = .ok (.invokestatic 96, 3) := by decide +kernel
theorem dX10_tellSide_9 : decode cX10_tellSide 9 = .ok (.aload_n 0, 1) := by decide +kernel
theorem dX10_tellSide_10 : decode cX10_tellSide 10 = .ok (.getfield 30, 3) := by decide +kernel
theorem dX10_tellSide_13 : decode cX10_tellSide 13 = .ok (.iconst 1, 1) := by decide +kernel
theorem dX10_tellSide_14 : decode cX10_tellSide 14 = .ok (.aload_n 0, 1) := by decide +kernel
theorem dX10_tellSide_15 : decode cX10_tellSide 15 = .ok (.iload_n 1, 1) := by decide +kernel
theorem dX10_tellSide_16 : decode cX10_tellSide 16 = .ok (.invokevirtual 60, 3) := by decide +kernel
theorem dX10_tellSide_19 : decode cX10_tellSide 19 = .ok (.invokestatic 96, 3) := by decide +kernel
theorem dX10_tellSide_22 : decode cX10_tellSide 22 = .ok (.aload_n 0, 1) := by decide +kernel
theorem dX10_tellSide_23 : decode cX10_tellSide 23 = .ok (.getfield 30, 3) := by decide +kernel
theorem dX10_tellSide_26 : decode cX10_tellSide 26 = .ok (.iconst 2, 1) := by decide +kernel
theorem dX10_tellSide_27 : decode cX10_tellSide 27 = .ok (.aload_n 0, 1) := by decide +kernel
theorem dX10_tellSide_28 : decode cX10_tellSide 28 = .ok (.iconst 1, 1) := by decide +kernel
theorem dX10_tellSide_29 : decode cX10_tellSide 29 = .ok (.iload_n 1, 1) := by decide +kernel
theorem dX10_tellSide_30 : decode cX10_tellSide 30 = .ok (.isub, 1) := by decide +kernel
theorem dX10_tellSide_31 : decode cX10_tellSide 31 = .ok (.invokevirtual 60, 3) := by decide +kernel
theorem dX10_tellSide_34 : decode cX10_tellSide 34 = .ok (.invokestatic 96, 3) := by decide +kernel
theorem dX10_tellSide_37 : decode cX10_tellSide 37 = .ok (.aload_n 0, 1) := by decide +kernel
theorem dX10_tellSide_38 : decode cX10_tellSide 38 = .ok (.getfield 30, 3) := by decide +kernel
theorem dX10_tellSide_41 : decode cX10_tellSide 41 = .ok (.iconst 3, 1) := by decide +kernel
theorem dX10_tellSide_42 : decode cX10_tellSide 42 = .ok (.aload_n 0, 1) := by decide +kernel
theorem dX10_tellSide_43 : decode cX10_tellSide 43 = .ok (.iload_n 1, 1) := by decide +kernel
theorem dX10_tellSide_44 : decode cX10_tellSide 44 = .ok (.invokevirtual 157, 3) := by decide +kernel
theorem dX10_tellSide_47 : decode cX10_tellSide 47 = .ok (.invokestatic 96, 3) := by decide +kernel
theorem dX10_tellSide_50 : decode cX10_tellSide 50 = .ok (.aload_n 0, 1) := by decide +kernel
theorem dX10_tellSide_51 : decode cX10_tellSide 51 = .ok (.getfield 30, 3) := by decide +kernel
theorem dX10_tellSide_54 : decode cX10_tellSide 54 = .ok (.iconst 4, 1) := by decide +kernel
theorem dX10_tellSide_55 : decode cX10_tellSide 55 = .ok (.aload_n 0, 1) := by decide +kernel
theorem dX10_tellSide_56 : decode cX10_tellSide 56 = .ok (.iload_n 1, 1) := by decide +kernel
theorem dX10_tellSide_57 : decode cX10_tellSide 57 = .ok (.invokevirtual 160, 3) := by decide +kernel
theorem dX10_tellSide_60 : decode cX10_tellSide 60 = .ok (.invokestatic 96, 3) := by decide +kernel
theorem dX10_tellSide_63 : decode cX10_tellSide 63 = .ok (.return_, 1) := by decide +kernel
theorem dX10_daysTillBank_0 : decode cX10_daysTillBank 0 = .ok (.iconst 0, 1) := by decide +kernel
theorem dX10_daysTillBank_1 : decode cX10_daysTillBank 1 = .ok (.istore_n 2, 1) := by decide +kernel
theorem dX10_daysTillBank_2 : decode cX10_daysTillBank 2 = .ok (.iload_n 2, 1) := by decide +kernel
theorem dX10_daysTillBank_3 : decode cX10_daysTillBank 3 = .ok (.iload_n 1, 1) := by decide +kernel
theorem dX10_daysTillBank_4 : decode cX10_daysTillBank 4 = .ok (.if_icmp .gt 39, 3) := by decide +kernel
theorem dX10_daysTillBank_7 : decode cX10_daysTillBank 7 = .ok (.iload_n 2, 1) := by decide +kernel
theorem dX10_daysTillBank_8 : decode cX10_daysTillBank 8 = .ok (.sipush 240, 3) := by decide +kernel
theorem dX10_daysTillBank_11 : decode cX10_daysTillBank 11 = .ok (.if_icmp .gt 32, 3) := by decide +kernel
theorem dX10_daysTillBank_14 : decode cX10_daysTillBank 14 = .ok (.aload_n 0, 1) := by decide +kernel
theorem dX10_daysTillBank_15 : decode cX10_daysTillBank 15 = .ok (.iconst 0, 1) := by decide +kernel
theorem dX10_daysTillBank_16 : decode cX10_daysTillBank 16 = .ok (.invokevirtual 110, 3) := by decide +kernel
theorem dX10_daysTillBank_19 : decode cX10_daysTillBank 19 = .ok (.ifCond .ne 11, 3) := by decide +kernel
theorem dX10_daysTillBank_22 : decode cX10_daysTillBank 22 = .ok (.aload_n 0, 1) := by decide +kernel
theorem dX10_daysTillBank_23 : decode cX10_daysTillBank 23 = .ok (.iconst 1, 1) := by decide +kernel
theorem dX10_daysTillBank_24 : decode cX10_daysTillBank 24 = .ok (.invokevirtual 110, 3) := by decide +kernel
theorem dX10_daysTillBank_27 : decode cX10_daysTillBank 27 = .ok (.ifCond .eq 5, 3) := by decide +kernel
theorem dX10_daysTillBank_30 : decode cX10_daysTillBank 30 = .ok (.iload_n 2, 1) := by decide +kernel
theorem dX10_daysTillBank_31 : decode cX10_daysTillBank 31 = .ok (.ireturn, 1) := by decide +kernel
theorem dX10_daysTillBank_32 : decode cX10_daysTillBank 32 = .ok (.aload_n 0, 1) := by decide +kernel
theorem dX10_daysTillBank_33 : decode cX10_daysTillBank 33 = .ok (.invokevirtual 73, 3) := by decide +kernel
theorem dX10_daysTillBank_36 : decode cX10_daysTillBank 36 = .ok (.pop, 1) := by decide +kernel
theorem dX10_daysTillBank_37 : decode cX10_daysTillBank 37 = .ok (.iinc 2 1, 3) := by decide +kernel
theorem dX10_daysTillBank_40 : decode cX10_daysTillBank 40 = .ok (.goto (-38), 3) := by decide +kernel
theorem dX10_daysTillBank_43 : decode cX10_daysTillBank 43 = .ok (.bipush (-2), 2) := by decide +kernel
theorem dX10_daysTillBank_45 : decode cX10_daysTillBank 45 = .ok (.ireturn, 1) := by decide +kernel
theorem dX10_sideAtBank_0 : decode cX10_sideAtBank 0 = .ok (.aload_n 0, 1) := by decide +kernel
theorem dX10_sideAtBank_1 : decode cX10_sideAtBank 1 = .ok (.iconst 0, 1) := by decide +kernel
theorem dX10_sideAtBank_2 : decode cX10_sideAtBank 2 = .ok (.invokevirtual 110, 3) := by decide +kernel
theorem dX10_sideAtBank_5 : decode cX10_sideAtBank 5 = .ok (.ifCond .eq 13, 3) := by decide +kernel
theorem dX10_sideAtBank_8 : decode cX10_sideAtBank 8 = .ok (.aload_n 0, 1) := by decide +kernel
theorem dX10_sideAtBank_9 : decode cX10_sideAtBank 9 = .ok (.iconst 1, 1) := by decide +kernel
theorem dX10_sideAtBank_10 : decode cX10_sideAtBank 10 = .ok (.invokevirtual 110, 3) := by decide +kernel
theorem dX10_sideAtBank_13 : decode cX10_sideAtBank 13 = .ok (.ifCond .eq 5, 3) := by decide +kernel
theorem dX10_sideAtBank_16 : decode cX10_sideAtBank 16 = .ok (.iconst 2, 1) := by decide +kernel
theorem dX10_sideAtBank_17 : decode cX10_sideAtBank 17 = .ok (.ireturn, 1) := by decide +kernel
theorem dX10_sideAtBank_18 : decode cX10_sideAtBank 18 = .ok (.aload_n 0, 1) := by decide +kernel
theorem dX10_sideAtBank_19 : decode cX10_sideAtBank 19 = .ok (.iconst 0, 1) := by decide +kernel
theorem dX10_sideAtBank_20 : decode cX10_sideAtBank 20 = .ok (.invokevirtual 110, 3) := by decide +kernel
theorem dX10_sideAtBank_23 : decode cX10_sideAtBank 23 = .ok (.ifCond .eq 7, 3) := by decide +kernel
theorem dX10_sideAtBank_26 : decode cX10_sideAtBank 26 = .ok (.iconst 0, 1) := by decide +kernel
theorem dX10_sideAtBank_27 : decode cX10_sideAtBank 27 = .ok (.goto 4, 3) := by decide +kernel
theorem dX10_sideAtBank_30 : decode cX10_sideAtBank 30 = .ok (.iconst 1, 1) := by decide +kernel
theorem dX10_sideAtBank_31 : decode cX10_sideAtBank 31 = .ok (.ireturn, 1) := by decide +kernel
theorem dX10_mostAhead_0 : decode cX10_mostAhead 0 = .ok (.iconst 0, 1) := by decide +kernel
theorem dX10_mostAhead_1 : decode cX10_mostAhead 1 = .ok (.istore_n 2, 1) := by decide +kernel
theorem dX10_mostAhead_2 : decode cX10_mostAhead 2 = .ok (.iconst 0, 1) := by decide +kernel
theorem dX10_mostAhead_3 : decode cX10_mostAhead 3 = .ok (.istore_n 3, 1) := by decide +kernel
theorem dX10_mostAhead_4 : decode cX10_mostAhead 4 = .ok (.iload_n 3, 1) := by decide +kernel
theorem dX10_mostAhead_5 : decode cX10_mostAhead 5 = .ok (.iload_n 1, 1) := by decide +kernel
theorem dX10_mostAhead_6 : decode cX10_mostAhead 6 = .ok (.if_icmp .gt 40, 3) := by decide +kernel
theorem dX10_mostAhead_9 : decode cX10_mostAhead 9 = .ok (.iload_n 3, 1) := by decide +kernel
theorem dX10_mostAhead_10 : decode cX10_mostAhead 10 = .ok (.sipush 240, 3) := by decide +kernel
theorem dX10_mostAhead_13 : decode cX10_mostAhead 13 = .ok (.if_icmp .gt 33, 3) := by decide +kernel
theorem dX10_mostAhead_16 : decode cX10_mostAhead 16 = .ok (.iload_n 2, 1) := by decide +kernel
theorem dX10_mostAhead_17 : decode cX10_mostAhead 17 = .ok (.aload_n 0, 1) := by decide +kernel
theorem dX10_mostAhead_18 : decode cX10_mostAhead 18 = .ok (.iconst 0, 1) := by decide +kernel
theorem dX10_mostAhead_19 : decode cX10_mostAhead 19 = .ok (.invokevirtual 60, 3) := by decide +kernel
theorem dX10_mostAhead_22 : decode cX10_mostAhead 22 = .ok (.aload_n 0, 1) := by decide +kernel
theorem dX10_mostAhead_23 : decode cX10_mostAhead 23 = .ok (.iconst 1, 1) := by decide +kernel
theorem dX10_mostAhead_24 : decode cX10_mostAhead 24 = .ok (.invokevirtual 60, 3) := by decide +kernel
theorem dX10_mostAhead_27 : decode cX10_mostAhead 27 = .ok (.isub, 1) := by decide +kernel
theorem dX10_mostAhead_28 : decode cX10_mostAhead 28 = .ok (.invokestatic 145, 3) := by decide +kernel
theorem dX10_mostAhead_31 : decode cX10_mostAhead 31 = .ok (.invokestatic 132, 3) := by decide +kernel
theorem dX10_mostAhead_34 : decode cX10_mostAhead 34 = .ok (.istore_n 2, 1) := by decide +kernel
theorem dX10_mostAhead_35 : decode cX10_mostAhead 35 = .ok (.aload_n 0, 1) := by decide +kernel
theorem dX10_mostAhead_36 : decode cX10_mostAhead 36 = .ok (.invokevirtual 73, 3) := by decide +kernel
theorem dX10_mostAhead_39 : decode cX10_mostAhead 39 = .ok (.pop, 1) := by decide +kernel
theorem dX10_mostAhead_40 : decode cX10_mostAhead 40 = .ok (.iinc 3 1, 3) := by decide +kernel
theorem dX10_mostAhead_43 : decode cX10_mostAhead 43 = .ok (.goto (-39), 3) := by decide +kernel
theorem dX10_mostAhead_46 : decode cX10_mostAhead 46 = .ok (.iload_n 2, 1) := by decide +kernel
theorem dX10_mostAhead_47 : decode cX10_mostAhead 47 = .ok (.ireturn, 1) := by decide +kernel
theorem dX10_daysTillDebt_0 : decode cX10_daysTillDebt 0 = .ok (.iconst 0, 1) := by decide +kernel
theorem dX10_daysTillDebt_1 : decode cX10_daysTillDebt 1 = .ok (.istore_n 3, 1) := by decide +kernel
theorem dX10_daysTillDebt_2 : decode cX10_daysTillDebt 2 = .ok (.iload_n 3, 1) := by decide +kernel
theorem dX10_daysTillDebt_3 : decode cX10_daysTillDebt 3 = .ok (.iload_n 1, 1) := by decide +kernel
theorem dX10_daysTillDebt_4 : decode cX10_daysTillDebt 4 = .ok (.if_icmp .gt 34, 3) := by decide +kernel
theorem dX10_daysTillDebt_7 : decode cX10_daysTillDebt 7 = .ok (.iload_n 3, 1) := by decide +kernel
theorem dX10_daysTillDebt_8 : decode cX10_daysTillDebt 8 = .ok (.sipush 240, 3) := by decide +kernel
theorem dX10_daysTillDebt_11 : decode cX10_daysTillDebt 11 = .ok (.if_icmp .gt 27, 3) := by decide +kernel
theorem dX10_daysTillDebt_14 : decode cX10_daysTillDebt 14 = .ok (.aload_n 0, 1) := by decide +kernel
theorem dX10_daysTillDebt_15 : decode cX10_daysTillDebt 15 = .ok (.getfield 24, 3) := by decide +kernel
theorem dX10_daysTillDebt_18 : decode cX10_daysTillDebt 18 = .ok (.getfield 154, 3) := by decide +kernel
theorem dX10_daysTillDebt_21 : decode cX10_daysTillDebt 21 = .ok (.iload_n 2, 1) := by decide +kernel
theorem dX10_daysTillDebt_22 : decode cX10_daysTillDebt 22 = .ok (.if_icmp .le 5, 3) := by decide +kernel
theorem dX10_daysTillDebt_25 : decode cX10_daysTillDebt 25 = .ok (.iload_n 3, 1) := by decide +kernel
theorem dX10_daysTillDebt_26 : decode cX10_daysTillDebt 26 = .ok (.ireturn, 1) := by decide +kernel
theorem dX10_daysTillDebt_27 : decode cX10_daysTillDebt 27 = .ok (.aload_n 0, 1) := by decide +kernel
theorem dX10_daysTillDebt_28 : decode cX10_daysTillDebt 28 = .ok (.invokevirtual 73, 3) := by decide +kernel
theorem dX10_daysTillDebt_31 : decode cX10_daysTillDebt 31 = .ok (.pop, 1) := by decide +kernel
theorem dX10_daysTillDebt_32 : decode cX10_daysTillDebt 32 = .ok (.iinc 3 1, 3) := by decide +kernel
theorem dX10_daysTillDebt_35 : decode cX10_daysTillDebt 35 = .ok (.goto (-33), 3) := by decide +kernel
theorem dX10_daysTillDebt_38 : decode cX10_daysTillDebt 38 = .ok (.bipush (-2), 2) := by decide +kernel
theorem dX10_daysTillDebt_40 : decode cX10_daysTillDebt 40 = .ok (.ireturn, 1) := by decide +kernel
theorem dX11_init_0 : decode cX11_init 0 = .ok (.aload_n 0, 1) := by decide +kernel
theorem dX11_init_1 : decode cX11_init 1 = .ok (.invokespecial 1, 3) := by decide +kernel
theorem dX11_init_4 : decode cX11_init 4 = .ok (.aload_n 0, 1) := by decide +kernel
theorem dX11_init_5 : decode cX11_init 5 = .ok (.sipush 260, 3) := by decide +kernel
theorem dX11_init_8 : decode cX11_init 8 = .ok (.newarray .int, 2) := by decide +kernel
theorem dX11_init_10 : decode cX11_init 10 = .ok (.putfield 9, 3) := by decide +kernel
theorem dX11_init_13 : decode cX11_init 13 = .ok (.aload_n 0, 1) := by decide +kernel
theorem dX11_init_14 : decode cX11_init 14 = .ok (.new 13, 3) := by decide +kernel
theorem dX11_init_17 : decode cX11_init 17 = .ok (.dup, 1) := by decide +kernel
theorem dX11_init_18 : decode cX11_init 18 = .ok (.invokespecial 15, 3) := by decide +kernel
theorem dX11_init_21 : decode cX11_init 21 = .ok (.putfield 16, 3) := by decide +kernel
theorem dX11_init_24 : decode cX11_init 24 = .ok (.aload_n 0, 1) := by decide +kernel
theorem dX11_init_25 : decode cX11_init 25 = .ok (.new 20, 3) := by decide +kernel
theorem dX11_init_28 : decode cX11_init 28 = .ok (.dup, 1) := by decide +kernel
theorem dX11_init_29 : decode cX11_init 29 = .ok (.invokespecial 22, 3) := by decide +kernel
theorem dX11_init_32 : decode cX11_init 32 = .ok (.putfield 23, 3) := by decide +kernel
theorem dX11_init_35 : decode cX11_init 35 = .ok (.aload_n 0, 1) := by decide +kernel
theorem dX11_init_36 : decode cX11_init 36 = .ok (.new 27, 3) := by decide +kernel
theorem dX11_init_39 : decode cX11_init 39 = .ok (.dup, 1) := by decide +kernel
theorem dX11_init_40 : decode cX11_init 40 = .ok (.invokespecial 29, 3) := by decide +kernel
theorem dX11_init_43 : decode cX11_init 43 = .ok (.putfield 30, 3) := by decide +kernel
theorem dX11_init_46 : decode cX11_init 46 = .ok (.aload_n 0, 1) := by decide +kernel
theorem dX11_init_47 : decode cX11_init 47 = .ok (.new 34, 3) := by decide +kernel
theorem dX11_init_50 : decode cX11_init 50 = .ok (.dup, 1) := by decide +kernel
theorem dX11_init_51 : decode cX11_init 51 = .ok (.invokespecial 36, 3) := by decide +kernel
theorem dX11_init_54 : decode cX11_init 54 = .ok (.putfield 37, 3) := by decide +kernel
theorem dX11_init_57 : decode cX11_init 57 = .ok (.aload_n 0, 1) := by decide +kernel
theorem dX11_init_58 : decode cX11_init 58 = .ok (.new 41, 3) := by decide +kernel
theorem dX11_init_61 : decode cX11_init 61 = .ok (.dup, 1) := by decide +kernel
theorem dX11_init_62 : decode cX11_init 62 = .ok (.invokespecial 43, 3) := by decide +kernel
theorem dX11_init_65 : decode cX11_init 65 = .ok (.putfield 44, 3) := by decide +kernel
theorem dX11_init_68 : decode cX11_init 68 = .ok (.aload_n 0, 1) := by decide +kernel
theorem dX11_init_69 : decode cX11_init 69 = .ok (.new 48, 3) := by decide +kernel
theorem dX11_init_72 : decode cX11_init 72 = .ok (.dup, 1) := by decide +kernel
theorem dX11_init_73 : decode cX11_init 73 = .ok (.invokespecial 50, 3) := by decide +kernel
theorem dX11_init_76 : decode cX11_init 76 = .ok (.putfield 51, 3) := by decide +kernel
theorem dX11_init_79 : decode cX11_init 79 = .ok (.aload_n 0, 1) := by decide +kernel
theorem dX11_init_80 : decode cX11_init 80 = .ok (.new 48, 3) := by decide +kernel
theorem dX11_init_83 : decode cX11_init 83 = .ok (.dup, 1) := by decide +kernel
theorem dX11_init_84 : decode cX11_init 84 = .ok (.invokespecial 50, 3) := by decide +kernel
theorem dX11_init_87 : decode cX11_init 87 = .ok (.putfield 55, 3) := by decide +kernel
theorem dX11_init_90 : decode cX11_init 90 = .ok (.aload_n 0, 1) := by decide +kernel
theorem dX11_init_91 : decode cX11_init 91 = .ok (.new 58, 3) := by decide +kernel
theorem dX11_init_94 : decode cX11_init 94 = .ok (.dup, 1) := by decide +kernel
theorem dX11_init_95 : decode cX11_init 95 = .ok (.invokespecial 60, 3) := by decide +kernel
theorem dX11_init_98 : decode cX11_init 98 = .ok (.putfield 61, 3) := by decide +kernel
theorem dX11_init_101 : decode cX11_init 101 = .ok (.aload_n 0, 1) := by decide +kernel
theorem dX11_init_102 : decode cX11_init 102 = .ok (.new 65, 3) := by decide +kernel
theorem dX11_init_105 : decode cX11_init 105 = .ok (.dup, 1) := by decide +kernel
theorem dX11_init_106 : decode cX11_init 106 = .ok (.invokespecial 67, 3) := by decide +kernel
theorem dX11_init_109 : decode cX11_init 109 = .ok (.putfield 68, 3) := by decide +kernel
theorem dX11_init_112 : decode cX11_init 112 = .ok (.aload_n 0, 1) := by decide +kernel
theorem dX11_init_113 : decode cX11_init 113 = .ok (.iconst 0, 1) := by decide +kernel
theorem dX11_init_114 : decode cX11_init 114 = .ok (.putfield 72, 3) := by decide +kernel
theorem dX11_init_117 : decode cX11_init 117 = .ok (.aload_n 0, 1) := by decide +kernel
theorem dX11_init_118 : decode cX11_init 118 = .ok (.iconst 0, 1) := by decide +kernel
theorem dX11_init_119 : decode cX11_init 119 = .ok (.putfield 76, 3) := by decide +kernel
theorem dX11_init_122 : decode cX11_init 122 = .ok (.return_, 1) := by decide +kernel
theorem dX11_tilt_0 : decode cX11_tilt 0 = .ok (.iload_n 1, 1) := by decide +kernel
theorem dX11_tilt_1 : decode cX11_tilt 1 = .ok (.iconst 0, 1) := by decide +kernel
theorem dX11_tilt_2 : decode cX11_tilt 2 = .ok (.ldc 80, 2) := by decide +kernel
theorem dX11_tilt_4 : decode cX11_tilt 4 = .ok (.invokestatic 81, 3) := by decide +kernel
theorem dX11_tilt_7 : decode cX11_tilt 7 = .ok (.ifCond .ne 5, 3) := by decide +kernel
theorem dX11_tilt_10 : decode cX11_tilt 10 = .ok (.iconst 0, 1) := by decide +kernel
theorem dX11_tilt_11 : decode cX11_tilt 11 = .ok (.ireturn, 1) := by decide +kernel
theorem dX11_tilt_12 : decode cX11_tilt 12 = .ok (.aload_n 0, 1) := by decide +kernel
theorem dX11_tilt_13 : decode cX11_tilt 13 = .ok (.getfield 44, 3) := by decide +kernel
theorem dX11_tilt_16 : decode cX11_tilt 16 = .ok (.iload_n 1, 1) := by decide +kernel
theorem dX11_tilt_17 : decode cX11_tilt 17 = .ok (.putfield 85, 3) := by decide +kernel
theorem dX11_tilt_20 : decode cX11_tilt 20 = .ok (.iconst 1, 1) := by decide +kernel
theorem dX11_tilt_21 : decode cX11_tilt 21 = .ok (.ireturn, 1) := by decide +kernel
theorem dX11_feed_0 : decode cX11_feed 0 = .ok (.aload_n 0, 1) := by decide +kernel
theorem dX11_feed_1 : decode cX11_feed 1 = .ok (.getfield 72, 3) := by decide +kernel
theorem dX11_feed_4 : decode cX11_feed 4 = .ok (.bipush 20, 2) := by decide +kernel
theorem dX11_feed_6 : decode cX11_feed 6 = .ok (.iadd, 1) := by decide +kernel
theorem dX11_feed_7 : decode cX11_feed 7 = .ok (.sipush 260, 3) := by decide +kernel
theorem dX11_feed_10 : decode cX11_feed 10 = .ok (.if_icmp .le 5, 3) := by decide +kernel
theorem dX11_feed_13 : decode cX11_feed 13 = .ok (.iconst (-1), 1) := by decide +kernel
theorem dX11_feed_14 : decode cX11_feed 14 = .ok (.ireturn, 1) := by decide +kernel
theorem dX11_feed_15 : decode cX11_feed 15 = .ok (.aload_n 0, 1) := by decide +kernel
theorem dX11_feed_16 : decode cX11_feed 16 = .ok (.iload_n 1, 1) := by decide +kernel
theorem dX11_feed_17 : decode cX11_feed 17 = .ok (.invokevirtual 88, 3) := by decide +kernel
theorem dX11_feed_20 : decode cX11_feed 20 = .ok (.aload_n 0, 1) := by decide +kernel
theorem dX11_feed_21 : decode cX11_feed 21 = .ok (.iload_n 2, 1) := by decide +kernel
theorem dX11_feed_22 : decode cX11_feed 22 = .ok (.invokevirtual 88, 3) := by decide +kernel
theorem dX11_feed_25 : decode cX11_feed 25 = .ok (.aload_n 0, 1) := by decide +kernel
theorem dX11_feed_26 : decode cX11_feed 26 = .ok (.iload_n 3, 1) := by decide +kernel
theorem dX11_feed_27 : decode cX11_feed 27 = .ok (.invokevirtual 88, 3) := by decide +kernel
theorem dX11_feed_30 : decode cX11_feed 30 = .ok (.aload_n 0, 1) := by decide +kernel
theorem dX11_feed_31 : decode cX11_feed 31 = .ok (.iload 4, 2) := by decide +kernel
theorem dX11_feed_33 : decode cX11_feed 33 = .ok (.invokevirtual 88, 3) := by decide +kernel
theorem dX11_feed_36 : decode cX11_feed 36 = .ok (.aload_n 0, 1) := by decide +kernel
theorem dX11_feed_37 : decode cX11_feed 37 = .ok (.iload 5, 2) := by decide +kernel
theorem dX11_feed_39 : decode cX11_feed 39 = .ok (.invokevirtual 88, 3) := by decide +kernel
theorem dX11_feed_42 : decode cX11_feed 42 = .ok (.aload_n 0, 1) := by decide +kernel
theorem dX11_feed_43 : decode cX11_feed 43 = .ok (.getfield 72, 3) := by decide +kernel
theorem dX11_feed_46 : decode cX11_feed 46 = .ok (.ireturn, 1) := by decide +kernel
theorem dX11_law_0 : decode cX11_law 0 = .ok (.aload_n 0, 1) := by decide +kernel
theorem dX11_law_1 : decode cX11_law 1 = .ok (.iload_n 1, 1) := by decide +kernel
theorem dX11_law_2 : decode cX11_law 2 = .ok (.sipush 240, 3) := by decide +kernel
theorem dX11_law_5 : decode cX11_law 5 = .ok (.invokevirtual 92, 3) := by decide +kernel
theorem dX11_law_8 : decode cX11_law 8 = .ok (.ifCond .ne 5, 3) := by decide +kernel
theorem dX11_law_11 : decode cX11_law 11 = .ok (.iconst (-1), 1) := by decide +kernel
theorem dX11_law_12 : decode cX11_law 12 = .ok (.ireturn, 1) := by decide +kernel
theorem dX11_law_13 : decode cX11_law 13 = .ok (.aload_n 0, 1) := by decide +kernel
theorem dX11_law_14 : decode cX11_law 14 = .ok (.getfield 37, 3) := by decide +kernel
theorem dX11_law_17 : decode cX11_law 17 = .ok (.aload_n 0, 1) := by decide +kernel
theorem dX11_law_18 : decode cX11_law 18 = .ok (.getfield 16, 3) := by decide +kernel
theorem dX11_law_21 : decode cX11_law 21 = .ok (.invokevirtual 96, 3) := by decide +kernel
theorem dX11_law_24 : decode cX11_law 24 = .ok (.aload_n 0, 1) := by decide +kernel
theorem dX11_law_25 : decode cX11_law 25 = .ok (.getfield 16, 3) := by decide +kernel
theorem dX11_law_28 : decode cX11_law 28 = .ok (.invokevirtual 100, 3) := by decide +kernel
theorem dX11_law_31 : decode cX11_law 31 = .ok (.ifCond .ne 11, 3) := by decide +kernel
theorem dX11_law_34 : decode cX11_law 34 = .ok (.aload_n 0, 1) := by decide +kernel
theorem dX11_law_35 : decode cX11_law 35 = .ok (.getfield 16, 3) := by decide +kernel
theorem dX11_law_38 : decode cX11_law 38 = .ok (.getfield 104, 3) := by decide +kernel
theorem dX11_law_41 : decode cX11_law 41 = .ok (.ireturn, 1) := by decide +kernel
theorem dX11_law_42 : decode cX11_law 42 = .ok (.aload_n 0, 1) := by decide +kernel
theorem dX11_law_43 : decode cX11_law 43 = .ok (.getfield 44, 3) := by decide +kernel
theorem dX11_law_46 : decode cX11_law 46 = .ok (.aload_n 0, 1) := by decide +kernel
theorem dX11_law_47 : decode cX11_law 47 = .ok (.getfield 37, 3) := by decide +kernel
theorem dX11_law_50 : decode cX11_law 50 = .ok (.aload_n 0, 1) := by decide +kernel
theorem dX11_law_51 : decode cX11_law 51 = .ok (.getfield 44, 3) := by decide +kernel
theorem dX11_law_54 : decode cX11_law 54 = .ok (.getfield 107, 3) := by decide +kernel
theorem dX11_law_57 : decode cX11_law 57 = .ok (.invokevirtual 111, 3) := by decide +kernel
theorem dX11_law_60 : decode cX11_law 60 = .ok (.putfield 107, 3) := by decide +kernel
theorem dX11_law_63 : decode cX11_law 63 = .ok (.aload_n 0, 1) := by decide +kernel
theorem dX11_law_64 : decode cX11_law 64 = .ok (.getfield 44, 3) := by decide +kernel
theorem dX11_law_67 : decode cX11_law 67 = .ok (.getfield 107, 3) := by decide +kernel
theorem dX11_law_70 : decode cX11_law 70 = .ok (.getfield 115, 3) := by decide +kernel
theorem dX11_law_73 : decode cX11_law 73 = .ok (.ireturn, 1) := by decide +kernel
theorem dX11_plan_0 : decode cX11_plan 0 = .ok (.iload_n 1, 1) := by decide +kernel
theorem dX11_plan_1 : decode cX11_plan 1 = .ok (.iconst 0, 1) := by decide +kernel
theorem dX11_plan_2 : decode cX11_plan 2 = .ok (.iconst 1, 1) := by decide +kernel
theorem dX11_plan_3 : decode cX11_plan 3 = .ok (.invokestatic 81, 3) := by decide +kernel
theorem dX11_plan_6 : decode cX11_plan 6 = .ok (.ifCond .eq 13, 3) := by decide +kernel
theorem dX11_plan_9 : decode cX11_plan 9 = .ok (.aload_n 0, 1) := by decide +kernel
theorem dX11_plan_10 : decode cX11_plan 10 = .ok (.iload_n 2, 1) := by decide +kernel
theorem dX11_plan_11 : decode cX11_plan 11 = .ok (.bipush 80, 2) := by decide +kernel
theorem dX11_plan_13 : decode cX11_plan 13 = .ok (.invokevirtual 92, 3) := by decide +kernel
theorem dX11_plan_16 : decode cX11_plan 16 = .ok (.ifCond .ne 5, 3) := by decide +kernel
theorem dX11_plan_19 : decode cX11_plan 19 = .ok (.iconst (-1), 1) := by decide +kernel
theorem dX11_plan_20 : decode cX11_plan 20 = .ok (.ireturn, 1) := by decide +kernel
theorem dX11_plan_21 : decode cX11_plan 21 = .ok (.aload_n 0, 1) := by decide +kernel
theorem dX11_plan_22 : decode cX11_plan 22 = .ok (.getfield 23, 3) := by decide +kernel
theorem dX11_plan_25 : decode cX11_plan 25 = .ok (.aload_n 0, 1) := by decide +kernel
theorem dX11_plan_26 : decode cX11_plan 26 = .ok (.getfield 16, 3) := by decide +kernel
theorem dX11_plan_29 : decode cX11_plan 29 = .ok (.invokevirtual 120, 3) := by decide +kernel
theorem dX11_plan_32 : decode cX11_plan 32 = .ok (.aload_n 0, 1) := by decide +kernel
theorem dX11_plan_33 : decode cX11_plan 33 = .ok (.getfield 16, 3) := by decide +kernel
theorem dX11_plan_36 : decode cX11_plan 36 = .ok (.invokevirtual 100, 3) := by decide +kernel
theorem dX11_plan_39 : decode cX11_plan 39 = .ok (.ifCond .ne 11, 3) := by decide +kernel
theorem dX11_plan_42 : decode cX11_plan 42 = .ok (.aload_n 0, 1) := by decide +kernel
theorem dX11_plan_43 : decode cX11_plan 43 = .ok (.getfield 16, 3) := by decide +kernel
theorem dX11_plan_46 : decode cX11_plan 46 = .ok (.getfield 104, 3) := by decide +kernel
theorem dX11_plan_49 : decode cX11_plan 49 = .ok (.ireturn, 1) := by decide +kernel
theorem dX11_plan_50 : decode cX11_plan 50 = .ok (.aload_n 0, 1) := by decide +kernel
theorem dX11_plan_51 : decode cX11_plan 51 = .ok (.getfield 44, 3) := by decide +kernel
theorem dX11_plan_54 : decode cX11_plan 54 = .ok (.iload_n 1, 1) := by decide +kernel
theorem dX11_plan_55 : decode cX11_plan 55 = .ok (.invokevirtual 121, 3) := by decide +kernel
theorem dX11_plan_58 : decode cX11_plan 58 = .ok (.aload_n 0, 1) := by decide +kernel
theorem dX11_plan_59 : decode cX11_plan 59 = .ok (.getfield 23, 3) := by decide +kernel
theorem dX11_plan_62 : decode cX11_plan 62 = .ok (.getfield 125, 3) := by decide +kernel
theorem dX11_plan_65 : decode cX11_plan 65 = .ok (.aload_n 0, 1) := by decide +kernel
theorem dX11_plan_66 : decode cX11_plan 66 = .ok (.getfield 23, 3) := by decide +kernel
theorem dX11_plan_69 : decode cX11_plan 69 = .ok (.getfield 128, 3) := by decide +kernel
theorem dX11_plan_72 : decode cX11_plan 72 = .ok (.invokevirtual 131, 3) := by decide +kernel
theorem dX11_plan_75 : decode cX11_plan 75 = .ok (.aload_n 0, 1) := by decide +kernel
theorem dX11_plan_76 : decode cX11_plan 76 = .ok (.getfield 23, 3) := by decide +kernel
theorem dX11_plan_79 : decode cX11_plan 79 = .ok (.getfield 128, 3) := by decide +kernel
theorem dX11_plan_82 : decode cX11_plan 82 = .ok (.ireturn, 1) := by decide +kernel
theorem dX11_orders_0 : decode cX11_orders 0 = .ok (.aload_n 0, 1) := by decide +kernel
theorem dX11_orders_1 : decode cX11_orders 1 = .ok (.iload_n 1, 1) := by decide +kernel
theorem dX11_orders_2 : decode cX11_orders 2 = .ok (.bipush 120, 2) := by decide +kernel
theorem dX11_orders_4 : decode cX11_orders 4 = .ok (.invokevirtual 92, 3) := by decide +kernel
theorem dX11_orders_7 : decode cX11_orders 7 = .ok (.ifCond .ne 5, 3) := by decide +kernel
theorem dX11_orders_10 : decode cX11_orders 10 = .ok (.iconst (-1), 1) := by decide +kernel
theorem dX11_orders_11 : decode cX11_orders 11 = .ok (.ireturn, 1) := by decide +kernel
theorem dX11_orders_12 : decode cX11_orders 12 = .ok (.aload_n 0, 1) := by decide +kernel
theorem dX11_orders_13 : decode cX11_orders 13 = .ok (.getfield 30, 3) := by decide +kernel
theorem dX11_orders_16 : decode cX11_orders 16 = .ok (.aload_n 0, 1) := by decide +kernel
theorem dX11_orders_17 : decode cX11_orders 17 = .ok (.getfield 16, 3) := by decide +kernel
theorem dX11_orders_20 : decode cX11_orders 20 = .ok (.invokevirtual 137, 3) := by decide +kernel
theorem dX11_orders_23 : decode cX11_orders 23 = .ok (.aload_n 0, 1) := by decide +kernel
theorem dX11_orders_24 : decode cX11_orders 24 = .ok (.getfield 16, 3) := by decide +kernel
theorem dX11_orders_27 : decode cX11_orders 27 = .ok (.invokevirtual 100, 3) := by decide +kernel
theorem dX11_orders_30 : decode cX11_orders 30 = .ok (.ifCond .ne 11, 3) := by decide +kernel
theorem dX11_orders_33 : decode cX11_orders 33 = .ok (.aload_n 0, 1) := by decide +kernel
theorem dX11_orders_34 : decode cX11_orders 34 = .ok (.getfield 16, 3) := by decide +kernel
theorem dX11_orders_37 : decode cX11_orders 37 = .ok (.getfield 104, 3) := by decide +kernel
theorem dX11_orders_40 : decode cX11_orders 40 = .ok (.ireturn, 1) := by decide +kernel
theorem dX11_orders_41 : decode cX11_orders 41 = .ok (.aload_n 0, 1) := by decide +kernel
theorem dX11_orders_42 : decode cX11_orders 42 = .ok (.getfield 30, 3) := by decide +kernel
theorem dX11_orders_45 : decode cX11_orders 45 = .ok (.aload_n 0, 1) := by decide +kernel
theorem dX11_orders_46 : decode cX11_orders 46 = .ok (.getfield 44, 3) := by decide +kernel
theorem dX11_orders_49 : decode cX11_orders 49 = .ok (.getfield 138, 3) := by decide +kernel
theorem dX11_orders_52 : decode cX11_orders 52 = .ok (.invokevirtual 141, 3) := by decide +kernel
theorem dX11_orders_55 : decode cX11_orders 55 = .ok (.aload_n 0, 1) := by decide +kernel
theorem dX11_orders_56 : decode cX11_orders 56 = .ok (.getfield 30, 3) := by decide +kernel
theorem dX11_orders_59 : decode cX11_orders 59 = .ok (.getfield 145, 3) := by decide +kernel
theorem dX11_orders_62 : decode cX11_orders 62 = .ok (.ireturn, 1) := by decide +kernel
theorem dX11_days_0 : decode cX11_days 0 = .ok (.iload_n 1, 1) := by decide +kernel
theorem dX11_days_1 : decode cX11_days 1 = .ok (.iconst 1, 1) := by decide +kernel
theorem dX11_days_2 : decode cX11_days 2 = .ok (.sipush 240, 3) := by decide +kernel
theorem dX11_days_5 : decode cX11_days 5 = .ok (.invokestatic 81, 3) := by decide +kernel
theorem dX11_days_8 : decode cX11_days 8 = .ok (.ifCond .ne 5, 3) := by decide +kernel
theorem dX11_days_11 : decode cX11_days 11 = .ok (.iconst (-1), 1) := by decide +kernel
theorem dX11_days_12 : decode cX11_days 12 = .ok (.ireturn, 1) := by decide +kernel
theorem dX11_days_13 : decode cX11_days 13 = .ok (.aload_n 0, 1) := by decide +kernel
theorem dX11_days_14 : decode cX11_days 14 = .ok (.getfield 44, 3) := by decide +kernel
theorem dX11_days_17 : decode cX11_days 17 = .ok (.iload_n 1, 1) := by decide +kernel
theorem dX11_days_18 : decode cX11_days 18 = .ok (.invokevirtual 148, 3) := by decide +kernel
theorem dX11_days_21 : decode cX11_days 21 = .ok (.ireturn, 1) := by decide +kernel
theorem dX11_tried_0 : decode cX11_tried 0 = .ok (.iload_n 1, 1) := by decide +kernel
theorem dX11_tried_1 : decode cX11_tried 1 = .ok (.iconst 1, 1) := by decide +kernel
theorem dX11_tried_2 : decode cX11_tried 2 = .ok (.sipush 240, 3) := by decide +kernel
theorem dX11_tried_5 : decode cX11_tried 5 = .ok (.invokestatic 81, 3) := by decide +kernel
theorem dX11_tried_8 : decode cX11_tried 8 = .ok (.ifCond .eq 23, 3) := by decide +kernel
theorem dX11_tried_11 : decode cX11_tried 11 = .ok (.iload_n 2, 1) := by decide +kernel
theorem dX11_tried_12 : decode cX11_tried 12 = .ok (.iconst 0, 1) := by decide +kernel
theorem dX11_tried_13 : decode cX11_tried 13 = .ok (.iconst 3, 1) := by decide +kernel
theorem dX11_tried_14 : decode cX11_tried 14 = .ok (.invokestatic 81, 3) := by decide +kernel
theorem dX11_tried_17 : decode cX11_tried 17 = .ok (.ifCond .ne 16, 3) := by decide +kernel
theorem dX11_tried_20 : decode cX11_tried 20 = .ok (.iload_n 2, 1) := by decide +kernel
theorem dX11_tried_21 : decode cX11_tried 21 = .ok (.bipush 10, 2) := by decide +kernel
theorem dX11_tried_23 : decode cX11_tried 23 = .ok (.bipush 11, 2) := by decide +kernel
theorem dX11_tried_25 : decode cX11_tried 25 = .ok (.invokestatic 81, 3) := by decide +kernel
theorem dX11_tried_28 : decode cX11_tried 28 = .ok (.ifCond .ne 5, 3) := by decide +kernel
theorem dX11_tried_31 : decode cX11_tried 31 = .ok (.iconst (-1), 1) := by decide +kernel
theorem dX11_tried_32 : decode cX11_tried 32 = .ok (.ireturn, 1) := by decide +kernel
theorem dX11_tried_33 : decode cX11_tried 33 = .ok (.aload_n 0, 1) := by decide +kernel
theorem dX11_tried_34 : decode cX11_tried 34 = .ok (.getfield 55, 3) := by decide +kernel
theorem dX11_tried_37 : decode cX11_tried 37 = .ok (.aload_n 0, 1) := by decide +kernel
theorem dX11_tried_38 : decode cX11_tried 38 = .ok (.getfield 44, 3) := by decide +kernel
theorem dX11_tried_41 : decode cX11_tried 41 = .ok (.getfield 138, 3) := by decide +kernel
theorem dX11_tried_44 : decode cX11_tried 44 = .ok (.invokevirtual 152, 3) := by decide +kernel
theorem dX11_tried_47 : decode cX11_tried 47 = .ok (.aload_n 0, 1) := by decide +kernel
theorem dX11_tried_48 : decode cX11_tried 48 = .ok (.getfield 44, 3) := by decide +kernel
theorem dX11_tried_51 : decode cX11_tried 51 = .ok (.iload_n 1, 1) := by decide +kernel
theorem dX11_tried_52 : decode cX11_tried 52 = .ok (.invokevirtual 148, 3) := by decide +kernel
theorem dX11_tried_55 : decode cX11_tried 55 = .ok (.istore_n 3, 1) := by decide +kernel
theorem dX11_tried_56 : decode cX11_tried 56 = .ok (.aload_n 0, 1) := by decide +kernel
theorem dX11_tried_57 : decode cX11_tried 57 = .ok (.iload_n 2, 1) := by decide +kernel
theorem dX11_tried_58 : decode cX11_tried 58 = .ok (.iload_n 3, 1) := by decide +kernel
theorem dX11_tried_59 : decode cX11_tried 59 = .ok (.invokevirtual 155, 3) := by decide +kernel
theorem dX11_tried_62 : decode cX11_tried 62 = .ok (.istore 4, 2) := by decide +kernel
theorem dX11_tried_64 : decode cX11_tried 64 = .ok (.aload_n 0, 1) := by decide +kernel
theorem dX11_tried_65 : decode cX11_tried 65 = .ok (.getfield 44, 3) := by decide +kernel
theorem dX11_tried_68 : decode cX11_tried 68 = .ok (.getfield 138, 3) := by decide +kernel
theorem dX11_tried_71 : decode cX11_tried 71 = .ok (.aload_n 0, 1) := by decide +kernel
theorem dX11_tried_72 : decode cX11_tried 72 = .ok (.getfield 55, 3) := by decide +kernel
theorem dX11_tried_75 : decode cX11_tried 75 = .ok (.invokevirtual 152, 3) := by decide +kernel
theorem dX11_tried_78 : decode cX11_tried 78 = .ok (.iload 4, 2) := by decide +kernel
theorem dX11_tried_80 : decode cX11_tried 80 = .ok (.ireturn, 1) := by decide +kernel
theorem dX11_sideIs_0 : decode cX11_sideIs 0 = .ok (.iload_n 1, 1) := by decide +kernel
theorem dX11_sideIs_1 : decode cX11_sideIs 1 = .ok (.iconst 0, 1) := by decide +kernel
theorem dX11_sideIs_2 : decode cX11_sideIs 2 = .ok (.iconst 1, 1) := by decide +kernel
theorem dX11_sideIs_3 : decode cX11_sideIs 3 = .ok (.invokestatic 81, 3) := by decide +kernel
theorem dX11_sideIs_6 : decode cX11_sideIs 6 = .ok (.ifCond .ne 5, 3) := by decide +kernel
theorem dX11_sideIs_9 : decode cX11_sideIs 9 = .ok (.iconst (-1), 1) := by decide +kernel
theorem dX11_sideIs_10 : decode cX11_sideIs 10 = .ok (.ireturn, 1) := by decide +kernel
theorem dX11_sideIs_11 : decode cX11_sideIs 11 = .ok (.iload_n 2, 1) := by decide +kernel
theorem dX11_sideIs_12 : decode cX11_sideIs 12 = .ok (.tableswitch 124 0 6 #[44, 56, 65, 77, 86, 95, 112], 44) := by decide +kernel
theorem dX11_sideIs_56 : decode cX11_sideIs 56 = .ok (.aload_n 0, 1) := by decide +kernel
theorem dX11_sideIs_57 : decode cX11_sideIs 57 = .ok (.getfield 44, 3) := by decide +kernel
theorem dX11_sideIs_60 : decode cX11_sideIs 60 = .ok (.iload_n 1, 1) := by decide +kernel
theorem dX11_sideIs_61 : decode cX11_sideIs 61 = .ok (.invokevirtual 121, 3) := by decide +kernel
theorem dX11_sideIs_64 : decode cX11_sideIs 64 = .ok (.getfield 159, 3) := by decide +kernel
theorem dX11_sideIs_67 : decode cX11_sideIs 67 = .ok (.ireturn, 1) := by decide +kernel
theorem dX11_sideIs_68 : decode cX11_sideIs 68 = .ok (.aload_n 0, 1) := by decide +kernel
theorem dX11_sideIs_69 : decode cX11_sideIs 69 = .ok (.getfield 44, 3) := by decide +kernel
theorem dX11_sideIs_72 : decode cX11_sideIs 72 = .ok (.iload_n 1, 1) := by decide +kernel
theorem dX11_sideIs_73 : decode cX11_sideIs 73 = .ok (.invokevirtual 160, 3) := by decide +kernel
theorem dX11_sideIs_76 : decode cX11_sideIs 76 = .ok (.ireturn, 1) := by decide +kernel
theorem dX11_sideIs_77 : decode cX11_sideIs 77 = .ok (.aload_n 0, 1) := by decide +kernel
theorem dX11_sideIs_78 : decode cX11_sideIs 78 = .ok (.getfield 44, 3) := by decide +kernel
theorem dX11_sideIs_81 : decode cX11_sideIs 81 = .ok (.getfield 138, 3) := by decide +kernel
theorem dX11_sideIs_84 : decode cX11_sideIs 84 = .ok (.iload_n 1, 1) := by decide +kernel
theorem dX11_sideIs_85 : decode cX11_sideIs 85 = .ok (.invokevirtual 163, 3) := by decide +kernel
theorem dX11_sideIs_88 : decode cX11_sideIs 88 = .ok (.ireturn, 1) := by decide +kernel
theorem dX11_sideIs_89 : decode cX11_sideIs 89 = .ok (.aload_n 0, 1) := by decide +kernel
theorem dX11_sideIs_90 : decode cX11_sideIs 90 = .ok (.getfield 44, 3) := by decide +kernel
theorem dX11_sideIs_93 : decode cX11_sideIs 93 = .ok (.iload_n 1, 1) := by decide +kernel
theorem dX11_sideIs_94 : decode cX11_sideIs 94 = .ok (.invokevirtual 166, 3) := by decide +kernel
theorem dX11_sideIs_97 : decode cX11_sideIs 97 = .ok (.ireturn, 1) := by decide +kernel
theorem dX11_sideIs_98 : decode cX11_sideIs 98 = .ok (.aload_n 0, 1) := by decide +kernel
theorem dX11_sideIs_99 : decode cX11_sideIs 99 = .ok (.getfield 44, 3) := by decide +kernel
theorem dX11_sideIs_102 : decode cX11_sideIs 102 = .ok (.iload_n 1, 1) := by decide +kernel
theorem dX11_sideIs_103 : decode cX11_sideIs 103 = .ok (.invokevirtual 169, 3) := by decide +kernel
theorem dX11_sideIs_106 : decode cX11_sideIs 106 = .ok (.ireturn, 1) := by decide +kernel
theorem dX11_sideIs_107 : decode cX11_sideIs 107 = .ok (.aload_n 0, 1) := by decide +kernel
theorem dX11_sideIs_108 : decode cX11_sideIs 108 = .ok (.getfield 44, 3) := by decide +kernel
theorem dX11_sideIs_111 : decode cX11_sideIs 111 = .ok (.iload_n 1, 1) := by decide +kernel
theorem dX11_sideIs_112 : decode cX11_sideIs 112 = .ok (.invokevirtual 172, 3) := by decide +kernel
theorem dX11_sideIs_115 : decode cX11_sideIs 115 = .ok (.ifCond .eq 7, 3) := by decide +kernel
theorem dX11_sideIs_118 : decode cX11_sideIs 118 = .ok (.iconst 1, 1) := by decide +kernel
theorem dX11_sideIs_119 : decode cX11_sideIs 119 = .ok (.goto 4, 3) := by decide +kernel
theorem dX11_sideIs_122 : decode cX11_sideIs 122 = .ok (.iconst 0, 1) := by decide +kernel
theorem dX11_sideIs_123 : decode cX11_sideIs 123 = .ok (.ireturn, 1) := by decide +kernel
theorem dX11_sideIs_124 : decode cX11_sideIs 124 = .ok (.aload_n 0, 1) := by decide +kernel
theorem dX11_sideIs_125 : decode cX11_sideIs 125 = .ok (.getfield 44, 3) := by decide +kernel
theorem dX11_sideIs_128 : decode cX11_sideIs 128 = .ok (.iload_n 1, 1) := by decide +kernel
theorem dX11_sideIs_129 : decode cX11_sideIs 129 = .ok (.invokevirtual 121, 3) := by decide +kernel
theorem dX11_sideIs_132 : decode cX11_sideIs 132 = .ok (.invokevirtual 176, 3) := by decide +kernel
theorem dX11_sideIs_135 : decode cX11_sideIs 135 = .ok (.ireturn, 1) := by decide +kernel
theorem dX11_sideIs_136 : decode cX11_sideIs 136 = .ok (.iconst (-1), 1) := by decide +kernel
theorem dX11_sideIs_137 : decode cX11_sideIs 137 = .ok (.ireturn, 1) := by decide +kernel
theorem dX11_archIs_0 : decode cX11_archIs 0 = .ok (.iload_n 1, 1) := by decide +kernel
theorem dX11_archIs_1 : decode cX11_archIs 1 = .ok (.iconst 0, 1) := by decide +kernel
theorem dX11_archIs_2 : decode cX11_archIs 2 = .ok (.iconst 1, 1) := by decide +kernel
theorem dX11_archIs_3 : decode cX11_archIs 3 = .ok (.invokestatic 81, 3) := by decide +kernel
theorem dX11_archIs_6 : decode cX11_archIs 6 = .ok (.ifCond .eq 22, 3) := by decide +kernel
theorem dX11_archIs_9 : decode cX11_archIs 9 = .ok (.iload_n 2, 1) := by decide +kernel
theorem dX11_archIs_10 : decode cX11_archIs 10 = .ok (.iconst 1, 1) := by decide +kernel
theorem dX11_archIs_11 : decode cX11_archIs 11 = .ok (.aload_n 0, 1) := by decide +kernel
theorem dX11_archIs_12 : decode cX11_archIs 12 = .ok (.getfield 44, 3) := by decide +kernel
theorem dX11_archIs_15 : decode cX11_archIs 15 = .ok (.iload_n 1, 1) := by decide +kernel
theorem dX11_archIs_16 : decode cX11_archIs 16 = .ok (.invokevirtual 121, 3) := by decide +kernel
theorem dX11_archIs_19 : decode cX11_archIs 19 = .ok (.getfield 159, 3) := by decide +kernel
theorem dX11_archIs_22 : decode cX11_archIs 22 = .ok (.invokestatic 81, 3) := by decide +kernel
theorem dX11_archIs_25 : decode cX11_archIs 25 = .ok (.ifCond .ne 5, 3) := by decide +kernel
theorem dX11_archIs_28 : decode cX11_archIs 28 = .ok (.iconst (-1), 1) := by decide +kernel
theorem dX11_archIs_29 : decode cX11_archIs 29 = .ok (.ireturn, 1) := by decide +kernel
theorem dX11_archIs_30 : decode cX11_archIs 30 = .ok (.iload_n 3, 1) := by decide +kernel
theorem dX11_archIs_31 : decode cX11_archIs 31 = .ok (.tableswitch 69 0 2 #[25, 38, 56], 25) := by decide +kernel
theorem dX11_archIs_56 : decode cX11_archIs 56 = .ok (.aload_n 0, 1) := by decide +kernel
theorem dX11_archIs_57 : decode cX11_archIs 57 = .ok (.getfield 44, 3) := by decide +kernel
theorem dX11_archIs_60 : decode cX11_archIs 60 = .ok (.iload_n 1, 1) := by decide +kernel
theorem dX11_archIs_61 : decode cX11_archIs 61 = .ok (.invokevirtual 121, 3) := by decide +kernel
theorem dX11_archIs_64 : decode cX11_archIs 64 = .ok (.iload_n 2, 1) := by decide +kernel
theorem dX11_archIs_65 : decode cX11_archIs 65 = .ok (.invokevirtual 180, 3) := by decide +kernel
theorem dX11_archIs_68 : decode cX11_archIs 68 = .ok (.ireturn, 1) := by decide +kernel
theorem dX11_archIs_69 : decode cX11_archIs 69 = .ok (.iload_n 2, 1) := by decide +kernel
theorem dX11_archIs_70 : decode cX11_archIs 70 = .ok (.aload_n 0, 1) := by decide +kernel
theorem dX11_archIs_71 : decode cX11_archIs 71 = .ok (.getfield 44, 3) := by decide +kernel
theorem dX11_archIs_74 : decode cX11_archIs 74 = .ok (.iload_n 1, 1) := by decide +kernel
theorem dX11_archIs_75 : decode cX11_archIs 75 = .ok (.invokevirtual 160, 3) := by decide +kernel
theorem dX11_archIs_78 : decode cX11_archIs 78 = .ok (.if_icmp .gt 7, 3) := by decide +kernel
theorem dX11_archIs_81 : decode cX11_archIs 81 = .ok (.iconst 1, 1) := by decide +kernel
theorem dX11_archIs_82 : decode cX11_archIs 82 = .ok (.goto 4, 3) := by decide +kernel
theorem dX11_archIs_85 : decode cX11_archIs 85 = .ok (.iconst 0, 1) := by decide +kernel
theorem dX11_archIs_86 : decode cX11_archIs 86 = .ok (.ireturn, 1) := by decide +kernel
theorem dX11_archIs_87 : decode cX11_archIs 87 = .ok (.aload_n 0, 1) := by decide +kernel
theorem dX11_archIs_88 : decode cX11_archIs 88 = .ok (.getfield 44, 3) := by decide +kernel
theorem dX11_archIs_91 : decode cX11_archIs 91 = .ok (.getfield 138, 3) := by decide +kernel
theorem dX11_archIs_94 : decode cX11_archIs 94 = .ok (.iload_n 1, 1) := by decide +kernel
theorem dX11_archIs_95 : decode cX11_archIs 95 = .ok (.iload_n 2, 1) := by decide +kernel
theorem dX11_archIs_96 : decode cX11_archIs 96 = .ok (.invokevirtual 183, 3) := by decide +kernel
theorem dX11_archIs_99 : decode cX11_archIs 99 = .ok (.ireturn, 1) := by decide +kernel
theorem dX11_archIs_100 : decode cX11_archIs 100 = .ok (.iconst (-1), 1) := by decide +kernel
theorem dX11_archIs_101 : decode cX11_archIs 101 = .ok (.ireturn, 1) := by decide +kernel
theorem dX11_touches_0 : decode cX11_touches 0 = .ok (.iload_n 1, 1) := by decide +kernel
theorem dX11_touches_1 : decode cX11_touches 1 = .ok (.iconst 1, 1) := by decide +kernel
theorem dX11_touches_2 : decode cX11_touches 2 = .ok (.sipush 240, 3) := by decide +kernel
theorem dX11_touches_5 : decode cX11_touches 5 = .ok (.invokestatic 81, 3) := by decide +kernel
theorem dX11_touches_8 : decode cX11_touches 8 = .ok (.ifCond .eq 12, 3) := by decide +kernel
theorem dX11_touches_11 : decode cX11_touches 11 = .ok (.iload_n 2, 1) := by decide +kernel
theorem dX11_touches_12 : decode cX11_touches 12 = .ok (.iconst 0, 1) := by decide +kernel
theorem dX11_touches_13 : decode cX11_touches 13 = .ok (.iconst 1, 1) := by decide +kernel
theorem dX11_touches_14 : decode cX11_touches 14 = .ok (.invokestatic 81, 3) := by decide +kernel
theorem dX11_touches_17 : decode cX11_touches 17 = .ok (.ifCond .ne 5, 3) := by decide +kernel
theorem dX11_touches_20 : decode cX11_touches 20 = .ok (.iconst (-1), 1) := by decide +kernel
theorem dX11_touches_21 : decode cX11_touches 21 = .ok (.ireturn, 1) := by decide +kernel
theorem dX11_touches_22 : decode cX11_touches 22 = .ok (.aload_n 0, 1) := by decide +kernel
theorem dX11_touches_23 : decode cX11_touches 23 = .ok (.getfield 55, 3) := by decide +kernel
theorem dX11_touches_26 : decode cX11_touches 26 = .ok (.aload_n 0, 1) := by decide +kernel
theorem dX11_touches_27 : decode cX11_touches 27 = .ok (.getfield 44, 3) := by decide +kernel
theorem dX11_touches_30 : decode cX11_touches 30 = .ok (.getfield 138, 3) := by decide +kernel
theorem dX11_touches_33 : decode cX11_touches 33 = .ok (.invokevirtual 152, 3) := by decide +kernel
theorem dX11_touches_36 : decode cX11_touches 36 = .ok (.aload_n 0, 1) := by decide +kernel
theorem dX11_touches_37 : decode cX11_touches 37 = .ok (.getfield 44, 3) := by decide +kernel
theorem dX11_touches_40 : decode cX11_touches 40 = .ok (.iload_n 1, 1) := by decide +kernel
theorem dX11_touches_41 : decode cX11_touches 41 = .ok (.invokevirtual 186, 3) := by decide +kernel
theorem dX11_touches_44 : decode cX11_touches 44 = .ok (.istore_n 3, 1) := by decide +kernel
theorem dX11_touches_45 : decode cX11_touches 45 = .ok (.iload_n 2, 1) := by decide +kernel
theorem dX11_touches_46 : decode cX11_touches 46 = .ok (.ifCond .eq 7, 3) := by decide +kernel
theorem dX11_touches_49 : decode cX11_touches 49 = .ok (.iload_n 3, 1) := by decide +kernel
theorem dX11_touches_50 : decode cX11_touches 50 = .ok (.ifCond .ge 7, 3) := by decide +kernel
theorem dX11_touches_53 : decode cX11_touches 53 = .ok (.iload_n 3, 1) := by decide +kernel
theorem dX11_touches_54 : decode cX11_touches 54 = .ok (.goto 10, 3) := by decide +kernel
theorem dX11_touches_57 : decode cX11_touches 57 = .ok (.aload_n 0, 1) := by decide +kernel
theorem dX11_touches_58 : decode cX11_touches 58 = .ok (.getfield 44, 3) := by decide +kernel
theorem dX11_touches_61 : decode cX11_touches 61 = .ok (.invokevirtual 189, 3) := by decide +kernel
theorem dX11_touches_64 : decode cX11_touches 64 = .ok (.istore 4, 2) := by decide +kernel
theorem dX11_touches_66 : decode cX11_touches 66 = .ok (.aload_n 0, 1) := by decide +kernel
theorem dX11_touches_67 : decode cX11_touches 67 = .ok (.getfield 44, 3) := by decide +kernel
theorem dX11_touches_70 : decode cX11_touches 70 = .ok (.getfield 138, 3) := by decide +kernel
theorem dX11_touches_73 : decode cX11_touches 73 = .ok (.aload_n 0, 1) := by decide +kernel
theorem dX11_touches_74 : decode cX11_touches 74 = .ok (.getfield 55, 3) := by decide +kernel
theorem dX11_touches_77 : decode cX11_touches 77 = .ok (.invokevirtual 152, 3) := by decide +kernel
theorem dX11_touches_80 : decode cX11_touches 80 = .ok (.iload 4, 2) := by decide +kernel
theorem dX11_touches_82 : decode cX11_touches 82 = .ok (.ireturn, 1) := by decide +kernel
theorem dX11_ahead_0 : decode cX11_ahead 0 = .ok (.iload_n 1, 1) := by decide +kernel
theorem dX11_ahead_1 : decode cX11_ahead 1 = .ok (.iconst 1, 1) := by decide +kernel
theorem dX11_ahead_2 : decode cX11_ahead 2 = .ok (.sipush 240, 3) := by decide +kernel
theorem dX11_ahead_5 : decode cX11_ahead 5 = .ok (.invokestatic 81, 3) := by decide +kernel
theorem dX11_ahead_8 : decode cX11_ahead 8 = .ok (.ifCond .ne 5, 3) := by decide +kernel
theorem dX11_ahead_11 : decode cX11_ahead 11 = .ok (.iconst (-1), 1) := by decide +kernel
theorem dX11_ahead_12 : decode cX11_ahead 12 = .ok (.ireturn, 1) := by decide +kernel
theorem dX11_ahead_13 : decode cX11_ahead 13 = .ok (.aload_n 0, 1) := by decide +kernel
theorem dX11_ahead_14 : decode cX11_ahead 14 = .ok (.getfield 55, 3) := by decide +kernel
theorem dX11_ahead_17 : decode cX11_ahead 17 = .ok (.aload_n 0, 1) := by decide +kernel
theorem dX11_ahead_18 : decode cX11_ahead 18 = .ok (.getfield 44, 3) := by decide +kernel
theorem dX11_ahead_21 : decode cX11_ahead 21 = .ok (.getfield 138, 3) := by decide +kernel
theorem dX11_ahead_24 : decode cX11_ahead 24 = .ok (.invokevirtual 152, 3) := by decide +kernel
theorem dX11_ahead_27 : decode cX11_ahead 27 = .ok (.aload_n 0, 1) := by decide +kernel
theorem dX11_ahead_28 : decode cX11_ahead 28 = .ok (.getfield 44, 3) := by decide +kernel
theorem dX11_ahead_31 : decode cX11_ahead 31 = .ok (.iload_n 1, 1) := by decide +kernel
theorem dX11_ahead_32 : decode cX11_ahead 32 = .ok (.invokevirtual 192, 3) := by decide +kernel
theorem dX11_ahead_35 : decode cX11_ahead 35 = .ok (.istore_n 2, 1) := by decide +kernel
theorem dX11_ahead_36 : decode cX11_ahead 36 = .ok (.aload_n 0, 1) := by decide +kernel
theorem dX11_ahead_37 : decode cX11_ahead 37 = .ok (.getfield 44, 3) := by decide +kernel
theorem dX11_ahead_40 : decode cX11_ahead 40 = .ok (.getfield 138, 3) := by decide +kernel
theorem dX11_ahead_43 : decode cX11_ahead 43 = .ok (.aload_n 0, 1) := by decide +kernel
theorem dX11_ahead_44 : decode cX11_ahead 44 = .ok (.getfield 55, 3) := by decide +kernel
theorem dX11_ahead_47 : decode cX11_ahead 47 = .ok (.invokevirtual 152, 3) := by decide +kernel
theorem dX11_ahead_50 : decode cX11_ahead 50 = .ok (.iload_n 2, 1) := by decide +kernel
theorem dX11_ahead_51 : decode cX11_ahead 51 = .ok (.ireturn, 1) := by decide +kernel
theorem dX11_beyond_0 : decode cX11_beyond 0 = .ok (.iload_n 1, 1) := by decide +kernel
theorem dX11_beyond_1 : decode cX11_beyond 1 = .ok (.iconst 1, 1) := by decide +kernel
theorem dX11_beyond_2 : decode cX11_beyond 2 = .ok (.sipush 240, 3) := by decide +kernel
theorem dX11_beyond_5 : decode cX11_beyond 5 = .ok (.invokestatic 81, 3) := by decide +kernel
theorem dX11_beyond_8 : decode cX11_beyond 8 = .ok (.ifCond .eq 13, 3) := by decide +kernel
theorem dX11_beyond_11 : decode cX11_beyond 11 = .ok (.iload_n 2, 1) := by decide +kernel
theorem dX11_beyond_12 : decode cX11_beyond 12 = .ok (.iconst 0, 1) := by decide +kernel
theorem dX11_beyond_13 : decode cX11_beyond 13 = .ok (.ldc 195, 2) := by decide +kernel
theorem dX11_beyond_15 : decode cX11_beyond 15 = .ok (.invokestatic 81, 3) := by decide +kernel
theorem dX11_beyond_18 : decode cX11_beyond 18 = .ok (.ifCond .ne 5, 3) := by decide +kernel
theorem dX11_beyond_21 : decode cX11_beyond 21 = .ok (.iconst (-1), 1) := by decide +kernel
theorem dX11_beyond_22 : decode cX11_beyond 22 = .ok (.ireturn, 1) := by decide +kernel
theorem dX11_beyond_23 : decode cX11_beyond 23 = .ok (.aload_n 0, 1) := by decide +kernel
theorem dX11_beyond_24 : decode cX11_beyond 24 = .ok (.getfield 55, 3) := by decide +kernel
theorem dX11_beyond_27 : decode cX11_beyond 27 = .ok (.aload_n 0, 1) := by decide +kernel
theorem dX11_beyond_28 : decode cX11_beyond 28 = .ok (.getfield 44, 3) := by decide +kernel
theorem dX11_beyond_31 : decode cX11_beyond 31 = .ok (.getfield 138, 3) := by decide +kernel
theorem dX11_beyond_34 : decode cX11_beyond 34 = .ok (.invokevirtual 152, 3) := by decide +kernel
theorem dX11_beyond_37 : decode cX11_beyond 37 = .ok (.aload_n 0, 1) := by decide +kernel
theorem dX11_beyond_38 : decode cX11_beyond 38 = .ok (.getfield 44, 3) := by decide +kernel
theorem dX11_beyond_41 : decode cX11_beyond 41 = .ok (.iload_n 1, 1) := by decide +kernel
theorem dX11_beyond_42 : decode cX11_beyond 42 = .ok (.iload_n 2, 1) := by decide +kernel
theorem dX11_beyond_43 : decode cX11_beyond 43 = .ok (.invokevirtual 196, 3) := by decide +kernel
theorem dX11_beyond_46 : decode cX11_beyond 46 = .ok (.istore_n 3, 1) := by decide +kernel
theorem dX11_beyond_47 : decode cX11_beyond 47 = .ok (.aload_n 0, 1) := by decide +kernel
theorem dX11_beyond_48 : decode cX11_beyond 48 = .ok (.getfield 44, 3) := by decide +kernel
theorem dX11_beyond_51 : decode cX11_beyond 51 = .ok (.getfield 138, 3) := by decide +kernel
theorem dX11_beyond_54 : decode cX11_beyond 54 = .ok (.aload_n 0, 1) := by decide +kernel
theorem dX11_beyond_55 : decode cX11_beyond 55 = .ok (.getfield 55, 3) := by decide +kernel
theorem dX11_beyond_58 : decode cX11_beyond 58 = .ok (.invokevirtual 152, 3) := by decide +kernel
theorem dX11_beyond_61 : decode cX11_beyond 61 = .ok (.iload_n 3, 1) := by decide +kernel
theorem dX11_beyond_62 : decode cX11_beyond 62 = .ok (.ireturn, 1) := by decide +kernel
theorem dX11_even_0 : decode cX11_even 0 = .ok (.iload_n 2, 1) := by decide +kernel
theorem dX11_even_1 : decode cX11_even 1 = .ok (.iconst 0, 1) := by decide +kernel
theorem dX11_even_2 : decode cX11_even 2 = .ok (.iconst 1, 1) := by decide +kernel
theorem dX11_even_3 : decode cX11_even 3 = .ok (.invokestatic 81, 3) := by decide +kernel
theorem dX11_even_6 : decode cX11_even 6 = .ok (.ifCond .eq 13, 3) := by decide +kernel
theorem dX11_even_9 : decode cX11_even 9 = .ok (.aload_n 0, 1) := by decide +kernel
theorem dX11_even_10 : decode cX11_even 10 = .ok (.iload_n 1, 1) := by decide +kernel
theorem dX11_even_11 : decode cX11_even 11 = .ok (.bipush 8, 2) := by decide +kernel
theorem dX11_even_13 : decode cX11_even 13 = .ok (.invokevirtual 92, 3) := by decide +kernel
theorem dX11_even_16 : decode cX11_even 16 = .ok (.ifCond .ne 5, 3) := by decide +kernel
theorem dX11_even_19 : decode cX11_even 19 = .ok (.iconst (-1), 1) := by decide +kernel
theorem dX11_even_20 : decode cX11_even 20 = .ok (.ireturn, 1) := by decide +kernel
theorem dX11_even_21 : decode cX11_even 21 = .ok (.aload_n 0, 1) := by decide +kernel
theorem dX11_even_22 : decode cX11_even 22 = .ok (.getfield 44, 3) := by decide +kernel
theorem dX11_even_25 : decode cX11_even 25 = .ok (.iconst 0, 1) := by decide +kernel
theorem dX11_even_26 : decode cX11_even 26 = .ok (.invokevirtual 160, 3) := by decide +kernel
theorem dX11_even_29 : decode cX11_even 29 = .ok (.istore_n 3, 1) := by decide +kernel
theorem dX11_even_30 : decode cX11_even 30 = .ok (.aload_n 0, 1) := by decide +kernel
theorem dX11_even_31 : decode cX11_even 31 = .ok (.getfield 44, 3) := by decide +kernel
theorem dX11_even_34 : decode cX11_even 34 = .ok (.iconst 1, 1) := by decide +kernel
theorem dX11_even_35 : decode cX11_even 35 = .ok (.invokevirtual 160, 3) := by decide +kernel
theorem dX11_even_38 : decode cX11_even 38 = .ok (.istore 4, 2) := by decide +kernel
theorem dX11_even_40 : decode cX11_even 40 = .ok (.iload_n 3, 1) := by decide +kernel
theorem dX11_even_41 : decode cX11_even 41 = .ok (.ifCond .eq 8, 3) := by decide +kernel
theorem dX11_even_44 : decode cX11_even 44 = .ok (.iload 4, 2) := by decide +kernel
theorem dX11_even_46 : decode cX11_even 46 = .ok (.ifCond .ne 6, 3) := by decide +kernel
theorem dX11_even_49 : decode cX11_even 49 = .ok (.bipush (-2), 2) := by decide +kernel
theorem dX11_even_51 : decode cX11_even 51 = .ok (.ireturn, 1) := by decide +kernel
theorem dX11_even_52 : decode cX11_even 52 = .ok (.iconst 0, 1) := by decide +kernel
theorem dX11_even_53 : decode cX11_even 53 = .ok (.istore 5, 2) := by decide +kernel
theorem dX11_even_55 : decode cX11_even 55 = .ok (.iload 5, 2) := by decide +kernel
theorem dX11_even_57 : decode cX11_even 57 = .ok (.iload_n 1, 1) := by decide +kernel
theorem dX11_even_58 : decode cX11_even 58 = .ok (.if_icmp .ge 24, 3) := by decide +kernel
theorem dX11_even_61 : decode cX11_even 61 = .ok (.aload_n 0, 1) := by decide +kernel
theorem dX11_even_62 : decode cX11_even 62 = .ok (.getfield 16, 3) := by decide +kernel
theorem dX11_even_65 : decode cX11_even 65 = .ok (.iload 5, 2) := by decide +kernel
theorem dX11_even_67 : decode cX11_even 67 = .ok (.invokevirtual 199, 3) := by decide +kernel
theorem dX11_even_70 : decode cX11_even 70 = .ok (.ifCond .ne 6, 3) := by decide +kernel
theorem dX11_even_73 : decode cX11_even 73 = .ok (.bipush (-3), 2) := by decide +kernel
theorem dX11_even_75 : decode cX11_even 75 = .ok (.ireturn, 1) := by decide +kernel
theorem dX11_even_76 : decode cX11_even 76 = .ok (.iinc 5 1, 3) := by decide +kernel
theorem dX11_even_79 : decode cX11_even 79 = .ok (.goto (-24), 3) := by decide +kernel
theorem dX11_even_82 : decode cX11_even 82 = .ok (.aload_n 0, 1) := by decide +kernel
theorem dX11_even_83 : decode cX11_even 83 = .ok (.getfield 44, 3) := by decide +kernel
theorem dX11_even_86 : decode cX11_even 86 = .ok (.iconst 0, 1) := by decide +kernel
theorem dX11_even_87 : decode cX11_even 87 = .ok (.invokevirtual 169, 3) := by decide +kernel
theorem dX11_even_90 : decode cX11_even 90 = .ok (.aload_n 0, 1) := by decide +kernel
theorem dX11_even_91 : decode cX11_even 91 = .ok (.getfield 44, 3) := by decide +kernel
theorem dX11_even_94 : decode cX11_even 94 = .ok (.iconst 1, 1) := by decide +kernel
theorem dX11_even_95 : decode cX11_even 95 = .ok (.invokevirtual 169, 3) := by decide +kernel
theorem dX11_even_98 : decode cX11_even 98 = .ok (.isub, 1) := by decide +kernel
theorem dX11_even_99 : decode cX11_even 99 = .ok (.istore 5, 2) := by decide +kernel
theorem dX11_even_101 : decode cX11_even 101 = .ok (.aload_n 0, 1) := by decide +kernel
theorem dX11_even_102 : decode cX11_even 102 = .ok (.getfield 16, 3) := by decide +kernel
theorem dX11_even_105 : decode cX11_even 105 = .ok (.iconst 0, 1) := by decide +kernel
theorem dX11_even_106 : decode cX11_even 106 = .ok (.iload_n 3, 1) := by decide +kernel
theorem dX11_even_107 : decode cX11_even 107 = .ok (.iload 4, 2) := by decide +kernel
theorem dX11_even_109 : decode cX11_even 109 = .ok (.iload 5, 2) := by decide +kernel
theorem dX11_even_111 : decode cX11_even 111 = .ok (.iconst 0, 1) := by decide +kernel
theorem dX11_even_112 : decode cX11_even 112 = .ok (.invokestatic 202, 3) := by decide +kernel
theorem dX11_even_115 : decode cX11_even 115 = .ok (.istore 6, 2) := by decide +kernel
theorem dX11_even_117 : decode cX11_even 117 = .ok (.iload_n 2, 1) := by decide +kernel
theorem dX11_even_118 : decode cX11_even 118 = .ok (.ifCond .ne 11, 3) := by decide +kernel
theorem dX11_even_121 : decode cX11_even 121 = .ok (.iload 6, 2) := by decide +kernel
theorem dX11_even_123 : decode cX11_even 123 = .ok (.bipush 16, 2) := by decide +kernel
theorem dX11_even_125 : decode cX11_even 125 = .ok (.idiv, 1) := by decide +kernel
theorem dX11_even_126 : decode cX11_even 126 = .ok (.goto 8, 3) := by decide +kernel
theorem dX11_even_129 : decode cX11_even 129 = .ok (.iload 6, 2) := by decide +kernel
theorem dX11_even_131 : decode cX11_even 131 = .ok (.bipush 16, 2) := by decide +kernel
theorem dX11_even_133 : decode cX11_even 133 = .ok (.irem, 1) := by decide +kernel
theorem dX11_even_134 : decode cX11_even 134 = .ok (.ireturn, 1) := by decide +kernel
theorem dX11_inARow_0 : decode cX11_inARow 0 = .ok (.aload_n 0, 1) := by decide +kernel
theorem dX11_inARow_1 : decode cX11_inARow 1 = .ok (.getfield 68, 3) := by decide +kernel
theorem dX11_inARow_4 : decode cX11_inARow 4 = .ok (.aload_n 0, 1) := by decide +kernel
theorem dX11_inARow_5 : decode cX11_inARow 5 = .ok (.getfield 44, 3) := by decide +kernel
theorem dX11_inARow_8 : decode cX11_inARow 8 = .ok (.invokevirtual 206, 3) := by decide +kernel
theorem dX11_inARow_11 : decode cX11_inARow 11 = .ok (.ireturn, 1) := by decide +kernel
theorem dX11_ball_0 : decode cX11_ball 0 = .ok (.iload_n 1, 1) := by decide +kernel
theorem dX11_ball_1 : decode cX11_ball 1 = .ok (.iload_n 2, 1) := by decide +kernel
theorem dX11_ball_2 : decode cX11_ball 2 = .ok (.iload_n 3, 1) := by decide +kernel
theorem dX11_ball_3 : decode cX11_ball 3 = .ok (.iload 5, 2) := by decide +kernel
theorem dX11_ball_5 : decode cX11_ball 5 = .ok (.invokestatic 210, 3) := by decide +kernel
theorem dX11_ball_8 : decode cX11_ball 8 = .ok (.ifCond .eq 14, 3) := by decide +kernel
theorem dX11_ball_11 : decode cX11_ball 11 = .ok (.iload 4, 2) := by decide +kernel
theorem dX11_ball_13 : decode cX11_ball 13 = .ok (.iconst 1, 1) := by decide +kernel
theorem dX11_ball_14 : decode cX11_ball 14 = .ok (.bipush 20, 2) := by decide +kernel
theorem dX11_ball_16 : decode cX11_ball 16 = .ok (.invokestatic 81, 3) := by decide +kernel
theorem dX11_ball_19 : decode cX11_ball 19 = .ok (.ifCond .ne 5, 3) := by decide +kernel
theorem dX11_ball_22 : decode cX11_ball 22 = .ok (.iconst (-1), 1) := by decide +kernel
theorem dX11_ball_23 : decode cX11_ball 23 = .ok (.ireturn, 1) := by decide +kernel
theorem dX11_ball_24 : decode cX11_ball 24 = .ok (.iload_n 1, 1) := by decide +kernel
theorem dX11_ball_25 : decode cX11_ball 25 = .ok (.iload_n 2, 1) := by decide +kernel
theorem dX11_ball_26 : decode cX11_ball 26 = .ok (.iload_n 3, 1) := by decide +kernel
theorem dX11_ball_27 : decode cX11_ball 27 = .ok (.iload 4, 2) := by decide +kernel
theorem dX11_ball_29 : decode cX11_ball 29 = .ok (.iload 5, 2) := by decide +kernel
theorem dX11_ball_31 : decode cX11_ball 31 = .ok (.invokestatic 214, 3) := by decide +kernel
theorem dX11_ball_34 : decode cX11_ball 34 = .ok (.ifCond .eq 7, 3) := by decide +kernel
