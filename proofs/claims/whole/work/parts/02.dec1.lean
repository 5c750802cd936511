def RJ : String := "java/lang/Integer"
abbrev cJ_bitCount : ByteArray := prog_15_method_49_code
def yJ_bitCount : MethodName := ⟨RJ, "bitCount", "(I)I"⟩
theorem dJ_bitCount_0 : decode cJ_bitCount 0 = .ok (.iload_n 0, 1) := by decide +kernel
theorem dJ_bitCount_1 : decode cJ_bitCount 1 = .ok (.iload_n 0, 1) := by decide +kernel
theorem dJ_bitCount_2 : decode cJ_bitCount 2 = .ok (.iconst 1, 1) := by decide +kernel
theorem dJ_bitCount_3 : decode cJ_bitCount 3 = .ok (.iushr, 1) := by decide +kernel
theorem dJ_bitCount_4 : decode cJ_bitCount 4 = .ok (.ldc_w 265, 3) := by decide +kernel
theorem dJ_bitCount_7 : decode cJ_bitCount 7 = .ok (.iand, 1) := by decide +kernel
theorem dJ_bitCount_8 : decode cJ_bitCount 8 = .ok (.isub, 1) := by decide +kernel
theorem dJ_bitCount_9 : decode cJ_bitCount 9 = .ok (.istore_n 0, 1) := by decide +kernel
theorem dJ_bitCount_10 : decode cJ_bitCount 10 = .ok (.iload_n 0, 1) := by decide +kernel
theorem dJ_bitCount_11 : decode cJ_bitCount 11 = .ok (.ldc_w 266, 3) := by decide +kernel
theorem dJ_bitCount_14 : decode cJ_bitCount 14 = .ok (.iand, 1) := by decide +kernel
theorem dJ_bitCount_15 : decode cJ_bitCount 15 = .ok (.iload_n 0, 1) := by decide +kernel
theorem dJ_bitCount_16 : decode cJ_bitCount 16 = .ok (.iconst 2, 1) := by decide +kernel
theorem dJ_bitCount_17 : decode cJ_bitCount 17 = .ok (.iushr, 1) := by decide +kernel
theorem dJ_bitCount_18 : decode cJ_bitCount 18 = .ok (.ldc_w 266, 3) := by decide +kernel
theorem dJ_bitCount_21 : decode cJ_bitCount 21 = .ok (.iand, 1) := by decide +kernel
theorem dJ_bitCount_22 : decode cJ_bitCount 22 = .ok (.iadd, 1) := by decide +kernel
theorem dJ_bitCount_23 : decode cJ_bitCount 23 = .ok (.istore_n 0, 1) := by decide +kernel
theorem dJ_bitCount_24 : decode cJ_bitCount 24 = .ok (.iload_n 0, 1) := by decide +kernel
theorem dJ_bitCount_25 : decode cJ_bitCount 25 = .ok (.iload_n 0, 1) := by decide +kernel
theorem dJ_bitCount_26 : decode cJ_bitCount 26 = .ok (.iconst 4, 1) := by decide +kernel
theorem dJ_bitCount_27 : decode cJ_bitCount 27 = .ok (.iushr, 1) := by decide +kernel
theorem dJ_bitCount_28 : decode cJ_bitCount 28 = .ok (.iadd, 1) := by decide +kernel
theorem dJ_bitCount_29 : decode cJ_bitCount 29 = .ok (.ldc_w 267, 3) := by decide +kernel
theorem dJ_bitCount_32 : decode cJ_bitCount 32 = .ok (.iand, 1) := by decide +kernel
theorem dJ_bitCount_33 : decode cJ_bitCount 33 = .ok (.istore_n 0, 1) := by decide +kernel
theorem dJ_bitCount_34 : decode cJ_bitCount 34 = .ok (.iload_n 0, 1) := by decide +kernel
theorem dJ_bitCount_35 : decode cJ_bitCount 35 = .ok (.iload_n 0, 1) := by decide +kernel
theorem dJ_bitCount_36 : decode cJ_bitCount 36 = .ok (.bipush 8, 2) := by decide +kernel
theorem dJ_bitCount_38 : decode cJ_bitCount 38 = .ok (.iushr, 1) := by decide +kernel
theorem dJ_bitCount_39 : decode cJ_bitCount 39 = .ok (.iadd, 1) := by decide +kernel
theorem dJ_bitCount_40 : decode cJ_bitCount 40 = .ok (.istore_n 0, 1) := by decide +kernel
theorem dJ_bitCount_41 : decode cJ_bitCount 41 = .ok (.iload_n 0, 1) := by decide +kernel
theorem dJ_bitCount_42 : decode cJ_bitCount 42 = .ok (.iload_n 0, 1) := by decide +kernel
theorem dJ_bitCount_43 : decode cJ_bitCount 43 = .ok (.bipush 16, 2) := by decide +kernel
theorem dJ_bitCount_45 : decode cJ_bitCount 45 = .ok (.iushr, 1) := by decide +kernel
theorem dJ_bitCount_46 : decode cJ_bitCount 46 = .ok (.iadd, 1) := by decide +kernel
theorem dJ_bitCount_47 : decode cJ_bitCount 47 = .ok (.istore_n 0, 1) := by decide +kernel
theorem dJ_bitCount_48 : decode cJ_bitCount 48 = .ok (.iload_n 0, 1) := by decide +kernel
theorem dJ_bitCount_49 : decode cJ_bitCount 49 = .ok (.bipush 63, 2) := by decide +kernel
theorem dJ_bitCount_51 : decode cJ_bitCount 51 = .ok (.iand, 1) := by decide +kernel
theorem dJ_bitCount_52 : decode cJ_bitCount 52 = .ok (.ireturn, 1) := by decide +kernel
theorem dX0_init_0 : decode cX0_init 0 = .ok (.aload_n 0, 1) := by decide +kernel
theorem dX0_init_1 : decode cX0_init 1 = .ok (.invokespecial 3, 3) := by decide +kernel
theorem dX0_init_4 : decode cX0_init 4 = .ok (.aload_n 0, 1) := by decide +kernel
theorem dX0_init_5 : decode cX0_init 5 = .ok (.sipush 720, 3) := by decide +kernel
theorem dX0_init_8 : decode cX0_init 8 = .ok (.newarray .int, 2) := by decide +kernel
theorem dX0_init_10 : decode cX0_init 10 = .ok (.putfield 11, 3) := by decide +kernel
theorem dX0_init_13 : decode cX0_init 13 = .ok (.aload_n 0, 1) := by decide +kernel
theorem dX0_init_14 : decode cX0_init 14 = .ok (.sipush 720, 3) := by decide +kernel
theorem dX0_init_17 : decode cX0_init 17 = .ok (.newarray .int, 2) := by decide +kernel
theorem dX0_init_19 : decode cX0_init 19 = .ok (.putfield 15, 3) := by decide +kernel
theorem dX0_init_22 : decode cX0_init 22 = .ok (.return_, 1) := by decide +kernel
theorem dX0_fewestChanges_0 : decode cX0_fewestChanges 0 = .ok (.iconst 0, 1) := by decide +kernel
theorem dX0_fewestChanges_1 : decode cX0_fewestChanges 1 = .ok (.istore_n 3, 1) := by decide +kernel
theorem dX0_fewestChanges_2 : decode cX0_fewestChanges 2 = .ok (.iconst 0, 1) := by decide +kernel
theorem dX0_fewestChanges_3 : decode cX0_fewestChanges 3 = .ok (.istore 4, 2) := by decide +kernel
theorem dX0_fewestChanges_5 : decode cX0_fewestChanges 5 = .ok (.iconst 0, 1) := by decide +kernel
theorem dX0_fewestChanges_6 : decode cX0_fewestChanges 6 = .ok (.istore 5, 2) := by decide +kernel
theorem dX0_fewestChanges_8 : decode cX0_fewestChanges 8 = .ok (.iload 5, 2) := by decide +kernel
theorem dX0_fewestChanges_10 : decode cX0_fewestChanges 10 = .ok (.iload_n 2, 1) := by decide +kernel
theorem dX0_fewestChanges_11 : decode cX0_fewestChanges 11 = .ok (.if_icmp .ge 35, 3) := by decide +kernel
theorem dX0_fewestChanges_14 : decode cX0_fewestChanges 14 = .ok (.iload_n 3, 1) := by decide +kernel
theorem dX0_fewestChanges_15 : decode cX0_fewestChanges 15 = .ok (.aload_n 1, 1) := by decide +kernel
theorem dX0_fewestChanges_16 : decode cX0_fewestChanges 16 = .ok (.iload 5, 2) := by decide +kernel
theorem dX0_fewestChanges_18 : decode cX0_fewestChanges 18 = .ok (.invokevirtual 18, 3) := by decide +kernel
theorem dX0_fewestChanges_21 : decode cX0_fewestChanges 21 = .ok (.iconst 3, 1) := by decide +kernel
theorem dX0_fewestChanges_22 : decode cX0_fewestChanges 22 = .ok (.iload 5, 2) := by decide +kernel
theorem dX0_fewestChanges_24 : decode cX0_fewestChanges 24 = .ok (.imul, 1) := by decide +kernel
theorem dX0_fewestChanges_25 : decode cX0_fewestChanges 25 = .ok (.ishl, 1) := by decide +kernel
theorem dX0_fewestChanges_26 : decode cX0_fewestChanges 26 = .ok (.ior, 1) := by decide +kernel
theorem dX0_fewestChanges_27 : decode cX0_fewestChanges 27 = .ok (.istore_n 3, 1) := by decide +kernel
theorem dX0_fewestChanges_28 : decode cX0_fewestChanges 28 = .ok (.iload 4, 2) := by decide +kernel
theorem dX0_fewestChanges_30 : decode cX0_fewestChanges 30 = .ok (.iload 5, 2) := by decide +kernel
theorem dX0_fewestChanges_32 : decode cX0_fewestChanges 32 = .ok (.iconst 3, 1) := by decide +kernel
theorem dX0_fewestChanges_33 : decode cX0_fewestChanges 33 = .ok (.iload 5, 2) := by decide +kernel
theorem dX0_fewestChanges_35 : decode cX0_fewestChanges 35 = .ok (.imul, 1) := by decide +kernel
theorem dX0_fewestChanges_36 : decode cX0_fewestChanges 36 = .ok (.ishl, 1) := by decide +kernel
theorem dX0_fewestChanges_37 : decode cX0_fewestChanges 37 = .ok (.ior, 1) := by decide +kernel
theorem dX0_fewestChanges_38 : decode cX0_fewestChanges 38 = .ok (.istore 4, 2) := by decide +kernel
theorem dX0_fewestChanges_40 : decode cX0_fewestChanges 40 = .ok (.iinc 5 1, 3) := by decide +kernel
theorem dX0_fewestChanges_43 : decode cX0_fewestChanges 43 = .ok (.goto (-35), 3) := by decide +kernel
theorem dX0_fewestChanges_46 : decode cX0_fewestChanges 46 = .ok (.iconst 0, 1) := by decide +kernel
theorem dX0_fewestChanges_47 : decode cX0_fewestChanges 47 = .ok (.istore 5, 2) := by decide +kernel
theorem dX0_fewestChanges_49 : decode cX0_fewestChanges 49 = .ok (.iload 5, 2) := by decide +kernel
theorem dX0_fewestChanges_51 : decode cX0_fewestChanges 51 = .ok (.sipush 720, 3) := by decide +kernel
theorem dX0_fewestChanges_54 : decode cX0_fewestChanges 54 = .ok (.if_icmp .ge 19, 3) := by decide +kernel
theorem dX0_fewestChanges_57 : decode cX0_fewestChanges 57 = .ok (.aload_n 0, 1) := by decide +kernel
theorem dX0_fewestChanges_58 : decode cX0_fewestChanges 58 = .ok (.getfield 15, 3) := by decide +kernel
theorem dX0_fewestChanges_61 : decode cX0_fewestChanges 61 = .ok (.iload 5, 2) := by decide +kernel
theorem dX0_fewestChanges_63 : decode cX0_fewestChanges 63 = .ok (.iconst (-1), 1) := by decide +kernel
theorem dX0_fewestChanges_64 : decode cX0_fewestChanges 64 = .ok (.invokestatic 24, 3) := by decide +kernel
theorem dX0_fewestChanges_67 : decode cX0_fewestChanges 67 = .ok (.iinc 5 1, 3) := by decide +kernel
theorem dX0_fewestChanges_70 : decode cX0_fewestChanges 70 = .ok (.goto (-21), 3) := by decide +kernel
theorem dX0_fewestChanges_73 : decode cX0_fewestChanges 73 = .ok (.aload_n 0, 1) := by decide +kernel
theorem dX0_fewestChanges_74 : decode cX0_fewestChanges 74 = .ok (.getfield 11, 3) := by decide +kernel
theorem dX0_fewestChanges_77 : decode cX0_fewestChanges 77 = .ok (.iconst 0, 1) := by decide +kernel
theorem dX0_fewestChanges_78 : decode cX0_fewestChanges 78 = .ok (.iload 4, 2) := by decide +kernel
theorem dX0_fewestChanges_80 : decode cX0_fewestChanges 80 = .ok (.invokestatic 24, 3) := by decide +kernel
theorem dX0_fewestChanges_83 : decode cX0_fewestChanges 83 = .ok (.aload_n 0, 1) := by decide +kernel
theorem dX0_fewestChanges_84 : decode cX0_fewestChanges 84 = .ok (.getfield 15, 3) := by decide +kernel
theorem dX0_fewestChanges_87 : decode cX0_fewestChanges 87 = .ok (.iload 4, 2) := by decide +kernel
theorem dX0_fewestChanges_89 : decode cX0_fewestChanges 89 = .ok (.iload_n 2, 1) := by decide +kernel
theorem dX0_fewestChanges_90 : decode cX0_fewestChanges 90 = .ok (.invokestatic 28, 3) := by decide +kernel
theorem dX0_fewestChanges_93 : decode cX0_fewestChanges 93 = .ok (.iconst 0, 1) := by decide +kernel
theorem dX0_fewestChanges_94 : decode cX0_fewestChanges 94 = .ok (.invokestatic 24, 3) := by decide +kernel
theorem dX0_fewestChanges_97 : decode cX0_fewestChanges 97 = .ok (.iconst 1, 1) := by decide +kernel
theorem dX0_fewestChanges_98 : decode cX0_fewestChanges 98 = .ok (.istore 5, 2) := by decide +kernel
theorem dX0_fewestChanges_100 : decode cX0_fewestChanges 100 = .ok (.iload_n 3, 1) := by decide +kernel
theorem dX0_fewestChanges_101 : decode cX0_fewestChanges 101 = .ok (.iload_n 2, 1) := by decide +kernel
theorem dX0_fewestChanges_102 : decode cX0_fewestChanges 102 = .ok (.invokestatic 28, 3) := by decide +kernel
theorem dX0_fewestChanges_105 : decode cX0_fewestChanges 105 = .ok (.istore 6, 2) := by decide +kernel
theorem dX0_fewestChanges_107 : decode cX0_fewestChanges 107 = .ok (.iconst 0, 1) := by decide +kernel
theorem dX0_fewestChanges_108 : decode cX0_fewestChanges 108 = .ok (.istore 7, 2) := by decide +kernel
theorem dX0_fewestChanges_110 : decode cX0_fewestChanges 110 = .ok (.iload 7, 2) := by decide +kernel
theorem dX0_fewestChanges_112 : decode cX0_fewestChanges 112 = .ok (.iload 5, 2) := by decide +kernel
theorem dX0_fewestChanges_114 : decode cX0_fewestChanges 114 = .ok (.if_icmp .ge 48, 3) := by decide +kernel
theorem dX0_fewestChanges_117 : decode cX0_fewestChanges 117 = .ok (.iload 7, 2) := by decide +kernel
theorem dX0_fewestChanges_119 : decode cX0_fewestChanges 119 = .ok (.sipush 720, 3) := by decide +kernel
theorem dX0_fewestChanges_122 : decode cX0_fewestChanges 122 = .ok (.if_icmp .ge 40, 3) := by decide +kernel
theorem dX0_fewestChanges_125 : decode cX0_fewestChanges 125 = .ok (.aload_n 0, 1) := by decide +kernel
theorem dX0_fewestChanges_126 : decode cX0_fewestChanges 126 = .ok (.getfield 15, 3) := by decide +kernel
theorem dX0_fewestChanges_129 : decode cX0_fewestChanges 129 = .ok (.iload 6, 2) := by decide +kernel
theorem dX0_fewestChanges_131 : decode cX0_fewestChanges 131 = .ok (.invokestatic 32, 3) := by decide +kernel
theorem dX0_fewestChanges_134 : decode cX0_fewestChanges 134 = .ok (.iconst (-1), 1) := by decide +kernel
theorem dX0_fewestChanges_135 : decode cX0_fewestChanges 135 = .ok (.if_icmp .ne 27, 3) := by decide +kernel
theorem dX0_fewestChanges_138 : decode cX0_fewestChanges 138 = .ok (.aload_n 0, 1) := by decide +kernel
theorem dX0_fewestChanges_139 : decode cX0_fewestChanges 139 = .ok (.aload_n 0, 1) := by decide +kernel
theorem dX0_fewestChanges_140 : decode cX0_fewestChanges 140 = .ok (.getfield 11, 3) := by decide +kernel
theorem dX0_fewestChanges_143 : decode cX0_fewestChanges 143 = .ok (.iload 7, 2) := by decide +kernel
theorem dX0_fewestChanges_145 : decode cX0_fewestChanges 145 = .ok (.invokestatic 32, 3) := by decide +kernel
theorem dX0_fewestChanges_148 : decode cX0_fewestChanges 148 = .ok (.iload_n 2, 1) := by decide +kernel
theorem dX0_fewestChanges_149 : decode cX0_fewestChanges 149 = .ok (.iload 5, 2) := by decide +kernel
theorem dX0_fewestChanges_151 : decode cX0_fewestChanges 151 = .ok (.invokevirtual 36, 3) := by decide +kernel
theorem dX0_fewestChanges_154 : decode cX0_fewestChanges 154 = .ok (.istore 5, 2) := by decide +kernel
theorem dX0_fewestChanges_156 : decode cX0_fewestChanges 156 = .ok (.iinc 7 1, 3) := by decide +kernel
theorem dX0_fewestChanges_159 : decode cX0_fewestChanges 159 = .ok (.goto (-49), 3) := by decide +kernel
theorem dX0_fewestChanges_162 : decode cX0_fewestChanges 162 = .ok (.aload_n 0, 1) := by decide +kernel
theorem dX0_fewestChanges_163 : decode cX0_fewestChanges 163 = .ok (.getfield 15, 3) := by decide +kernel
theorem dX0_fewestChanges_166 : decode cX0_fewestChanges 166 = .ok (.iload 6, 2) := by decide +kernel
theorem dX0_fewestChanges_168 : decode cX0_fewestChanges 168 = .ok (.invokestatic 32, 3) := by decide +kernel
theorem dX0_fewestChanges_171 : decode cX0_fewestChanges 171 = .ok (.ireturn, 1) := by decide +kernel
theorem dX0_ringFrom_0 : decode cX0_ringFrom 0 = .ok (.aload_n 0, 1) := by decide +kernel
theorem dX0_ringFrom_1 : decode cX0_ringFrom 1 = .ok (.getfield 15, 3) := by decide +kernel
theorem dX0_ringFrom_4 : decode cX0_ringFrom 4 = .ok (.iload_n 1, 1) := by decide +kernel
theorem dX0_ringFrom_5 : decode cX0_ringFrom 5 = .ok (.iload_n 2, 1) := by decide +kernel
theorem dX0_ringFrom_6 : decode cX0_ringFrom 6 = .ok (.invokestatic 28, 3) := by decide +kernel
theorem dX0_ringFrom_9 : decode cX0_ringFrom 9 = .ok (.invokestatic 32, 3) := by decide +kernel
theorem dX0_ringFrom_12 : decode cX0_ringFrom 12 = .ok (.iconst 1, 1) := by decide +kernel
theorem dX0_ringFrom_13 : decode cX0_ringFrom 13 = .ok (.iadd, 1) := by decide +kernel
theorem dX0_ringFrom_14 : decode cX0_ringFrom 14 = .ok (.istore 4, 2) := by decide +kernel
theorem dX0_ringFrom_16 : decode cX0_ringFrom 16 = .ok (.iload_n 3, 1) := by decide +kernel
theorem dX0_ringFrom_17 : decode cX0_ringFrom 17 = .ok (.istore 5, 2) := by decide +kernel
theorem dX0_ringFrom_19 : decode cX0_ringFrom 19 = .ok (.iconst 1, 1) := by decide +kernel
theorem dX0_ringFrom_20 : decode cX0_ringFrom 20 = .ok (.istore 6, 2) := by decide +kernel
theorem dX0_ringFrom_22 : decode cX0_ringFrom 22 = .ok (.iload 6, 2) := by decide +kernel
theorem dX0_ringFrom_24 : decode cX0_ringFrom 24 = .ok (.iconst 1, 1) := by decide +kernel
theorem dX0_ringFrom_25 : decode cX0_ringFrom 25 = .ok (.iload_n 2, 1) := by decide +kernel
theorem dX0_ringFrom_26 : decode cX0_ringFrom 26 = .ok (.iconst 1, 1) := by decide +kernel
theorem dX0_ringFrom_27 : decode cX0_ringFrom 27 = .ok (.isub, 1) := by decide +kernel
theorem dX0_ringFrom_28 : decode cX0_ringFrom 28 = .ok (.ishl, 1) := by decide +kernel
theorem dX0_ringFrom_29 : decode cX0_ringFrom 29 = .ok (.if_icmp .ge 74, 3) := by decide +kernel
theorem dX0_ringFrom_32 : decode cX0_ringFrom 32 = .ok (.iload 6, 2) := by decide +kernel
theorem dX0_ringFrom_34 : decode cX0_ringFrom 34 = .ok (.iload 6, 2) := by decide +kernel
theorem dX0_ringFrom_36 : decode cX0_ringFrom 36 = .ok (.iconst 1, 1) := by decide +kernel
theorem dX0_ringFrom_37 : decode cX0_ringFrom 37 = .ok (.ishr, 1) := by decide +kernel
theorem dX0_ringFrom_38 : decode cX0_ringFrom 38 = .ok (.iand, 1) := by decide +kernel
theorem dX0_ringFrom_39 : decode cX0_ringFrom 39 = .ok (.ifCond .ne 58, 3) := by decide +kernel
theorem dX0_ringFrom_42 : decode cX0_ringFrom 42 = .ok (.iload_n 1, 1) := by decide +kernel
theorem dX0_ringFrom_43 : decode cX0_ringFrom 43 = .ok (.iload 6, 2) := by decide +kernel
theorem dX0_ringFrom_45 : decode cX0_ringFrom 45 = .ok (.iload_n 2, 1) := by decide +kernel
theorem dX0_ringFrom_46 : decode cX0_ringFrom 46 = .ok (.invokestatic 40, 3) := by decide +kernel
theorem dX0_ringFrom_49 : decode cX0_ringFrom 49 = .ok (.istore 7, 2) := by decide +kernel
theorem dX0_ringFrom_51 : decode cX0_ringFrom 51 = .ok (.iload 7, 2) := by decide +kernel
theorem dX0_ringFrom_53 : decode cX0_ringFrom 53 = .ok (.iload_n 2, 1) := by decide +kernel
theorem dX0_ringFrom_54 : decode cX0_ringFrom 54 = .ok (.invokestatic 28, 3) := by decide +kernel
theorem dX0_ringFrom_57 : decode cX0_ringFrom 57 = .ok (.istore 8, 2) := by decide +kernel
theorem dX0_ringFrom_59 : decode cX0_ringFrom 59 = .ok (.aload_n 0, 1) := by decide +kernel
theorem dX0_ringFrom_60 : decode cX0_ringFrom 60 = .ok (.getfield 15, 3) := by decide +kernel
theorem dX0_ringFrom_63 : decode cX0_ringFrom 63 = .ok (.iload 8, 2) := by decide +kernel
theorem dX0_ringFrom_65 : decode cX0_ringFrom 65 = .ok (.invokestatic 32, 3) := by decide +kernel
theorem dX0_ringFrom_68 : decode cX0_ringFrom 68 = .ok (.iconst (-1), 1) := by decide +kernel
theorem dX0_ringFrom_69 : decode cX0_ringFrom 69 = .ok (.if_icmp .ne 28, 3) := by decide +kernel
theorem dX0_ringFrom_72 : decode cX0_ringFrom 72 = .ok (.aload_n 0, 1) := by decide +kernel
theorem dX0_ringFrom_73 : decode cX0_ringFrom 73 = .ok (.getfield 15, 3) := by decide +kernel
theorem dX0_ringFrom_76 : decode cX0_ringFrom 76 = .ok (.iload 8, 2) := by decide +kernel
theorem dX0_ringFrom_78 : decode cX0_ringFrom 78 = .ok (.iload 4, 2) := by decide +kernel
theorem dX0_ringFrom_80 : decode cX0_ringFrom 80 = .ok (.invokestatic 24, 3) := by decide +kernel
theorem dX0_ringFrom_83 : decode cX0_ringFrom 83 = .ok (.aload_n 0, 1) := by decide +kernel
theorem dX0_ringFrom_84 : decode cX0_ringFrom 84 = .ok (.getfield 11, 3) := by decide +kernel
theorem dX0_ringFrom_87 : decode cX0_ringFrom 87 = .ok (.iload 5, 2) := by decide +kernel
theorem dX0_ringFrom_89 : decode cX0_ringFrom 89 = .ok (.iload 7, 2) := by decide +kernel
theorem dX0_ringFrom_91 : decode cX0_ringFrom 91 = .ok (.invokestatic 24, 3) := by decide +kernel
theorem dX0_ringFrom_94 : decode cX0_ringFrom 94 = .ok (.iinc 5 1, 3) := by decide +kernel
theorem dX0_ringFrom_97 : decode cX0_ringFrom 97 = .ok (.iinc 6 1, 3) := by decide +kernel
theorem dX0_ringFrom_100 : decode cX0_ringFrom 100 = .ok (.goto (-78), 3) := by decide +kernel
theorem dX0_ringFrom_103 : decode cX0_ringFrom 103 = .ok (.iload 5, 2) := by decide +kernel
theorem dX0_ringFrom_105 : decode cX0_ringFrom 105 = .ok (.ireturn, 1) := by decide +kernel
theorem dX0_swapped_0 : decode cX0_swapped 0 = .ok (.iload_n 0, 1) := by decide +kernel
theorem dX0_swapped_1 : decode cX0_swapped 1 = .ok (.istore_n 3, 1) := by decide +kernel
theorem dX0_swapped_2 : decode cX0_swapped 2 = .ok (.iconst 0, 1) := by decide +kernel
theorem dX0_swapped_3 : decode cX0_swapped 3 = .ok (.istore 4, 2) := by decide +kernel
theorem dX0_swapped_5 : decode cX0_swapped 5 = .ok (.iload 4, 2) := by decide +kernel
theorem dX0_swapped_7 : decode cX0_swapped 7 = .ok (.iload_n 2, 1) := by decide +kernel
theorem dX0_swapped_8 : decode cX0_swapped 8 = .ok (.iconst 1, 1) := by decide +kernel
theorem dX0_swapped_9 : decode cX0_swapped 9 = .ok (.isub, 1) := by decide +kernel
theorem dX0_swapped_10 : decode cX0_swapped 10 = .ok (.if_icmp .ge 58, 3) := by decide +kernel
theorem dX0_swapped_13 : decode cX0_swapped 13 = .ok (.iload_n 1, 1) := by decide +kernel
theorem dX0_swapped_14 : decode cX0_swapped 14 = .ok (.iload 4, 2) := by decide +kernel
theorem dX0_swapped_16 : decode cX0_swapped 16 = .ok (.ishr, 1) := by decide +kernel
theorem dX0_swapped_17 : decode cX0_swapped 17 = .ok (.iconst 1, 1) := by decide +kernel
theorem dX0_swapped_18 : decode cX0_swapped 18 = .ok (.iand, 1) := by decide +kernel
theorem dX0_swapped_19 : decode cX0_swapped 19 = .ok (.ifCond .eq 43, 3) := by decide +kernel
theorem dX0_swapped_22 : decode cX0_swapped 22 = .ok (.iload_n 3, 1) := by decide +kernel
theorem dX0_swapped_23 : decode cX0_swapped 23 = .ok (.iconst 3, 1) := by decide +kernel
theorem dX0_swapped_24 : decode cX0_swapped 24 = .ok (.iload 4, 2) := by decide +kernel
theorem dX0_swapped_26 : decode cX0_swapped 26 = .ok (.imul, 1) := by decide +kernel
theorem dX0_swapped_27 : decode cX0_swapped 27 = .ok (.ishr, 1) := by decide +kernel
theorem dX0_swapped_28 : decode cX0_swapped 28 = .ok (.iload_n 3, 1) := by decide +kernel
theorem dX0_swapped_29 : decode cX0_swapped 29 = .ok (.iconst 3, 1) := by decide +kernel
theorem dX0_swapped_30 : decode cX0_swapped 30 = .ok (.iload 4, 2) := by decide +kernel
theorem dX0_swapped_32 : decode cX0_swapped 32 = .ok (.imul, 1) := by decide +kernel
theorem dX0_swapped_33 : decode cX0_swapped 33 = .ok (.iconst 3, 1) := by decide +kernel
theorem dX0_swapped_34 : decode cX0_swapped 34 = .ok (.iadd, 1) := by decide +kernel
theorem dX0_swapped_35 : decode cX0_swapped 35 = .ok (.ishr, 1) := by decide +kernel
theorem dX0_swapped_36 : decode cX0_swapped 36 = .ok (.ixor, 1) := by decide +kernel
theorem dX0_swapped_37 : decode cX0_swapped 37 = .ok (.bipush 7, 2) := by decide +kernel
theorem dX0_swapped_39 : decode cX0_swapped 39 = .ok (.iand, 1) := by decide +kernel
theorem dX0_swapped_40 : decode cX0_swapped 40 = .ok (.istore 5, 2) := by decide +kernel
theorem dX0_swapped_42 : decode cX0_swapped 42 = .ok (.iload_n 3, 1) := by decide +kernel
theorem dX0_swapped_43 : decode cX0_swapped 43 = .ok (.iload 5, 2) := by decide +kernel
theorem dX0_swapped_45 : decode cX0_swapped 45 = .ok (.iconst 3, 1) := by decide +kernel
theorem dX0_swapped_46 : decode cX0_swapped 46 = .ok (.iload 4, 2) := by decide +kernel
theorem dX0_swapped_48 : decode cX0_swapped 48 = .ok (.imul, 1) := by decide +kernel
theorem dX0_swapped_49 : decode cX0_swapped 49 = .ok (.ishl, 1) := by decide +kernel
theorem dX0_swapped_50 : decode cX0_swapped 50 = .ok (.iload 5, 2) := by decide +kernel
theorem dX0_swapped_52 : decode cX0_swapped 52 = .ok (.iconst 3, 1) := by decide +kernel
theorem dX0_swapped_53 : decode cX0_swapped 53 = .ok (.iload 4, 2) := by decide +kernel
theorem dX0_swapped_55 : decode cX0_swapped 55 = .ok (.imul, 1) := by decide +kernel
theorem dX0_swapped_56 : decode cX0_swapped 56 = .ok (.iconst 3, 1) := by decide +kernel
theorem dX0_swapped_57 : decode cX0_swapped 57 = .ok (.iadd, 1) := by decide +kernel
theorem dX0_swapped_58 : decode cX0_swapped 58 = .ok (.ishl, 1) := by decide +kernel
theorem dX0_swapped_59 : decode cX0_swapped 59 = .ok (.ior, 1) := by decide +kernel
theorem dX0_swapped_60 : decode cX0_swapped 60 = .ok (.ixor, 1) := by decide +kernel
theorem dX0_swapped_61 : decode cX0_swapped 61 = .ok (.istore_n 3, 1) := by decide +kernel
theorem dX0_swapped_62 : decode cX0_swapped 62 = .ok (.iinc 4 1, 3) := by decide +kernel
theorem dX0_swapped_65 : decode cX0_swapped 65 = .ok (.goto (-60), 3) := by decide +kernel
theorem dX0_swapped_68 : decode cX0_swapped 68 = .ok (.iload_n 3, 1) := by decide +kernel
theorem dX0_swapped_69 : decode cX0_swapped 69 = .ok (.ireturn, 1) := by decide +kernel
theorem dX0_placeOf_0 : decode cX0_placeOf 0 = .ok (.iconst 0, 1) := by decide +kernel
theorem dX0_placeOf_1 : decode cX0_placeOf 1 = .ok (.istore_n 2, 1) := by decide +kernel
theorem dX0_placeOf_2 : decode cX0_placeOf 2 = .ok (.iconst 0, 1) := by decide +kernel
theorem dX0_placeOf_3 : decode cX0_placeOf 3 = .ok (.istore_n 3, 1) := by decide +kernel
theorem dX0_placeOf_4 : decode cX0_placeOf 4 = .ok (.iload_n 3, 1) := by decide +kernel
theorem dX0_placeOf_5 : decode cX0_placeOf 5 = .ok (.iload_n 1, 1) := by decide +kernel
theorem dX0_placeOf_6 : decode cX0_placeOf 6 = .ok (.if_icmp .ge 61, 3) := by decide +kernel
theorem dX0_placeOf_9 : decode cX0_placeOf 9 = .ok (.iconst 0, 1) := by decide +kernel
theorem dX0_placeOf_10 : decode cX0_placeOf 10 = .ok (.istore 4, 2) := by decide +kernel
theorem dX0_placeOf_12 : decode cX0_placeOf 12 = .ok (.iload_n 3, 1) := by decide +kernel
theorem dX0_placeOf_13 : decode cX0_placeOf 13 = .ok (.iconst 1, 1) := by decide +kernel
theorem dX0_placeOf_14 : decode cX0_placeOf 14 = .ok (.iadd, 1) := by decide +kernel
theorem dX0_placeOf_15 : decode cX0_placeOf 15 = .ok (.istore 5, 2) := by decide +kernel
theorem dX0_placeOf_17 : decode cX0_placeOf 17 = .ok (.iload 5, 2) := by decide +kernel
theorem dX0_placeOf_19 : decode cX0_placeOf 19 = .ok (.iload_n 1, 1) := by decide +kernel
theorem dX0_placeOf_20 : decode cX0_placeOf 20 = .ok (.if_icmp .ge 32, 3) := by decide +kernel
theorem dX0_placeOf_23 : decode cX0_placeOf 23 = .ok (.iload_n 0, 1) := by decide +kernel
theorem dX0_placeOf_24 : decode cX0_placeOf 24 = .ok (.iconst 3, 1) := by decide +kernel
theorem dX0_placeOf_25 : decode cX0_placeOf 25 = .ok (.iload 5, 2) := by decide +kernel
theorem dX0_placeOf_27 : decode cX0_placeOf 27 = .ok (.imul, 1) := by decide +kernel
theorem dX0_placeOf_28 : decode cX0_placeOf 28 = .ok (.ishr, 1) := by decide +kernel
theorem dX0_placeOf_29 : decode cX0_placeOf 29 = .ok (.bipush 7, 2) := by decide +kernel
theorem dX0_placeOf_31 : decode cX0_placeOf 31 = .ok (.iand, 1) := by decide +kernel
theorem dX0_placeOf_32 : decode cX0_placeOf 32 = .ok (.iload_n 0, 1) := by decide +kernel
theorem dX0_placeOf_33 : decode cX0_placeOf 33 = .ok (.iconst 3, 1) := by decide +kernel
theorem dX0_placeOf_34 : decode cX0_placeOf 34 = .ok (.iload_n 3, 1) := by decide +kernel
theorem dX0_placeOf_35 : decode cX0_placeOf 35 = .ok (.imul, 1) := by decide +kernel
theorem dX0_placeOf_36 : decode cX0_placeOf 36 = .ok (.ishr, 1) := by decide +kernel
theorem dX0_placeOf_37 : decode cX0_placeOf 37 = .ok (.bipush 7, 2) := by decide +kernel
theorem dX0_placeOf_39 : decode cX0_placeOf 39 = .ok (.iand, 1) := by decide +kernel
theorem dX0_placeOf_40 : decode cX0_placeOf 40 = .ok (.if_icmp .ge 6, 3) := by decide +kernel
theorem dX0_placeOf_43 : decode cX0_placeOf 43 = .ok (.iinc 4 1, 3) := by decide +kernel
theorem dX0_placeOf_46 : decode cX0_placeOf 46 = .ok (.iinc 5 1, 3) := by decide +kernel
theorem dX0_placeOf_49 : decode cX0_placeOf 49 = .ok (.goto (-32), 3) := by decide +kernel
theorem dX0_placeOf_52 : decode cX0_placeOf 52 = .ok (.iload_n 2, 1) := by decide +kernel
theorem dX0_placeOf_53 : decode cX0_placeOf 53 = .ok (.iload_n 1, 1) := by decide +kernel
theorem dX0_placeOf_54 : decode cX0_placeOf 54 = .ok (.iload_n 3, 1) := by decide +kernel
theorem dX0_placeOf_55 : decode cX0_placeOf 55 = .ok (.isub, 1) := by decide +kernel
theorem dX0_placeOf_56 : decode cX0_placeOf 56 = .ok (.imul, 1) := by decide +kernel
theorem dX0_placeOf_57 : decode cX0_placeOf 57 = .ok (.iload 4, 2) := by decide +kernel
theorem dX0_placeOf_59 : decode cX0_placeOf 59 = .ok (.iadd, 1) := by decide +kernel
theorem dX0_placeOf_60 : decode cX0_placeOf 60 = .ok (.istore_n 2, 1) := by decide +kernel
theorem dX0_placeOf_61 : decode cX0_placeOf 61 = .ok (.iinc 3 1, 3) := by decide +kernel
theorem dX0_placeOf_64 : decode cX0_placeOf 64 = .ok (.goto (-60), 3) := by decide +kernel
theorem dX0_placeOf_67 : decode cX0_placeOf 67 = .ok (.iload_n 2, 1) := by decide +kernel
theorem dX0_placeOf_68 : decode cX0_placeOf 68 = .ok (.ireturn, 1) := by decide +kernel
theorem dX1_init_0 : decode cX1_init 0 = .ok (.aload_n 0, 1) := by decide +kernel
theorem dX1_init_1 : decode cX1_init 1 = .ok (.invokespecial 3, 3) := by decide +kernel
theorem dX1_init_4 : decode cX1_init 4 = .ok (.aload_n 0, 1) := by decide +kernel
theorem dX1_init_5 : decode cX1_init 5 = .ok (.bipush 16, 2) := by decide +kernel
theorem dX1_init_7 : decode cX1_init 7 = .ok (.newarray .int, 2) := by decide +kernel
theorem dX1_init_9 : decode cX1_init 9 = .ok (.putfield 9, 3) := by decide +kernel
theorem dX1_init_12 : decode cX1_init 12 = .ok (.aload_n 0, 1) := by decide +kernel
theorem dX1_init_13 : decode cX1_init 13 = .ok (.bipush 16, 2) := by decide +kernel
theorem dX1_init_15 : decode cX1_init 15 = .ok (.newarray .int, 2) := by decide +kernel
theorem dX1_init_17 : decode cX1_init 17 = .ok (.putfield 15, 3) := by decide +kernel
theorem dX1_init_20 : decode cX1_init 20 = .ok (.aload_n 0, 1) := by decide +kernel
theorem dX1_init_21 : decode cX1_init 21 = .ok (.bipush 16, 2) := by decide +kernel
theorem dX1_init_23 : decode cX1_init 23 = .ok (.newarray .int, 2) := by decide +kernel
theorem dX1_init_25 : decode cX1_init 25 = .ok (.putfield 18, 3) := by decide +kernel
theorem dX1_init_28 : decode cX1_init 28 = .ok (.aload_n 0, 1) := by decide +kernel
theorem dX1_init_29 : decode cX1_init 29 = .ok (.bipush 16, 2) := by decide +kernel
theorem dX1_init_31 : decode cX1_init 31 = .ok (.newarray .int, 2) := by decide +kernel
theorem dX1_init_33 : decode cX1_init 33 = .ok (.putfield 21, 3) := by decide +kernel
theorem dX1_init_36 : decode cX1_init 36 = .ok (.aload_n 0, 1) := by decide +kernel
theorem dX1_init_37 : decode cX1_init 37 = .ok (.sipush 240, 3) := by decide +kernel
theorem dX1_init_40 : decode cX1_init 40 = .ok (.newarray .int, 2) := by decide +kernel
theorem dX1_init_42 : decode cX1_init 42 = .ok (.putfield 24, 3) := by decide +kernel
theorem dX1_init_45 : decode cX1_init 45 = .ok (.aload_n 0, 1) := by decide +kernel
theorem dX1_init_46 : decode cX1_init 46 = .ok (.sipush 240, 3) := by decide +kernel
theorem dX1_init_49 : decode cX1_init 49 = .ok (.newarray .int, 2) := by decide +kernel
theorem dX1_init_51 : decode cX1_init 51 = .ok (.putfield 27, 3) := by decide +kernel
theorem dX1_init_54 : decode cX1_init 54 = .ok (.aload_n 0, 1) := by decide +kernel
theorem dX1_init_55 : decode cX1_init 55 = .ok (.bipush 24, 2) := by decide +kernel
theorem dX1_init_57 : decode cX1_init 57 = .ok (.newarray .int, 2) := by decide +kernel
theorem dX1_init_59 : decode cX1_init 59 = .ok (.putfield 30, 3) := by decide +kernel
theorem dX1_init_62 : decode cX1_init 62 = .ok (.return_, 1) := by decide +kernel
theorem dX1_empty_0 : decode cX1_empty 0 = .ok (.aload_n 0, 1) := by decide +kernel
theorem dX1_empty_1 : decode cX1_empty 1 = .ok (.iconst 0, 1) := by decide +kernel
theorem dX1_empty_2 : decode cX1_empty 2 = .ok (.putfield 33, 3) := by decide +kernel
theorem dX1_empty_5 : decode cX1_empty 5 = .ok (.aload_n 0, 1) := by decide +kernel
theorem dX1_empty_6 : decode cX1_empty 6 = .ok (.iconst 0, 1) := by decide +kernel
theorem dX1_empty_7 : decode cX1_empty 7 = .ok (.putfield 37, 3) := by decide +kernel
theorem dX1_empty_10 : decode cX1_empty 10 = .ok (.return_, 1) := by decide +kernel
theorem dX1_beginRule_0 : decode cX1_beginRule 0 = .ok (.aload_n 0, 1) := by decide +kernel
theorem dX1_beginRule_1 : decode cX1_beginRule 1 = .ok (.getfield 9, 3) := by decide +kernel
theorem dX1_beginRule_4 : decode cX1_beginRule 4 = .ok (.aload_n 0, 1) := by decide +kernel
theorem dX1_beginRule_5 : decode cX1_beginRule 5 = .ok (.getfield 33, 3) := by decide +kernel
theorem dX1_beginRule_8 : decode cX1_beginRule 8 = .ok (.iload_n 1, 1) := by decide +kernel
theorem dX1_beginRule_9 : decode cX1_beginRule 9 = .ok (.invokestatic 40, 3) := by decide +kernel
theorem dX1_beginRule_12 : decode cX1_beginRule 12 = .ok (.aload_n 0, 1) := by decide +kernel
theorem dX1_beginRule_13 : decode cX1_beginRule 13 = .ok (.getfield 15, 3) := by decide +kernel
theorem dX1_beginRule_16 : decode cX1_beginRule 16 = .ok (.aload_n 0, 1) := by decide +kernel
theorem dX1_beginRule_17 : decode cX1_beginRule 17 = .ok (.getfield 33, 3) := by decide +kernel
theorem dX1_beginRule_20 : decode cX1_beginRule 20 = .ok (.aload_n 0, 1) := by decide +kernel
theorem dX1_beginRule_21 : decode cX1_beginRule 21 = .ok (.getfield 37, 3) := by decide +kernel
theorem dX1_beginRule_24 : decode cX1_beginRule 24 = .ok (.invokestatic 40, 3) := by decide +kernel
theorem dX1_beginRule_27 : decode cX1_beginRule 27 = .ok (.return_, 1) := by decide +kernel
theorem dX1_beginTest_0 : decode cX1_beginTest 0 = .ok (.aload_n 0, 1) := by decide +kernel
theorem dX1_beginTest_1 : decode cX1_beginTest 1 = .ok (.getfield 18, 3) := by decide +kernel
theorem dX1_beginTest_4 : decode cX1_beginTest 4 = .ok (.aload_n 0, 1) := by decide +kernel
theorem dX1_beginTest_5 : decode cX1_beginTest 5 = .ok (.getfield 33, 3) := by decide +kernel
theorem dX1_beginTest_8 : decode cX1_beginTest 8 = .ok (.aload_n 0, 1) := by decide +kernel
theorem dX1_beginTest_9 : decode cX1_beginTest 9 = .ok (.getfield 37, 3) := by decide +kernel
theorem dX1_beginTest_12 : decode cX1_beginTest 12 = .ok (.invokestatic 40, 3) := by decide +kernel
theorem dX1_beginTest_15 : decode cX1_beginTest 15 = .ok (.return_, 1) := by decide +kernel
theorem dX1_endRule_0 : decode cX1_endRule 0 = .ok (.aload_n 0, 1) := by decide +kernel
theorem dX1_endRule_1 : decode cX1_endRule 1 = .ok (.getfield 21, 3) := by decide +kernel
theorem dX1_endRule_4 : decode cX1_endRule 4 = .ok (.aload_n 0, 1) := by decide +kernel
theorem dX1_endRule_5 : decode cX1_endRule 5 = .ok (.getfield 33, 3) := by decide +kernel
theorem dX1_endRule_8 : decode cX1_endRule 8 = .ok (.aload_n 0, 1) := by decide +kernel
theorem dX1_endRule_9 : decode cX1_endRule 9 = .ok (.getfield 37, 3) := by decide +kernel
theorem dX1_endRule_12 : decode cX1_endRule 12 = .ok (.invokestatic 40, 3) := by decide +kernel
theorem dX1_endRule_15 : decode cX1_endRule 15 = .ok (.aload_n 0, 1) := by decide +kernel
theorem dX1_endRule_16 : decode cX1_endRule 16 = .ok (.dup, 1) := by decide +kernel
theorem dX1_endRule_17 : decode cX1_endRule 17 = .ok (.getfield 33, 3) := by decide +kernel
theorem dX1_endRule_20 : decode cX1_endRule 20 = .ok (.iconst 1, 1) := by decide +kernel
theorem dX1_endRule_21 : decode cX1_endRule 21 = .ok (.iadd, 1) := by decide +kernel
theorem dX1_endRule_22 : decode cX1_endRule 22 = .ok (.putfield 33, 3) := by decide +kernel
theorem dX1_endRule_25 : decode cX1_endRule 25 = .ok (.return_, 1) := by decide +kernel
theorem dX1_add_0 : decode cX1_add 0 = .ok (.aload_n 0, 1) := by decide +kernel
theorem dX1_add_1 : decode cX1_add 1 = .ok (.getfield 24, 3) := by decide +kernel
theorem dX1_add_4 : decode cX1_add 4 = .ok (.aload_n 0, 1) := by decide +kernel
theorem dX1_add_5 : decode cX1_add 5 = .ok (.getfield 37, 3) := by decide +kernel
theorem dX1_add_8 : decode cX1_add 8 = .ok (.iload_n 1, 1) := by decide +kernel
theorem dX1_add_9 : decode cX1_add 9 = .ok (.invokestatic 40, 3) := by decide +kernel
theorem dX1_add_12 : decode cX1_add 12 = .ok (.aload_n 0, 1) := by decide +kernel
theorem dX1_add_13 : decode cX1_add 13 = .ok (.getfield 27, 3) := by decide +kernel
theorem dX1_add_16 : decode cX1_add 16 = .ok (.aload_n 0, 1) := by decide +kernel
theorem dX1_add_17 : decode cX1_add 17 = .ok (.getfield 37, 3) := by decide +kernel
theorem dX1_add_20 : decode cX1_add 20 = .ok (.iload_n 2, 1) := by decide +kernel
theorem dX1_add_21 : decode cX1_add 21 = .ok (.invokestatic 40, 3) := by decide +kernel
theorem dX1_add_24 : decode cX1_add 24 = .ok (.aload_n 0, 1) := by decide +kernel
theorem dX1_add_25 : decode cX1_add 25 = .ok (.dup, 1) := by decide +kernel
theorem dX1_add_26 : decode cX1_add 26 = .ok (.getfield 37, 3) := by decide +kernel
theorem dX1_add_29 : decode cX1_add 29 = .ok (.iconst 1, 1) := by decide +kernel
theorem dX1_add_30 : decode cX1_add 30 = .ok (.iadd, 1) := by decide +kernel
theorem dX1_add_31 : decode cX1_add 31 = .ok (.putfield 37, 3) := by decide +kernel
theorem dX1_add_34 : decode cX1_add 34 = .ok (.aload_n 0, 1) := by decide +kernel
theorem dX1_add_35 : decode cX1_add 35 = .ok (.getfield 37, 3) := by decide +kernel
theorem dX1_add_38 : decode cX1_add 38 = .ok (.iconst 1, 1) := by decide +kernel
theorem dX1_add_39 : decode cX1_add 39 = .ok (.isub, 1) := by decide +kernel
theorem dX1_add_40 : decode cX1_add 40 = .ok (.ireturn, 1) := by decide +kernel
theorem dX1_aim_0 : decode cX1_aim 0 = .ok (.aload_n 0, 1) := by decide +kernel
theorem dX1_aim_1 : decode cX1_aim 1 = .ok (.getfield 27, 3) := by decide +kernel
theorem dX1_aim_4 : decode cX1_aim 4 = .ok (.iload_n 1, 1) := by decide +kernel
theorem dX1_aim_5 : decode cX1_aim 5 = .ok (.aload_n 0, 1) := by decide +kernel
theorem dX1_aim_6 : decode cX1_aim 6 = .ok (.getfield 37, 3) := by decide +kernel
theorem dX1_aim_9 : decode cX1_aim 9 = .ok (.invokestatic 40, 3) := by decide +kernel
theorem dX1_aim_12 : decode cX1_aim 12 = .ok (.return_, 1) := by decide +kernel
theorem dX1_someHolds_0 : decode cX1_someHolds 0 = .ok (.iconst 0, 1) := by decide +kernel
theorem dX1_someHolds_1 : decode cX1_someHolds 1 = .ok (.istore_n 3, 1) := by decide +kernel
theorem dX1_someHolds_2 : decode cX1_someHolds 2 = .ok (.iload_n 3, 1) := by decide +kernel
theorem dX1_someHolds_3 : decode cX1_someHolds 3 = .ok (.aload_n 0, 1) := by decide +kernel
theorem dX1_someHolds_4 : decode cX1_someHolds 4 = .ok (.getfield 33, 3) := by decide +kernel
theorem dX1_someHolds_7 : decode cX1_someHolds 7 = .ok (.if_icmp .ge 47, 3) := by decide +kernel
theorem dX1_someHolds_10 : decode cX1_someHolds 10 = .ok (.aload_n 0, 1) := by decide +kernel
theorem dX1_someHolds_11 : decode cX1_someHolds 11 = .ok (.getfield 9, 3) := by decide +kernel
theorem dX1_someHolds_14 : decode cX1_someHolds 14 = .ok (.iload_n 3, 1) := by decide +kernel
theorem dX1_someHolds_15 : decode cX1_someHolds 15 = .ok (.invokestatic 44, 3) := by decide +kernel
theorem dX1_someHolds_18 : decode cX1_someHolds 18 = .ok (.iload_n 1, 1) := by decide +kernel
theorem dX1_someHolds_19 : decode cX1_someHolds 19 = .ok (.if_icmp .ne 29, 3) := by decide +kernel
theorem dX1_someHolds_22 : decode cX1_someHolds 22 = .ok (.aload_n 0, 1) := by decide +kernel
theorem dX1_someHolds_23 : decode cX1_someHolds 23 = .ok (.aload_n 0, 1) := by decide +kernel
theorem dX1_someHolds_24 : decode cX1_someHolds 24 = .ok (.getfield 18, 3) := by decide +kernel
theorem dX1_someHolds_27 : decode cX1_someHolds 27 = .ok (.iload_n 3, 1) := by decide +kernel
theorem dX1_someHolds_28 : decode cX1_someHolds 28 = .ok (.invokestatic 44, 3) := by decide +kernel
theorem dX1_someHolds_31 : decode cX1_someHolds 31 = .ok (.aload_n 0, 1) := by decide +kernel
theorem dX1_someHolds_32 : decode cX1_someHolds 32 = .ok (.getfield 21, 3) := by decide +kernel
theorem dX1_someHolds_35 : decode cX1_someHolds 35 = .ok (.iload_n 3, 1) := by decide +kernel
theorem dX1_someHolds_36 : decode cX1_someHolds 36 = .ok (.invokestatic 44, 3) := by decide +kernel
theorem dX1_someHolds_39 : decode cX1_someHolds 39 = .ok (.aload_n 2, 1) := by decide +kernel
theorem dX1_someHolds_40 : decode cX1_someHolds 40 = .ok (.invokevirtual 48, 3) := by decide +kernel
theorem dX1_someHolds_43 : decode cX1_someHolds 43 = .ok (.ifCond .eq 5, 3) := by decide +kernel
theorem dX1_someHolds_46 : decode cX1_someHolds 46 = .ok (.iconst 1, 1) := by decide +kernel
theorem dX1_someHolds_47 : decode cX1_someHolds 47 = .ok (.ireturn, 1) := by decide +kernel
theorem dX1_someHolds_48 : decode cX1_someHolds 48 = .ok (.iinc 3 1, 3) := by decide +kernel
theorem dX1_someHolds_51 : decode cX1_someHolds 51 = .ok (.goto (-49), 3) := by decide +kernel
theorem dX1_someHolds_54 : decode cX1_someHolds 54 = .ok (.iconst 0, 1) := by decide +kernel
theorem dX1_someHolds_55 : decode cX1_someHolds 55 = .ok (.ireturn, 1) := by decide +kernel
theorem dX1_amount_0 : decode cX1_amount 0 = .ok (.iconst 0, 1) := by decide +kernel
theorem dX1_amount_1 : decode cX1_amount 1 = .ok (.istore 4, 2) := by decide +kernel
theorem dX1_amount_3 : decode cX1_amount 3 = .ok (.iload 4, 2) := by decide +kernel
theorem dX1_amount_5 : decode cX1_amount 5 = .ok (.aload_n 0, 1) := by decide +kernel
theorem dX1_amount_6 : decode cX1_amount 6 = .ok (.getfield 33, 3) := by decide +kernel
theorem dX1_amount_9 : decode cX1_amount 9 = .ok (.if_icmp .ge 84, 3) := by decide +kernel
theorem dX1_amount_12 : decode cX1_amount 12 = .ok (.aload_n 0, 1) := by decide +kernel
theorem dX1_amount_13 : decode cX1_amount 13 = .ok (.getfield 9, 3) := by decide +kernel
theorem dX1_amount_16 : decode cX1_amount 16 = .ok (.iload 4, 2) := by decide +kernel
theorem dX1_amount_18 : decode cX1_amount 18 = .ok (.invokestatic 44, 3) := by decide +kernel
theorem dX1_amount_21 : decode cX1_amount 21 = .ok (.iload_n 1, 1) := by decide +kernel
theorem dX1_amount_22 : decode cX1_amount 22 = .ok (.if_icmp .ne 65, 3) := by decide +kernel
theorem dX1_amount_25 : decode cX1_amount 25 = .ok (.aload_n 0, 1) := by decide +kernel
theorem dX1_amount_26 : decode cX1_amount 26 = .ok (.aload_n 0, 1) := by decide +kernel
theorem dX1_amount_27 : decode cX1_amount 27 = .ok (.getfield 18, 3) := by decide +kernel
theorem dX1_amount_30 : decode cX1_amount 30 = .ok (.iload 4, 2) := by decide +kernel
theorem dX1_amount_32 : decode cX1_amount 32 = .ok (.invokestatic 44, 3) := by decide +kernel
theorem dX1_amount_35 : decode cX1_amount 35 = .ok (.aload_n 0, 1) := by decide +kernel
theorem dX1_amount_36 : decode cX1_amount 36 = .ok (.getfield 21, 3) := by decide +kernel
theorem dX1_amount_39 : decode cX1_amount 39 = .ok (.iload 4, 2) := by decide +kernel
theorem dX1_amount_41 : decode cX1_amount 41 = .ok (.invokestatic 44, 3) := by decide +kernel
theorem dX1_amount_44 : decode cX1_amount 44 = .ok (.aload_n 3, 1) := by decide +kernel
theorem dX1_amount_45 : decode cX1_amount 45 = .ok (.invokevirtual 48, 3) := by decide +kernel
theorem dX1_amount_48 : decode cX1_amount 48 = .ok (.ifCond .eq 39, 3) := by decide +kernel
theorem dX1_amount_51 : decode cX1_amount 51 = .ok (.aload_n 0, 1) := by decide +kernel
theorem dX1_amount_52 : decode cX1_amount 52 = .ok (.aload_n 0, 1) := by decide +kernel
theorem dX1_amount_53 : decode cX1_amount 53 = .ok (.getfield 15, 3) := by decide +kernel
theorem dX1_amount_56 : decode cX1_amount 56 = .ok (.iload 4, 2) := by decide +kernel
theorem dX1_amount_58 : decode cX1_amount 58 = .ok (.invokestatic 44, 3) := by decide +kernel
theorem dX1_amount_61 : decode cX1_amount 61 = .ok (.aload_n 0, 1) := by decide +kernel
theorem dX1_amount_62 : decode cX1_amount 62 = .ok (.getfield 18, 3) := by decide +kernel
theorem dX1_amount_65 : decode cX1_amount 65 = .ok (.iload 4, 2) := by decide +kernel
theorem dX1_amount_67 : decode cX1_amount 67 = .ok (.invokestatic 44, 3) := by decide +kernel
theorem dX1_amount_70 : decode cX1_amount 70 = .ok (.aload_n 3, 1) := by decide +kernel
theorem dX1_amount_71 : decode cX1_amount 71 = .ok (.invokevirtual 48, 3) := by decide +kernel
theorem dX1_amount_74 : decode cX1_amount 74 = .ok (.istore 5, 2) := by decide +kernel
theorem dX1_amount_76 : decode cX1_amount 76 = .ok (.iconst 0, 1) := by decide +kernel
theorem dX1_amount_77 : decode cX1_amount 77 = .ok (.iload 5, 2) := by decide +kernel
theorem dX1_amount_79 : decode cX1_amount 79 = .ok (.iload_n 2, 1) := by decide +kernel
theorem dX1_amount_80 : decode cX1_amount 80 = .ok (.invokestatic 52, 3) := by decide +kernel
theorem dX1_amount_83 : decode cX1_amount 83 = .ok (.invokestatic 58, 3) := by decide +kernel
theorem dX1_amount_86 : decode cX1_amount 86 = .ok (.ireturn, 1) := by decide +kernel
theorem dX1_amount_87 : decode cX1_amount 87 = .ok (.iinc 4 1, 3) := by decide +kernel
theorem dX1_amount_90 : decode cX1_amount 90 = .ok (.goto (-87), 3) := by decide +kernel
theorem dX1_amount_93 : decode cX1_amount 93 = .ok (.iconst 0, 1) := by decide +kernel
theorem dX1_amount_94 : decode cX1_amount 94 = .ok (.ireturn, 1) := by decide +kernel
theorem dX1_reckon_0 : decode cX1_reckon 0 = .ok (.iconst (-1), 1) := by decide +kernel
theorem dX1_reckon_1 : decode cX1_reckon 1 = .ok (.istore 4, 2) := by decide +kernel
theorem dX1_reckon_3 : decode cX1_reckon 3 = .ok (.iload_n 1, 1) := by decide +kernel
theorem dX1_reckon_4 : decode cX1_reckon 4 = .ok (.istore 5, 2) := by decide +kernel
theorem dX1_reckon_6 : decode cX1_reckon 6 = .ok (.iconst 0, 1) := by decide +kernel
theorem dX1_reckon_7 : decode cX1_reckon 7 = .ok (.istore 6, 2) := by decide +kernel
theorem dX1_reckon_9 : decode cX1_reckon 9 = .ok (.iload 6, 2) := by decide +kernel
theorem dX1_reckon_11 : decode cX1_reckon 11 = .ok (.sipush 240, 3) := by decide +kernel
theorem dX1_reckon_14 : decode cX1_reckon 14 = .ok (.if_icmp .ge 264, 3) := by decide +kernel
theorem dX1_reckon_17 : decode cX1_reckon 17 = .ok (.iload 5, 2) := by decide +kernel
theorem dX1_reckon_19 : decode cX1_reckon 19 = .ok (.iload_n 2, 1) := by decide +kernel
theorem dX1_reckon_20 : decode cX1_reckon 20 = .ok (.if_icmp .ge 258, 3) := by decide +kernel
theorem dX1_reckon_23 : decode cX1_reckon 23 = .ok (.aload_n 0, 1) := by decide +kernel
theorem dX1_reckon_24 : decode cX1_reckon 24 = .ok (.getfield 24, 3) := by decide +kernel
theorem dX1_reckon_27 : decode cX1_reckon 27 = .ok (.iload 5, 2) := by decide +kernel
theorem dX1_reckon_29 : decode cX1_reckon 29 = .ok (.invokestatic 44, 3) := by decide +kernel
theorem dX1_reckon_32 : decode cX1_reckon 32 = .ok (.istore 7, 2) := by decide +kernel
theorem dX1_reckon_34 : decode cX1_reckon 34 = .ok (.aload_n 0, 1) := by decide +kernel
theorem dX1_reckon_35 : decode cX1_reckon 35 = .ok (.getfield 27, 3) := by decide +kernel
theorem dX1_reckon_38 : decode cX1_reckon 38 = .ok (.iload 5, 2) := by decide +kernel
theorem dX1_reckon_40 : decode cX1_reckon 40 = .ok (.invokestatic 44, 3) := by decide +kernel
theorem dX1_reckon_43 : decode cX1_reckon 43 = .ok (.istore 8, 2) := by decide +kernel
theorem dX1_reckon_45 : decode cX1_reckon 45 = .ok (.iinc 5 1, 3) := by decide +kernel
theorem dX1_reckon_48 : decode cX1_reckon 48 = .ok (.iload 7, 2) := by decide +kernel
theorem dX1_reckon_50 : decode cX1_reckon 50 = .ok (.lookupswitch 162 #[(33, 88), (38, 117), (48, 50), (97, 67), (124, 117)], 50) := by decide +kernel
theorem dX1_reckon_100 : decode cX1_reckon 100 = .ok (.iinc 4 1, 3) := by decide +kernel
theorem dX1_reckon_103 : decode cX1_reckon 103 = .ok (.aload_n 0, 1) := by decide +kernel
theorem dX1_reckon_104 : decode cX1_reckon 104 = .ok (.getfield 30, 3) := by decide +kernel
theorem dX1_reckon_107 : decode cX1_reckon 107 = .ok (.iload 4, 2) := by decide +kernel
theorem dX1_reckon_109 : decode cX1_reckon 109 = .ok (.iload 8, 2) := by decide +kernel
theorem dX1_reckon_111 : decode cX1_reckon 111 = .ok (.invokestatic 40, 3) := by decide +kernel
theorem dX1_reckon_114 : decode cX1_reckon 114 = .ok (.goto 158, 3) := by decide +kernel
theorem dX1_reckon_117 : decode cX1_reckon 117 = .ok (.iinc 4 1, 3) := by decide +kernel
theorem dX1_reckon_120 : decode cX1_reckon 120 = .ok (.aload_n 0, 1) := by decide +kernel
theorem dX1_reckon_121 : decode cX1_reckon 121 = .ok (.getfield 30, 3) := by decide +kernel
theorem dX1_reckon_124 : decode cX1_reckon 124 = .ok (.iload 4, 2) := by decide +kernel
theorem dX1_reckon_126 : decode cX1_reckon 126 = .ok (.aload_n 3, 1) := by decide +kernel
theorem dX1_reckon_127 : decode cX1_reckon 127 = .ok (.iload 8, 2) := by decide +kernel
theorem dX1_reckon_129 : decode cX1_reckon 129 = .ok (.invokestatic 44, 3) := by decide +kernel
theorem dX1_reckon_132 : decode cX1_reckon 132 = .ok (.invokestatic 40, 3) := by decide +kernel
theorem dX1_reckon_135 : decode cX1_reckon 135 = .ok (.goto 137, 3) := by decide +kernel
theorem dX1_reckon_138 : decode cX1_reckon 138 = .ok (.aload_n 0, 1) := by decide +kernel
theorem dX1_reckon_139 : decode cX1_reckon 139 = .ok (.getfield 30, 3) := by decide +kernel
theorem dX1_reckon_142 : decode cX1_reckon 142 = .ok (.iload 4, 2) := by decide +kernel
theorem dX1_reckon_144 : decode cX1_reckon 144 = .ok (.aload_n 0, 1) := by decide +kernel
theorem dX1_reckon_145 : decode cX1_reckon 145 = .ok (.getfield 30, 3) := by decide +kernel
theorem dX1_reckon_148 : decode cX1_reckon 148 = .ok (.iload 4, 2) := by decide +kernel
theorem dX1_reckon_150 : decode cX1_reckon 150 = .ok (.invokestatic 44, 3) := by decide +kernel
theorem dX1_reckon_153 : decode cX1_reckon 153 = .ok (.ifCond .ne 7, 3) := by decide +kernel
theorem dX1_reckon_156 : decode cX1_reckon 156 = .ok (.iconst 1, 1) := by decide +kernel
theorem dX1_reckon_157 : decode cX1_reckon 157 = .ok (.goto 4, 3) := by decide +kernel
theorem dX1_reckon_160 : decode cX1_reckon 160 = .ok (.iconst 0, 1) := by decide +kernel
theorem dX1_reckon_161 : decode cX1_reckon 161 = .ok (.invokestatic 40, 3) := by decide +kernel
theorem dX1_reckon_164 : decode cX1_reckon 164 = .ok (.goto 108, 3) := by decide +kernel
theorem dX1_reckon_167 : decode cX1_reckon 167 = .ok (.aload_n 0, 1) := by decide +kernel
theorem dX1_reckon_168 : decode cX1_reckon 168 = .ok (.getfield 30, 3) := by decide +kernel
theorem dX1_reckon_171 : decode cX1_reckon 171 = .ok (.iload 4, 2) := by decide +kernel
theorem dX1_reckon_173 : decode cX1_reckon 173 = .ok (.invokestatic 44, 3) := by decide +kernel
theorem dX1_reckon_176 : decode cX1_reckon 176 = .ok (.ifCond .eq 7, 3) := by decide +kernel
theorem dX1_reckon_179 : decode cX1_reckon 179 = .ok (.iconst 1, 1) := by decide +kernel
theorem dX1_reckon_180 : decode cX1_reckon 180 = .ok (.goto 4, 3) := by decide +kernel
theorem dX1_reckon_183 : decode cX1_reckon 183 = .ok (.iconst 0, 1) := by decide +kernel
theorem dX1_reckon_184 : decode cX1_reckon 184 = .ok (.iload 7, 2) := by decide +kernel
theorem dX1_reckon_186 : decode cX1_reckon 186 = .ok (.bipush 124, 2) := by decide +kernel
theorem dX1_reckon_188 : decode cX1_reckon 188 = .ok (.if_icmp .ne 7, 3) := by decide +kernel
theorem dX1_reckon_191 : decode cX1_reckon 191 = .ok (.iconst 1, 1) := by decide +kernel
theorem dX1_reckon_192 : decode cX1_reckon 192 = .ok (.goto 4, 3) := by decide +kernel
theorem dX1_reckon_195 : decode cX1_reckon 195 = .ok (.iconst 0, 1) := by decide +kernel
theorem dX1_reckon_196 : decode cX1_reckon 196 = .ok (.if_icmp .ne 10, 3) := by decide +kernel
theorem dX1_reckon_199 : decode cX1_reckon 199 = .ok (.iload 8, 2) := by decide +kernel
theorem dX1_reckon_201 : decode cX1_reckon 201 = .ok (.istore 5, 2) := by decide +kernel
theorem dX1_reckon_203 : decode cX1_reckon 203 = .ok (.goto 69, 3) := by decide +kernel
theorem dX1_reckon_206 : decode cX1_reckon 206 = .ok (.iinc 4 (-1), 3) := by decide +kernel
theorem dX1_reckon_209 : decode cX1_reckon 209 = .ok (.goto 63, 3) := by decide +kernel
theorem dX1_reckon_212 : decode cX1_reckon 212 = .ok (.aload_n 0, 1) := by decide +kernel
theorem dX1_reckon_213 : decode cX1_reckon 213 = .ok (.getfield 30, 3) := by decide +kernel
theorem dX1_reckon_216 : decode cX1_reckon 216 = .ok (.iload 4, 2) := by decide +kernel
theorem dX1_reckon_218 : decode cX1_reckon 218 = .ok (.invokestatic 44, 3) := by decide +kernel
theorem dX1_reckon_221 : decode cX1_reckon 221 = .ok (.istore 9, 2) := by decide +kernel
theorem dX1_reckon_223 : decode cX1_reckon 223 = .ok (.iload 9, 2) := by decide +kernel
theorem dX1_reckon_225 : decode cX1_reckon 225 = .ok (.ifCond .ne 19, 3) := by decide +kernel
theorem dX1_reckon_228 : decode cX1_reckon 228 = .ok (.iload 7, 2) := by decide +kernel
theorem dX1_reckon_230 : decode cX1_reckon 230 = .ok (.bipush 47, 2) := by decide +kernel
theorem dX1_reckon_232 : decode cX1_reckon 232 = .ok (.if_icmp .eq 10, 3) := by decide +kernel
theorem dX1_reckon_235 : decode cX1_reckon 235 = .ok (.iload 7, 2) := by decide +kernel
theorem dX1_reckon_237 : decode cX1_reckon 237 = .ok (.bipush 37, 2) := by decide +kernel
theorem dX1_reckon_239 : decode cX1_reckon 239 = .ok (.if_icmp .ne 5, 3) := by decide +kernel
theorem dX1_reckon_242 : decode cX1_reckon 242 = .ok (.iconst 0, 1) := by decide +kernel
theorem dX1_reckon_243 : decode cX1_reckon 243 = .ok (.ireturn, 1) := by decide +kernel
theorem dX1_reckon_244 : decode cX1_reckon 244 = .ok (.iinc 4 (-1), 3) := by decide +kernel
theorem dX1_reckon_247 : decode cX1_reckon 247 = .ok (.aload_n 0, 1) := by decide +kernel
theorem dX1_reckon_248 : decode cX1_reckon 248 = .ok (.getfield 30, 3) := by decide +kernel
theorem dX1_reckon_251 : decode cX1_reckon 251 = .ok (.iload 4, 2) := by decide +kernel
theorem dX1_reckon_253 : decode cX1_reckon 253 = .ok (.iload 7, 2) := by decide +kernel
theorem dX1_reckon_255 : decode cX1_reckon 255 = .ok (.aload_n 0, 1) := by decide +kernel
theorem dX1_reckon_256 : decode cX1_reckon 256 = .ok (.getfield 30, 3) := by decide +kernel
theorem dX1_reckon_259 : decode cX1_reckon 259 = .ok (.iload 4, 2) := by decide +kernel
theorem dX1_reckon_261 : decode cX1_reckon 261 = .ok (.invokestatic 44, 3) := by decide +kernel
theorem dX1_reckon_264 : decode cX1_reckon 264 = .ok (.iload 9, 2) := by decide +kernel
theorem dX1_reckon_266 : decode cX1_reckon 266 = .ok (.invokestatic 61, 3) := by decide +kernel
theorem dX1_reckon_269 : decode cX1_reckon 269 = .ok (.invokestatic 40, 3) := by decide +kernel
theorem dX1_reckon_272 : decode cX1_reckon 272 = .ok (.iinc 6 1, 3) := by decide +kernel
theorem dX1_reckon_275 : decode cX1_reckon 275 = .ok (.goto (-266), 3) := by decide +kernel
theorem dX1_reckon_278 : decode cX1_reckon 278 = .ok (.aload_n 0, 1) := by decide +kernel
theorem dX1_reckon_279 : decode cX1_reckon 279 = .ok (.getfield 30, 3) := by decide +kernel
theorem dX1_reckon_282 : decode cX1_reckon 282 = .ok (.iconst 0, 1) := by decide +kernel
theorem dX1_reckon_283 : decode cX1_reckon 283 = .ok (.invokestatic 44, 3) := by decide +kernel
theorem dX1_reckon_286 : decode cX1_reckon 286 = .ok (.ireturn, 1) := by decide +kernel
theorem dX1_joined_0 : decode cX1_joined 0 = .ok (.iload_n 0, 1) := by decide +kernel
theorem dX1_joined_1 : decode cX1_joined 1 = .ok (.lookupswitch 125 #[(37, 91), (42, 75), (43, 67), (45, 71), (47, 79), (60, 103), (62, 114)], 67) := by decide +kernel
theorem dX1_joined_68 : decode cX1_joined 68 = .ok (.iload_n 1, 1) := by decide +kernel
theorem dX1_joined_69 : decode cX1_joined 69 = .ok (.iload_n 2, 1) := by decide +kernel
theorem dX1_joined_70 : decode cX1_joined 70 = .ok (.iadd, 1) := by decide +kernel
theorem dX1_joined_71 : decode cX1_joined 71 = .ok (.ireturn, 1) := by decide +kernel
theorem dX1_joined_72 : decode cX1_joined 72 = .ok (.iload_n 1, 1) := by decide +kernel
theorem dX1_joined_73 : decode cX1_joined 73 = .ok (.iload_n 2, 1) := by decide +kernel
theorem dX1_joined_74 : decode cX1_joined 74 = .ok (.isub, 1) := by decide +kernel
theorem dX1_joined_75 : decode cX1_joined 75 = .ok (.ireturn, 1) := by decide +kernel
theorem dX1_joined_76 : decode cX1_joined 76 = .ok (.iload_n 1, 1) := by decide +kernel
theorem dX1_joined_77 : decode cX1_joined 77 = .ok (.iload_n 2, 1) := by decide +kernel
theorem dX1_joined_78 : decode cX1_joined 78 = .ok (.imul, 1) := by decide +kernel
theorem dX1_joined_79 : decode cX1_joined 79 = .ok (.ireturn, 1) := by decide +kernel
theorem dX1_joined_80 : decode cX1_joined 80 = .ok (.iload_n 2, 1) := by decide +kernel
theorem dX1_joined_81 : decode cX1_joined 81 = .ok (.ifCond .ne 7, 3) := by decide +kernel
theorem dX1_joined_84 : decode cX1_joined 84 = .ok (.iconst 0, 1) := by decide +kernel
theorem dX1_joined_85 : decode cX1_joined 85 = .ok (.goto 6, 3) := by decide +kernel
theorem dX1_joined_88 : decode cX1_joined 88 = .ok (.iload_n 1, 1) := by decide +kernel
theorem dX1_joined_89 : decode cX1_joined 89 = .ok (.iload_n 2, 1) := by decide +kernel
theorem dX1_joined_90 : decode cX1_joined 90 = .ok (.idiv, 1) := by decide +kernel
theorem dX1_joined_91 : decode cX1_joined 91 = .ok (.ireturn, 1) := by decide +kernel
theorem dX1_joined_92 : decode cX1_joined 92 = .ok (.iload_n 2, 1) := by decide +kernel
theorem dX1_joined_93 : decode cX1_joined 93 = .ok (.ifCond .ne 7, 3) := by decide +kernel
theorem dX1_joined_96 : decode cX1_joined 96 = .ok (.iconst 0, 1) := by decide +kernel
theorem dX1_joined_97 : decode cX1_joined 97 = .ok (.goto 6, 3) := by decide +kernel
theorem dX1_joined_100 : decode cX1_joined 100 = .ok (.iload_n 1, 1) := by decide +kernel
theorem dX1_joined_101 : decode cX1_joined 101 = .ok (.iload_n 2, 1) := by decide +kernel
theorem dX1_joined_102 : decode cX1_joined 102 = .ok (.irem, 1) := by decide +kernel
theorem dX1_joined_103 : decode cX1_joined 103 = .ok (.ireturn, 1) := by decide +kernel
theorem dX1_joined_104 : decode cX1_joined 104 = .ok (.iload_n 1, 1) := by decide +kernel
theorem dX1_joined_105 : decode cX1_joined 105 = .ok (.iload_n 2, 1) := by decide +kernel
theorem dX1_joined_106 : decode cX1_joined 106 = .ok (.if_icmp .ge 7, 3) := by decide +kernel
theorem dX1_joined_109 : decode cX1_joined 109 = .ok (.iconst 1, 1) := by decide +kernel
theorem dX1_joined_110 : decode cX1_joined 110 = .ok (.goto 4, 3) := by decide +kernel
theorem dX1_joined_113 : decode cX1_joined 113 = .ok (.iconst 0, 1) := by decide +kernel
theorem dX1_joined_114 : decode cX1_joined 114 = .ok (.ireturn, 1) := by decide +kernel
theorem dX1_joined_115 : decode cX1_joined 115 = .ok (.iload_n 1, 1) := by decide +kernel
theorem dX1_joined_116 : decode cX1_joined 116 = .ok (.iload_n 2, 1) := by decide +kernel
theorem dX1_joined_117 : decode cX1_joined 117 = .ok (.if_icmp .le 7, 3) := by decide +kernel
theorem dX1_joined_120 : decode cX1_joined 120 = .ok (.iconst 1, 1) := by decide +kernel
theorem dX1_joined_121 : decode cX1_joined 121 = .ok (.goto 4, 3) := by decide +kernel
theorem dX1_joined_124 : decode cX1_joined 124 = .ok (.iconst 0, 1) := by decide +kernel
theorem dX1_joined_125 : decode cX1_joined 125 = .ok (.ireturn, 1) := by decide +kernel
theorem dX1_joined_126 : decode cX1_joined 126 = .ok (.iload_n 1, 1) := by decide +kernel
theorem dX1_joined_127 : decode cX1_joined 127 = .ok (.iload_n 2, 1) := by decide +kernel
theorem dX1_joined_128 : decode cX1_joined 128 = .ok (.if_icmp .ne 7, 3) := by decide +kernel
theorem dX1_joined_131 : decode cX1_joined 131 = .ok (.iconst 1, 1) := by decide +kernel
theorem dX1_joined_132 : decode cX1_joined 132 = .ok (.goto 4, 3) := by decide +kernel
theorem dX1_joined_135 : decode cX1_joined 135 = .ok (.iconst 0, 1) := by decide +kernel
theorem dX1_joined_136 : decode cX1_joined 136 = .ok (.ireturn, 1) := by decide +kernel
theorem dX2_init_0 : decode cX2_init 0 = .ok (.aload_n 0, 1) := by decide +kernel
theorem dX2_init_1 : decode cX2_init 1 = .ok (.invokespecial 3, 3) := by decide +kernel
theorem dX2_init_4 : decode cX2_init 4 = .ok (.aload_n 0, 1) := by decide +kernel
theorem dX2_init_5 : decode cX2_init 5 = .ok (.new 9, 3) := by decide +kernel
theorem dX2_init_8 : decode cX2_init 8 = .ok (.dup, 1) := by decide +kernel
theorem dX2_init_9 : decode cX2_init 9 = .ok (.invokespecial 11, 3) := by decide +kernel
theorem dX2_init_12 : decode cX2_init 12 = .ok (.putfield 12, 3) := by decide +kernel
theorem dX2_init_15 : decode cX2_init 15 = .ok (.return_, 1) := by decide +kernel
theorem dX2_readAll_0 : decode cX2_readAll 0 = .ok (.aload_n 0, 1) := by decide +kernel
theorem dX2_readAll_1 : decode cX2_readAll 1 = .ok (.getfield 12, 3) := by decide +kernel
theorem dX2_readAll_4 : decode cX2_readAll 4 = .ok (.invokevirtual 18, 3) := by decide +kernel
theorem dX2_readAll_7 : decode cX2_readAll 7 = .ok (.aload_n 0, 1) := by decide +kernel
theorem dX2_readAll_8 : decode cX2_readAll 8 = .ok (.aload_n 1, 1) := by decide +kernel
theorem dX2_readAll_9 : decode cX2_readAll 9 = .ok (.invokevirtual 21, 3) := by decide +kernel
theorem dX2_readAll_12 : decode cX2_readAll 12 = .ok (.iconst 0, 1) := by decide +kernel
theorem dX2_readAll_13 : decode cX2_readAll 13 = .ok (.istore_n 2, 1) := by decide +kernel
theorem dX2_readAll_14 : decode cX2_readAll 14 = .ok (.iload_n 2, 1) := by decide +kernel
theorem dX2_readAll_15 : decode cX2_readAll 15 = .ok (.sipush 240, 3) := by decide +kernel
theorem dX2_readAll_18 : decode cX2_readAll 18 = .ok (.if_icmp .ge 23, 3) := by decide +kernel
theorem dX2_readAll_21 : decode cX2_readAll 21 = .ok (.aload_n 1, 1) := by decide +kernel
theorem dX2_readAll_22 : decode cX2_readAll 22 = .ok (.bipush 59, 2) := by decide +kernel
theorem dX2_readAll_24 : decode cX2_readAll 24 = .ok (.invokevirtual 25, 3) := by decide +kernel
theorem dX2_readAll_27 : decode cX2_readAll 27 = .ok (.ifCond .eq 14, 3) := by decide +kernel
theorem dX2_readAll_30 : decode cX2_readAll 30 = .ok (.aload_n 0, 1) := by decide +kernel
theorem dX2_readAll_31 : decode cX2_readAll 31 = .ok (.aload_n 1, 1) := by decide +kernel
theorem dX2_readAll_32 : decode cX2_readAll 32 = .ok (.invokevirtual 21, 3) := by decide +kernel
theorem dX2_readAll_35 : decode cX2_readAll 35 = .ok (.iinc 2 1, 3) := by decide +kernel
theorem dX2_readAll_38 : decode cX2_readAll 38 = .ok (.goto (-24), 3) := by decide +kernel
theorem dX2_readAll_41 : decode cX2_readAll 41 = .ok (.aload_n 1, 1) := by decide +kernel
theorem dX2_readAll_42 : decode cX2_readAll 42 = .ok (.invokevirtual 31, 3) := by decide +kernel
theorem dX2_readAll_45 : decode cX2_readAll 45 = .ok (.return_, 1) := by decide +kernel
theorem dX2_exchange_0 : decode cX2_exchange 0 = .ok (.aload_n 0, 1) := by decide +kernel
theorem dX2_exchange_1 : decode cX2_exchange 1 = .ok (.getfield 12, 3) := by decide +kernel
theorem dX2_exchange_4 : decode cX2_exchange 4 = .ok (.astore_n 2, 1) := by decide +kernel
theorem dX2_exchange_5 : decode cX2_exchange 5 = .ok (.aload_n 0, 1) := by decide +kernel
theorem dX2_exchange_6 : decode cX2_exchange 6 = .ok (.aload_n 1, 1) := by decide +kernel
theorem dX2_exchange_7 : decode cX2_exchange 7 = .ok (.putfield 12, 3) := by decide +kernel
theorem dX2_exchange_10 : decode cX2_exchange 10 = .ok (.aload_n 2, 1) := by decide +kernel
theorem dX2_exchange_11 : decode cX2_exchange 11 = .ok (.areturn, 1) := by decide +kernel
theorem dX2_readRule_0 : decode cX2_readRule 0 = .ok (.aload_n 1, 1) := by decide +kernel
theorem dX2_readRule_1 : decode cX2_readRule 1 = .ok (.invokevirtual 34, 3) := by decide +kernel
theorem dX2_readRule_4 : decode cX2_readRule 4 = .ok (.istore_n 2, 1) := by decide +kernel
theorem dX2_readRule_5 : decode cX2_readRule 5 = .ok (.iload_n 2, 1) := by decide +kernel
theorem dX2_readRule_6 : decode cX2_readRule 6 = .ok (.bipush 119, 2) := by decide +kernel
theorem dX2_readRule_8 : decode cX2_readRule 8 = .ok (.if_icmp .eq 37, 3) := by decide +kernel
theorem dX2_readRule_11 : decode cX2_readRule 11 = .ok (.iload_n 2, 1) := by decide +kernel
theorem dX2_readRule_12 : decode cX2_readRule 12 = .ok (.bipush 99, 2) := by decide +kernel
theorem dX2_readRule_14 : decode cX2_readRule 14 = .ok (.if_icmp .eq 31, 3) := by decide +kernel
theorem dX2_readRule_17 : decode cX2_readRule 17 = .ok (.iload_n 2, 1) := by decide +kernel
theorem dX2_readRule_18 : decode cX2_readRule 18 = .ok (.bipush 105, 2) := by decide +kernel
theorem dX2_readRule_20 : decode cX2_readRule 20 = .ok (.if_icmp .eq 25, 3) := by decide +kernel
theorem dX2_readRule_23 : decode cX2_readRule 23 = .ok (.iload_n 2, 1) := by decide +kernel
theorem dX2_readRule_24 : decode cX2_readRule 24 = .ok (.bipush 110, 2) := by decide +kernel
theorem dX2_readRule_26 : decode cX2_readRule 26 = .ok (.if_icmp .eq 19, 3) := by decide +kernel
theorem dX2_readRule_29 : decode cX2_readRule 29 = .ok (.iload_n 2, 1) := by decide +kernel
theorem dX2_readRule_30 : decode cX2_readRule 30 = .ok (.bipush 120, 2) := by decide +kernel
theorem dX2_readRule_32 : decode cX2_readRule 32 = .ok (.if_icmp .eq 13, 3) := by decide +kernel
theorem dX2_readRule_35 : decode cX2_readRule 35 = .ok (.aload_n 1, 1) := by decide +kernel
theorem dX2_readRule_36 : decode cX2_readRule 36 = .ok (.iconst 1, 1) := by decide +kernel
theorem dX2_readRule_37 : decode cX2_readRule 37 = .ok (.aload_n 1, 1) := by decide +kernel
theorem dX2_readRule_38 : decode cX2_readRule 38 = .ok (.getfield 38, 3) := by decide +kernel
theorem dX2_readRule_41 : decode cX2_readRule 41 = .ok (.invokevirtual 42, 3) := by decide +kernel
theorem dX2_readRule_44 : decode cX2_readRule 44 = .ok (.return_, 1) := by decide +kernel
theorem dX2_readRule_45 : decode cX2_readRule 45 = .ok (.aload_n 0, 1) := by decide +kernel
theorem dX2_readRule_46 : decode cX2_readRule 46 = .ok (.getfield 12, 3) := by decide +kernel
theorem dX2_readRule_49 : decode cX2_readRule 49 = .ok (.getfield 46, 3) := by decide +kernel
theorem dX2_readRule_52 : decode cX2_readRule 52 = .ok (.bipush 16, 2) := by decide +kernel
theorem dX2_readRule_54 : decode cX2_readRule 54 = .ok (.if_icmp .lt 13, 3) := by decide +kernel
theorem dX2_readRule_57 : decode cX2_readRule 57 = .ok (.aload_n 1, 1) := by decide +kernel
theorem dX2_readRule_58 : decode cX2_readRule 58 = .ok (.iconst 4, 1) := by decide +kernel
theorem dX2_readRule_59 : decode cX2_readRule 59 = .ok (.aload_n 1, 1) := by decide +kernel
theorem dX2_readRule_60 : decode cX2_readRule 60 = .ok (.getfield 38, 3) := by decide +kernel
theorem dX2_readRule_63 : decode cX2_readRule 63 = .ok (.invokevirtual 42, 3) := by decide +kernel
theorem dX2_readRule_66 : decode cX2_readRule 66 = .ok (.return_, 1) := by decide +kernel
theorem dX2_readRule_67 : decode cX2_readRule 67 = .ok (.aload_n 1, 1) := by decide +kernel
theorem dX2_readRule_68 : decode cX2_readRule 68 = .ok (.dup, 1) := by decide +kernel
theorem dX2_readRule_69 : decode cX2_readRule 69 = .ok (.getfield 38, 3) := by decide +kernel
theorem dX2_readRule_72 : decode cX2_readRule 72 = .ok (.iconst 1, 1) := by decide +kernel
theorem dX2_readRule_73 : decode cX2_readRule 73 = .ok (.iadd, 1) := by decide +kernel
theorem dX2_readRule_74 : decode cX2_readRule 74 = .ok (.putfield 38, 3) := by decide +kernel
theorem dX2_readRule_77 : decode cX2_readRule 77 = .ok (.aload_n 0, 1) := by decide +kernel
theorem dX2_readRule_78 : decode cX2_readRule 78 = .ok (.getfield 12, 3) := by decide +kernel
theorem dX2_readRule_81 : decode cX2_readRule 81 = .ok (.iload_n 2, 1) := by decide +kernel
theorem dX2_readRule_82 : decode cX2_readRule 82 = .ok (.invokevirtual 49, 3) := by decide +kernel
theorem dX2_readRule_85 : decode cX2_readRule 85 = .ok (.iload_n 2, 1) := by decide +kernel
theorem dX2_readRule_86 : decode cX2_readRule 86 = .ok (.bipush 120, 2) := by decide +kernel
theorem dX2_readRule_88 : decode cX2_readRule 88 = .ok (.if_icmp .eq 9, 3) := by decide +kernel
theorem dX2_readRule_91 : decode cX2_readRule 91 = .ok (.aload_n 0, 1) := by decide +kernel
theorem dX2_readRule_92 : decode cX2_readRule 92 = .ok (.aload_n 1, 1) := by decide +kernel
theorem dX2_readRule_93 : decode cX2_readRule 93 = .ok (.iconst 0, 1) := by decide +kernel
theorem dX2_readRule_94 : decode cX2_readRule 94 = .ok (.invokevirtual 53, 3) := by decide +kernel
theorem dX2_readRule_97 : decode cX2_readRule 97 = .ok (.aload_n 0, 1) := by decide +kernel
theorem dX2_readRule_98 : decode cX2_readRule 98 = .ok (.getfield 12, 3) := by decide +kernel
theorem dX2_readRule_101 : decode cX2_readRule 101 = .ok (.invokevirtual 57, 3) := by decide +kernel
theorem dX2_readRule_104 : decode cX2_readRule 104 = .ok (.aload_n 1, 1) := by decide +kernel
theorem dX2_readRule_105 : decode cX2_readRule 105 = .ok (.bipush 40, 2) := by decide +kernel
theorem dX2_readRule_107 : decode cX2_readRule 107 = .ok (.invokevirtual 60, 3) := by decide +kernel
theorem dX2_readRule_110 : decode cX2_readRule 110 = .ok (.aload_n 0, 1) := by decide +kernel
theorem dX2_readRule_111 : decode cX2_readRule 111 = .ok (.aload_n 1, 1) := by decide +kernel
theorem dX2_readRule_112 : decode cX2_readRule 112 = .ok (.iconst 1, 1) := by decide +kernel
theorem dX2_readRule_113 : decode cX2_readRule 113 = .ok (.invokevirtual 63, 3) := by decide +kernel
theorem dX2_readRule_116 : decode cX2_readRule 116 = .ok (.aload_n 1, 1) := by decide +kernel
theorem dX2_readRule_117 : decode cX2_readRule 117 = .ok (.bipush 41, 2) := by decide +kernel
theorem dX2_readRule_119 : decode cX2_readRule 119 = .ok (.invokevirtual 60, 3) := by decide +kernel
theorem dX2_readRule_122 : decode cX2_readRule 122 = .ok (.aload_n 0, 1) := by decide +kernel
theorem dX2_readRule_123 : decode cX2_readRule 123 = .ok (.getfield 12, 3) := by decide +kernel
theorem dX2_readRule_126 : decode cX2_readRule 126 = .ok (.invokevirtual 66, 3) := by decide +kernel
theorem dX2_readRule_129 : decode cX2_readRule 129 = .ok (.return_, 1) := by decide +kernel
theorem dX2_readParts_0 : decode cX2_readParts 0 = .ok (.aload_n 0, 1) := by decide +kernel
theorem dX2_readParts_1 : decode cX2_readParts 1 = .ok (.aload_n 1, 1) := by decide +kernel
theorem dX2_readParts_2 : decode cX2_readParts 2 = .ok (.iload_n 2, 1) := by decide +kernel
theorem dX2_readParts_3 : decode cX2_readParts 3 = .ok (.invokevirtual 69, 3) := by decide +kernel
theorem dX2_readParts_6 : decode cX2_readParts 6 = .ok (.iconst 0, 1) := by decide +kernel
theorem dX2_readParts_7 : decode cX2_readParts 7 = .ok (.istore_n 3, 1) := by decide +kernel
theorem dX2_readParts_8 : decode cX2_readParts 8 = .ok (.iload_n 3, 1) := by decide +kernel
theorem dX2_readParts_9 : decode cX2_readParts 9 = .ok (.sipush 240, 3) := by decide +kernel
theorem dX2_readParts_12 : decode cX2_readParts 12 = .ok (.if_icmp .ge 45, 3) := by decide +kernel
theorem dX2_readParts_15 : decode cX2_readParts 15 = .ok (.aload_n 1, 1) := by decide +kernel
theorem dX2_readParts_16 : decode cX2_readParts 16 = .ok (.bipush 124, 2) := by decide +kernel
theorem dX2_readParts_18 : decode cX2_readParts 18 = .ok (.invokevirtual 25, 3) := by decide +kernel
theorem dX2_readParts_21 : decode cX2_readParts 21 = .ok (.ifCond .eq 36, 3) := by decide +kernel
theorem dX2_readParts_24 : decode cX2_readParts 24 = .ok (.aload_n 0, 1) := by decide +kernel
theorem dX2_readParts_25 : decode cX2_readParts 25 = .ok (.getfield 12, 3) := by decide +kernel
theorem dX2_readParts_28 : decode cX2_readParts 28 = .ok (.bipush 124, 2) := by decide +kernel
theorem dX2_readParts_30 : decode cX2_readParts 30 = .ok (.iconst 0, 1) := by decide +kernel
theorem dX2_readParts_31 : decode cX2_readParts 31 = .ok (.invokevirtual 72, 3) := by decide +kernel
theorem dX2_readParts_34 : decode cX2_readParts 34 = .ok (.istore 4, 2) := by decide +kernel
theorem dX2_readParts_36 : decode cX2_readParts 36 = .ok (.aload_n 0, 1) := by decide +kernel
theorem dX2_readParts_37 : decode cX2_readParts 37 = .ok (.aload_n 1, 1) := by decide +kernel
theorem dX2_readParts_38 : decode cX2_readParts 38 = .ok (.iload_n 2, 1) := by decide +kernel
theorem dX2_readParts_39 : decode cX2_readParts 39 = .ok (.invokevirtual 69, 3) := by decide +kernel
theorem dX2_readParts_42 : decode cX2_readParts 42 = .ok (.aload_n 0, 1) := by decide +kernel
theorem dX2_readParts_43 : decode cX2_readParts 43 = .ok (.getfield 12, 3) := by decide +kernel
theorem dX2_readParts_46 : decode cX2_readParts 46 = .ok (.iload 4, 2) := by decide +kernel
theorem dX2_readParts_48 : decode cX2_readParts 48 = .ok (.invokevirtual 76, 3) := by decide +kernel
theorem dX2_readParts_51 : decode cX2_readParts 51 = .ok (.iinc 3 1, 3) := by decide +kernel
theorem dX2_readParts_54 : decode cX2_readParts 54 = .ok (.goto (-46), 3) := by decide +kernel
theorem dX2_readParts_57 : decode cX2_readParts 57 = .ok (.return_, 1) := by decide +kernel
theorem dX2_readPart_0 : decode cX2_readPart 0 = .ok (.aload_n 0, 1) := by decide +kernel
theorem dX2_readPart_1 : decode cX2_readPart 1 = .ok (.aload_n 1, 1) := by decide +kernel
theorem dX2_readPart_2 : decode cX2_readPart 2 = .ok (.iload_n 2, 1) := by decide +kernel
theorem dX2_readPart_3 : decode cX2_readPart 3 = .ok (.invokevirtual 79, 3) := by decide +kernel
theorem dX2_readPart_6 : decode cX2_readPart 6 = .ok (.iconst 0, 1) := by decide +kernel
theorem dX2_readPart_7 : decode cX2_readPart 7 = .ok (.istore_n 3, 1) := by decide +kernel
theorem dX2_readPart_8 : decode cX2_readPart 8 = .ok (.iload_n 3, 1) := by decide +kernel
theorem dX2_readPart_9 : decode cX2_readPart 9 = .ok (.sipush 240, 3) := by decide +kernel
theorem dX2_readPart_12 : decode cX2_readPart 12 = .ok (.if_icmp .ge 45, 3) := by decide +kernel
theorem dX2_readPart_15 : decode cX2_readPart 15 = .ok (.aload_n 1, 1) := by decide +kernel
theorem dX2_readPart_16 : decode cX2_readPart 16 = .ok (.bipush 38, 2) := by decide +kernel
theorem dX2_readPart_18 : decode cX2_readPart 18 = .ok (.invokevirtual 25, 3) := by decide +kernel
theorem dX2_readPart_21 : decode cX2_readPart 21 = .ok (.ifCond .eq 36, 3) := by decide +kernel
theorem dX2_readPart_24 : decode cX2_readPart 24 = .ok (.aload_n 0, 1) := by decide +kernel
theorem dX2_readPart_25 : decode cX2_readPart 25 = .ok (.getfield 12, 3) := by decide +kernel
theorem dX2_readPart_28 : decode cX2_readPart 28 = .ok (.bipush 38, 2) := by decide +kernel
theorem dX2_readPart_30 : decode cX2_readPart 30 = .ok (.iconst 0, 1) := by decide +kernel
theorem dX2_readPart_31 : decode cX2_readPart 31 = .ok (.invokevirtual 72, 3) := by decide +kernel
theorem dX2_readPart_34 : decode cX2_readPart 34 = .ok (.istore 4, 2) := by decide +kernel
theorem dX2_readPart_36 : decode cX2_readPart 36 = .ok (.aload_n 0, 1) := by decide +kernel
theorem dX2_readPart_37 : decode cX2_readPart 37 = .ok (.aload_n 1, 1) := by decide +kernel
theorem dX2_readPart_38 : decode cX2_readPart 38 = .ok (.iload_n 2, 1) := by decide +kernel
theorem dX2_readPart_39 : decode cX2_readPart 39 = .ok (.invokevirtual 79, 3) := by decide +kernel
theorem dX2_readPart_42 : decode cX2_readPart 42 = .ok (.aload_n 0, 1) := by decide +kernel
theorem dX2_readPart_43 : decode cX2_readPart 43 = .ok (.getfield 12, 3) := by decide +kernel
theorem dX2_readPart_46 : decode cX2_readPart 46 = .ok (.iload 4, 2) := by decide +kernel
theorem dX2_readPart_48 : decode cX2_readPart 48 = .ok (.invokevirtual 76, 3) := by decide +kernel
theorem dX2_readPart_51 : decode cX2_readPart 51 = .ok (.iinc 3 1, 3) := by decide +kernel
theorem dX2_readPart_54 : decode cX2_readPart 54 = .ok (.goto (-46), 3) := by decide +kernel
theorem dX2_readPart_57 : decode cX2_readPart 57 = .ok (.return_, 1) := by decide +kernel
theorem dX2_readTest_0 : decode cX2_readTest 0 = .ok (.aload_n 1, 1) := by decide +kernel
theorem dX2_readTest_1 : decode cX2_readTest 1 = .ok (.invokevirtual 34, 3) := by decide +kernel
theorem dX2_readTest_4 : decode cX2_readTest 4 = .ok (.bipush 33, 2) := by decide +kernel
theorem dX2_readTest_6 : decode cX2_readTest 6 = .ok (.if_icmp .ne 33, 3) := by decide +kernel
theorem dX2_readTest_9 : decode cX2_readTest 9 = .ok (.aload_n 1, 1) := by decide +kernel
theorem dX2_readTest_10 : decode cX2_readTest 10 = .ok (.iload_n 2, 1) := by decide +kernel
theorem dX2_readTest_11 : decode cX2_readTest 11 = .ok (.invokestatic 82, 3) := by decide +kernel
theorem dX2_readTest_14 : decode cX2_readTest 14 = .ok (.ifCond .eq 108, 3) := by decide +kernel
theorem dX2_readTest_17 : decode cX2_readTest 17 = .ok (.aload_n 0, 1) := by decide +kernel
theorem dX2_readTest_18 : decode cX2_readTest 18 = .ok (.aload_n 1, 1) := by decide +kernel
theorem dX2_readTest_19 : decode cX2_readTest 19 = .ok (.iload_n 2, 1) := by decide +kernel
theorem dX2_readTest_20 : decode cX2_readTest 20 = .ok (.iconst 1, 1) := by decide +kernel
theorem dX2_readTest_21 : decode cX2_readTest 21 = .ok (.iadd, 1) := by decide +kernel
theorem dX2_readTest_22 : decode cX2_readTest 22 = .ok (.invokevirtual 79, 3) := by decide +kernel
theorem dX2_readTest_25 : decode cX2_readTest 25 = .ok (.aload_n 0, 1) := by decide +kernel
theorem dX2_readTest_26 : decode cX2_readTest 26 = .ok (.getfield 12, 3) := by decide +kernel
theorem dX2_readTest_29 : decode cX2_readTest 29 = .ok (.bipush 33, 2) := by decide +kernel
theorem dX2_readTest_31 : decode cX2_readTest 31 = .ok (.iconst 0, 1) := by decide +kernel
theorem dX2_readTest_32 : decode cX2_readTest 32 = .ok (.invokevirtual 72, 3) := by decide +kernel
theorem dX2_readTest_35 : decode cX2_readTest 35 = .ok (.pop, 1) := by decide +kernel
theorem dX2_readTest_36 : decode cX2_readTest 36 = .ok (.goto 86, 3) := by decide +kernel
theorem dX2_readTest_39 : decode cX2_readTest 39 = .ok (.aload_n 1, 1) := by decide +kernel
theorem dX2_readTest_40 : decode cX2_readTest 40 = .ok (.invokevirtual 34, 3) := by decide +kernel
theorem dX2_readTest_43 : decode cX2_readTest 43 = .ok (.bipush 40, 2) := by decide +kernel
theorem dX2_readTest_45 : decode cX2_readTest 45 = .ok (.if_icmp .ne 28, 3) := by decide +kernel
theorem dX2_readTest_48 : decode cX2_readTest 48 = .ok (.aload_n 1, 1) := by decide +kernel
theorem dX2_readTest_49 : decode cX2_readTest 49 = .ok (.iload_n 2, 1) := by decide +kernel
theorem dX2_readTest_50 : decode cX2_readTest 50 = .ok (.invokestatic 82, 3) := by decide +kernel
theorem dX2_readTest_53 : decode cX2_readTest 53 = .ok (.ifCond .eq 69, 3) := by decide +kernel
theorem dX2_readTest_56 : decode cX2_readTest 56 = .ok (.aload_n 0, 1) := by decide +kernel
theorem dX2_readTest_57 : decode cX2_readTest 57 = .ok (.aload_n 1, 1) := by decide +kernel
theorem dX2_readTest_58 : decode cX2_readTest 58 = .ok (.iload_n 2, 1) := by decide +kernel
theorem dX2_readTest_59 : decode cX2_readTest 59 = .ok (.iconst 1, 1) := by decide +kernel
theorem dX2_readTest_60 : decode cX2_readTest 60 = .ok (.iadd, 1) := by decide +kernel
theorem dX2_readTest_61 : decode cX2_readTest 61 = .ok (.invokevirtual 63, 3) := by decide +kernel
theorem dX2_readTest_64 : decode cX2_readTest 64 = .ok (.aload_n 1, 1) := by decide +kernel
theorem dX2_readTest_65 : decode cX2_readTest 65 = .ok (.bipush 41, 2) := by decide +kernel
theorem dX2_readTest_67 : decode cX2_readTest 67 = .ok (.invokevirtual 60, 3) := by decide +kernel
theorem dX2_readTest_70 : decode cX2_readTest 70 = .ok (.goto 52, 3) := by decide +kernel
theorem dX2_readTest_73 : decode cX2_readTest 73 = .ok (.aload_n 0, 1) := by decide +kernel
theorem dX2_readTest_74 : decode cX2_readTest 74 = .ok (.aload_n 1, 1) := by decide +kernel
theorem dX2_readTest_75 : decode cX2_readTest 75 = .ok (.iload_n 2, 1) := by decide +kernel
theorem dX2_readTest_76 : decode cX2_readTest 76 = .ok (.invokevirtual 53, 3) := by decide +kernel
theorem dX2_readTest_79 : decode cX2_readTest 79 = .ok (.aload_n 1, 1) := by decide +kernel
theorem dX2_readTest_80 : decode cX2_readTest 80 = .ok (.bipush 60, 2) := by decide +kernel
theorem dX2_readTest_82 : decode cX2_readTest 82 = .ok (.bipush 62, 2) := by decide +kernel
theorem dX2_readTest_84 : decode cX2_readTest 84 = .ok (.bipush 61, 2) := by decide +kernel
theorem dX2_readTest_86 : decode cX2_readTest 86 = .ok (.invokevirtual 86, 3) := by decide +kernel
theorem dX2_readTest_89 : decode cX2_readTest 89 = .ok (.istore_n 3, 1) := by decide +kernel
theorem dX2_readTest_90 : decode cX2_readTest 90 = .ok (.iload_n 3, 1) := by decide +kernel
theorem dX2_readTest_91 : decode cX2_readTest 91 = .ok (.ifCond .ne 15, 3) := by decide +kernel
theorem dX2_readTest_94 : decode cX2_readTest 94 = .ok (.aload_n 1, 1) := by decide +kernel
theorem dX2_readTest_95 : decode cX2_readTest 95 = .ok (.iconst 1, 1) := by decide +kernel
theorem dX2_readTest_96 : decode cX2_readTest 96 = .ok (.aload_n 1, 1) := by decide +kernel
theorem dX2_readTest_97 : decode cX2_readTest 97 = .ok (.getfield 38, 3) := by decide +kernel
theorem dX2_readTest_100 : decode cX2_readTest 100 = .ok (.invokevirtual 42, 3) := by decide +kernel
theorem dX2_readTest_103 : decode cX2_readTest 103 = .ok (.goto 19, 3) := by decide +kernel
theorem dX2_readTest_106 : decode cX2_readTest 106 = .ok (.aload_n 0, 1) := by decide +kernel
theorem dX2_readTest_107 : decode cX2_readTest 107 = .ok (.aload_n 1, 1) := by decide +kernel
theorem dX2_readTest_108 : decode cX2_readTest 108 = .ok (.iload_n 2, 1) := by decide +kernel
theorem dX2_readTest_109 : decode cX2_readTest 109 = .ok (.invokevirtual 53, 3) := by decide +kernel
theorem dX2_readTest_112 : decode cX2_readTest 112 = .ok (.aload_n 0, 1) := by decide +kernel
theorem dX2_readTest_113 : decode cX2_readTest 113 = .ok (.getfield 12, 3) := by decide +kernel
theorem dX2_readTest_116 : decode cX2_readTest 116 = .ok (.iload_n 3, 1) := by decide +kernel
theorem dX2_readTest_117 : decode cX2_readTest 117 = .ok (.iconst 0, 1) := by decide +kernel
theorem dX2_readTest_118 : decode cX2_readTest 118 = .ok (.invokevirtual 72, 3) := by decide +kernel
theorem dX2_readTest_121 : decode cX2_readTest 121 = .ok (.pop, 1) := by decide +kernel
theorem dX2_readTest_122 : decode cX2_readTest 122 = .ok (.return_, 1) := by decide +kernel
theorem dX2_readSum_0 : decode cX2_readSum 0 = .ok (.aload_n 0, 1) := by decide +kernel
theorem dX2_readSum_1 : decode cX2_readSum 1 = .ok (.aload_n 1, 1) := by decide +kernel
theorem dX2_readSum_2 : decode cX2_readSum 2 = .ok (.iload_n 2, 1) := by decide +kernel
theorem dX2_readSum_3 : decode cX2_readSum 3 = .ok (.invokevirtual 90, 3) := by decide +kernel
theorem dX2_readSum_6 : decode cX2_readSum 6 = .ok (.aload_n 1, 1) := by decide +kernel
theorem dX2_readSum_7 : decode cX2_readSum 7 = .ok (.bipush 43, 2) := by decide +kernel
theorem dX2_readSum_9 : decode cX2_readSum 9 = .ok (.bipush 45, 2) := by decide +kernel
theorem dX2_readSum_11 : decode cX2_readSum 11 = .ok (.bipush 45, 2) := by decide +kernel
theorem dX2_readSum_13 : decode cX2_readSum 13 = .ok (.invokevirtual 86, 3) := by decide +kernel
theorem dX2_readSum_16 : decode cX2_readSum 16 = .ok (.istore_n 3, 1) := by decide +kernel
theorem dX2_readSum_17 : decode cX2_readSum 17 = .ok (.iconst 0, 1) := by decide +kernel
theorem dX2_readSum_18 : decode cX2_readSum 18 = .ok (.istore 4, 2) := by decide +kernel
theorem dX2_readSum_20 : decode cX2_readSum 20 = .ok (.iload 4, 2) := by decide +kernel
theorem dX2_readSum_22 : decode cX2_readSum 22 = .ok (.sipush 240, 3) := by decide +kernel
theorem dX2_readSum_25 : decode cX2_readSum 25 = .ok (.if_icmp .ge 40, 3) := by decide +kernel
theorem dX2_readSum_28 : decode cX2_readSum 28 = .ok (.iload_n 3, 1) := by decide +kernel
theorem dX2_readSum_29 : decode cX2_readSum 29 = .ok (.ifCond .eq 36, 3) := by decide +kernel
theorem dX2_readSum_32 : decode cX2_readSum 32 = .ok (.aload_n 0, 1) := by decide +kernel
theorem dX2_readSum_33 : decode cX2_readSum 33 = .ok (.aload_n 1, 1) := by decide +kernel
theorem dX2_readSum_34 : decode cX2_readSum 34 = .ok (.iload_n 2, 1) := by decide +kernel
theorem dX2_readSum_35 : decode cX2_readSum 35 = .ok (.invokevirtual 90, 3) := by decide +kernel
theorem dX2_readSum_38 : decode cX2_readSum 38 = .ok (.aload_n 0, 1) := by decide +kernel
theorem dX2_readSum_39 : decode cX2_readSum 39 = .ok (.getfield 12, 3) := by decide +kernel
theorem dX2_readSum_42 : decode cX2_readSum 42 = .ok (.iload_n 3, 1) := by decide +kernel
theorem dX2_readSum_43 : decode cX2_readSum 43 = .ok (.iconst 0, 1) := by decide +kernel
theorem dX2_readSum_44 : decode cX2_readSum 44 = .ok (.invokevirtual 72, 3) := by decide +kernel
theorem dX2_readSum_47 : decode cX2_readSum 47 = .ok (.pop, 1) := by decide +kernel
theorem dX2_readSum_48 : decode cX2_readSum 48 = .ok (.aload_n 1, 1) := by decide +kernel
theorem dX2_readSum_49 : decode cX2_readSum 49 = .ok (.bipush 43, 2) := by decide +kernel
theorem dX2_readSum_51 : decode cX2_readSum 51 = .ok (.bipush 45, 2) := by decide +kernel
theorem dX2_readSum_53 : decode cX2_readSum 53 = .ok (.bipush 45, 2) := by decide +kernel
theorem dX2_readSum_55 : decode cX2_readSum 55 = .ok (.invokevirtual 86, 3) := by decide +kernel
theorem dX2_readSum_58 : decode cX2_readSum 58 = .ok (.istore_n 3, 1) := by decide +kernel
theorem dX2_readSum_59 : decode cX2_readSum 59 = .ok (.iinc 4 1, 3) := by decide +kernel
theorem dX2_readSum_62 : decode cX2_readSum 62 = .ok (.goto (-42), 3) := by decide +kernel
theorem dX2_readSum_65 : decode cX2_readSum 65 = .ok (.return_, 1) := by decide +kernel
theorem dX2_readProduct_0 : decode cX2_readProduct 0 = .ok (.aload_n 0, 1) := by decide +kernel
theorem dX2_readProduct_1 : decode cX2_readProduct 1 = .ok (.aload_n 1, 1) := by decide +kernel
theorem dX2_readProduct_2 : decode cX2_readProduct 2 = .ok (.iload_n 2, 1) := by decide +kernel
theorem dX2_readProduct_3 : decode cX2_readProduct 3 = .ok (.invokevirtual 93, 3) := by decide +kernel
theorem dX2_readProduct_6 : decode cX2_readProduct 6 = .ok (.aload_n 1, 1) := by decide +kernel
theorem dX2_readProduct_7 : decode cX2_readProduct 7 = .ok (.bipush 42, 2) := by decide +kernel
theorem dX2_readProduct_9 : decode cX2_readProduct 9 = .ok (.bipush 47, 2) := by decide +kernel
theorem dX2_readProduct_11 : decode cX2_readProduct 11 = .ok (.bipush 37, 2) := by decide +kernel
theorem dX2_readProduct_13 : decode cX2_readProduct 13 = .ok (.invokevirtual 86, 3) := by decide +kernel
theorem dX2_readProduct_16 : decode cX2_readProduct 16 = .ok (.istore_n 3, 1) := by decide +kernel
theorem dX2_readProduct_17 : decode cX2_readProduct 17 = .ok (.iconst 0, 1) := by decide +kernel
theorem dX2_readProduct_18 : decode cX2_readProduct 18 = .ok (.istore 4, 2) := by decide +kernel
theorem dX2_readProduct_20 : decode cX2_readProduct 20 = .ok (.iload 4, 2) := by decide +kernel
theorem dX2_readProduct_22 : decode cX2_readProduct 22 = .ok (.sipush 240, 3) := by decide +kernel
theorem dX2_readProduct_25 : decode cX2_readProduct 25 = .ok (.if_icmp .ge 40, 3) := by decide +kernel
theorem dX2_readProduct_28 : decode cX2_readProduct 28 = .ok (.iload_n 3, 1) := by decide +kernel
theorem dX2_readProduct_29 : decode cX2_readProduct 29 = .ok (.ifCond .eq 36, 3) := by decide +kernel
theorem dX2_readProduct_32 : decode cX2_readProduct 32 = .ok (.aload_n 0, 1) := by decide +kernel
theorem dX2_readProduct_33 : decode cX2_readProduct 33 = .ok (.aload_n 1, 1) := by decide +kernel
theorem dX2_readProduct_34 : decode cX2_readProduct 34 = .ok (.iload_n 2, 1) := by decide +kernel
theorem dX2_readProduct_35 : decode cX2_readProduct 35 = .ok (.invokevirtual 93, 3) := by decide +kernel
theorem dX2_readProduct_38 : decode cX2_readProduct 38 = .ok (.aload_n 0, 1) := by decide +kernel
theorem dX2_readProduct_39 : decode cX2_readProduct 39 = .ok (.getfield 12, 3) := by decide +kernel
theorem dX2_readProduct_42 : decode cX2_readProduct 42 = .ok (.iload_n 3, 1) := by decide +kernel
theorem dX2_readProduct_43 : decode cX2_readProduct 43 = .ok (.iconst 0, 1) := by decide +kernel
theorem dX2_readProduct_44 : decode cX2_readProduct 44 = .ok (.invokevirtual 72, 3) := by decide +kernel
theorem dX2_readProduct_47 : decode cX2_readProduct 47 = .ok (.pop, 1) := by decide +kernel
theorem dX2_readProduct_48 : decode cX2_readProduct 48 = .ok (.aload_n 1, 1) := by decide +kernel
theorem dX2_readProduct_49 : decode cX2_readProduct 49 = .ok (.bipush 42, 2) := by decide +kernel
theorem dX2_readProduct_51 : decode cX2_readProduct 51 = .ok (.bipush 47, 2) := by decide +kernel
theorem dX2_readProduct_53 : decode cX2_readProduct 53 = .ok (.bipush 37, 2) := by decide +kernel
theorem dX2_readProduct_55 : decode cX2_readProduct 55 = .ok (.invokevirtual 86, 3) := by decide +kernel
theorem dX2_readProduct_58 : decode cX2_readProduct 58 = .ok (.istore_n 3, 1) := by decide +kernel
theorem dX2_readProduct_59 : decode cX2_readProduct 59 = .ok (.iinc 4 1, 3) := by decide +kernel
theorem dX2_readProduct_62 : decode cX2_readProduct 62 = .ok (.goto (-42), 3) := by decide +kernel
theorem dX2_readProduct_65 : decode cX2_readProduct 65 = .ok (.return_, 1) := by decide +kernel
theorem dX2_readFactor_0 : decode cX2_readFactor 0 = .ok (.aload_n 1, 1) := by decide +kernel
theorem dX2_readFactor_1 : decode cX2_readFactor 1 = .ok (.invokevirtual 34, 3) := by decide +kernel
theorem dX2_readFactor_4 : decode cX2_readFactor 4 = .ok (.bipush 91, 2) := by decide +kernel
theorem dX2_readFactor_6 : decode cX2_readFactor 6 = .ok (.if_icmp .ne 28, 3) := by decide +kernel
theorem dX2_readFactor_9 : decode cX2_readFactor 9 = .ok (.aload_n 1, 1) := by decide +kernel
theorem dX2_readFactor_10 : decode cX2_readFactor 10 = .ok (.iload_n 2, 1) := by decide +kernel
theorem dX2_readFactor_11 : decode cX2_readFactor 11 = .ok (.invokestatic 82, 3) := by decide +kernel
theorem dX2_readFactor_14 : decode cX2_readFactor 14 = .ok (.ifCond .eq 90, 3) := by decide +kernel
theorem dX2_readFactor_17 : decode cX2_readFactor 17 = .ok (.aload_n 0, 1) := by decide +kernel
theorem dX2_readFactor_18 : decode cX2_readFactor 18 = .ok (.aload_n 1, 1) := by decide +kernel
theorem dX2_readFactor_19 : decode cX2_readFactor 19 = .ok (.iload_n 2, 1) := by decide +kernel
theorem dX2_readFactor_20 : decode cX2_readFactor 20 = .ok (.iconst 1, 1) := by decide +kernel
theorem dX2_readFactor_21 : decode cX2_readFactor 21 = .ok (.iadd, 1) := by decide +kernel
theorem dX2_readFactor_22 : decode cX2_readFactor 22 = .ok (.invokevirtual 53, 3) := by decide +kernel
theorem dX2_readFactor_25 : decode cX2_readFactor 25 = .ok (.aload_n 1, 1) := by decide +kernel
theorem dX2_readFactor_26 : decode cX2_readFactor 26 = .ok (.bipush 93, 2) := by decide +kernel
theorem dX2_readFactor_28 : decode cX2_readFactor 28 = .ok (.invokevirtual 60, 3) := by decide +kernel
theorem dX2_readFactor_31 : decode cX2_readFactor 31 = .ok (.goto 73, 3) := by decide +kernel
theorem dX2_readFactor_34 : decode cX2_readFactor 34 = .ok (.aload_n 1, 1) := by decide +kernel
theorem dX2_readFactor_35 : decode cX2_readFactor 35 = .ok (.invokevirtual 96, 3) := by decide +kernel
theorem dX2_readFactor_38 : decode cX2_readFactor 38 = .ok (.ifCond .eq 21, 3) := by decide +kernel
theorem dX2_readFactor_41 : decode cX2_readFactor 41 = .ok (.aload_n 0, 1) := by decide +kernel
theorem dX2_readFactor_42 : decode cX2_readFactor 42 = .ok (.getfield 12, 3) := by decide +kernel
theorem dX2_readFactor_45 : decode cX2_readFactor 45 = .ok (.bipush 48, 2) := by decide +kernel
theorem dX2_readFactor_47 : decode cX2_readFactor 47 = .ok (.aload_n 1, 1) := by decide +kernel
theorem dX2_readFactor_48 : decode cX2_readFactor 48 = .ok (.iconst 5, 1) := by decide +kernel
theorem dX2_readFactor_49 : decode cX2_readFactor 49 = .ok (.invokevirtual 100, 3) := by decide +kernel
theorem dX2_readFactor_52 : decode cX2_readFactor 52 = .ok (.invokevirtual 72, 3) := by decide +kernel
theorem dX2_readFactor_55 : decode cX2_readFactor 55 = .ok (.pop, 1) := by decide +kernel
theorem dX2_readFactor_56 : decode cX2_readFactor 56 = .ok (.goto 48, 3) := by decide +kernel
theorem dX2_readFactor_59 : decode cX2_readFactor 59 = .ok (.aload_n 1, 1) := by decide +kernel
theorem dX2_readFactor_60 : decode cX2_readFactor 60 = .ok (.invokevirtual 34, 3) := by decide +kernel
theorem dX2_readFactor_63 : decode cX2_readFactor 63 = .ok (.invokestatic 104, 3) := by decide +kernel
theorem dX2_readFactor_66 : decode cX2_readFactor 66 = .ok (.istore_n 3, 1) := by decide +kernel
theorem dX2_readFactor_67 : decode cX2_readFactor 67 = .ok (.iload_n 3, 1) := by decide +kernel
theorem dX2_readFactor_68 : decode cX2_readFactor 68 = .ok (.ifCond .ge 15, 3) := by decide +kernel
theorem dX2_readFactor_71 : decode cX2_readFactor 71 = .ok (.aload_n 1, 1) := by decide +kernel
theorem dX2_readFactor_72 : decode cX2_readFactor 72 = .ok (.iconst 1, 1) := by decide +kernel
theorem dX2_readFactor_73 : decode cX2_readFactor 73 = .ok (.aload_n 1, 1) := by decide +kernel
theorem dX2_readFactor_74 : decode cX2_readFactor 74 = .ok (.getfield 38, 3) := by decide +kernel
theorem dX2_readFactor_77 : decode cX2_readFactor 77 = .ok (.invokevirtual 42, 3) := by decide +kernel
theorem dX2_readFactor_80 : decode cX2_readFactor 80 = .ok (.goto 24, 3) := by decide +kernel
theorem dX2_readFactor_83 : decode cX2_readFactor 83 = .ok (.aload_n 1, 1) := by decide +kernel
theorem dX2_readFactor_84 : decode cX2_readFactor 84 = .ok (.dup, 1) := by decide +kernel
theorem dX2_readFactor_85 : decode cX2_readFactor 85 = .ok (.getfield 38, 3) := by decide +kernel
theorem dX2_readFactor_88 : decode cX2_readFactor 88 = .ok (.iconst 1, 1) := by decide +kernel
theorem dX2_readFactor_89 : decode cX2_readFactor 89 = .ok (.iadd, 1) := by decide +kernel
theorem dX2_readFactor_90 : decode cX2_readFactor 90 = .ok (.putfield 38, 3) := by decide +kernel
theorem dX2_readFactor_93 : decode cX2_readFactor 93 = .ok (.aload_n 0, 1) := by decide +kernel
theorem dX2_readFactor_94 : decode cX2_readFactor 94 = .ok (.getfield 12, 3) := by decide +kernel
theorem dX2_readFactor_97 : decode cX2_readFactor 97 = .ok (.bipush 97, 2) := by decide +kernel
theorem dX2_readFactor_99 : decode cX2_readFactor 99 = .ok (.iload_n 3, 1) := by decide +kernel
theorem dX2_readFactor_100 : decode cX2_readFactor 100 = .ok (.invokevirtual 72, 3) := by decide +kernel
theorem dX2_readFactor_103 : decode cX2_readFactor 103 = .ok (.pop, 1) := by decide +kernel
theorem dX2_readFactor_104 : decode cX2_readFactor 104 = .ok (.return_, 1) := by decide +kernel
theorem dX2_opens_0 : decode cX2_opens 0 = .ok (.iload_n 1, 1) := by decide +kernel
theorem dX2_opens_1 : decode cX2_opens 1 = .ok (.bipush 6, 2) := by decide +kernel
theorem dX2_opens_3 : decode cX2_opens 3 = .ok (.if_icmp .lt 12, 3) := by decide +kernel
theorem dX2_opens_6 : decode cX2_opens 6 = .ok (.aload_n 0, 1) := by decide +kernel
theorem dX2_opens_7 : decode cX2_opens 7 = .ok (.iconst 5, 1) := by decide +kernel
theorem dX2_opens_8 : decode cX2_opens 8 = .ok (.aload_n 0, 1) := by decide +kernel
theorem dX2_opens_9 : decode cX2_opens 9 = .ok (.getfield 38, 3) := by decide +kernel
theorem dX2_opens_12 : decode cX2_opens 12 = .ok (.invokevirtual 42, 3) := by decide +kernel
theorem dX2_opens_15 : decode cX2_opens 15 = .ok (.aload_n 0, 1) := by decide +kernel
theorem dX2_opens_16 : decode cX2_opens 16 = .ok (.invokevirtual 109, 3) := by decide +kernel
theorem dX2_opens_19 : decode cX2_opens 19 = .ok (.ifCond .ne 5, 3) := by decide +kernel
theorem dX2_opens_22 : decode cX2_opens 22 = .ok (.iconst 0, 1) := by decide +kernel
theorem dX2_opens_23 : decode cX2_opens 23 = .ok (.ireturn, 1) := by decide +kernel
theorem dX2_opens_24 : decode cX2_opens 24 = .ok (.aload_n 0, 1) := by decide +kernel
theorem dX2_opens_25 : decode cX2_opens 25 = .ok (.dup, 1) := by decide +kernel
theorem dX2_opens_26 : decode cX2_opens 26 = .ok (.getfield 38, 3) := by decide +kernel
theorem dX2_opens_29 : decode cX2_opens 29 = .ok (.iconst 1, 1) := by decide +kernel
theorem dX2_opens_30 : decode cX2_opens 30 = .ok (.iadd, 1) := by decide +kernel
theorem dX2_opens_31 : decode cX2_opens 31 = .ok (.putfield 38, 3) := by decide +kernel
theorem dX2_opens_34 : decode cX2_opens 34 = .ok (.iconst 1, 1) := by decide +kernel
theorem dX2_opens_35 : decode cX2_opens 35 = .ok (.ireturn, 1) := by decide +kernel
theorem dX3_placeOf_0 : decode cX3_placeOf 0 = .ok (.iload_n 0, 1) := by decide +kernel
theorem dX3_placeOf_1 : decode cX3_placeOf 1 = .ok (.tableswitch 116 97 116 #[97, 99, 116, 116, 95, 116, 101, 103, 116, 116, 107, 116, 116, 116, 116, 116, 116, 113, 105, 110], 95) := by decide +kernel
theorem dX3_placeOf_96 : decode cX3_placeOf 96 = .ok (.iconst 0, 1) := by decide +kernel
theorem dX3_placeOf_97 : decode cX3_placeOf 97 = .ok (.ireturn, 1) := by decide +kernel
theorem dX3_placeOf_98 : decode cX3_placeOf 98 = .ok (.iconst 1, 1) := by decide +kernel
theorem dX3_placeOf_99 : decode cX3_placeOf 99 = .ok (.ireturn, 1) := by decide +kernel
theorem dX3_placeOf_100 : decode cX3_placeOf 100 = .ok (.iconst 2, 1) := by decide +kernel
theorem dX3_placeOf_101 : decode cX3_placeOf 101 = .ok (.ireturn, 1) := by decide +kernel
theorem dX3_placeOf_102 : decode cX3_placeOf 102 = .ok (.iconst 3, 1) := by decide +kernel
theorem dX3_placeOf_103 : decode cX3_placeOf 103 = .ok (.ireturn, 1) := by decide +kernel
theorem dX3_placeOf_104 : decode cX3_placeOf 104 = .ok (.iconst 4, 1) := by decide +kernel
theorem dX3_placeOf_105 : decode cX3_placeOf 105 = .ok (.ireturn, 1) := by decide +kernel
theorem dX3_placeOf_106 : decode cX3_placeOf 106 = .ok (.iconst 5, 1) := by decide +kernel
theorem dX3_placeOf_107 : decode cX3_placeOf 107 = .ok (.ireturn, 1) := by decide +kernel
theorem dX3_placeOf_108 : decode cX3_placeOf 108 = .ok (.bipush 6, 2) := by decide +kernel
theorem dX3_placeOf_110 : decode cX3_placeOf 110 = .ok (.ireturn, 1) := by decide +kernel
theorem dX3_placeOf_111 : decode cX3_placeOf 111 = .ok (.bipush 7, 2) := by decide +kernel
theorem dX3_placeOf_113 : decode cX3_placeOf 113 = .ok (.ireturn, 1) := by decide +kernel
theorem dX3_placeOf_114 : decode cX3_placeOf 114 = .ok (.bipush 8, 2) := by decide +kernel
theorem dX3_placeOf_116 : decode cX3_placeOf 116 = .ok (.ireturn, 1) := by decide +kernel
theorem dX3_placeOf_117 : decode cX3_placeOf 117 = .ok (.iconst (-1), 1) := by decide +kernel
theorem dX3_placeOf_118 : decode cX3_placeOf 118 = .ok (.ireturn, 1) := by decide +kernel
theorem dX4_init_0 : decode cX4_init 0 = .ok (.aload_n 0, 1) := by decide +kernel
theorem dX4_init_1 : decode cX4_init 1 = .ok (.invokespecial 3, 3) := by decide +kernel
theorem dX4_init_4 : decode cX4_init 4 = .ok (.aload_n 0, 1) := by decide +kernel
theorem dX4_init_5 : decode cX4_init 5 = .ok (.bipush 20, 2) := by decide +kernel
theorem dX4_init_7 : decode cX4_init 7 = .ok (.newarray .int, 2) := by decide +kernel
theorem dX4_init_9 : decode cX4_init 9 = .ok (.putfield 9, 3) := by decide +kernel
theorem dX4_init_12 : decode cX4_init 12 = .ok (.aload_n 0, 1) := by decide +kernel
theorem dX4_init_13 : decode cX4_init 13 = .ok (.bipush 20, 2) := by decide +kernel
theorem dX4_init_15 : decode cX4_init 15 = .ok (.newarray .int, 2) := by decide +kernel
theorem dX4_init_17 : decode cX4_init 17 = .ok (.putfield 15, 3) := by decide +kernel
theorem dX4_init_20 : decode cX4_init 20 = .ok (.aload_n 0, 1) := by decide +kernel
theorem dX4_init_21 : decode cX4_init 21 = .ok (.bipush 20, 2) := by decide +kernel
theorem dX4_init_23 : decode cX4_init 23 = .ok (.newarray .int, 2) := by decide +kernel
theorem dX4_init_25 : decode cX4_init 25 = .ok (.putfield 18, 3) := by decide +kernel
theorem dX4_init_28 : decode cX4_init 28 = .ok (.aload_n 0, 1) := by decide +kernel
theorem dX4_init_29 : decode cX4_init 29 = .ok (.bipush 20, 2) := by decide +kernel
theorem dX4_init_31 : decode cX4_init 31 = .ok (.newarray .int, 2) := by decide +kernel
theorem dX4_init_33 : decode cX4_init 33 = .ok (.putfield 21, 3) := by decide +kernel
theorem dX4_init_36 : decode cX4_init 36 = .ok (.return_, 1) := by decide +kernel
theorem dX4_readAll_0 : decode cX4_readAll 0 = .ok (.aload_n 0, 1) := by decide +kernel
theorem dX4_readAll_1 : decode cX4_readAll 1 = .ok (.iconst 0, 1) := by decide +kernel
theorem dX4_readAll_2 : decode cX4_readAll 2 = .ok (.putfield 24, 3) := by decide +kernel
theorem dX4_readAll_5 : decode cX4_readAll 5 = .ok (.aload_n 0, 1) := by decide +kernel
theorem dX4_readAll_6 : decode cX4_readAll 6 = .ok (.aload_n 1, 1) := by decide +kernel
theorem dX4_readAll_7 : decode cX4_readAll 7 = .ok (.invokevirtual 28, 3) := by decide +kernel
theorem dX4_readAll_10 : decode cX4_readAll 10 = .ok (.iconst 0, 1) := by decide +kernel
theorem dX4_readAll_11 : decode cX4_readAll 11 = .ok (.istore_n 2, 1) := by decide +kernel
theorem dX4_readAll_12 : decode cX4_readAll 12 = .ok (.iload_n 2, 1) := by decide +kernel
theorem dX4_readAll_13 : decode cX4_readAll 13 = .ok (.bipush 120, 2) := by decide +kernel
theorem dX4_readAll_15 : decode cX4_readAll 15 = .ok (.if_icmp .ge 23, 3) := by decide +kernel
theorem dX4_readAll_18 : decode cX4_readAll 18 = .ok (.aload_n 1, 1) := by decide +kernel
theorem dX4_readAll_19 : decode cX4_readAll 19 = .ok (.bipush 59, 2) := by decide +kernel
theorem dX4_readAll_21 : decode cX4_readAll 21 = .ok (.invokevirtual 32, 3) := by decide +kernel
theorem dX4_readAll_24 : decode cX4_readAll 24 = .ok (.ifCond .eq 14, 3) := by decide +kernel
theorem dX4_readAll_27 : decode cX4_readAll 27 = .ok (.aload_n 0, 1) := by decide +kernel
theorem dX4_readAll_28 : decode cX4_readAll 28 = .ok (.aload_n 1, 1) := by decide +kernel
theorem dX4_readAll_29 : decode cX4_readAll 29 = .ok (.invokevirtual 28, 3) := by decide +kernel
theorem dX4_readAll_32 : decode cX4_readAll 32 = .ok (.iinc 2 1, 3) := by decide +kernel
theorem dX4_readAll_35 : decode cX4_readAll 35 = .ok (.goto (-23), 3) := by decide +kernel
theorem dX4_readAll_38 : decode cX4_readAll 38 = .ok (.aload_n 1, 1) := by decide +kernel
theorem dX4_readAll_39 : decode cX4_readAll 39 = .ok (.invokevirtual 38, 3) := by decide +kernel
theorem dX4_readAll_42 : decode cX4_readAll 42 = .ok (.return_, 1) := by decide +kernel
theorem dX4_readLine_0 : decode cX4_readLine 0 = .ok (.aload_n 1, 1) := by decide +kernel
theorem dX4_readLine_1 : decode cX4_readLine 1 = .ok (.invokevirtual 41, 3) := by decide +kernel
theorem dX4_readLine_4 : decode cX4_readLine 4 = .ok (.istore_n 2, 1) := by decide +kernel
theorem dX4_readLine_5 : decode cX4_readLine 5 = .ok (.iload_n 2, 1) := by decide +kernel
theorem dX4_readLine_6 : decode cX4_readLine 6 = .ok (.bipush 108, 2) := by decide +kernel
theorem dX4_readLine_8 : decode cX4_readLine 8 = .ok (.if_icmp .eq 9, 3) := by decide +kernel
theorem dX4_readLine_11 : decode cX4_readLine 11 = .ok (.iload_n 2, 1) := by decide +kernel
theorem dX4_readLine_12 : decode cX4_readLine 12 = .ok (.bipush 114, 2) := by decide +kernel
theorem dX4_readLine_14 : decode cX4_readLine 14 = .ok (.if_icmp .ne 7, 3) := by decide +kernel
theorem dX4_readLine_17 : decode cX4_readLine 17 = .ok (.iconst 1, 1) := by decide +kernel
theorem dX4_readLine_18 : decode cX4_readLine 18 = .ok (.goto 4, 3) := by decide +kernel
theorem dX4_readLine_21 : decode cX4_readLine 21 = .ok (.iconst 0, 1) := by decide +kernel
theorem dX4_readLine_22 : decode cX4_readLine 22 = .ok (.istore_n 3, 1) := by decide +kernel
theorem dX4_readLine_23 : decode cX4_readLine 23 = .ok (.iload_n 3, 1) := by decide +kernel
theorem dX4_readLine_24 : decode cX4_readLine 24 = .ok (.ifCond .ne 25, 3) := by decide +kernel
theorem dX4_readLine_27 : decode cX4_readLine 27 = .ok (.iload_n 2, 1) := by decide +kernel
theorem dX4_readLine_28 : decode cX4_readLine 28 = .ok (.bipush 115, 2) := by decide +kernel
theorem dX4_readLine_30 : decode cX4_readLine 30 = .ok (.if_icmp .eq 19, 3) := by decide +kernel
theorem dX4_readLine_33 : decode cX4_readLine 33 = .ok (.iload_n 2, 1) := by decide +kernel
theorem dX4_readLine_34 : decode cX4_readLine 34 = .ok (.bipush 100, 2) := by decide +kernel
theorem dX4_readLine_36 : decode cX4_readLine 36 = .ok (.if_icmp .eq 13, 3) := by decide +kernel
theorem dX4_readLine_39 : decode cX4_readLine 39 = .ok (.aload_n 1, 1) := by decide +kernel
theorem dX4_readLine_40 : decode cX4_readLine 40 = .ok (.iconst 1, 1) := by decide +kernel
theorem dX4_readLine_41 : decode cX4_readLine 41 = .ok (.aload_n 1, 1) := by decide +kernel
theorem dX4_readLine_42 : decode cX4_readLine 42 = .ok (.getfield 45, 3) := by decide +kernel
theorem dX4_readLine_45 : decode cX4_readLine 45 = .ok (.invokevirtual 48, 3) := by decide +kernel
theorem dX4_readLine_48 : decode cX4_readLine 48 = .ok (.return_, 1) := by decide +kernel
theorem dX4_readLine_49 : decode cX4_readLine 49 = .ok (.aload_n 0, 1) := by decide +kernel
theorem dX4_readLine_50 : decode cX4_readLine 50 = .ok (.getfield 24, 3) := by decide +kernel
theorem dX4_readLine_53 : decode cX4_readLine 53 = .ok (.bipush 20, 2) := by decide +kernel
theorem dX4_readLine_55 : decode cX4_readLine 55 = .ok (.if_icmp .lt 13, 3) := by decide +kernel
theorem dX4_readLine_58 : decode cX4_readLine 58 = .ok (.aload_n 1, 1) := by decide +kernel
theorem dX4_readLine_59 : decode cX4_readLine 59 = .ok (.iconst 4, 1) := by decide +kernel
theorem dX4_readLine_60 : decode cX4_readLine 60 = .ok (.aload_n 1, 1) := by decide +kernel
theorem dX4_readLine_61 : decode cX4_readLine 61 = .ok (.getfield 45, 3) := by decide +kernel
theorem dX4_readLine_64 : decode cX4_readLine 64 = .ok (.invokevirtual 48, 3) := by decide +kernel
theorem dX4_readLine_67 : decode cX4_readLine 67 = .ok (.return_, 1) := by decide +kernel
theorem dX4_readLine_68 : decode cX4_readLine 68 = .ok (.aload_n 1, 1) := by decide +kernel
theorem dX4_readLine_69 : decode cX4_readLine 69 = .ok (.dup, 1) := by decide +kernel
theorem dX4_readLine_70 : decode cX4_readLine 70 = .ok (.getfield 45, 3) := by decide +kernel
theorem dX4_readLine_73 : decode cX4_readLine 73 = .ok (.iconst 1, 1) := by decide +kernel
theorem dX4_readLine_74 : decode cX4_readLine 74 = .ok (.iadd, 1) := by decide +kernel
theorem dX4_readLine_75 : decode cX4_readLine 75 = .ok (.putfield 45, 3) := by decide +kernel
theorem dX4_readLine_78 : decode cX4_readLine 78 = .ok (.aload_n 0, 1) := by decide +kernel
theorem dX4_readLine_79 : decode cX4_readLine 79 = .ok (.getfield 9, 3) := by decide +kernel
theorem dX4_readLine_82 : decode cX4_readLine 82 = .ok (.aload_n 0, 1) := by decide +kernel
theorem dX4_readLine_83 : decode cX4_readLine 83 = .ok (.getfield 24, 3) := by decide +kernel
theorem dX4_readLine_86 : decode cX4_readLine 86 = .ok (.iload_n 2, 1) := by decide +kernel
theorem dX4_readLine_87 : decode cX4_readLine 87 = .ok (.invokestatic 52, 3) := by decide +kernel
theorem dX4_readLine_90 : decode cX4_readLine 90 = .ok (.aload_n 0, 1) := by decide +kernel
theorem dX4_readLine_91 : decode cX4_readLine 91 = .ok (.aload_n 1, 1) := by decide +kernel
theorem dX4_readLine_92 : decode cX4_readLine 92 = .ok (.iload_n 3, 1) := by decide +kernel
theorem dX4_readLine_93 : decode cX4_readLine 93 = .ok (.invokevirtual 56, 3) := by decide +kernel
theorem dX4_readLine_96 : decode cX4_readLine 96 = .ok (.aload_n 0, 1) := by decide +kernel
theorem dX4_readLine_97 : decode cX4_readLine 97 = .ok (.dup, 1) := by decide +kernel
theorem dX4_readLine_98 : decode cX4_readLine 98 = .ok (.getfield 24, 3) := by decide +kernel
theorem dX4_readLine_101 : decode cX4_readLine 101 = .ok (.iconst 1, 1) := by decide +kernel
theorem dX4_readLine_102 : decode cX4_readLine 102 = .ok (.iadd, 1) := by decide +kernel
theorem dX4_readLine_103 : decode cX4_readLine 103 = .ok (.putfield 24, 3) := by decide +kernel
theorem dX4_readLine_106 : decode cX4_readLine 106 = .ok (.return_, 1) := by decide +kernel
theorem dX4_readDeed_0 : decode cX4_readDeed 0 = .ok (.aload_n 1, 1) := by decide +kernel
theorem dX4_readDeed_1 : decode cX4_readDeed 1 = .ok (.bipush 43, 2) := by decide +kernel
theorem dX4_readDeed_3 : decode cX4_readDeed 3 = .ok (.bipush 45, 2) := by decide +kernel
theorem dX4_readDeed_5 : decode cX4_readDeed 5 = .ok (.iload_n 2, 1) := by decide +kernel
theorem dX4_readDeed_6 : decode cX4_readDeed 6 = .ok (.ifCond .eq 8, 3) := by decide +kernel
theorem dX4_readDeed_9 : decode cX4_readDeed 9 = .ok (.bipush 98, 2) := by decide +kernel
theorem dX4_readDeed_11 : decode cX4_readDeed 11 = .ok (.goto 5, 3) := by decide +kernel
theorem dX4_readDeed_14 : decode cX4_readDeed 14 = .ok (.bipush 45, 2) := by decide +kernel
theorem dX4_readDeed_16 : decode cX4_readDeed 16 = .ok (.invokevirtual 60, 3) := by decide +kernel
theorem dX4_readDeed_19 : decode cX4_readDeed 19 = .ok (.istore_n 3, 1) := by decide +kernel
theorem dX4_readDeed_20 : decode cX4_readDeed 20 = .ok (.aload_n 0, 1) := by decide +kernel
theorem dX4_readDeed_21 : decode cX4_readDeed 21 = .ok (.getfield 15, 3) := by decide +kernel
theorem dX4_readDeed_24 : decode cX4_readDeed 24 = .ok (.aload_n 0, 1) := by decide +kernel
theorem dX4_readDeed_25 : decode cX4_readDeed 25 = .ok (.getfield 24, 3) := by decide +kernel
theorem dX4_readDeed_28 : decode cX4_readDeed 28 = .ok (.iload_n 3, 1) := by decide +kernel
theorem dX4_readDeed_29 : decode cX4_readDeed 29 = .ok (.invokestatic 52, 3) := by decide +kernel
theorem dX4_readDeed_32 : decode cX4_readDeed 32 = .ok (.iload_n 3, 1) := by decide +kernel
theorem dX4_readDeed_33 : decode cX4_readDeed 33 = .ok (.ifCond .ne 15, 3) := by decide +kernel
theorem dX4_readDeed_36 : decode cX4_readDeed 36 = .ok (.aload_n 1, 1) := by decide +kernel
theorem dX4_readDeed_37 : decode cX4_readDeed 37 = .ok (.iconst 1, 1) := by decide +kernel
theorem dX4_readDeed_38 : decode cX4_readDeed 38 = .ok (.aload_n 1, 1) := by decide +kernel
theorem dX4_readDeed_39 : decode cX4_readDeed 39 = .ok (.getfield 45, 3) := by decide +kernel
theorem dX4_readDeed_42 : decode cX4_readDeed 42 = .ok (.invokevirtual 48, 3) := by decide +kernel
theorem dX4_readDeed_45 : decode cX4_readDeed 45 = .ok (.goto 73, 3) := by decide +kernel
theorem dX4_readDeed_48 : decode cX4_readDeed 48 = .ok (.iload_n 3, 1) := by decide +kernel
theorem dX4_readDeed_49 : decode cX4_readDeed 49 = .ok (.bipush 98, 2) := by decide +kernel
theorem dX4_readDeed_51 : decode cX4_readDeed 51 = .ok (.if_icmp .ne 51, 3) := by decide +kernel
theorem dX4_readDeed_54 : decode cX4_readDeed 54 = .ok (.aload_n 0, 1) := by decide +kernel
theorem dX4_readDeed_55 : decode cX4_readDeed 55 = .ok (.getfield 18, 3) := by decide +kernel
theorem dX4_readDeed_58 : decode cX4_readDeed 58 = .ok (.aload_n 0, 1) := by decide +kernel
theorem dX4_readDeed_59 : decode cX4_readDeed 59 = .ok (.getfield 24, 3) := by decide +kernel
theorem dX4_readDeed_62 : decode cX4_readDeed 62 = .ok (.aload_n 1, 1) := by decide +kernel
theorem dX4_readDeed_63 : decode cX4_readDeed 63 = .ok (.iconst 4, 1) := by decide +kernel
theorem dX4_readDeed_64 : decode cX4_readDeed 64 = .ok (.iconst 1, 1) := by decide +kernel
theorem dX4_readDeed_65 : decode cX4_readDeed 65 = .ok (.bipush 20, 2) := by decide +kernel
theorem dX4_readDeed_67 : decode cX4_readDeed 67 = .ok (.invokevirtual 64, 3) := by decide +kernel
theorem dX4_readDeed_70 : decode cX4_readDeed 70 = .ok (.invokestatic 52, 3) := by decide +kernel
theorem dX4_readDeed_73 : decode cX4_readDeed 73 = .ok (.aload_n 1, 1) := by decide +kernel
theorem dX4_readDeed_74 : decode cX4_readDeed 74 = .ok (.bipush 58, 2) := by decide +kernel
theorem dX4_readDeed_76 : decode cX4_readDeed 76 = .ok (.invokevirtual 67, 3) := by decide +kernel
theorem dX4_readDeed_79 : decode cX4_readDeed 79 = .ok (.aload_n 0, 1) := by decide +kernel
theorem dX4_readDeed_80 : decode cX4_readDeed 80 = .ok (.getfield 21, 3) := by decide +kernel
theorem dX4_readDeed_83 : decode cX4_readDeed 83 = .ok (.aload_n 0, 1) := by decide +kernel
theorem dX4_readDeed_84 : decode cX4_readDeed 84 = .ok (.getfield 24, 3) := by decide +kernel
theorem dX4_readDeed_87 : decode cX4_readDeed 87 = .ok (.aload_n 1, 1) := by decide +kernel
theorem dX4_readDeed_88 : decode cX4_readDeed 88 = .ok (.iconst 4, 1) := by decide +kernel
theorem dX4_readDeed_89 : decode cX4_readDeed 89 = .ok (.iconst 0, 1) := by decide +kernel
theorem dX4_readDeed_90 : decode cX4_readDeed 90 = .ok (.sipush 255, 3) := by decide +kernel
theorem dX4_readDeed_93 : decode cX4_readDeed 93 = .ok (.invokevirtual 64, 3) := by decide +kernel
theorem dX4_readDeed_96 : decode cX4_readDeed 96 = .ok (.invokestatic 52, 3) := by decide +kernel
theorem dX4_readDeed_99 : decode cX4_readDeed 99 = .ok (.goto 19, 3) := by decide +kernel
theorem dX4_readDeed_102 : decode cX4_readDeed 102 = .ok (.aload_n 0, 1) := by decide +kernel
theorem dX4_readDeed_103 : decode cX4_readDeed 103 = .ok (.getfield 21, 3) := by decide +kernel
theorem dX4_readDeed_106 : decode cX4_readDeed 106 = .ok (.aload_n 0, 1) := by decide +kernel
theorem dX4_readDeed_107 : decode cX4_readDeed 107 = .ok (.getfield 24, 3) := by decide +kernel
theorem dX4_readDeed_110 : decode cX4_readDeed 110 = .ok (.aload_n 1, 1) := by decide +kernel
theorem dX4_readDeed_111 : decode cX4_readDeed 111 = .ok (.iconst 4, 1) := by decide +kernel
theorem dX4_readDeed_112 : decode cX4_readDeed 112 = .ok (.invokevirtual 71, 3) := by decide +kernel
theorem dX4_readDeed_115 : decode cX4_readDeed 115 = .ok (.invokestatic 52, 3) := by decide +kernel
theorem dX4_readDeed_118 : decode cX4_readDeed 118 = .ok (.return_, 1) := by decide +kernel
theorem dX4_obey_0 : decode cX4_obey 0 = .ok (.iconst 0, 1) := by decide +kernel
theorem dX4_obey_1 : decode cX4_obey 1 = .ok (.istore_n 2, 1) := by decide +kernel
theorem dX4_obey_2 : decode cX4_obey 2 = .ok (.iload_n 2, 1) := by decide +kernel
theorem dX4_obey_3 : decode cX4_obey 3 = .ok (.aload_n 0, 1) := by decide +kernel
theorem dX4_obey_4 : decode cX4_obey 4 = .ok (.getfield 24, 3) := by decide +kernel
theorem dX4_obey_7 : decode cX4_obey 7 = .ok (.if_icmp .ge 134, 3) := by decide +kernel
theorem dX4_obey_10 : decode cX4_obey 10 = .ok (.aload_n 0, 1) := by decide +kernel
theorem dX4_obey_11 : decode cX4_obey 11 = .ok (.getfield 9, 3) := by decide +kernel
theorem dX4_obey_14 : decode cX4_obey 14 = .ok (.iload_n 2, 1) := by decide +kernel
theorem dX4_obey_15 : decode cX4_obey 15 = .ok (.invokestatic 75, 3) := by decide +kernel
theorem dX4_obey_18 : decode cX4_obey 18 = .ok (.istore_n 3, 1) := by decide +kernel
theorem dX4_obey_19 : decode cX4_obey 19 = .ok (.iload_n 3, 1) := by decide +kernel
theorem dX4_obey_20 : decode cX4_obey 20 = .ok (.bipush 114, 2) := by decide +kernel
theorem dX4_obey_22 : decode cX4_obey 22 = .ok (.if_icmp .ne 7, 3) := by decide +kernel
theorem dX4_obey_25 : decode cX4_obey 25 = .ok (.iconst 1, 1) := by decide +kernel
theorem dX4_obey_26 : decode cX4_obey 26 = .ok (.goto 4, 3) := by decide +kernel
theorem dX4_obey_29 : decode cX4_obey 29 = .ok (.iconst 0, 1) := by decide +kernel
theorem dX4_obey_30 : decode cX4_obey 30 = .ok (.istore 4, 2) := by decide +kernel
theorem dX4_obey_32 : decode cX4_obey 32 = .ok (.aload_n 0, 1) := by decide +kernel
theorem dX4_obey_33 : decode cX4_obey 33 = .ok (.getfield 21, 3) := by decide +kernel
theorem dX4_obey_36 : decode cX4_obey 36 = .ok (.iload_n 2, 1) := by decide +kernel
theorem dX4_obey_37 : decode cX4_obey 37 = .ok (.invokestatic 75, 3) := by decide +kernel
theorem dX4_obey_40 : decode cX4_obey 40 = .ok (.istore 5, 2) := by decide +kernel
theorem dX4_obey_42 : decode cX4_obey 42 = .ok (.aload_n 0, 1) := by decide +kernel
theorem dX4_obey_43 : decode cX4_obey 43 = .ok (.getfield 15, 3) := by decide +kernel
theorem dX4_obey_46 : decode cX4_obey 46 = .ok (.iload_n 2, 1) := by decide +kernel
theorem dX4_obey_47 : decode cX4_obey 47 = .ok (.invokestatic 75, 3) := by decide +kernel
theorem dX4_obey_50 : decode cX4_obey 50 = .ok (.bipush 45, 2) := by decide +kernel
theorem dX4_obey_52 : decode cX4_obey 52 = .ok (.if_icmp .ne 9, 3) := by decide +kernel
theorem dX4_obey_55 : decode cX4_obey 55 = .ok (.iload 5, 2) := by decide +kernel
theorem dX4_obey_57 : decode cX4_obey 57 = .ok (.ineg, 1) := by decide +kernel
theorem dX4_obey_58 : decode cX4_obey 58 = .ok (.goto 5, 3) := by decide +kernel
theorem dX4_obey_61 : decode cX4_obey 61 = .ok (.iload 5, 2) := by decide +kernel
theorem dX4_obey_63 : decode cX4_obey 63 = .ok (.istore 6, 2) := by decide +kernel
theorem dX4_obey_65 : decode cX4_obey 65 = .ok (.aload_n 0, 1) := by decide +kernel
theorem dX4_obey_66 : decode cX4_obey 66 = .ok (.getfield 15, 3) := by decide +kernel
theorem dX4_obey_69 : decode cX4_obey 69 = .ok (.iload_n 2, 1) := by decide +kernel
theorem dX4_obey_70 : decode cX4_obey 70 = .ok (.invokestatic 75, 3) := by decide +kernel
theorem dX4_obey_73 : decode cX4_obey 73 = .ok (.bipush 98, 2) := by decide +kernel
theorem dX4_obey_75 : decode cX4_obey 75 = .ok (.if_icmp .ne 22, 3) := by decide +kernel
theorem dX4_obey_78 : decode cX4_obey 78 = .ok (.aload_n 1, 1) := by decide +kernel
theorem dX4_obey_79 : decode cX4_obey 79 = .ok (.iload 4, 2) := by decide +kernel
theorem dX4_obey_81 : decode cX4_obey 81 = .ok (.aload_n 0, 1) := by decide +kernel
theorem dX4_obey_82 : decode cX4_obey 82 = .ok (.getfield 18, 3) := by decide +kernel
theorem dX4_obey_85 : decode cX4_obey 85 = .ok (.iload_n 2, 1) := by decide +kernel
theorem dX4_obey_86 : decode cX4_obey 86 = .ok (.invokestatic 75, 3) := by decide +kernel
theorem dX4_obey_89 : decode cX4_obey 89 = .ok (.iload 5, 2) := by decide +kernel
theorem dX4_obey_91 : decode cX4_obey 91 = .ok (.invokevirtual 79, 3) := by decide +kernel
theorem dX4_obey_94 : decode cX4_obey 94 = .ok (.goto 41, 3) := by decide +kernel
theorem dX4_obey_97 : decode cX4_obey 97 = .ok (.iload_n 3, 1) := by decide +kernel
theorem dX4_obey_98 : decode cX4_obey 98 = .ok (.bipush 115, 2) := by decide +kernel
theorem dX4_obey_100 : decode cX4_obey 100 = .ok (.if_icmp .ne 12, 3) := by decide +kernel
theorem dX4_obey_103 : decode cX4_obey 103 = .ok (.aload_n 1, 1) := by decide +kernel
theorem dX4_obey_104 : decode cX4_obey 104 = .ok (.iload 6, 2) := by decide +kernel
theorem dX4_obey_106 : decode cX4_obey 106 = .ok (.invokevirtual 85, 3) := by decide +kernel
theorem dX4_obey_109 : decode cX4_obey 109 = .ok (.goto 26, 3) := by decide +kernel
theorem dX4_obey_112 : decode cX4_obey 112 = .ok (.iload_n 3, 1) := by decide +kernel
theorem dX4_obey_113 : decode cX4_obey 113 = .ok (.bipush 100, 2) := by decide +kernel
theorem dX4_obey_115 : decode cX4_obey 115 = .ok (.if_icmp .ne 12, 3) := by decide +kernel
theorem dX4_obey_118 : decode cX4_obey 118 = .ok (.aload_n 1, 1) := by decide +kernel
theorem dX4_obey_119 : decode cX4_obey 119 = .ok (.iload 6, 2) := by decide +kernel
theorem dX4_obey_121 : decode cX4_obey 121 = .ok (.invokevirtual 88, 3) := by decide +kernel
theorem dX4_obey_124 : decode cX4_obey 124 = .ok (.goto 11, 3) := by decide +kernel
theorem dX4_obey_127 : decode cX4_obey 127 = .ok (.aload_n 1, 1) := by decide +kernel
theorem dX4_obey_128 : decode cX4_obey 128 = .ok (.iload 4, 2) := by decide +kernel
theorem dX4_obey_130 : decode cX4_obey 130 = .ok (.iload 6, 2) := by decide +kernel
theorem dX4_obey_132 : decode cX4_obey 132 = .ok (.invokevirtual 91, 3) := by decide +kernel
theorem dX4_obey_135 : decode cX4_obey 135 = .ok (.iinc 2 1, 3) := by decide +kernel
theorem dX4_obey_138 : decode cX4_obey 138 = .ok (.goto (-136), 3) := by decide +kernel
theorem dX4_obey_141 : decode cX4_obey 141 = .ok (.return_, 1) := by decide +kernel
theorem dX5_init_0 : decode cX5_init 0 = .ok (.aload_n 0, 1) := by decide +kernel
theorem dX5_init_1 : decode cX5_init 1 = .ok (.invokespecial 3, 3) := by decide +kernel
theorem dX5_init_4 : decode cX5_init 4 = .ok (.aload_n 0, 1) := by decide +kernel
theorem dX5_init_5 : decode cX5_init 5 = .ok (.bipush 21, 2) := by decide +kernel
theorem dX5_init_7 : decode cX5_init 7 = .ok (.newarray .int, 2) := by decide +kernel
theorem dX5_init_9 : decode cX5_init 9 = .ok (.putfield 9, 3) := by decide +kernel
theorem dX5_init_12 : decode cX5_init 12 = .ok (.return_, 1) := by decide +kernel
theorem dX5_renew_0 : decode cX5_renew 0 = .ok (.aload_n 0, 1) := by decide +kernel
theorem dX5_renew_1 : decode cX5_renew 1 = .ok (.iconst 0, 1) := by decide +kernel
theorem dX5_renew_2 : decode cX5_renew 2 = .ok (.iload_n 2, 1) := by decide +kernel
theorem dX5_renew_3 : decode cX5_renew 3 = .ok (.bipush 20, 2) := by decide +kernel
theorem dX5_renew_5 : decode cX5_renew 5 = .ok (.invokestatic 15, 3) := by decide +kernel
theorem dX5_renew_8 : decode cX5_renew 8 = .ok (.invokestatic 21, 3) := by decide +kernel
theorem dX5_renew_11 : decode cX5_renew 11 = .ok (.putfield 24, 3) := by decide +kernel
theorem dX5_renew_14 : decode cX5_renew 14 = .ok (.iconst 1, 1) := by decide +kernel
theorem dX5_renew_15 : decode cX5_renew 15 = .ok (.istore_n 3, 1) := by decide +kernel
theorem dX5_renew_16 : decode cX5_renew 16 = .ok (.iload_n 3, 1) := by decide +kernel
theorem dX5_renew_17 : decode cX5_renew 17 = .ok (.aload_n 0, 1) := by decide +kernel
theorem dX5_renew_18 : decode cX5_renew 18 = .ok (.getfield 24, 3) := by decide +kernel
theorem dX5_renew_21 : decode cX5_renew 21 = .ok (.if_icmp .gt 35, 3) := by decide +kernel
theorem dX5_renew_24 : decode cX5_renew 24 = .ok (.aload_n 0, 1) := by decide +kernel
theorem dX5_renew_25 : decode cX5_renew 25 = .ok (.getfield 9, 3) := by decide +kernel
theorem dX5_renew_28 : decode cX5_renew 28 = .ok (.iload_n 3, 1) := by decide +kernel
theorem dX5_renew_29 : decode cX5_renew 29 = .ok (.aload_n 0, 1) := by decide +kernel
theorem dX5_renew_30 : decode cX5_renew 30 = .ok (.getfield 9, 3) := by decide +kernel
theorem dX5_renew_33 : decode cX5_renew 33 = .ok (.iload_n 3, 1) := by decide +kernel
theorem dX5_renew_34 : decode cX5_renew 34 = .ok (.iconst 1, 1) := by decide +kernel
theorem dX5_renew_35 : decode cX5_renew 35 = .ok (.isub, 1) := by decide +kernel
theorem dX5_renew_36 : decode cX5_renew 36 = .ok (.invokestatic 28, 3) := by decide +kernel
theorem dX5_renew_39 : decode cX5_renew 39 = .ok (.aload_n 1, 1) := by decide +kernel
theorem dX5_renew_40 : decode cX5_renew 40 = .ok (.iload_n 3, 1) := by decide +kernel
theorem dX5_renew_41 : decode cX5_renew 41 = .ok (.iconst 1, 1) := by decide +kernel
theorem dX5_renew_42 : decode cX5_renew 42 = .ok (.isub, 1) := by decide +kernel
theorem dX5_renew_43 : decode cX5_renew 43 = .ok (.invokestatic 28, 3) := by decide +kernel
theorem dX5_renew_46 : decode cX5_renew 46 = .ok (.iadd, 1) := by decide +kernel
theorem dX5_renew_47 : decode cX5_renew 47 = .ok (.invokestatic 32, 3) := by decide +kernel
theorem dX5_renew_50 : decode cX5_renew 50 = .ok (.iinc 3 1, 3) := by decide +kernel
theorem dX5_renew_53 : decode cX5_renew 53 = .ok (.goto (-37), 3) := by decide +kernel
theorem dX5_renew_56 : decode cX5_renew 56 = .ok (.return_, 1) := by decide +kernel
theorem dX5_stonesOf_0 : decode cX5_stonesOf 0 = .ok (.aload_n 0, 1) := by decide +kernel
theorem dX5_stonesOf_1 : decode cX5_stonesOf 1 = .ok (.getfield 9, 3) := by decide +kernel
theorem dX5_stonesOf_4 : decode cX5_stonesOf 4 = .ok (.iload_n 1, 1) := by decide +kernel
theorem dX5_stonesOf_5 : decode cX5_stonesOf 5 = .ok (.invokestatic 28, 3) := by decide +kernel
theorem dX5_stonesOf_8 : decode cX5_stonesOf 8 = .ok (.aload_n 0, 1) := by decide +kernel
theorem dX5_stonesOf_9 : decode cX5_stonesOf 9 = .ok (.getfield 9, 3) := by decide +kernel
theorem dX5_stonesOf_12 : decode cX5_stonesOf 12 = .ok (.iload_n 1, 1) := by decide +kernel
theorem dX5_stonesOf_13 : decode cX5_stonesOf 13 = .ok (.iconst 1, 1) := by decide +kernel
theorem dX5_stonesOf_14 : decode cX5_stonesOf 14 = .ok (.isub, 1) := by decide +kernel
theorem dX5_stonesOf_15 : decode cX5_stonesOf 15 = .ok (.invokestatic 28, 3) := by decide +kernel
theorem dX5_stonesOf_18 : decode cX5_stonesOf 18 = .ok (.isub, 1) := by decide +kernel
theorem dX5_stonesOf_19 : decode cX5_stonesOf 19 = .ok (.ireturn, 1) := by decide +kernel
theorem dX5_stonesUpTo_0 : decode cX5_stonesUpTo 0 = .ok (.aload_n 0, 1) := by decide +kernel
theorem dX5_stonesUpTo_1 : decode cX5_stonesUpTo 1 = .ok (.getfield 9, 3) := by decide +kernel
theorem dX5_stonesUpTo_4 : decode cX5_stonesUpTo 4 = .ok (.iload_n 1, 1) := by decide +kernel
theorem dX5_stonesUpTo_5 : decode cX5_stonesUpTo 5 = .ok (.invokestatic 28, 3) := by decide +kernel
theorem dX5_stonesUpTo_8 : decode cX5_stonesUpTo 8 = .ok (.ireturn, 1) := by decide +kernel
theorem dX5_whole_0 : decode cX5_whole 0 = .ok (.aload_n 0, 1) := by decide +kernel
theorem dX5_whole_1 : decode cX5_whole 1 = .ok (.getfield 9, 3) := by decide +kernel
theorem dX5_whole_4 : decode cX5_whole 4 = .ok (.aload_n 0, 1) := by decide +kernel
theorem dX5_whole_5 : decode cX5_whole 5 = .ok (.getfield 24, 3) := by decide +kernel
theorem dX5_whole_8 : decode cX5_whole 8 = .ok (.invokestatic 28, 3) := by decide +kernel
theorem dX5_whole_11 : decode cX5_whole 11 = .ok (.ireturn, 1) := by decide +kernel
theorem dX5_standingBy_0 : decode cX5_standingBy 0 = .ok (.iconst 1, 1) := by decide +kernel
theorem dX5_standingBy_1 : decode cX5_standingBy 1 = .ok (.istore_n 2, 1) := by decide +kernel
theorem dX5_standingBy_2 : decode cX5_standingBy 2 = .ok (.iload_n 2, 1) := by decide +kernel
theorem dX5_standingBy_3 : decode cX5_standingBy 3 = .ok (.aload_n 0, 1) := by decide +kernel
theorem dX5_standingBy_4 : decode cX5_standingBy 4 = .ok (.getfield 24, 3) := by decide +kernel
theorem dX5_standingBy_7 : decode cX5_standingBy 7 = .ok (.if_icmp .gt 32, 3) := by decide +kernel
theorem dX5_standingBy_10 : decode cX5_standingBy 10 = .ok (.iload_n 2, 1) := by decide +kernel
theorem dX5_standingBy_11 : decode cX5_standingBy 11 = .ok (.aload_n 0, 1) := by decide +kernel
theorem dX5_standingBy_12 : decode cX5_standingBy 12 = .ok (.getfield 9, 3) := by decide +kernel
theorem dX5_standingBy_15 : decode cX5_standingBy 15 = .ok (.arraylength, 1) := by decide +kernel
theorem dX5_standingBy_16 : decode cX5_standingBy 16 = .ok (.if_icmp .ge 23, 3) := by decide +kernel
theorem dX5_standingBy_19 : decode cX5_standingBy 19 = .ok (.aload_n 0, 1) := by decide +kernel
theorem dX5_standingBy_20 : decode cX5_standingBy 20 = .ok (.getfield 9, 3) := by decide +kernel
theorem dX5_standingBy_23 : decode cX5_standingBy 23 = .ok (.iload_n 2, 1) := by decide +kernel
theorem dX5_standingBy_24 : decode cX5_standingBy 24 = .ok (.iaload, 1) := by decide +kernel
theorem dX5_standingBy_25 : decode cX5_standingBy 25 = .ok (.iload_n 1, 1) := by decide +kernel
theorem dX5_standingBy_26 : decode cX5_standingBy 26 = .ok (.if_icmp .le 7, 3) := by decide +kernel
theorem dX5_standingBy_29 : decode cX5_standingBy 29 = .ok (.iload_n 2, 1) := by decide +kernel
theorem dX5_standingBy_30 : decode cX5_standingBy 30 = .ok (.iconst 1, 1) := by decide +kernel
theorem dX5_standingBy_31 : decode cX5_standingBy 31 = .ok (.isub, 1) := by decide +kernel
theorem dX5_standingBy_32 : decode cX5_standingBy 32 = .ok (.ireturn, 1) := by decide +kernel
theorem dX5_standingBy_33 : decode cX5_standingBy 33 = .ok (.iinc 2 1, 3) := by decide +kernel
theorem dX5_standingBy_36 : decode cX5_standingBy 36 = .ok (.goto (-34), 3) := by decide +kernel
theorem dX5_standingBy_39 : decode cX5_standingBy 39 = .ok (.aload_n 0, 1) := by decide +kernel
theorem dX5_standingBy_40 : decode cX5_standingBy 40 = .ok (.getfield 24, 3) := by decide +kernel
theorem dX5_standingBy_43 : decode cX5_standingBy 43 = .ok (.ireturn, 1) := by decide +kernel
theorem dX6_init_0 : decode cX6_init 0 = .ok (.aload_n 0, 1) := by decide +kernel
theorem dX6_init_1 : decode cX6_init 1 = .ok (.invokespecial 3, 3) := by decide +kernel
theorem dX6_init_4 : decode cX6_init 4 = .ok (.aload_n 0, 1) := by decide +kernel
theorem dX6_init_5 : decode cX6_init 5 = .ok (.bipush 20, 2) := by decide +kernel
theorem dX6_init_7 : decode cX6_init 7 = .ok (.newarray .int, 2) := by decide +kernel
theorem dX6_init_9 : decode cX6_init 9 = .ok (.putfield 9, 3) := by decide +kernel
theorem dX6_init_12 : decode cX6_init 12 = .ok (.return_, 1) := by decide +kernel
theorem dX6_readAll_0 : decode cX6_readAll 0 = .ok (.aload_n 0, 1) := by decide +kernel
theorem dX6_readAll_1 : decode cX6_readAll 1 = .ok (.iconst 0, 1) := by decide +kernel
theorem dX6_readAll_2 : decode cX6_readAll 2 = .ok (.putfield 15, 3) := by decide +kernel
theorem dX6_readAll_5 : decode cX6_readAll 5 = .ok (.aload_n 0, 1) := by decide +kernel
theorem dX6_readAll_6 : decode cX6_readAll 6 = .ok (.aload_n 1, 1) := by decide +kernel
theorem dX6_readAll_7 : decode cX6_readAll 7 = .ok (.iconst 0, 1) := by decide +kernel
theorem dX6_readAll_8 : decode cX6_readAll 8 = .ok (.invokevirtual 19, 3) := by decide +kernel
theorem dX6_readAll_11 : decode cX6_readAll 11 = .ok (.aload_n 1, 1) := by decide +kernel
theorem dX6_readAll_12 : decode cX6_readAll 12 = .ok (.invokevirtual 23, 3) := by decide +kernel
theorem dX6_readAll_15 : decode cX6_readAll 15 = .ok (.return_, 1) := by decide +kernel
theorem dX6_readItems_0 : decode cX6_readItems 0 = .ok (.aload_n 0, 1) := by decide +kernel
theorem dX6_readItems_1 : decode cX6_readItems 1 = .ok (.aload_n 1, 1) := by decide +kernel
theorem dX6_readItems_2 : decode cX6_readItems 2 = .ok (.iload_n 2, 1) := by decide +kernel
theorem dX6_readItems_3 : decode cX6_readItems 3 = .ok (.invokevirtual 28, 3) := by decide +kernel
theorem dX6_readItems_6 : decode cX6_readItems 6 = .ok (.iconst 0, 1) := by decide +kernel
theorem dX6_readItems_7 : decode cX6_readItems 7 = .ok (.istore_n 3, 1) := by decide +kernel
theorem dX6_readItems_8 : decode cX6_readItems 8 = .ok (.iload_n 3, 1) := by decide +kernel
theorem dX6_readItems_9 : decode cX6_readItems 9 = .ok (.bipush 80, 2) := by decide +kernel
theorem dX6_readItems_11 : decode cX6_readItems 11 = .ok (.if_icmp .ge 24, 3) := by decide +kernel
theorem dX6_readItems_14 : decode cX6_readItems 14 = .ok (.aload_n 1, 1) := by decide +kernel
theorem dX6_readItems_15 : decode cX6_readItems 15 = .ok (.bipush 44, 2) := by decide +kernel
theorem dX6_readItems_17 : decode cX6_readItems 17 = .ok (.invokevirtual 31, 3) := by decide +kernel
theorem dX6_readItems_20 : decode cX6_readItems 20 = .ok (.ifCond .eq 15, 3) := by decide +kernel
theorem dX6_readItems_23 : decode cX6_readItems 23 = .ok (.aload_n 0, 1) := by decide +kernel
theorem dX6_readItems_24 : decode cX6_readItems 24 = .ok (.aload_n 1, 1) := by decide +kernel
theorem dX6_readItems_25 : decode cX6_readItems 25 = .ok (.iload_n 2, 1) := by decide +kernel
theorem dX6_readItems_26 : decode cX6_readItems 26 = .ok (.invokevirtual 28, 3) := by decide +kernel
theorem dX6_readItems_29 : decode cX6_readItems 29 = .ok (.iinc 3 1, 3) := by decide +kernel
theorem dX6_readItems_32 : decode cX6_readItems 32 = .ok (.goto (-24), 3) := by decide +kernel
theorem dX6_readItems_35 : decode cX6_readItems 35 = .ok (.return_, 1) := by decide +kernel
theorem dX6_readItem_0 : decode cX6_readItem 0 = .ok (.aload_n 1, 1) := by decide +kernel
theorem dX6_readItem_1 : decode cX6_readItem 1 = .ok (.getfield 35, 3) := by decide +kernel
theorem dX6_readItem_4 : decode cX6_readItem 4 = .ok (.istore_n 3, 1) := by decide +kernel
theorem dX6_readItem_5 : decode cX6_readItem 5 = .ok (.aload_n 0, 1) := by decide +kernel
theorem dX6_readItem_6 : decode cX6_readItem 6 = .ok (.getfield 15, 3) := by decide +kernel
theorem dX6_readItem_9 : decode cX6_readItem 9 = .ok (.istore 4, 2) := by decide +kernel
theorem dX6_readItem_11 : decode cX6_readItem 11 = .ok (.aload_n 0, 1) := by decide +kernel
theorem dX6_readItem_12 : decode cX6_readItem 12 = .ok (.aload_n 1, 1) := by decide +kernel
theorem dX6_readItem_13 : decode cX6_readItem 13 = .ok (.invokevirtual 38, 3) := by decide +kernel
theorem dX6_readItem_16 : decode cX6_readItem 16 = .ok (.istore 5, 2) := by decide +kernel
theorem dX6_readItem_18 : decode cX6_readItem 18 = .ok (.aload_n 1, 1) := by decide +kernel
theorem dX6_readItem_19 : decode cX6_readItem 19 = .ok (.invokevirtual 42, 3) := by decide +kernel
theorem dX6_readItem_22 : decode cX6_readItem 22 = .ok (.bipush 40, 2) := by decide +kernel
theorem dX6_readItem_24 : decode cX6_readItem 24 = .ok (.if_icmp .ne 12, 3) := by decide +kernel
theorem dX6_readItem_27 : decode cX6_readItem 27 = .ok (.aload_n 0, 1) := by decide +kernel
theorem dX6_readItem_28 : decode cX6_readItem 28 = .ok (.aload_n 1, 1) := by decide +kernel
theorem dX6_readItem_29 : decode cX6_readItem 29 = .ok (.iload_n 2, 1) := by decide +kernel
theorem dX6_readItem_30 : decode cX6_readItem 30 = .ok (.invokevirtual 46, 3) := by decide +kernel
theorem dX6_readItem_33 : decode cX6_readItem 33 = .ok (.goto 16, 3) := by decide +kernel
theorem dX6_readItem_36 : decode cX6_readItem 36 = .ok (.aload_n 0, 1) := by decide +kernel
theorem dX6_readItem_37 : decode cX6_readItem 37 = .ok (.aload_n 1, 1) := by decide +kernel
theorem dX6_readItem_38 : decode cX6_readItem 38 = .ok (.iconst 3, 1) := by decide +kernel
theorem dX6_readItem_39 : decode cX6_readItem 39 = .ok (.iconst 1, 1) := by decide +kernel
theorem dX6_readItem_40 : decode cX6_readItem 40 = .ok (.sipush 255, 3) := by decide +kernel
theorem dX6_readItem_43 : decode cX6_readItem 43 = .ok (.invokevirtual 49, 3) := by decide +kernel
theorem dX6_readItem_46 : decode cX6_readItem 46 = .ok (.invokevirtual 53, 3) := by decide +kernel
theorem dX6_readItem_49 : decode cX6_readItem 49 = .ok (.aload_n 1, 1) := by decide +kernel
theorem dX6_readItem_50 : decode cX6_readItem 50 = .ok (.invokevirtual 57, 3) := by decide +kernel
theorem dX6_readItem_53 : decode cX6_readItem 53 = .ok (.ifCond .eq 11, 3) := by decide +kernel
theorem dX6_readItem_56 : decode cX6_readItem 56 = .ok (.aload_n 0, 1) := by decide +kernel
theorem dX6_readItem_57 : decode cX6_readItem 57 = .ok (.iload 4, 2) := by decide +kernel
theorem dX6_readItem_59 : decode cX6_readItem 59 = .ok (.iload 5, 2) := by decide +kernel
theorem dX6_readItem_61 : decode cX6_readItem 61 = .ok (.invokevirtual 61, 3) := by decide +kernel
theorem dX6_readItem_64 : decode cX6_readItem 64 = .ok (.aload_n 0, 1) := by decide +kernel
theorem dX6_readItem_65 : decode cX6_readItem 65 = .ok (.getfield 15, 3) := by decide +kernel
theorem dX6_readItem_68 : decode cX6_readItem 68 = .ok (.bipush 20, 2) := by decide +kernel
theorem dX6_readItem_70 : decode cX6_readItem 70 = .ok (.if_icmp .le 10, 3) := by decide +kernel
theorem dX6_readItem_73 : decode cX6_readItem 73 = .ok (.aload_n 1, 1) := by decide +kernel
theorem dX6_readItem_74 : decode cX6_readItem 74 = .ok (.bipush 6, 2) := by decide +kernel
theorem dX6_readItem_76 : decode cX6_readItem 76 = .ok (.iload_n 3, 1) := by decide +kernel
theorem dX6_readItem_77 : decode cX6_readItem 77 = .ok (.invokevirtual 65, 3) := by decide +kernel
theorem dX6_readItem_80 : decode cX6_readItem 80 = .ok (.return_, 1) := by decide +kernel
theorem dX6_readTimes_0 : decode cX6_readTimes 0 = .ok (.aload_n 1, 1) := by decide +kernel
theorem dX6_readTimes_1 : decode cX6_readTimes 1 = .ok (.invokevirtual 42, 3) := by decide +kernel
theorem dX6_readTimes_4 : decode cX6_readTimes 4 = .ok (.istore_n 2, 1) := by decide +kernel
theorem dX6_readTimes_5 : decode cX6_readTimes 5 = .ok (.iload_n 2, 1) := by decide +kernel
theorem dX6_readTimes_6 : decode cX6_readTimes 6 = .ok (.bipush 50, 2) := by decide +kernel
theorem dX6_readTimes_8 : decode cX6_readTimes 8 = .ok (.bipush 57, 2) := by decide +kernel
theorem dX6_readTimes_10 : decode cX6_readTimes 10 = .ok (.invokestatic 68, 3) := by decide +kernel
theorem dX6_readTimes_13 : decode cX6_readTimes 13 = .ok (.ifCond .eq 18, 3) := by decide +kernel
theorem dX6_readTimes_16 : decode cX6_readTimes 16 = .ok (.aload_n 1, 1) := by decide +kernel
theorem dX6_readTimes_17 : decode cX6_readTimes 17 = .ok (.aload_n 1, 1) := by decide +kernel
theorem dX6_readTimes_18 : decode cX6_readTimes 18 = .ok (.getfield 35, 3) := by decide +kernel
theorem dX6_readTimes_21 : decode cX6_readTimes 21 = .ok (.iconst 1, 1) := by decide +kernel
theorem dX6_readTimes_22 : decode cX6_readTimes 22 = .ok (.iadd, 1) := by decide +kernel
theorem dX6_readTimes_23 : decode cX6_readTimes 23 = .ok (.invokevirtual 72, 3) := by decide +kernel
theorem dX6_readTimes_26 : decode cX6_readTimes 26 = .ok (.bipush 120, 2) := by decide +kernel
theorem dX6_readTimes_28 : decode cX6_readTimes 28 = .ok (.if_icmp .eq 5, 3) := by decide +kernel
theorem dX6_readTimes_31 : decode cX6_readTimes 31 = .ok (.iconst 1, 1) := by decide +kernel
theorem dX6_readTimes_32 : decode cX6_readTimes 32 = .ok (.ireturn, 1) := by decide +kernel
theorem dX6_readTimes_33 : decode cX6_readTimes 33 = .ok (.aload_n 1, 1) := by decide +kernel
theorem dX6_readTimes_34 : decode cX6_readTimes 34 = .ok (.dup, 1) := by decide +kernel
theorem dX6_readTimes_35 : decode cX6_readTimes 35 = .ok (.getfield 35, 3) := by decide +kernel
theorem dX6_readTimes_38 : decode cX6_readTimes 38 = .ok (.iconst 2, 1) := by decide +kernel
theorem dX6_readTimes_39 : decode cX6_readTimes 39 = .ok (.iadd, 1) := by decide +kernel
theorem dX6_readTimes_40 : decode cX6_readTimes 40 = .ok (.putfield 35, 3) := by decide +kernel
theorem dX6_readTimes_43 : decode cX6_readTimes 43 = .ok (.iload_n 2, 1) := by decide +kernel
theorem dX6_readTimes_44 : decode cX6_readTimes 44 = .ok (.bipush 48, 2) := by decide +kernel
theorem dX6_readTimes_46 : decode cX6_readTimes 46 = .ok (.isub, 1) := by decide +kernel
theorem dX6_readTimes_47 : decode cX6_readTimes 47 = .ok (.ireturn, 1) := by decide +kernel
theorem dX6_readGroup_0 : decode cX6_readGroup 0 = .ok (.iload_n 2, 1) := by decide +kernel
theorem dX6_readGroup_1 : decode cX6_readGroup 1 = .ok (.iconst 2, 1) := by decide +kernel
theorem dX6_readGroup_2 : decode cX6_readGroup 2 = .ok (.if_icmp .lt 13, 3) := by decide +kernel
theorem dX6_readGroup_5 : decode cX6_readGroup 5 = .ok (.aload_n 1, 1) := by decide +kernel
theorem dX6_readGroup_6 : decode cX6_readGroup 6 = .ok (.iconst 5, 1) := by decide +kernel
theorem dX6_readGroup_7 : decode cX6_readGroup 7 = .ok (.aload_n 1, 1) := by decide +kernel
theorem dX6_readGroup_8 : decode cX6_readGroup 8 = .ok (.getfield 35, 3) := by decide +kernel
theorem dX6_readGroup_11 : decode cX6_readGroup 11 = .ok (.invokevirtual 65, 3) := by decide +kernel
theorem dX6_readGroup_14 : decode cX6_readGroup 14 = .ok (.return_, 1) := by decide +kernel
theorem dX6_readGroup_15 : decode cX6_readGroup 15 = .ok (.aload_n 1, 1) := by decide +kernel
theorem dX6_readGroup_16 : decode cX6_readGroup 16 = .ok (.bipush 40, 2) := by decide +kernel
theorem dX6_readGroup_18 : decode cX6_readGroup 18 = .ok (.invokevirtual 76, 3) := by decide +kernel
theorem dX6_readGroup_21 : decode cX6_readGroup 21 = .ok (.aload_n 0, 1) := by decide +kernel
theorem dX6_readGroup_22 : decode cX6_readGroup 22 = .ok (.aload_n 1, 1) := by decide +kernel
theorem dX6_readGroup_23 : decode cX6_readGroup 23 = .ok (.iload_n 2, 1) := by decide +kernel
theorem dX6_readGroup_24 : decode cX6_readGroup 24 = .ok (.iconst 1, 1) := by decide +kernel
theorem dX6_readGroup_25 : decode cX6_readGroup 25 = .ok (.iadd, 1) := by decide +kernel
theorem dX6_readGroup_26 : decode cX6_readGroup 26 = .ok (.invokevirtual 19, 3) := by decide +kernel
theorem dX6_readGroup_29 : decode cX6_readGroup 29 = .ok (.aload_n 1, 1) := by decide +kernel
theorem dX6_readGroup_30 : decode cX6_readGroup 30 = .ok (.bipush 41, 2) := by decide +kernel
theorem dX6_readGroup_32 : decode cX6_readGroup 32 = .ok (.invokevirtual 76, 3) := by decide +kernel
theorem dX6_readGroup_35 : decode cX6_readGroup 35 = .ok (.return_, 1) := by decide +kernel
theorem dX6_repeat_0 : decode cX6_repeat 0 = .ok (.aload_n 0, 1) := by decide +kernel
theorem dX6_repeat_1 : decode cX6_repeat 1 = .ok (.getfield 15, 3) := by decide +kernel
theorem dX6_repeat_4 : decode cX6_repeat 4 = .ok (.istore_n 3, 1) := by decide +kernel
theorem dX6_repeat_5 : decode cX6_repeat 5 = .ok (.iconst 1, 1) := by decide +kernel
theorem dX6_repeat_6 : decode cX6_repeat 6 = .ok (.istore 4, 2) := by decide +kernel
theorem dX6_repeat_8 : decode cX6_repeat 8 = .ok (.iload 4, 2) := by decide +kernel
theorem dX6_repeat_10 : decode cX6_repeat 10 = .ok (.iload_n 2, 1) := by decide +kernel
theorem dX6_repeat_11 : decode cX6_repeat 11 = .ok (.if_icmp .ge 37, 3) := by decide +kernel
theorem dX6_repeat_14 : decode cX6_repeat 14 = .ok (.iload_n 1, 1) := by decide +kernel
theorem dX6_repeat_15 : decode cX6_repeat 15 = .ok (.istore 5, 2) := by decide +kernel
theorem dX6_repeat_17 : decode cX6_repeat 17 = .ok (.iload 5, 2) := by decide +kernel
theorem dX6_repeat_19 : decode cX6_repeat 19 = .ok (.iload_n 3, 1) := by decide +kernel
theorem dX6_repeat_20 : decode cX6_repeat 20 = .ok (.if_icmp .ge 22, 3) := by decide +kernel
theorem dX6_repeat_23 : decode cX6_repeat 23 = .ok (.aload_n 0, 1) := by decide +kernel
theorem dX6_repeat_24 : decode cX6_repeat 24 = .ok (.aload_n 0, 1) := by decide +kernel
theorem dX6_repeat_25 : decode cX6_repeat 25 = .ok (.getfield 9, 3) := by decide +kernel
theorem dX6_repeat_28 : decode cX6_repeat 28 = .ok (.iload 5, 2) := by decide +kernel
theorem dX6_repeat_30 : decode cX6_repeat 30 = .ok (.invokestatic 79, 3) := by decide +kernel
theorem dX6_repeat_33 : decode cX6_repeat 33 = .ok (.invokevirtual 53, 3) := by decide +kernel
theorem dX6_repeat_36 : decode cX6_repeat 36 = .ok (.iinc 5 1, 3) := by decide +kernel
theorem dX6_repeat_39 : decode cX6_repeat 39 = .ok (.goto (-22), 3) := by decide +kernel
theorem dX6_repeat_42 : decode cX6_repeat 42 = .ok (.iinc 4 1, 3) := by decide +kernel
theorem dX6_repeat_45 : decode cX6_repeat 45 = .ok (.goto (-37), 3) := by decide +kernel
theorem dX6_repeat_48 : decode cX6_repeat 48 = .ok (.return_, 1) := by decide +kernel
theorem dX6_addArch_0 : decode cX6_addArch 0 = .ok (.aload_n 0, 1) := by decide +kernel
theorem dX6_addArch_1 : decode cX6_addArch 1 = .ok (.getfield 9, 3) := by decide +kernel
theorem dX6_addArch_4 : decode cX6_addArch 4 = .ok (.aload_n 0, 1) := by decide +kernel
theorem dX6_addArch_5 : decode cX6_addArch 5 = .ok (.getfield 15, 3) := by decide +kernel
theorem dX6_addArch_8 : decode cX6_addArch 8 = .ok (.iload_n 1, 1) := by decide +kernel
theorem dX6_addArch_9 : decode cX6_addArch 9 = .ok (.invokestatic 83, 3) := by decide +kernel
theorem dX6_addArch_12 : decode cX6_addArch 12 = .ok (.aload_n 0, 1) := by decide +kernel
theorem dX6_addArch_13 : decode cX6_addArch 13 = .ok (.dup, 1) := by decide +kernel
theorem dX6_addArch_14 : decode cX6_addArch 14 = .ok (.getfield 15, 3) := by decide +kernel
theorem dX6_addArch_17 : decode cX6_addArch 17 = .ok (.iconst 1, 1) := by decide +kernel
theorem dX6_addArch_18 : decode cX6_addArch 18 = .ok (.iadd, 1) := by decide +kernel
theorem dX6_addArch_19 : decode cX6_addArch 19 = .ok (.putfield 15, 3) := by decide +kernel
theorem dX6_addArch_22 : decode cX6_addArch 22 = .ok (.return_, 1) := by decide +kernel
theorem dX7_init_0 : decode cX7_init 0 = .ok (.aload_n 0, 1) := by decide +kernel
theorem dX7_init_1 : decode cX7_init 1 = .ok (.invokespecial 3, 3) := by decide +kernel
theorem dX7_init_4 : decode cX7_init 4 = .ok (.aload_n 0, 1) := by decide +kernel
theorem dX7_init_5 : decode cX7_init 5 = .ok (.bipush 21, 2) := by decide +kernel
theorem dX7_init_7 : decode cX7_init 7 = .ok (.newarray .int, 2) := by decide +kernel
theorem dX7_init_9 : decode cX7_init 9 = .ok (.putfield 9, 3) := by decide +kernel
theorem dX7_init_12 : decode cX7_init 12 = .ok (.aload_n 0, 1) := by decide +kernel
theorem dX7_init_13 : decode cX7_init 13 = .ok (.bipush 61, 2) := by decide +kernel
theorem dX7_init_15 : decode cX7_init 15 = .ok (.newarray .int, 2) := by decide +kernel
theorem dX7_init_17 : decode cX7_init 17 = .ok (.putfield 15, 3) := by decide +kernel
theorem dX7_init_20 : decode cX7_init 20 = .ok (.aload_n 0, 1) := by decide +kernel
theorem dX7_init_21 : decode cX7_init 21 = .ok (.bipush 10, 2) := by decide +kernel
theorem dX7_init_23 : decode cX7_init 23 = .ok (.newarray .int, 2) := by decide +kernel
theorem dX7_init_25 : decode cX7_init 25 = .ok (.putfield 18, 3) := by decide +kernel
theorem dX7_init_28 : decode cX7_init 28 = .ok (.aload_n 0, 1) := by decide +kernel
theorem dX7_init_29 : decode cX7_init 29 = .ok (.iconst 5, 1) := by decide +kernel
theorem dX7_init_30 : decode cX7_init 30 = .ok (.newarray .int, 2) := by decide +kernel
theorem dX7_init_32 : decode cX7_init 32 = .ok (.putfield 21, 3) := by decide +kernel
theorem dX7_init_35 : decode cX7_init 35 = .ok (.aload_n 0, 1) := by decide +kernel
theorem dX7_init_36 : decode cX7_init 36 = .ok (.iconst 5, 1) := by decide +kernel
theorem dX7_init_37 : decode cX7_init 37 = .ok (.newarray .int, 2) := by decide +kernel
theorem dX7_init_39 : decode cX7_init 39 = .ok (.putfield 24, 3) := by decide +kernel
theorem dX7_init_42 : decode cX7_init 42 = .ok (.return_, 1) := by decide +kernel
theorem dX7_evenest_0 : decode cX7_evenest 0 = .ok (.iload_n 1, 1) := by decide +kernel
theorem dX7_evenest_1 : decode cX7_evenest 1 = .ok (.aload_n 0, 1) := by decide +kernel
theorem dX7_evenest_2 : decode cX7_evenest 2 = .ok (.getfield 27, 3) := by decide +kernel
theorem dX7_evenest_5 : decode cX7_evenest 5 = .ok (.if_icmp .ge 9, 3) := by decide +kernel
theorem dX7_evenest_8 : decode cX7_evenest 8 = .ok (.iload_n 1, 1) := by decide +kernel
theorem dX7_evenest_9 : decode cX7_evenest 9 = .ok (.bipush 8, 2) := by decide +kernel
theorem dX7_evenest_11 : decode cX7_evenest 11 = .ok (.if_icmp .lt 15, 3) := by decide +kernel
theorem dX7_evenest_14 : decode cX7_evenest 14 = .ok (.iload 4, 2) := by decide +kernel
theorem dX7_evenest_16 : decode cX7_evenest 16 = .ok (.invokestatic 33, 3) := by decide +kernel
theorem dX7_evenest_19 : decode cX7_evenest 19 = .ok (.bipush 16, 2) := by decide +kernel
theorem dX7_evenest_21 : decode cX7_evenest 21 = .ok (.imul, 1) := by decide +kernel
theorem dX7_evenest_22 : decode cX7_evenest 22 = .ok (.iload 5, 2) := by decide +kernel
theorem dX7_evenest_24 : decode cX7_evenest 24 = .ok (.iadd, 1) := by decide +kernel
theorem dX7_evenest_25 : decode cX7_evenest 25 = .ok (.ireturn, 1) := by decide +kernel
theorem dX7_evenest_26 : decode cX7_evenest 26 = .ok (.aload_n 0, 1) := by decide +kernel
theorem dX7_evenest_27 : decode cX7_evenest 27 = .ok (.iload_n 1, 1) := by decide +kernel
theorem dX7_evenest_28 : decode cX7_evenest 28 = .ok (.iconst 1, 1) := by decide +kernel
theorem dX7_evenest_29 : decode cX7_evenest 29 = .ok (.iadd, 1) := by decide +kernel
theorem dX7_evenest_30 : decode cX7_evenest 30 = .ok (.iload_n 2, 1) := by decide +kernel
theorem dX7_evenest_31 : decode cX7_evenest 31 = .ok (.iload_n 3, 1) := by decide +kernel
theorem dX7_evenest_32 : decode cX7_evenest 32 = .ok (.iload 4, 2) := by decide +kernel
theorem dX7_evenest_34 : decode cX7_evenest 34 = .ok (.iload 5, 2) := by decide +kernel
theorem dX7_evenest_36 : decode cX7_evenest 36 = .ok (.invokestatic 39, 3) := by decide +kernel
theorem dX7_evenest_39 : decode cX7_evenest 39 = .ok (.istore 6, 2) := by decide +kernel
theorem dX7_evenest_41 : decode cX7_evenest 41 = .ok (.aload_n 0, 1) := by decide +kernel
theorem dX7_evenest_42 : decode cX7_evenest 42 = .ok (.iload_n 1, 1) := by decide +kernel
theorem dX7_evenest_43 : decode cX7_evenest 43 = .ok (.iconst 1, 1) := by decide +kernel
theorem dX7_evenest_44 : decode cX7_evenest 44 = .ok (.iadd, 1) := by decide +kernel
theorem dX7_evenest_45 : decode cX7_evenest 45 = .ok (.iload_n 2, 1) := by decide +kernel
theorem dX7_evenest_46 : decode cX7_evenest 46 = .ok (.iload_n 3, 1) := by decide +kernel
theorem dX7_evenest_47 : decode cX7_evenest 47 = .ok (.iload 4, 2) := by decide +kernel
theorem dX7_evenest_49 : decode cX7_evenest 49 = .ok (.aload_n 0, 1) := by decide +kernel
theorem dX7_evenest_50 : decode cX7_evenest 50 = .ok (.iload_n 1, 1) := by decide +kernel
theorem dX7_evenest_51 : decode cX7_evenest 51 = .ok (.invokevirtual 43, 3) := by decide +kernel
theorem dX7_evenest_54 : decode cX7_evenest 54 = .ok (.iload_n 2, 1) := by decide +kernel
theorem dX7_evenest_55 : decode cX7_evenest 55 = .ok (.imul, 1) := by decide +kernel
theorem dX7_evenest_56 : decode cX7_evenest 56 = .ok (.iadd, 1) := by decide +kernel
theorem dX7_evenest_57 : decode cX7_evenest 57 = .ok (.iload 5, 2) := by decide +kernel
theorem dX7_evenest_59 : decode cX7_evenest 59 = .ok (.iconst 1, 1) := by decide +kernel
theorem dX7_evenest_60 : decode cX7_evenest 60 = .ok (.iadd, 1) := by decide +kernel
theorem dX7_evenest_61 : decode cX7_evenest 61 = .ok (.invokestatic 39, 3) := by decide +kernel
theorem dX7_evenest_64 : decode cX7_evenest 64 = .ok (.istore 7, 2) := by decide +kernel
theorem dX7_evenest_66 : decode cX7_evenest 66 = .ok (.aload_n 0, 1) := by decide +kernel
theorem dX7_evenest_67 : decode cX7_evenest 67 = .ok (.iload_n 1, 1) := by decide +kernel
theorem dX7_evenest_68 : decode cX7_evenest 68 = .ok (.iconst 1, 1) := by decide +kernel
theorem dX7_evenest_69 : decode cX7_evenest 69 = .ok (.iadd, 1) := by decide +kernel
theorem dX7_evenest_70 : decode cX7_evenest 70 = .ok (.iload_n 2, 1) := by decide +kernel
theorem dX7_evenest_71 : decode cX7_evenest 71 = .ok (.iload_n 3, 1) := by decide +kernel
theorem dX7_evenest_72 : decode cX7_evenest 72 = .ok (.iload 4, 2) := by decide +kernel
theorem dX7_evenest_74 : decode cX7_evenest 74 = .ok (.aload_n 0, 1) := by decide +kernel
theorem dX7_evenest_75 : decode cX7_evenest 75 = .ok (.iload_n 1, 1) := by decide +kernel
theorem dX7_evenest_76 : decode cX7_evenest 76 = .ok (.invokevirtual 43, 3) := by decide +kernel
theorem dX7_evenest_79 : decode cX7_evenest 79 = .ok (.iload_n 3, 1) := by decide +kernel
theorem dX7_evenest_80 : decode cX7_evenest 80 = .ok (.imul, 1) := by decide +kernel
theorem dX7_evenest_81 : decode cX7_evenest 81 = .ok (.isub, 1) := by decide +kernel
theorem dX7_evenest_82 : decode cX7_evenest 82 = .ok (.iload 5, 2) := by decide +kernel
theorem dX7_evenest_84 : decode cX7_evenest 84 = .ok (.iconst 1, 1) := by decide +kernel
theorem dX7_evenest_85 : decode cX7_evenest 85 = .ok (.iadd, 1) := by decide +kernel
theorem dX7_evenest_86 : decode cX7_evenest 86 = .ok (.invokestatic 39, 3) := by decide +kernel
theorem dX7_evenest_89 : decode cX7_evenest 89 = .ok (.istore 8, 2) := by decide +kernel
theorem dX7_evenest_91 : decode cX7_evenest 91 = .ok (.iload 6, 2) := by decide +kernel
theorem dX7_evenest_93 : decode cX7_evenest 93 = .ok (.iload 7, 2) := by decide +kernel
theorem dX7_evenest_95 : decode cX7_evenest 95 = .ok (.iload 8, 2) := by decide +kernel
theorem dX7_evenest_97 : decode cX7_evenest 97 = .ok (.invokestatic 46, 3) := by decide +kernel
theorem dX7_evenest_100 : decode cX7_evenest 100 = .ok (.invokestatic 46, 3) := by decide +kernel
theorem dX7_evenest_103 : decode cX7_evenest 103 = .ok (.ireturn, 1) := by decide +kernel
theorem dX7_ordersOfBuilding_0 : decode cX7_ordersOfBuilding 0 = .ok (.aload_n 1, 1) := by decide +kernel
theorem dX7_ordersOfBuilding_1 : decode cX7_ordersOfBuilding 1 = .ok (.iconst 0, 1) := by decide +kernel
theorem dX7_ordersOfBuilding_2 : decode cX7_ordersOfBuilding 2 = .ok (.invokevirtual 50, 3) := by decide +kernel
theorem dX7_ordersOfBuilding_5 : decode cX7_ordersOfBuilding 5 = .ok (.istore_n 2, 1) := by decide +kernel
theorem dX7_ordersOfBuilding_6 : decode cX7_ordersOfBuilding 6 = .ok (.aload_n 1, 1) := by decide +kernel
theorem dX7_ordersOfBuilding_7 : decode cX7_ordersOfBuilding 7 = .ok (.iconst 1, 1) := by decide +kernel
theorem dX7_ordersOfBuilding_8 : decode cX7_ordersOfBuilding 8 = .ok (.invokevirtual 50, 3) := by decide +kernel
theorem dX7_ordersOfBuilding_11 : decode cX7_ordersOfBuilding 11 = .ok (.istore_n 3, 1) := by decide +kernel
theorem dX7_ordersOfBuilding_12 : decode cX7_ordersOfBuilding 12 = .ok (.aload_n 1, 1) := by decide +kernel
theorem dX7_ordersOfBuilding_13 : decode cX7_ordersOfBuilding 13 = .ok (.getfield 55, 3) := by decide +kernel
theorem dX7_ordersOfBuilding_16 : decode cX7_ordersOfBuilding 16 = .ok (.getfield 59, 3) := by decide +kernel
theorem dX7_ordersOfBuilding_19 : decode cX7_ordersOfBuilding 19 = .ok (.istore 4, 2) := by decide +kernel
theorem dX7_ordersOfBuilding_21 : decode cX7_ordersOfBuilding 21 = .ok (.aload_n 1, 1) := by decide +kernel
theorem dX7_ordersOfBuilding_22 : decode cX7_ordersOfBuilding 22 = .ok (.getfield 64, 3) := by decide +kernel
theorem dX7_ordersOfBuilding_25 : decode cX7_ordersOfBuilding 25 = .ok (.getfield 59, 3) := by decide +kernel
theorem dX7_ordersOfBuilding_28 : decode cX7_ordersOfBuilding 28 = .ok (.istore 5, 2) := by decide +kernel
theorem dX7_ordersOfBuilding_30 : decode cX7_ordersOfBuilding 30 = .ok (.iconst 0, 1) := by decide +kernel
theorem dX7_ordersOfBuilding_31 : decode cX7_ordersOfBuilding 31 = .ok (.istore 6, 2) := by decide +kernel
theorem dX7_ordersOfBuilding_33 : decode cX7_ordersOfBuilding 33 = .ok (.iload 6, 2) := by decide +kernel
theorem dX7_ordersOfBuilding_35 : decode cX7_ordersOfBuilding 35 = .ok (.bipush 20, 2) := by decide +kernel
theorem dX7_ordersOfBuilding_37 : decode cX7_ordersOfBuilding 37 = .ok (.if_icmp .gt 19, 3) := by decide +kernel
theorem dX7_ordersOfBuilding_40 : decode cX7_ordersOfBuilding 40 = .ok (.aload_n 0, 1) := by decide +kernel
theorem dX7_ordersOfBuilding_41 : decode cX7_ordersOfBuilding 41 = .ok (.getfield 9, 3) := by decide +kernel
theorem dX7_ordersOfBuilding_44 : decode cX7_ordersOfBuilding 44 = .ok (.iload 6, 2) := by decide +kernel
theorem dX7_ordersOfBuilding_46 : decode cX7_ordersOfBuilding 46 = .ok (.iconst 0, 1) := by decide +kernel
theorem dX7_ordersOfBuilding_47 : decode cX7_ordersOfBuilding 47 = .ok (.invokestatic 67, 3) := by decide +kernel
theorem dX7_ordersOfBuilding_50 : decode cX7_ordersOfBuilding 50 = .ok (.iinc 6 1, 3) := by decide +kernel
theorem dX7_ordersOfBuilding_53 : decode cX7_ordersOfBuilding 53 = .ok (.goto (-20), 3) := by decide +kernel
theorem dX7_ordersOfBuilding_56 : decode cX7_ordersOfBuilding 56 = .ok (.iload_n 2, 1) := by decide +kernel
theorem dX7_ordersOfBuilding_57 : decode cX7_ordersOfBuilding 57 = .ok (.istore 6, 2) := by decide +kernel
theorem dX7_ordersOfBuilding_59 : decode cX7_ordersOfBuilding 59 = .ok (.iload 6, 2) := by decide +kernel
theorem dX7_ordersOfBuilding_61 : decode cX7_ordersOfBuilding 61 = .ok (.iload 4, 2) := by decide +kernel
theorem dX7_ordersOfBuilding_63 : decode cX7_ordersOfBuilding 63 = .ok (.if_icmp .gt 141, 3) := by decide +kernel
theorem dX7_ordersOfBuilding_66 : decode cX7_ordersOfBuilding 66 = .ok (.iload 6, 2) := by decide +kernel
theorem dX7_ordersOfBuilding_68 : decode cX7_ordersOfBuilding 68 = .ok (.bipush 20, 2) := by decide +kernel
theorem dX7_ordersOfBuilding_70 : decode cX7_ordersOfBuilding 70 = .ok (.if_icmp .gt 134, 3) := by decide +kernel
theorem dX7_ordersOfBuilding_73 : decode cX7_ordersOfBuilding 73 = .ok (.iload_n 3, 1) := by decide +kernel
theorem dX7_ordersOfBuilding_74 : decode cX7_ordersOfBuilding 74 = .ok (.istore 7, 2) := by decide +kernel
theorem dX7_ordersOfBuilding_76 : decode cX7_ordersOfBuilding 76 = .ok (.iload 7, 2) := by decide +kernel
theorem dX7_ordersOfBuilding_78 : decode cX7_ordersOfBuilding 78 = .ok (.iload 5, 2) := by decide +kernel
theorem dX7_ordersOfBuilding_80 : decode cX7_ordersOfBuilding 80 = .ok (.if_icmp .gt 118, 3) := by decide +kernel
theorem dX7_ordersOfBuilding_83 : decode cX7_ordersOfBuilding 83 = .ok (.iload 7, 2) := by decide +kernel
theorem dX7_ordersOfBuilding_85 : decode cX7_ordersOfBuilding 85 = .ok (.bipush 20, 2) := by decide +kernel
theorem dX7_ordersOfBuilding_87 : decode cX7_ordersOfBuilding 87 = .ok (.if_icmp .gt 111, 3) := by decide +kernel
theorem dX7_ordersOfBuilding_90 : decode cX7_ordersOfBuilding 90 = .ok (.aload_n 0, 1) := by decide +kernel
theorem dX7_ordersOfBuilding_91 : decode cX7_ordersOfBuilding 91 = .ok (.getfield 9, 3) := by decide +kernel
theorem dX7_ordersOfBuilding_94 : decode cX7_ordersOfBuilding 94 = .ok (.iload 7, 2) := by decide +kernel
theorem dX7_ordersOfBuilding_96 : decode cX7_ordersOfBuilding 96 = .ok (.invokestatic 71, 3) := by decide +kernel
theorem dX7_ordersOfBuilding_99 : decode cX7_ordersOfBuilding 99 = .ok (.iload 7, 2) := by decide +kernel
theorem dX7_ordersOfBuilding_101 : decode cX7_ordersOfBuilding 101 = .ok (.iload_n 3, 1) := by decide +kernel
theorem dX7_ordersOfBuilding_102 : decode cX7_ordersOfBuilding 102 = .ok (.if_icmp .le 17, 3) := by decide +kernel
theorem dX7_ordersOfBuilding_105 : decode cX7_ordersOfBuilding 105 = .ok (.aload_n 0, 1) := by decide +kernel
theorem dX7_ordersOfBuilding_106 : decode cX7_ordersOfBuilding 106 = .ok (.getfield 9, 3) := by decide +kernel
theorem dX7_ordersOfBuilding_109 : decode cX7_ordersOfBuilding 109 = .ok (.iload 7, 2) := by decide +kernel
theorem dX7_ordersOfBuilding_111 : decode cX7_ordersOfBuilding 111 = .ok (.iconst 1, 1) := by decide +kernel
theorem dX7_ordersOfBuilding_112 : decode cX7_ordersOfBuilding 112 = .ok (.isub, 1) := by decide +kernel
theorem dX7_ordersOfBuilding_113 : decode cX7_ordersOfBuilding 113 = .ok (.invokestatic 71, 3) := by decide +kernel
theorem dX7_ordersOfBuilding_116 : decode cX7_ordersOfBuilding 116 = .ok (.goto 4, 3) := by decide +kernel
theorem dX7_ordersOfBuilding_119 : decode cX7_ordersOfBuilding 119 = .ok (.iconst 0, 1) := by decide +kernel
theorem dX7_ordersOfBuilding_120 : decode cX7_ordersOfBuilding 120 = .ok (.iadd, 1) := by decide +kernel
theorem dX7_ordersOfBuilding_121 : decode cX7_ordersOfBuilding 121 = .ok (.istore 8, 2) := by decide +kernel
theorem dX7_ordersOfBuilding_123 : decode cX7_ordersOfBuilding 123 = .ok (.iload 6, 2) := by decide +kernel
theorem dX7_ordersOfBuilding_125 : decode cX7_ordersOfBuilding 125 = .ok (.iload_n 2, 1) := by decide +kernel
theorem dX7_ordersOfBuilding_126 : decode cX7_ordersOfBuilding 126 = .ok (.if_icmp .ne 15, 3) := by decide +kernel
theorem dX7_ordersOfBuilding_129 : decode cX7_ordersOfBuilding 129 = .ok (.iload 7, 2) := by decide +kernel
theorem dX7_ordersOfBuilding_131 : decode cX7_ordersOfBuilding 131 = .ok (.iload_n 3, 1) := by decide +kernel
theorem dX7_ordersOfBuilding_132 : decode cX7_ordersOfBuilding 132 = .ok (.if_icmp .ne 9, 3) := by decide +kernel
theorem dX7_ordersOfBuilding_135 : decode cX7_ordersOfBuilding 135 = .ok (.iconst 1, 1) := by decide +kernel
theorem dX7_ordersOfBuilding_136 : decode cX7_ordersOfBuilding 136 = .ok (.istore 8, 2) := by decide +kernel
theorem dX7_ordersOfBuilding_138 : decode cX7_ordersOfBuilding 138 = .ok (.goto 38, 3) := by decide +kernel
theorem dX7_ordersOfBuilding_141 : decode cX7_ordersOfBuilding 141 = .ok (.iload 6, 2) := by decide +kernel
theorem dX7_ordersOfBuilding_143 : decode cX7_ordersOfBuilding 143 = .ok (.iload 4, 2) := by decide +kernel
theorem dX7_ordersOfBuilding_145 : decode cX7_ordersOfBuilding 145 = .ok (.if_icmp .ge 12, 3) := by decide +kernel
theorem dX7_ordersOfBuilding_148 : decode cX7_ordersOfBuilding 148 = .ok (.iload 7, 2) := by decide +kernel
theorem dX7_ordersOfBuilding_150 : decode cX7_ordersOfBuilding 150 = .ok (.iload 6, 2) := by decide +kernel
theorem dX7_ordersOfBuilding_152 : decode cX7_ordersOfBuilding 152 = .ok (.isub, 1) := by decide +kernel
theorem dX7_ordersOfBuilding_153 : decode cX7_ordersOfBuilding 153 = .ok (.iconst 1, 1) := by decide +kernel
theorem dX7_ordersOfBuilding_154 : decode cX7_ordersOfBuilding 154 = .ok (.if_icmp .gt 19, 3) := by decide +kernel
theorem dX7_ordersOfBuilding_157 : decode cX7_ordersOfBuilding 157 = .ok (.iload 7, 2) := by decide +kernel
theorem dX7_ordersOfBuilding_159 : decode cX7_ordersOfBuilding 159 = .ok (.iload 5, 2) := by decide +kernel
theorem dX7_ordersOfBuilding_161 : decode cX7_ordersOfBuilding 161 = .ok (.if_icmp .ge 15, 3) := by decide +kernel
theorem dX7_ordersOfBuilding_164 : decode cX7_ordersOfBuilding 164 = .ok (.iload 6, 2) := by decide +kernel
theorem dX7_ordersOfBuilding_166 : decode cX7_ordersOfBuilding 166 = .ok (.iload 7, 2) := by decide +kernel
theorem dX7_ordersOfBuilding_168 : decode cX7_ordersOfBuilding 168 = .ok (.isub, 1) := by decide +kernel
theorem dX7_ordersOfBuilding_169 : decode cX7_ordersOfBuilding 169 = .ok (.iconst 1, 1) := by decide +kernel
theorem dX7_ordersOfBuilding_170 : decode cX7_ordersOfBuilding 170 = .ok (.if_icmp .le 6, 3) := by decide +kernel
theorem dX7_ordersOfBuilding_173 : decode cX7_ordersOfBuilding 173 = .ok (.iconst 0, 1) := by decide +kernel
theorem dX7_ordersOfBuilding_174 : decode cX7_ordersOfBuilding 174 = .ok (.istore 8, 2) := by decide +kernel
theorem dX7_ordersOfBuilding_176 : decode cX7_ordersOfBuilding 176 = .ok (.aload_n 0, 1) := by decide +kernel
theorem dX7_ordersOfBuilding_177 : decode cX7_ordersOfBuilding 177 = .ok (.getfield 9, 3) := by decide +kernel
theorem dX7_ordersOfBuilding_180 : decode cX7_ordersOfBuilding 180 = .ok (.iload 7, 2) := by decide +kernel
theorem dX7_ordersOfBuilding_182 : decode cX7_ordersOfBuilding 182 = .ok (.iload 8, 2) := by decide +kernel
theorem dX7_ordersOfBuilding_184 : decode cX7_ordersOfBuilding 184 = .ok (.ldc 75, 2) := by decide +kernel
theorem dX7_ordersOfBuilding_186 : decode cX7_ordersOfBuilding 186 = .ok (.invokestatic 46, 3) := by decide +kernel
theorem dX7_ordersOfBuilding_189 : decode cX7_ordersOfBuilding 189 = .ok (.invokestatic 67, 3) := by decide +kernel
theorem dX7_ordersOfBuilding_192 : decode cX7_ordersOfBuilding 192 = .ok (.iinc 7 1, 3) := by decide +kernel
theorem dX7_ordersOfBuilding_195 : decode cX7_ordersOfBuilding 195 = .ok (.goto (-119), 3) := by decide +kernel
theorem dX7_ordersOfBuilding_198 : decode cX7_ordersOfBuilding 198 = .ok (.iinc 6 1, 3) := by decide +kernel
theorem dX7_ordersOfBuilding_201 : decode cX7_ordersOfBuilding 201 = .ok (.goto (-142), 3) := by decide +kernel
theorem dX7_ordersOfBuilding_204 : decode cX7_ordersOfBuilding 204 = .ok (.aload_n 0, 1) := by decide +kernel
theorem dX7_ordersOfBuilding_205 : decode cX7_ordersOfBuilding 205 = .ok (.getfield 9, 3) := by decide +kernel
theorem dX7_ordersOfBuilding_208 : decode cX7_ordersOfBuilding 208 = .ok (.iload 5, 2) := by decide +kernel
theorem dX7_ordersOfBuilding_210 : decode cX7_ordersOfBuilding 210 = .ok (.invokestatic 71, 3) := by decide +kernel
theorem dX7_ordersOfBuilding_213 : decode cX7_ordersOfBuilding 213 = .ok (.ireturn, 1) := by decide +kernel
theorem dX7_fliesOver_0 : decode cX7_fliesOver 0 = .ok (.iconst 0, 1) := by decide +kernel
theorem dX7_fliesOver_1 : decode cX7_fliesOver 1 = .ok (.istore 5, 2) := by decide +kernel
theorem dX7_fliesOver_3 : decode cX7_fliesOver 3 = .ok (.iload_n 2, 1) := by decide +kernel
theorem dX7_fliesOver_4 : decode cX7_fliesOver 4 = .ok (.istore 6, 2) := by decide +kernel
theorem dX7_fliesOver_6 : decode cX7_fliesOver 6 = .ok (.iload 4, 2) := by decide +kernel
theorem dX7_fliesOver_8 : decode cX7_fliesOver 8 = .ok (.istore 7, 2) := by decide +kernel
theorem dX7_fliesOver_10 : decode cX7_fliesOver 10 = .ok (.iconst 1, 1) := by decide +kernel
theorem dX7_fliesOver_11 : decode cX7_fliesOver 11 = .ok (.istore 8, 2) := by decide +kernel
theorem dX7_fliesOver_13 : decode cX7_fliesOver 13 = .ok (.iload 8, 2) := by decide +kernel
theorem dX7_fliesOver_15 : decode cX7_fliesOver 15 = .ok (.sipush 200, 3) := by decide +kernel
theorem dX7_fliesOver_18 : decode cX7_fliesOver 18 = .ok (.if_icmp .gt 50, 3) := by decide +kernel
theorem dX7_fliesOver_21 : decode cX7_fliesOver 21 = .ok (.iload 5, 2) := by decide +kernel
theorem dX7_fliesOver_23 : decode cX7_fliesOver 23 = .ok (.iload_n 3, 1) := by decide +kernel
theorem dX7_fliesOver_24 : decode cX7_fliesOver 24 = .ok (.iadd, 1) := by decide +kernel
theorem dX7_fliesOver_25 : decode cX7_fliesOver 25 = .ok (.istore 5, 2) := by decide +kernel
theorem dX7_fliesOver_27 : decode cX7_fliesOver 27 = .ok (.iload 6, 2) := by decide +kernel
theorem dX7_fliesOver_29 : decode cX7_fliesOver 29 = .ok (.iload 7, 2) := by decide +kernel
theorem dX7_fliesOver_31 : decode cX7_fliesOver 31 = .ok (.iadd, 1) := by decide +kernel
theorem dX7_fliesOver_32 : decode cX7_fliesOver 32 = .ok (.istore 6, 2) := by decide +kernel
theorem dX7_fliesOver_34 : decode cX7_fliesOver 34 = .ok (.iinc 7 (-1), 3) := by decide +kernel
theorem dX7_fliesOver_37 : decode cX7_fliesOver 37 = .ok (.iload 5, 2) := by decide +kernel
theorem dX7_fliesOver_39 : decode cX7_fliesOver 39 = .ok (.iload_n 0, 1) := by decide +kernel
theorem dX7_fliesOver_40 : decode cX7_fliesOver 40 = .ok (.if_icmp .lt 15, 3) := by decide +kernel
theorem dX7_fliesOver_43 : decode cX7_fliesOver 43 = .ok (.iload 6, 2) := by decide +kernel
theorem dX7_fliesOver_45 : decode cX7_fliesOver 45 = .ok (.iload_n 1, 1) := by decide +kernel
theorem dX7_fliesOver_46 : decode cX7_fliesOver 46 = .ok (.if_icmp .lt 7, 3) := by decide +kernel
theorem dX7_fliesOver_49 : decode cX7_fliesOver 49 = .ok (.iconst 1, 1) := by decide +kernel
theorem dX7_fliesOver_50 : decode cX7_fliesOver 50 = .ok (.goto 4, 3) := by decide +kernel
theorem dX7_fliesOver_53 : decode cX7_fliesOver 53 = .ok (.iconst 0, 1) := by decide +kernel
theorem dX7_fliesOver_54 : decode cX7_fliesOver 54 = .ok (.ireturn, 1) := by decide +kernel
theorem dX7_fliesOver_55 : decode cX7_fliesOver 55 = .ok (.iload 6, 2) := by decide +kernel
theorem dX7_fliesOver_57 : decode cX7_fliesOver 57 = .ok (.ifCond .ge 5, 3) := by decide +kernel
theorem dX7_fliesOver_60 : decode cX7_fliesOver 60 = .ok (.iconst 0, 1) := by decide +kernel
theorem dX7_fliesOver_61 : decode cX7_fliesOver 61 = .ok (.ireturn, 1) := by decide +kernel
theorem dX7_fliesOver_62 : decode cX7_fliesOver 62 = .ok (.iinc 8 1, 3) := by decide +kernel
theorem dX7_fliesOver_65 : decode cX7_fliesOver 65 = .ok (.goto (-52), 3) := by decide +kernel
theorem dX7_fliesOver_68 : decode cX7_fliesOver 68 = .ok (.iconst 0, 1) := by decide +kernel
theorem dX7_fliesOver_69 : decode cX7_fliesOver 69 = .ok (.ireturn, 1) := by decide +kernel
theorem dX7_lastPile_0 : decode cX7_lastPile 0 = .ok (.aload_n 0, 1) := by decide +kernel
theorem dX7_lastPile_1 : decode cX7_lastPile 1 = .ok (.getfield 15, 3) := by decide +kernel
theorem dX7_lastPile_4 : decode cX7_lastPile 4 = .ok (.iconst 0, 1) := by decide +kernel
theorem dX7_lastPile_5 : decode cX7_lastPile 5 = .ok (.iconst 0, 1) := by decide +kernel
theorem dX7_lastPile_6 : decode cX7_lastPile 6 = .ok (.invokestatic 67, 3) := by decide +kernel
theorem dX7_lastPile_9 : decode cX7_lastPile 9 = .ok (.sipush 1000, 3) := by decide +kernel
theorem dX7_lastPile_12 : decode cX7_lastPile 12 = .ok (.istore 4, 2) := by decide +kernel
theorem dX7_lastPile_14 : decode cX7_lastPile 14 = .ok (.bipush (-2), 2) := by decide +kernel
theorem dX7_lastPile_16 : decode cX7_lastPile 16 = .ok (.istore 5, 2) := by decide +kernel
theorem dX7_lastPile_18 : decode cX7_lastPile 18 = .ok (.iconst 0, 1) := by decide +kernel
theorem dX7_lastPile_19 : decode cX7_lastPile 19 = .ok (.istore 6, 2) := by decide +kernel
theorem dX7_lastPile_21 : decode cX7_lastPile 21 = .ok (.iload 6, 2) := by decide +kernel
theorem dX7_lastPile_23 : decode cX7_lastPile 23 = .ok (.iload_n 2, 1) := by decide +kernel
theorem dX7_lastPile_24 : decode cX7_lastPile 24 = .ok (.if_icmp .ge 69, 3) := by decide +kernel
theorem dX7_lastPile_27 : decode cX7_lastPile 27 = .ok (.iload 6, 2) := by decide +kernel
theorem dX7_lastPile_29 : decode cX7_lastPile 29 = .ok (.bipush 61, 2) := by decide +kernel
theorem dX7_lastPile_31 : decode cX7_lastPile 31 = .ok (.if_icmp .ge 62, 3) := by decide +kernel
theorem dX7_lastPile_34 : decode cX7_lastPile 34 = .ok (.iload 6, 2) := by decide +kernel
theorem dX7_lastPile_36 : decode cX7_lastPile 36 = .ok (.ifCond .le 20, 3) := by decide +kernel
theorem dX7_lastPile_39 : decode cX7_lastPile 39 = .ok (.aload_n 0, 1) := by decide +kernel
theorem dX7_lastPile_40 : decode cX7_lastPile 40 = .ok (.getfield 15, 3) := by decide +kernel
theorem dX7_lastPile_43 : decode cX7_lastPile 43 = .ok (.iload 6, 2) := by decide +kernel
theorem dX7_lastPile_45 : decode cX7_lastPile 45 = .ok (.aload_n 0, 1) := by decide +kernel
theorem dX7_lastPile_46 : decode cX7_lastPile 46 = .ok (.aload_n 1, 1) := by decide +kernel
theorem dX7_lastPile_47 : decode cX7_lastPile 47 = .ok (.iload 6, 2) := by decide +kernel
theorem dX7_lastPile_49 : decode cX7_lastPile 49 = .ok (.iload_n 3, 1) := by decide +kernel
theorem dX7_lastPile_50 : decode cX7_lastPile 50 = .ok (.invokevirtual 76, 3) := by decide +kernel
theorem dX7_lastPile_53 : decode cX7_lastPile 53 = .ok (.invokestatic 67, 3) := by decide +kernel
theorem dX7_lastPile_56 : decode cX7_lastPile 56 = .ok (.iload_n 2, 1) := by decide +kernel
theorem dX7_lastPile_57 : decode cX7_lastPile 57 = .ok (.iload 6, 2) := by decide +kernel
theorem dX7_lastPile_59 : decode cX7_lastPile 59 = .ok (.isub, 1) := by decide +kernel
theorem dX7_lastPile_60 : decode cX7_lastPile 60 = .ok (.iload_n 3, 1) := by decide +kernel
theorem dX7_lastPile_61 : decode cX7_lastPile 61 = .ok (.if_icmp .gt 26, 3) := by decide +kernel
theorem dX7_lastPile_64 : decode cX7_lastPile 64 = .ok (.aload_n 0, 1) := by decide +kernel
theorem dX7_lastPile_65 : decode cX7_lastPile 65 = .ok (.iload 6, 2) := by decide +kernel
theorem dX7_lastPile_67 : decode cX7_lastPile 67 = .ok (.invokevirtual 80, 3) := by decide +kernel
theorem dX7_lastPile_70 : decode cX7_lastPile 70 = .ok (.iload 4, 2) := by decide +kernel
theorem dX7_lastPile_72 : decode cX7_lastPile 72 = .ok (.if_icmp .ge 15, 3) := by decide +kernel
theorem dX7_lastPile_75 : decode cX7_lastPile 75 = .ok (.aload_n 0, 1) := by decide +kernel
theorem dX7_lastPile_76 : decode cX7_lastPile 76 = .ok (.iload 6, 2) := by decide +kernel
theorem dX7_lastPile_78 : decode cX7_lastPile 78 = .ok (.invokevirtual 80, 3) := by decide +kernel
theorem dX7_lastPile_81 : decode cX7_lastPile 81 = .ok (.istore 4, 2) := by decide +kernel
theorem dX7_lastPile_83 : decode cX7_lastPile 83 = .ok (.iload 6, 2) := by decide +kernel
theorem dX7_lastPile_85 : decode cX7_lastPile 85 = .ok (.istore 5, 2) := by decide +kernel
theorem dX7_lastPile_87 : decode cX7_lastPile 87 = .ok (.iinc 6 1, 3) := by decide +kernel
theorem dX7_lastPile_90 : decode cX7_lastPile 90 = .ok (.goto (-69), 3) := by decide +kernel
theorem dX7_lastPile_93 : decode cX7_lastPile 93 = .ok (.iload 5, 2) := by decide +kernel
theorem dX7_lastPile_95 : decode cX7_lastPile 95 = .ok (.ireturn, 1) := by decide +kernel
theorem dX7_pilesUpTo_0 : decode cX7_pilesUpTo 0 = .ok (.aload_n 0, 1) := by decide +kernel
theorem dX7_pilesUpTo_1 : decode cX7_pilesUpTo 1 = .ok (.getfield 15, 3) := by decide +kernel
theorem dX7_pilesUpTo_4 : decode cX7_pilesUpTo 4 = .ok (.iload_n 1, 1) := by decide +kernel
theorem dX7_pilesUpTo_5 : decode cX7_pilesUpTo 5 = .ok (.invokestatic 71, 3) := by decide +kernel
theorem dX7_pilesUpTo_8 : decode cX7_pilesUpTo 8 = .ok (.ireturn, 1) := by decide +kernel
theorem dX7_pilesWithLast_0 : decode cX7_pilesWithLast 0 = .ok (.aload_n 1, 1) := by decide +kernel
theorem dX7_pilesWithLast_1 : decode cX7_pilesWithLast 1 = .ok (.iload_n 2, 1) := by decide +kernel
theorem dX7_pilesWithLast_2 : decode cX7_pilesWithLast 2 = .ok (.bipush 8, 2) := by decide +kernel
theorem dX7_pilesWithLast_4 : decode cX7_pilesWithLast 4 = .ok (.idiv, 1) := by decide +kernel
theorem dX7_pilesWithLast_5 : decode cX7_pilesWithLast 5 = .ok (.invokevirtual 43, 3) := by decide +kernel
theorem dX7_pilesWithLast_8 : decode cX7_pilesWithLast 8 = .ok (.iload_n 2, 1) := by decide +kernel
theorem dX7_pilesWithLast_9 : decode cX7_pilesWithLast 9 = .ok (.bipush 8, 2) := by decide +kernel
theorem dX7_pilesWithLast_11 : decode cX7_pilesWithLast 11 = .ok (.irem, 1) := by decide +kernel
theorem dX7_pilesWithLast_12 : decode cX7_pilesWithLast 12 = .ok (.ishr, 1) := by decide +kernel
theorem dX7_pilesWithLast_13 : decode cX7_pilesWithLast 13 = .ok (.iconst 1, 1) := by decide +kernel
theorem dX7_pilesWithLast_14 : decode cX7_pilesWithLast 14 = .ok (.iand, 1) := by decide +kernel
theorem dX7_pilesWithLast_15 : decode cX7_pilesWithLast 15 = .ok (.ifCond .ne 7, 3) := by decide +kernel
theorem dX7_pilesWithLast_18 : decode cX7_pilesWithLast 18 = .ok (.sipush 1000, 3) := by decide +kernel
theorem dX7_pilesWithLast_21 : decode cX7_pilesWithLast 21 = .ok (.ireturn, 1) := by decide +kernel
theorem dX7_pilesWithLast_22 : decode cX7_pilesWithLast 22 = .ok (.sipush 999, 3) := by decide +kernel
theorem dX7_pilesWithLast_25 : decode cX7_pilesWithLast 25 = .ok (.istore 4, 2) := by decide +kernel
theorem dX7_pilesWithLast_27 : decode cX7_pilesWithLast 27 = .ok (.iconst 0, 1) := by decide +kernel
theorem dX7_pilesWithLast_28 : decode cX7_pilesWithLast 28 = .ok (.iload_n 2, 1) := by decide +kernel
theorem dX7_pilesWithLast_29 : decode cX7_pilesWithLast 29 = .ok (.iload_n 3, 1) := by decide +kernel
theorem dX7_pilesWithLast_30 : decode cX7_pilesWithLast 30 = .ok (.isub, 1) := by decide +kernel
theorem dX7_pilesWithLast_31 : decode cX7_pilesWithLast 31 = .ok (.invokestatic 83, 3) := by decide +kernel
theorem dX7_pilesWithLast_34 : decode cX7_pilesWithLast 34 = .ok (.istore 5, 2) := by decide +kernel
theorem dX7_pilesWithLast_36 : decode cX7_pilesWithLast 36 = .ok (.iload 5, 2) := by decide +kernel
theorem dX7_pilesWithLast_38 : decode cX7_pilesWithLast 38 = .ok (.iload_n 2, 1) := by decide +kernel
theorem dX7_pilesWithLast_39 : decode cX7_pilesWithLast 39 = .ok (.if_icmp .ge 22, 3) := by decide +kernel
theorem dX7_pilesWithLast_42 : decode cX7_pilesWithLast 42 = .ok (.iload 4, 2) := by decide +kernel
theorem dX7_pilesWithLast_44 : decode cX7_pilesWithLast 44 = .ok (.aload_n 0, 1) := by decide +kernel
theorem dX7_pilesWithLast_45 : decode cX7_pilesWithLast 45 = .ok (.iload 5, 2) := by decide +kernel
theorem dX7_pilesWithLast_47 : decode cX7_pilesWithLast 47 = .ok (.invokevirtual 80, 3) := by decide +kernel
theorem dX7_pilesWithLast_50 : decode cX7_pilesWithLast 50 = .ok (.invokestatic 46, 3) := by decide +kernel
theorem dX7_pilesWithLast_53 : decode cX7_pilesWithLast 53 = .ok (.istore 4, 2) := by decide +kernel
theorem dX7_pilesWithLast_55 : decode cX7_pilesWithLast 55 = .ok (.iinc 5 1, 3) := by decide +kernel
theorem dX7_pilesWithLast_58 : decode cX7_pilesWithLast 58 = .ok (.goto (-22), 3) := by decide +kernel
theorem dX7_pilesWithLast_61 : decode cX7_pilesWithLast 61 = .ok (.iload 4, 2) := by decide +kernel
theorem dX7_pilesWithLast_63 : decode cX7_pilesWithLast 63 = .ok (.iconst 1, 1) := by decide +kernel
theorem dX7_pilesWithLast_64 : decode cX7_pilesWithLast 64 = .ok (.iadd, 1) := by decide +kernel
theorem dX7_pilesWithLast_65 : decode cX7_pilesWithLast 65 = .ok (.ireturn, 1) := by decide +kernel
theorem dX7_fewestLamps_0 : decode cX7_fewestLamps 0 = .ok (.iconst 1, 1) := by decide +kernel
theorem dX7_fewestLamps_1 : decode cX7_fewestLamps 1 = .ok (.iload_n 1, 1) := by decide +kernel
theorem dX7_fewestLamps_2 : decode cX7_fewestLamps 2 = .ok (.ishl, 1) := by decide +kernel
theorem dX7_fewestLamps_3 : decode cX7_fewestLamps 3 = .ok (.iconst 1, 1) := by decide +kernel
theorem dX7_fewestLamps_4 : decode cX7_fewestLamps 4 = .ok (.isub, 1) := by decide +kernel
theorem dX7_fewestLamps_5 : decode cX7_fewestLamps 5 = .ok (.istore_n 3, 1) := by decide +kernel
theorem dX7_fewestLamps_6 : decode cX7_fewestLamps 6 = .ok (.iload_n 1, 1) := by decide +kernel
theorem dX7_fewestLamps_7 : decode cX7_fewestLamps 7 = .ok (.iconst 1, 1) := by decide +kernel
theorem dX7_fewestLamps_8 : decode cX7_fewestLamps 8 = .ok (.iadd, 1) := by decide +kernel
theorem dX7_fewestLamps_9 : decode cX7_fewestLamps 9 = .ok (.istore 4, 2) := by decide +kernel
theorem dX7_fewestLamps_11 : decode cX7_fewestLamps 11 = .ok (.bipush (-2), 2) := by decide +kernel
theorem dX7_fewestLamps_13 : decode cX7_fewestLamps 13 = .ok (.istore 5, 2) := by decide +kernel
theorem dX7_fewestLamps_15 : decode cX7_fewestLamps 15 = .ok (.iconst 1, 1) := by decide +kernel
theorem dX7_fewestLamps_16 : decode cX7_fewestLamps 16 = .ok (.istore 6, 2) := by decide +kernel
theorem dX7_fewestLamps_18 : decode cX7_fewestLamps 18 = .ok (.iload 6, 2) := by decide +kernel
theorem dX7_fewestLamps_20 : decode cX7_fewestLamps 20 = .ok (.iload_n 3, 1) := by decide +kernel
theorem dX7_fewestLamps_21 : decode cX7_fewestLamps 21 = .ok (.if_icmp .gt 51, 3) := by decide +kernel
theorem dX7_fewestLamps_24 : decode cX7_fewestLamps 24 = .ok (.iload 6, 2) := by decide +kernel
theorem dX7_fewestLamps_26 : decode cX7_fewestLamps 26 = .ok (.sipush 4096, 3) := by decide +kernel
theorem dX7_fewestLamps_29 : decode cX7_fewestLamps 29 = .ok (.if_icmp .ge 43, 3) := by decide +kernel
theorem dX7_fewestLamps_32 : decode cX7_fewestLamps 32 = .ok (.iload 6, 2) := by decide +kernel
theorem dX7_fewestLamps_34 : decode cX7_fewestLamps 34 = .ok (.invokestatic 86, 3) := by decide +kernel
theorem dX7_fewestLamps_37 : decode cX7_fewestLamps 37 = .ok (.istore 7, 2) := by decide +kernel
theorem dX7_fewestLamps_39 : decode cX7_fewestLamps 39 = .ok (.iload 7, 2) := by decide +kernel
theorem dX7_fewestLamps_41 : decode cX7_fewestLamps 41 = .ok (.iload 4, 2) := by decide +kernel
theorem dX7_fewestLamps_43 : decode cX7_fewestLamps 43 = .ok (.if_icmp .ge 23, 3) := by decide +kernel
theorem dX7_fewestLamps_46 : decode cX7_fewestLamps 46 = .ok (.aload_n 0, 1) := by decide +kernel
theorem dX7_fewestLamps_47 : decode cX7_fewestLamps 47 = .ok (.iload 6, 2) := by decide +kernel
theorem dX7_fewestLamps_49 : decode cX7_fewestLamps 49 = .ok (.iload_n 1, 1) := by decide +kernel
theorem dX7_fewestLamps_50 : decode cX7_fewestLamps 50 = .ok (.iload_n 2, 1) := by decide +kernel
theorem dX7_fewestLamps_51 : decode cX7_fewestLamps 51 = .ok (.invokestatic 91, 3) := by decide +kernel
theorem dX7_fewestLamps_54 : decode cX7_fewestLamps 54 = .ok (.iload_n 3, 1) := by decide +kernel
theorem dX7_fewestLamps_55 : decode cX7_fewestLamps 55 = .ok (.if_icmp .ne 11, 3) := by decide +kernel
theorem dX7_fewestLamps_58 : decode cX7_fewestLamps 58 = .ok (.iload 7, 2) := by decide +kernel
theorem dX7_fewestLamps_60 : decode cX7_fewestLamps 60 = .ok (.istore 4, 2) := by decide +kernel
theorem dX7_fewestLamps_62 : decode cX7_fewestLamps 62 = .ok (.iload 6, 2) := by decide +kernel
theorem dX7_fewestLamps_64 : decode cX7_fewestLamps 64 = .ok (.istore 5, 2) := by decide +kernel
theorem dX7_fewestLamps_66 : decode cX7_fewestLamps 66 = .ok (.iinc 6 1, 3) := by decide +kernel
theorem dX7_fewestLamps_69 : decode cX7_fewestLamps 69 = .ok (.goto (-51), 3) := by decide +kernel
theorem dX7_fewestLamps_72 : decode cX7_fewestLamps 72 = .ok (.iload 5, 2) := by decide +kernel
theorem dX7_fewestLamps_74 : decode cX7_fewestLamps 74 = .ok (.ireturn, 1) := by decide +kernel
theorem dX7_litBy_0 : decode cX7_litBy 0 = .ok (.iconst 0, 1) := by decide +kernel
theorem dX7_litBy_1 : decode cX7_litBy 1 = .ok (.istore 4, 2) := by decide +kernel
theorem dX7_litBy_3 : decode cX7_litBy 3 = .ok (.iconst 0, 1) := by decide +kernel
theorem dX7_litBy_4 : decode cX7_litBy 4 = .ok (.istore 5, 2) := by decide +kernel
theorem dX7_litBy_6 : decode cX7_litBy 6 = .ok (.iload 5, 2) := by decide +kernel
theorem dX7_litBy_8 : decode cX7_litBy 8 = .ok (.iload_n 2, 1) := by decide +kernel
theorem dX7_litBy_9 : decode cX7_litBy 9 = .ok (.if_icmp .ge 68, 3) := by decide +kernel
theorem dX7_litBy_12 : decode cX7_litBy 12 = .ok (.iload_n 1, 1) := by decide +kernel
theorem dX7_litBy_13 : decode cX7_litBy 13 = .ok (.iload 5, 2) := by decide +kernel
theorem dX7_litBy_15 : decode cX7_litBy 15 = .ok (.ishr, 1) := by decide +kernel
theorem dX7_litBy_16 : decode cX7_litBy 16 = .ok (.iconst 1, 1) := by decide +kernel
theorem dX7_litBy_17 : decode cX7_litBy 17 = .ok (.iand, 1) := by decide +kernel
theorem dX7_litBy_18 : decode cX7_litBy 18 = .ok (.ifCond .eq 53, 3) := by decide +kernel
theorem dX7_litBy_21 : decode cX7_litBy 21 = .ok (.aload_n 0, 1) := by decide +kernel
theorem dX7_litBy_22 : decode cX7_litBy 22 = .ok (.iload 5, 2) := by decide +kernel
theorem dX7_litBy_24 : decode cX7_litBy 24 = .ok (.invokevirtual 43, 3) := by decide +kernel
theorem dX7_litBy_27 : decode cX7_litBy 27 = .ok (.ifCond .ne 5, 3) := by decide +kernel
theorem dX7_litBy_30 : decode cX7_litBy 30 = .ok (.iconst 0, 1) := by decide +kernel
theorem dX7_litBy_31 : decode cX7_litBy 31 = .ok (.ireturn, 1) := by decide +kernel
theorem dX7_litBy_32 : decode cX7_litBy 32 = .ok (.iconst 1, 1) := by decide +kernel
theorem dX7_litBy_33 : decode cX7_litBy 33 = .ok (.iconst 2, 1) := by decide +kernel
theorem dX7_litBy_34 : decode cX7_litBy 34 = .ok (.iload_n 3, 1) := by decide +kernel
theorem dX7_litBy_35 : decode cX7_litBy 35 = .ok (.imul, 1) := by decide +kernel
theorem dX7_litBy_36 : decode cX7_litBy 36 = .ok (.iconst 1, 1) := by decide +kernel
theorem dX7_litBy_37 : decode cX7_litBy 37 = .ok (.iadd, 1) := by decide +kernel
theorem dX7_litBy_38 : decode cX7_litBy 38 = .ok (.ishl, 1) := by decide +kernel
theorem dX7_litBy_39 : decode cX7_litBy 39 = .ok (.iconst 1, 1) := by decide +kernel
theorem dX7_litBy_40 : decode cX7_litBy 40 = .ok (.isub, 1) := by decide +kernel
theorem dX7_litBy_41 : decode cX7_litBy 41 = .ok (.istore 6, 2) := by decide +kernel
theorem dX7_litBy_43 : decode cX7_litBy 43 = .ok (.iload 4, 2) := by decide +kernel
theorem dX7_litBy_45 : decode cX7_litBy 45 = .ok (.iload 5, 2) := by decide +kernel
theorem dX7_litBy_47 : decode cX7_litBy 47 = .ok (.iload_n 3, 1) := by decide +kernel
theorem dX7_litBy_48 : decode cX7_litBy 48 = .ok (.if_icmp .lt 13, 3) := by decide +kernel
theorem dX7_litBy_51 : decode cX7_litBy 51 = .ok (.iload 6, 2) := by decide +kernel
theorem dX7_litBy_53 : decode cX7_litBy 53 = .ok (.iload 5, 2) := by decide +kernel
theorem dX7_litBy_55 : decode cX7_litBy 55 = .ok (.iload_n 3, 1) := by decide +kernel
theorem dX7_litBy_56 : decode cX7_litBy 56 = .ok (.isub, 1) := by decide +kernel
theorem dX7_litBy_57 : decode cX7_litBy 57 = .ok (.ishl, 1) := by decide +kernel
theorem dX7_litBy_58 : decode cX7_litBy 58 = .ok (.goto 10, 3) := by decide +kernel
theorem dX7_litBy_61 : decode cX7_litBy 61 = .ok (.iload 6, 2) := by decide +kernel
theorem dX7_litBy_63 : decode cX7_litBy 63 = .ok (.iload_n 3, 1) := by decide +kernel
theorem dX7_litBy_64 : decode cX7_litBy 64 = .ok (.iload 5, 2) := by decide +kernel
theorem dX7_litBy_66 : decode cX7_litBy 66 = .ok (.isub, 1) := by decide +kernel
theorem dX7_litBy_67 : decode cX7_litBy 67 = .ok (.ishr, 1) := by decide +kernel
theorem dX7_litBy_68 : decode cX7_litBy 68 = .ok (.ior, 1) := by decide +kernel
theorem dX7_litBy_69 : decode cX7_litBy 69 = .ok (.istore 4, 2) := by decide +kernel
theorem dX7_litBy_71 : decode cX7_litBy 71 = .ok (.iinc 5 1, 3) := by decide +kernel
theorem dX7_litBy_74 : decode cX7_litBy 74 = .ok (.goto (-68), 3) := by decide +kernel
theorem dX7_litBy_77 : decode cX7_litBy 77 = .ok (.iload 4, 2) := by decide +kernel
theorem dX7_litBy_79 : decode cX7_litBy 79 = .ok (.iconst 1, 1) := by decide +kernel
theorem dX7_litBy_80 : decode cX7_litBy 80 = .ok (.iload_n 2, 1) := by decide +kernel
theorem dX7_litBy_81 : decode cX7_litBy 81 = .ok (.ishl, 1) := by decide +kernel
theorem dX7_litBy_82 : decode cX7_litBy 82 = .ok (.iconst 1, 1) := by decide +kernel
theorem dX7_litBy_83 : decode cX7_litBy 83 = .ok (.isub, 1) := by decide +kernel
theorem dX7_litBy_84 : decode cX7_litBy 84 = .ok (.iand, 1) := by decide +kernel
theorem dX7_litBy_85 : decode cX7_litBy 85 = .ok (.ireturn, 1) := by decide +kernel
theorem dX7_claimed_0 : decode cX7_claimed 0 = .ok (.sipush 255, 3) := by decide +kernel
theorem dX7_claimed_3 : decode cX7_claimed 3 = .ok (.istore_n 3, 1) := by decide +kernel
theorem dX7_claimed_4 : decode cX7_claimed 4 = .ok (.iconst 0, 1) := by decide +kernel
theorem dX7_claimed_5 : decode cX7_claimed 5 = .ok (.istore 4, 2) := by decide +kernel
theorem dX7_claimed_7 : decode cX7_claimed 7 = .ok (.iconst 0, 1) := by decide +kernel
theorem dX7_claimed_8 : decode cX7_claimed 8 = .ok (.istore 5, 2) := by decide +kernel
theorem dX7_claimed_10 : decode cX7_claimed 10 = .ok (.iload 5, 2) := by decide +kernel
theorem dX7_claimed_12 : decode cX7_claimed 12 = .ok (.iload_n 1, 1) := by decide +kernel
theorem dX7_claimed_13 : decode cX7_claimed 13 = .ok (.if_icmp .ge 39, 3) := by decide +kernel
theorem dX7_claimed_16 : decode cX7_claimed 16 = .ok (.iload_n 3, 1) := by decide +kernel
theorem dX7_claimed_17 : decode cX7_claimed 17 = .ok (.aload_n 0, 1) := by decide +kernel
theorem dX7_claimed_18 : decode cX7_claimed 18 = .ok (.iconst 2, 1) := by decide +kernel
theorem dX7_claimed_19 : decode cX7_claimed 19 = .ok (.iload 5, 2) := by decide +kernel
theorem dX7_claimed_21 : decode cX7_claimed 21 = .ok (.imul, 1) := by decide +kernel
theorem dX7_claimed_22 : decode cX7_claimed 22 = .ok (.invokevirtual 43, 3) := by decide +kernel
theorem dX7_claimed_25 : decode cX7_claimed 25 = .ok (.invokestatic 46, 3) := by decide +kernel
theorem dX7_claimed_28 : decode cX7_claimed 28 = .ok (.istore_n 3, 1) := by decide +kernel
theorem dX7_claimed_29 : decode cX7_claimed 29 = .ok (.iload 4, 2) := by decide +kernel
theorem dX7_claimed_31 : decode cX7_claimed 31 = .ok (.aload_n 0, 1) := by decide +kernel
theorem dX7_claimed_32 : decode cX7_claimed 32 = .ok (.iconst 2, 1) := by decide +kernel
theorem dX7_claimed_33 : decode cX7_claimed 33 = .ok (.iload 5, 2) := by decide +kernel
theorem dX7_claimed_35 : decode cX7_claimed 35 = .ok (.imul, 1) := by decide +kernel
theorem dX7_claimed_36 : decode cX7_claimed 36 = .ok (.iconst 1, 1) := by decide +kernel
theorem dX7_claimed_37 : decode cX7_claimed 37 = .ok (.iadd, 1) := by decide +kernel
theorem dX7_claimed_38 : decode cX7_claimed 38 = .ok (.invokevirtual 43, 3) := by decide +kernel
theorem dX7_claimed_41 : decode cX7_claimed 41 = .ok (.invokestatic 83, 3) := by decide +kernel
theorem dX7_claimed_44 : decode cX7_claimed 44 = .ok (.istore 4, 2) := by decide +kernel
theorem dX7_claimed_46 : decode cX7_claimed 46 = .ok (.iinc 5 1, 3) := by decide +kernel
theorem dX7_claimed_49 : decode cX7_claimed 49 = .ok (.goto (-39), 3) := by decide +kernel
theorem dX7_claimed_52 : decode cX7_claimed 52 = .ok (.iconst 0, 1) := by decide +kernel
theorem dX7_claimed_53 : decode cX7_claimed 53 = .ok (.istore 5, 2) := by decide +kernel
theorem dX7_claimed_55 : decode cX7_claimed 55 = .ok (.iconst 0, 1) := by decide +kernel
theorem dX7_claimed_56 : decode cX7_claimed 56 = .ok (.istore 6, 2) := by decide +kernel
theorem dX7_claimed_58 : decode cX7_claimed 58 = .ok (.iconst 0, 1) := by decide +kernel
theorem dX7_claimed_59 : decode cX7_claimed 59 = .ok (.istore 7, 2) := by decide +kernel
theorem dX7_claimed_61 : decode cX7_claimed 61 = .ok (.iload_n 3, 1) := by decide +kernel
theorem dX7_claimed_62 : decode cX7_claimed 62 = .ok (.istore 8, 2) := by decide +kernel
theorem dX7_claimed_64 : decode cX7_claimed 64 = .ok (.iload 8, 2) := by decide +kernel
theorem dX7_claimed_66 : decode cX7_claimed 66 = .ok (.iload 4, 2) := by decide +kernel
theorem dX7_claimed_68 : decode cX7_claimed 68 = .ok (.if_icmp .ge 87, 3) := by decide +kernel
theorem dX7_claimed_71 : decode cX7_claimed 71 = .ok (.iload 8, 2) := by decide +kernel
theorem dX7_claimed_73 : decode cX7_claimed 73 = .ok (.sipush 255, 3) := by decide +kernel
theorem dX7_claimed_76 : decode cX7_claimed 76 = .ok (.if_icmp .ge 79, 3) := by decide +kernel
theorem dX7_claimed_79 : decode cX7_claimed 79 = .ok (.aload_n 0, 1) := by decide +kernel
theorem dX7_claimed_80 : decode cX7_claimed 80 = .ok (.iload_n 1, 1) := by decide +kernel
theorem dX7_claimed_81 : decode cX7_claimed 81 = .ok (.iconst 0, 1) := by decide +kernel
