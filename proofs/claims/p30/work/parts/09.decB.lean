theorem dX8_init_0 : decode cX8_init 0 = .ok (.aload_n 0, 1) := by decide +kernel
theorem dX8_init_1 : decode cX8_init 1 = .ok (.invokespecial 1, 3) := by decide +kernel
theorem dX8_init_4 : decode cX8_init 4 = .ok (.aload_n 0, 1) := by decide +kernel
theorem dX8_init_5 : decode cX8_init 5 = .ok (.bipush 6, 2) := by decide +kernel
theorem dX8_init_7 : decode cX8_init 7 = .ok (.anewarray 9, 3) := by decide +kernel
theorem dX8_init_10 : decode cX8_init 10 = .ok (.putfield 11, 3) := by decide +kernel
theorem dX8_init_13 : decode cX8_init 13 = .ok (.aload_n 0, 1) := by decide +kernel
theorem dX8_init_14 : decode cX8_init 14 = .ok (.iconst 0, 1) := by decide +kernel
theorem dX8_init_15 : decode cX8_init 15 = .ok (.putfield 15, 3) := by decide +kernel
theorem dX8_init_18 : decode cX8_init 18 = .ok (.aload_n 0, 1) := by decide +kernel
theorem dX8_init_19 : decode cX8_init 19 = .ok (.new 19, 3) := by decide +kernel
theorem dX8_init_22 : decode cX8_init 22 = .ok (.dup, 1) := by decide +kernel
theorem dX8_init_23 : decode cX8_init 23 = .ok (.invokespecial 21, 3) := by decide +kernel
theorem dX8_init_26 : decode cX8_init 26 = .ok (.putfield 22, 3) := by decide +kernel
theorem dX8_init_29 : decode cX8_init 29 = .ok (.aload_n 0, 1) := by decide +kernel
theorem dX8_init_30 : decode cX8_init 30 = .ok (.new 26, 3) := by decide +kernel
theorem dX8_init_33 : decode cX8_init 33 = .ok (.dup, 1) := by decide +kernel
theorem dX8_init_34 : decode cX8_init 34 = .ok (.invokespecial 28, 3) := by decide +kernel
theorem dX8_init_37 : decode cX8_init 37 = .ok (.putfield 29, 3) := by decide +kernel
theorem dX8_init_40 : decode cX8_init 40 = .ok (.aload_n 0, 1) := by decide +kernel
theorem dX8_init_41 : decode cX8_init 41 = .ok (.new 26, 3) := by decide +kernel
theorem dX8_init_44 : decode cX8_init 44 = .ok (.dup, 1) := by decide +kernel
theorem dX8_init_45 : decode cX8_init 45 = .ok (.invokespecial 28, 3) := by decide +kernel
theorem dX8_init_48 : decode cX8_init 48 = .ok (.putfield 33, 3) := by decide +kernel
theorem dX8_init_51 : decode cX8_init 51 = .ok (.aload_n 0, 1) := by decide +kernel
theorem dX8_init_52 : decode cX8_init 52 = .ok (.new 36, 3) := by decide +kernel
theorem dX8_init_55 : decode cX8_init 55 = .ok (.dup, 1) := by decide +kernel
theorem dX8_init_56 : decode cX8_init 56 = .ok (.invokespecial 38, 3) := by decide +kernel
theorem dX8_init_59 : decode cX8_init 59 = .ok (.putfield 39, 3) := by decide +kernel
theorem dX8_init_62 : decode cX8_init 62 = .ok (.aload_n 0, 1) := by decide +kernel
theorem dX8_init_63 : decode cX8_init 63 = .ok (.new 36, 3) := by decide +kernel
theorem dX8_init_66 : decode cX8_init 66 = .ok (.dup, 1) := by decide +kernel
theorem dX8_init_67 : decode cX8_init 67 = .ok (.invokespecial 38, 3) := by decide +kernel
theorem dX8_init_70 : decode cX8_init 70 = .ok (.putfield 43, 3) := by decide +kernel
theorem dX8_init_73 : decode cX8_init 73 = .ok (.aload_n 0, 1) := by decide +kernel
theorem dX8_init_74 : decode cX8_init 74 = .ok (.bipush 12, 2) := by decide +kernel
theorem dX8_init_76 : decode cX8_init 76 = .ok (.anewarray 46, 3) := by decide +kernel
theorem dX8_init_79 : decode cX8_init 79 = .ok (.putfield 48, 3) := by decide +kernel
theorem dX8_init_82 : decode cX8_init 82 = .ok (.aload_n 0, 1) := by decide +kernel
theorem dX8_init_83 : decode cX8_init 83 = .ok (.iconst 0, 1) := by decide +kernel
theorem dX8_init_84 : decode cX8_init 84 = .ok (.putfield 52, 3) := by decide +kernel
theorem dX8_init_87 : decode cX8_init 87 = .ok (.aload_n 0, 1) := by decide +kernel
theorem dX8_init_88 : decode cX8_init 88 = .ok (.iconst 0, 1) := by decide +kernel
theorem dX8_init_89 : decode cX8_init 89 = .ok (.putfield 55, 3) := by decide +kernel
theorem dX8_init_92 : decode cX8_init 92 = .ok (.aload_n 0, 1) := by decide +kernel
theorem dX8_init_93 : decode cX8_init 93 = .ok (.iconst 2, 1) := by decide +kernel
theorem dX8_init_94 : decode cX8_init 94 = .ok (.anewarray 58, 3) := by decide +kernel
theorem dX8_init_97 : decode cX8_init 97 = .ok (.putfield 60, 3) := by decide +kernel
theorem dX8_init_100 : decode cX8_init 100 = .ok (.aload_n 0, 1) := by decide +kernel
theorem dX8_init_101 : decode cX8_init 101 = .ok (.iconst 0, 1) := by decide +kernel
theorem dX8_init_102 : decode cX8_init 102 = .ok (.putfield 64, 3) := by decide +kernel
theorem dX8_init_105 : decode cX8_init 105 = .ok (.aload_n 0, 1) := by decide +kernel
theorem dX8_init_106 : decode cX8_init 106 = .ok (.new 67, 3) := by decide +kernel
theorem dX8_init_109 : decode cX8_init 109 = .ok (.dup, 1) := by decide +kernel
theorem dX8_init_110 : decode cX8_init 110 = .ok (.invokespecial 69, 3) := by decide +kernel
theorem dX8_init_113 : decode cX8_init 113 = .ok (.putfield 70, 3) := by decide +kernel
theorem dX8_init_116 : decode cX8_init 116 = .ok (.aload_n 0, 1) := by decide +kernel
theorem dX8_init_117 : decode cX8_init 117 = .ok (.iconst 0, 1) := by decide +kernel
theorem dX8_init_118 : decode cX8_init 118 = .ok (.putfield 74, 3) := by decide +kernel
theorem dX8_init_121 : decode cX8_init 121 = .ok (.iconst 0, 1) := by decide +kernel
theorem dX8_init_122 : decode cX8_init 122 = .ok (.istore_n 1, 1) := by decide +kernel
theorem dX8_init_123 : decode cX8_init 123 = .ok (.iload_n 1, 1) := by decide +kernel
theorem dX8_init_124 : decode cX8_init 124 = .ok (.bipush 6, 2) := by decide +kernel
theorem dX8_init_126 : decode cX8_init 126 = .ok (.if_icmp .ge 22, 3) := by decide +kernel
theorem dX8_init_129 : decode cX8_init 129 = .ok (.aload_n 0, 1) := by decide +kernel
theorem dX8_init_130 : decode cX8_init 130 = .ok (.getfield 11, 3) := by decide +kernel
theorem dX8_init_133 : decode cX8_init 133 = .ok (.iload_n 1, 1) := by decide +kernel
theorem dX8_init_134 : decode cX8_init 134 = .ok (.new 9, 3) := by decide +kernel
theorem dX8_init_137 : decode cX8_init 137 = .ok (.dup, 1) := by decide +kernel
theorem dX8_init_138 : decode cX8_init 138 = .ok (.invokespecial 77, 3) := by decide +kernel
theorem dX8_init_141 : decode cX8_init 141 = .ok (.aastore, 1) := by decide +kernel
theorem dX8_init_142 : decode cX8_init 142 = .ok (.iinc 1 1, 3) := by decide +kernel
theorem dX8_init_145 : decode cX8_init 145 = .ok (.goto (-22), 3) := by decide +kernel
theorem dX8_init_148 : decode cX8_init 148 = .ok (.iconst 0, 1) := by decide +kernel
theorem dX8_init_149 : decode cX8_init 149 = .ok (.istore_n 1, 1) := by decide +kernel
theorem dX8_init_150 : decode cX8_init 150 = .ok (.iload_n 1, 1) := by decide +kernel
theorem dX8_init_151 : decode cX8_init 151 = .ok (.bipush 12, 2) := by decide +kernel
theorem dX8_init_153 : decode cX8_init 153 = .ok (.if_icmp .ge 22, 3) := by decide +kernel
theorem dX8_init_156 : decode cX8_init 156 = .ok (.aload_n 0, 1) := by decide +kernel
theorem dX8_init_157 : decode cX8_init 157 = .ok (.getfield 48, 3) := by decide +kernel
theorem dX8_init_160 : decode cX8_init 160 = .ok (.iload_n 1, 1) := by decide +kernel
theorem dX8_init_161 : decode cX8_init 161 = .ok (.new 46, 3) := by decide +kernel
theorem dX8_init_164 : decode cX8_init 164 = .ok (.dup, 1) := by decide +kernel
theorem dX8_init_165 : decode cX8_init 165 = .ok (.invokespecial 78, 3) := by decide +kernel
theorem dX8_init_168 : decode cX8_init 168 = .ok (.aastore, 1) := by decide +kernel
theorem dX8_init_169 : decode cX8_init 169 = .ok (.iinc 1 1, 3) := by decide +kernel
theorem dX8_init_172 : decode cX8_init 172 = .ok (.goto (-22), 3) := by decide +kernel
theorem dX8_init_175 : decode cX8_init 175 = .ok (.iconst 0, 1) := by decide +kernel
theorem dX8_init_176 : decode cX8_init 176 = .ok (.istore_n 1, 1) := by decide +kernel
theorem dX8_init_177 : decode cX8_init 177 = .ok (.iload_n 1, 1) := by decide +kernel
theorem dX8_init_178 : decode cX8_init 178 = .ok (.iconst 2, 1) := by decide +kernel
theorem dX8_init_179 : decode cX8_init 179 = .ok (.if_icmp .ge 22, 3) := by decide +kernel
theorem dX8_init_182 : decode cX8_init 182 = .ok (.aload_n 0, 1) := by decide +kernel
theorem dX8_init_183 : decode cX8_init 183 = .ok (.getfield 60, 3) := by decide +kernel
theorem dX8_init_186 : decode cX8_init 186 = .ok (.iload_n 1, 1) := by decide +kernel
theorem dX8_init_187 : decode cX8_init 187 = .ok (.new 58, 3) := by decide +kernel
theorem dX8_init_190 : decode cX8_init 190 = .ok (.dup, 1) := by decide +kernel
theorem dX8_init_191 : decode cX8_init 191 = .ok (.invokespecial 79, 3) := by decide +kernel
theorem dX8_init_194 : decode cX8_init 194 = .ok (.aastore, 1) := by decide +kernel
theorem dX8_init_195 : decode cX8_init 195 = .ok (.iinc 1 1, 3) := by decide +kernel
theorem dX8_init_198 : decode cX8_init 198 = .ok (.goto (-21), 3) := by decide +kernel
theorem dX8_init_201 : decode cX8_init 201 = .ok (.return_, 1) := by decide +kernel
theorem dX8_block_0 : decode cX8_block 0 = .ok (.iload_n 1, 1) := by decide +kernel
theorem dX8_block_1 : decode cX8_block 1 = .ok (.iconst 0, 1) := by decide +kernel
theorem dX8_block_2 : decode cX8_block 2 = .ok (.sipush 200, 3) := by decide +kernel
theorem dX8_block_5 : decode cX8_block 5 = .ok (.invokestatic 80, 3) := by decide +kernel
theorem dX8_block_8 : decode cX8_block 8 = .ok (.iload_n 2, 1) := by decide +kernel
theorem dX8_block_9 : decode cX8_block 9 = .ok (.iconst 0, 1) := by decide +kernel
theorem dX8_block_10 : decode cX8_block 10 = .ok (.bipush 9, 2) := by decide +kernel
theorem dX8_block_12 : decode cX8_block 12 = .ok (.invokestatic 80, 3) := by decide +kernel
theorem dX8_block_15 : decode cX8_block 15 = .ok (.iload_n 3, 1) := by decide +kernel
theorem dX8_block_16 : decode cX8_block 16 = .ok (.iconst 0, 1) := by decide +kernel
theorem dX8_block_17 : decode cX8_block 17 = .ok (.bipush 9, 2) := by decide +kernel
theorem dX8_block_19 : decode cX8_block 19 = .ok (.invokestatic 80, 3) := by decide +kernel
theorem dX8_block_22 : decode cX8_block 22 = .ok (.iload 4, 2) := by decide +kernel
theorem dX8_block_24 : decode cX8_block 24 = .ok (.iconst 0, 1) := by decide +kernel
theorem dX8_block_25 : decode cX8_block 25 = .ok (.bipush 9, 2) := by decide +kernel
theorem dX8_block_27 : decode cX8_block 27 = .ok (.invokestatic 80, 3) := by decide +kernel
theorem dX8_block_30 : decode cX8_block 30 = .ok (.iload 5, 2) := by decide +kernel
theorem dX8_block_32 : decode cX8_block 32 = .ok (.iconst 0, 1) := by decide +kernel
theorem dX8_block_33 : decode cX8_block 33 = .ok (.bipush 9, 2) := by decide +kernel
theorem dX8_block_35 : decode cX8_block 35 = .ok (.invokestatic 80, 3) := by decide +kernel
theorem dX8_block_38 : decode cX8_block 38 = .ok (.aload_n 0, 1) := by decide +kernel
theorem dX8_block_39 : decode cX8_block 39 = .ok (.getfield 15, 3) := by decide +kernel
theorem dX8_block_42 : decode cX8_block 42 = .ok (.bipush 6, 2) := by decide +kernel
theorem dX8_block_44 : decode cX8_block 44 = .ok (.if_icmp .lt 13, 3) := by decide +kernel
theorem dX8_block_47 : decode cX8_block 47 = .ok (.new 84, 3) := by decide +kernel
theorem dX8_block_50 : decode cX8_block 50 = .ok (.dup, 1) := by decide +kernel
theorem dX8_block_51 : decode cX8_block 51 = .ok (.ldc 86, 2) := by decide +kernel
theorem dX8_block_53 : decode cX8_block 53 = .ok (.invokespecial 88, 3) := by decide +kernel
theorem dX8_block_56 : decode cX8_block 56 = .ok (.athrow, 1) := by decide +kernel
theorem dX8_block_57 : decode cX8_block 57 = .ok (.aload_n 0, 1) := by decide +kernel
theorem dX8_block_58 : decode cX8_block 58 = .ok (.getfield 11, 3) := by decide +kernel
theorem dX8_block_61 : decode cX8_block 61 = .ok (.aload_n 0, 1) := by decide +kernel
theorem dX8_block_62 : decode cX8_block 62 = .ok (.getfield 15, 3) := by decide +kernel
theorem dX8_block_65 : decode cX8_block 65 = .ok (.aaload, 1) := by decide +kernel
theorem dX8_block_66 : decode cX8_block 66 = .ok (.iload_n 1, 1) := by decide +kernel
theorem dX8_block_67 : decode cX8_block 67 = .ok (.iload_n 2, 1) := by decide +kernel
theorem dX8_block_68 : decode cX8_block 68 = .ok (.iload_n 3, 1) := by decide +kernel
theorem dX8_block_69 : decode cX8_block 69 = .ok (.iload 4, 2) := by decide +kernel
theorem dX8_block_71 : decode cX8_block 71 = .ok (.iload 5, 2) := by decide +kernel
theorem dX8_block_73 : decode cX8_block 73 = .ok (.invokevirtual 91, 3) := by decide +kernel
theorem dX8_block_76 : decode cX8_block 76 = .ok (.aload_n 0, 1) := by decide +kernel
theorem dX8_block_77 : decode cX8_block 77 = .ok (.dup, 1) := by decide +kernel
theorem dX8_block_78 : decode cX8_block 78 = .ok (.getfield 15, 3) := by decide +kernel
theorem dX8_block_81 : decode cX8_block 81 = .ok (.iconst 1, 1) := by decide +kernel
theorem dX8_block_82 : decode cX8_block 82 = .ok (.iadd, 1) := by decide +kernel
theorem dX8_block_83 : decode cX8_block 83 = .ok (.putfield 15, 3) := by decide +kernel
theorem dX8_block_86 : decode cX8_block 86 = .ok (.aload_n 0, 1) := by decide +kernel
theorem dX8_block_87 : decode cX8_block 87 = .ok (.getfield 15, 3) := by decide +kernel
theorem dX8_block_90 : decode cX8_block 90 = .ok (.iconst 1, 1) := by decide +kernel
theorem dX8_block_91 : decode cX8_block 91 = .ok (.isub, 1) := by decide +kernel
theorem dX8_block_92 : decode cX8_block 92 = .ok (.ireturn, 1) := by decide +kernel
theorem dX8_blast_0 : decode cX8_blast 0 = .ok (.iload_n 1, 1) := by decide +kernel
theorem dX8_blast_1 : decode cX8_blast 1 = .ok (.aload_n 0, 1) := by decide +kernel
theorem dX8_blast_2 : decode cX8_blast 2 = .ok (.getfield 15, 3) := by decide +kernel
theorem dX8_blast_5 : decode cX8_blast 5 = .ok (.invokestatic 95, 3) := by decide +kernel
theorem dX8_blast_8 : decode cX8_blast 8 = .ok (.iload_n 2, 1) := by decide +kernel
theorem dX8_blast_9 : decode cX8_blast 9 = .ok (.iconst 1, 1) := by decide +kernel
theorem dX8_blast_10 : decode cX8_blast 10 = .ok (.bipush 99, 2) := by decide +kernel
theorem dX8_blast_12 : decode cX8_blast 12 = .ok (.invokestatic 80, 3) := by decide +kernel
theorem dX8_blast_15 : decode cX8_blast 15 = .ok (.aload_n 0, 1) := by decide +kernel
theorem dX8_blast_16 : decode cX8_blast 16 = .ok (.getfield 11, 3) := by decide +kernel
theorem dX8_blast_19 : decode cX8_blast 19 = .ok (.iload_n 1, 1) := by decide +kernel
theorem dX8_blast_20 : decode cX8_blast 20 = .ok (.aaload, 1) := by decide +kernel
theorem dX8_blast_21 : decode cX8_blast 21 = .ok (.astore_n 3, 1) := by decide +kernel
theorem dX8_blast_22 : decode cX8_blast 22 = .ok (.aload_n 3, 1) := by decide +kernel
theorem dX8_blast_23 : decode cX8_blast 23 = .ok (.getfield 103, 3) := by decide +kernel
theorem dX8_blast_26 : decode cX8_blast 26 = .ok (.ifCond .eq 13, 3) := by decide +kernel
theorem dX8_blast_29 : decode cX8_blast 29 = .ok (.aload_n 0, 1) := by decide +kernel
theorem dX8_blast_30 : decode cX8_blast 30 = .ok (.getfield 22, 3) := by decide +kernel
theorem dX8_blast_33 : decode cX8_blast 33 = .ok (.invokevirtual 106, 3) := by decide +kernel
theorem dX8_blast_36 : decode cX8_blast 36 = .ok (.ifCond .eq 13, 3) := by decide +kernel
theorem dX8_blast_39 : decode cX8_blast 39 = .ok (.new 84, 3) := by decide +kernel
theorem dX8_blast_42 : decode cX8_blast 42 = .ok (.dup, 1) := by decide +kernel
theorem dX8_blast_43 : decode cX8_blast 43 = .ok (.ldc 110, 2) := by decide +kernel
theorem dX8_blast_45 : decode cX8_blast 45 = .ok (.invokespecial 88, 3) := by decide +kernel
theorem dX8_blast_48 : decode cX8_blast 48 = .ok (.athrow, 1) := by decide +kernel
theorem dX8_blast_49 : decode cX8_blast 49 = .ok (.iload_n 2, 1) := by decide +kernel
theorem dX8_blast_50 : decode cX8_blast 50 = .ok (.aload_n 3, 1) := by decide +kernel
theorem dX8_blast_51 : decode cX8_blast 51 = .ok (.getfield 103, 3) := by decide +kernel
theorem dX8_blast_54 : decode cX8_blast 54 = .ok (.invokestatic 112, 3) := by decide +kernel
theorem dX8_blast_57 : decode cX8_blast 57 = .ok (.istore 4, 2) := by decide +kernel
theorem dX8_blast_59 : decode cX8_blast 59 = .ok (.aload_n 3, 1) := by decide +kernel
theorem dX8_blast_60 : decode cX8_blast 60 = .ok (.dup, 1) := by decide +kernel
theorem dX8_blast_61 : decode cX8_blast 61 = .ok (.getfield 103, 3) := by decide +kernel
theorem dX8_blast_64 : decode cX8_blast 64 = .ok (.iload 4, 2) := by decide +kernel
theorem dX8_blast_66 : decode cX8_blast 66 = .ok (.isub, 1) := by decide +kernel
theorem dX8_blast_67 : decode cX8_blast 67 = .ok (.putfield 103, 3) := by decide +kernel
theorem dX8_blast_70 : decode cX8_blast 70 = .ok (.aload_n 3, 1) := by decide +kernel
theorem dX8_blast_71 : decode cX8_blast 71 = .ok (.iconst 1, 1) := by decide +kernel
theorem dX8_blast_72 : decode cX8_blast 72 = .ok (.putfield 99, 3) := by decide +kernel
theorem dX8_blast_75 : decode cX8_blast 75 = .ok (.aload_n 0, 1) := by decide +kernel
theorem dX8_blast_76 : decode cX8_blast 76 = .ok (.getfield 22, 3) := by decide +kernel
theorem dX8_blast_79 : decode cX8_blast 79 = .ok (.iload_n 1, 1) := by decide +kernel
theorem dX8_blast_80 : decode cX8_blast 80 = .ok (.iload 4, 2) := by decide +kernel
theorem dX8_blast_82 : decode cX8_blast 82 = .ok (.invokevirtual 118, 3) := by decide +kernel
theorem dX8_blast_85 : decode cX8_blast 85 = .ok (.iload 4, 2) := by decide +kernel
theorem dX8_blast_87 : decode cX8_blast 87 = .ok (.ireturn, 1) := by decide +kernel
theorem dX8_charge_0 : decode cX8_charge 0 = .ok (.iload_n 1, 1) := by decide +kernel
theorem dX8_charge_1 : decode cX8_charge 1 = .ok (.iconst 1, 1) := by decide +kernel
theorem dX8_charge_2 : decode cX8_charge 2 = .ok (.bipush 9, 2) := by decide +kernel
theorem dX8_charge_4 : decode cX8_charge 4 = .ok (.invokestatic 80, 3) := by decide +kernel
theorem dX8_charge_7 : decode cX8_charge 7 = .ok (.iload_n 2, 1) := by decide +kernel
theorem dX8_charge_8 : decode cX8_charge 8 = .ok (.iconst 0, 1) := by decide +kernel
theorem dX8_charge_9 : decode cX8_charge 9 = .ok (.iconst 3, 1) := by decide +kernel
theorem dX8_charge_10 : decode cX8_charge 10 = .ok (.invokestatic 80, 3) := by decide +kernel
theorem dX8_charge_13 : decode cX8_charge 13 = .ok (.iload_n 3, 1) := by decide +kernel
theorem dX8_charge_14 : decode cX8_charge 14 = .ok (.iconst 0, 1) := by decide +kernel
theorem dX8_charge_15 : decode cX8_charge 15 = .ok (.iconst 3, 1) := by decide +kernel
theorem dX8_charge_16 : decode cX8_charge 16 = .ok (.invokestatic 80, 3) := by decide +kernel
theorem dX8_charge_19 : decode cX8_charge 19 = .ok (.iload 4, 2) := by decide +kernel
theorem dX8_charge_21 : decode cX8_charge 21 = .ok (.iconst 0, 1) := by decide +kernel
theorem dX8_charge_22 : decode cX8_charge 22 = .ok (.iconst 3, 1) := by decide +kernel
theorem dX8_charge_23 : decode cX8_charge 23 = .ok (.invokestatic 80, 3) := by decide +kernel
theorem dX8_charge_26 : decode cX8_charge 26 = .ok (.aload_n 0, 1) := by decide +kernel
theorem dX8_charge_27 : decode cX8_charge 27 = .ok (.getfield 22, 3) := by decide +kernel
theorem dX8_charge_30 : decode cX8_charge 30 = .ok (.invokevirtual 121, 3) := by decide +kernel
theorem dX8_charge_33 : decode cX8_charge 33 = .ok (.iload_n 1, 1) := by decide +kernel
theorem dX8_charge_34 : decode cX8_charge 34 = .ok (.if_icmp .lt 13, 3) := by decide +kernel
theorem dX8_charge_37 : decode cX8_charge 37 = .ok (.aload_n 0, 1) := by decide +kernel
theorem dX8_charge_38 : decode cX8_charge 38 = .ok (.getfield 39, 3) := by decide +kernel
theorem dX8_charge_41 : decode cX8_charge 41 = .ok (.invokevirtual 125, 3) := by decide +kernel
theorem dX8_charge_44 : decode cX8_charge 44 = .ok (.ifCond .eq 13, 3) := by decide +kernel
theorem dX8_charge_47 : decode cX8_charge 47 = .ok (.new 84, 3) := by decide +kernel
theorem dX8_charge_50 : decode cX8_charge 50 = .ok (.dup, 1) := by decide +kernel
theorem dX8_charge_51 : decode cX8_charge 51 = .ok (.ldc 128, 2) := by decide +kernel
theorem dX8_charge_53 : decode cX8_charge 53 = .ok (.invokespecial 88, 3) := by decide +kernel
theorem dX8_charge_56 : decode cX8_charge 56 = .ok (.athrow, 1) := by decide +kernel
theorem dX8_charge_57 : decode cX8_charge 57 = .ok (.aload_n 0, 1) := by decide +kernel
theorem dX8_charge_58 : decode cX8_charge 58 = .ok (.iload_n 1, 1) := by decide +kernel
theorem dX8_charge_59 : decode cX8_charge 59 = .ok (.invokevirtual 130, 3) := by decide +kernel
theorem dX8_charge_62 : decode cX8_charge 62 = .ok (.aload_n 0, 1) := by decide +kernel
theorem dX8_charge_63 : decode cX8_charge 63 = .ok (.getfield 29, 3) := by decide +kernel
theorem dX8_charge_66 : decode cX8_charge 66 = .ok (.iload_n 2, 1) := by decide +kernel
theorem dX8_charge_67 : decode cX8_charge 67 = .ok (.iload_n 3, 1) := by decide +kernel
theorem dX8_charge_68 : decode cX8_charge 68 = .ok (.iload 4, 2) := by decide +kernel
theorem dX8_charge_70 : decode cX8_charge 70 = .ok (.invokevirtual 134, 3) := by decide +kernel
theorem dX8_charge_73 : decode cX8_charge 73 = .ok (.aload_n 0, 1) := by decide +kernel
theorem dX8_charge_74 : decode cX8_charge 74 = .ok (.getfield 39, 3) := by decide +kernel
theorem dX8_charge_77 : decode cX8_charge 77 = .ok (.aload_n 0, 1) := by decide +kernel
theorem dX8_charge_78 : decode cX8_charge 78 = .ok (.getfield 29, 3) := by decide +kernel
theorem dX8_charge_81 : decode cX8_charge 81 = .ok (.invokevirtual 137, 3) := by decide +kernel
theorem dX8_charge_84 : decode cX8_charge 84 = .ok (.astore 5, 2) := by decide +kernel
theorem dX8_charge_86 : decode cX8_charge 86 = .ok (.aload_n 0, 1) := by decide +kernel
theorem dX8_charge_87 : decode cX8_charge 87 = .ok (.getfield 22, 3) := by decide +kernel
theorem dX8_charge_90 : decode cX8_charge 90 = .ok (.aload 5, 2) := by decide +kernel
theorem dX8_charge_92 : decode cX8_charge 92 = .ok (.getfield 141, 3) := by decide +kernel
theorem dX8_charge_95 : decode cX8_charge 95 = .ok (.invokevirtual 147, 3) := by decide +kernel
theorem dX8_charge_98 : decode cX8_charge 98 = .ok (.aload 5, 2) := by decide +kernel
theorem dX8_charge_100 : decode cX8_charge 100 = .ok (.getfield 151, 3) := by decide +kernel
theorem dX8_charge_103 : decode cX8_charge 103 = .ok (.invokevirtual 154, 3) := by decide +kernel
theorem dX8_charge_106 : decode cX8_charge 106 = .ok (.ireturn, 1) := by decide +kernel
theorem dX8_flame_0 : decode cX8_flame 0 = .ok (.iload_n 1, 1) := by decide +kernel
theorem dX8_flame_1 : decode cX8_flame 1 = .ok (.iconst 0, 1) := by decide +kernel
theorem dX8_flame_2 : decode cX8_flame 2 = .ok (.bipush 9, 2) := by decide +kernel
theorem dX8_flame_4 : decode cX8_flame 4 = .ok (.invokestatic 80, 3) := by decide +kernel
theorem dX8_flame_7 : decode cX8_flame 7 = .ok (.aload_n 0, 1) := by decide +kernel
theorem dX8_flame_8 : decode cX8_flame 8 = .ok (.getfield 39, 3) := by decide +kernel
theorem dX8_flame_11 : decode cX8_flame 11 = .ok (.getfield 157, 3) := by decide +kernel
theorem dX8_flame_14 : decode cX8_flame 14 = .ok (.istore_n 2, 1) := by decide +kernel
theorem dX8_flame_15 : decode cX8_flame 15 = .ok (.aload_n 0, 1) := by decide +kernel
theorem dX8_flame_16 : decode cX8_flame 16 = .ok (.getfield 39, 3) := by decide +kernel
theorem dX8_flame_19 : decode cX8_flame 19 = .ok (.iload_n 1, 1) := by decide +kernel
theorem dX8_flame_20 : decode cX8_flame 20 = .ok (.putfield 157, 3) := by decide +kernel
theorem dX8_flame_23 : decode cX8_flame 23 = .ok (.iload_n 2, 1) := by decide +kernel
theorem dX8_flame_24 : decode cX8_flame 24 = .ok (.ireturn, 1) := by decide +kernel
theorem dX8_coal_0 : decode cX8_coal 0 = .ok (.iload_n 1, 1) := by decide +kernel
theorem dX8_coal_1 : decode cX8_coal 1 = .ok (.iconst 1, 1) := by decide +kernel
theorem dX8_coal_2 : decode cX8_coal 2 = .ok (.sipush 999, 3) := by decide +kernel
theorem dX8_coal_5 : decode cX8_coal 5 = .ok (.aload_n 0, 1) := by decide +kernel
theorem dX8_coal_6 : decode cX8_coal 6 = .ok (.getfield 39, 3) := by decide +kernel
theorem dX8_coal_9 : decode cX8_coal 9 = .ok (.getfield 160, 3) := by decide +kernel
theorem dX8_coal_12 : decode cX8_coal 12 = .ok (.isub, 1) := by decide +kernel
theorem dX8_coal_13 : decode cX8_coal 13 = .ok (.invokestatic 80, 3) := by decide +kernel
theorem dX8_coal_16 : decode cX8_coal 16 = .ok (.aload_n 0, 1) := by decide +kernel
theorem dX8_coal_17 : decode cX8_coal 17 = .ok (.getfield 39, 3) := by decide +kernel
theorem dX8_coal_20 : decode cX8_coal 20 = .ok (.dup, 1) := by decide +kernel
theorem dX8_coal_21 : decode cX8_coal 21 = .ok (.getfield 160, 3) := by decide +kernel
theorem dX8_coal_24 : decode cX8_coal 24 = .ok (.iload_n 1, 1) := by decide +kernel
theorem dX8_coal_25 : decode cX8_coal 25 = .ok (.iadd, 1) := by decide +kernel
theorem dX8_coal_26 : decode cX8_coal 26 = .ok (.putfield 160, 3) := by decide +kernel
theorem dX8_coal_29 : decode cX8_coal 29 = .ok (.aload_n 0, 1) := by decide +kernel
theorem dX8_coal_30 : decode cX8_coal 30 = .ok (.getfield 39, 3) := by decide +kernel
theorem dX8_coal_33 : decode cX8_coal 33 = .ok (.getfield 160, 3) := by decide +kernel
theorem dX8_coal_36 : decode cX8_coal 36 = .ok (.ireturn, 1) := by decide +kernel
theorem dX8_run_0 : decode cX8_run 0 = .ok (.iload_n 1, 1) := by decide +kernel
theorem dX8_run_1 : decode cX8_run 1 = .ok (.iconst 1, 1) := by decide +kernel
theorem dX8_run_2 : decode cX8_run 2 = .ok (.bipush 30, 2) := by decide +kernel
theorem dX8_run_4 : decode cX8_run 4 = .ok (.invokestatic 80, 3) := by decide +kernel
theorem dX8_run_7 : decode cX8_run 7 = .ok (.iconst 0, 1) := by decide +kernel
theorem dX8_run_8 : decode cX8_run 8 = .ok (.istore_n 2, 1) := by decide +kernel
theorem dX8_run_9 : decode cX8_run 9 = .ok (.iconst 0, 1) := by decide +kernel
theorem dX8_run_10 : decode cX8_run 10 = .ok (.istore_n 3, 1) := by decide +kernel
theorem dX8_run_11 : decode cX8_run 11 = .ok (.iload_n 3, 1) := by decide +kernel
theorem dX8_run_12 : decode cX8_run 12 = .ok (.iload_n 1, 1) := by decide +kernel
theorem dX8_run_13 : decode cX8_run 13 = .ok (.if_icmp .ge 33, 3) := by decide +kernel
theorem dX8_run_16 : decode cX8_run 16 = .ok (.aload_n 0, 1) := by decide +kernel
theorem dX8_run_17 : decode cX8_run 17 = .ok (.getfield 39, 3) := by decide +kernel
theorem dX8_run_20 : decode cX8_run 20 = .ok (.invokevirtual 163, 3) := by decide +kernel
theorem dX8_run_23 : decode cX8_run 23 = .ok (.ifCond .eq 17, 3) := by decide +kernel
theorem dX8_run_26 : decode cX8_run 26 = .ok (.iinc 2 1, 3) := by decide +kernel
theorem dX8_run_29 : decode cX8_run 29 = .ok (.aload_n 0, 1) := by decide +kernel
theorem dX8_run_30 : decode cX8_run 30 = .ok (.aload_n 0, 1) := by decide +kernel
theorem dX8_run_31 : decode cX8_run 31 = .ok (.getfield 39, 3) := by decide +kernel
theorem dX8_run_34 : decode cX8_run 34 = .ok (.getfield 166, 3) := by decide +kernel
theorem dX8_run_37 : decode cX8_run 37 = .ok (.invokevirtual 170, 3) := by decide +kernel
theorem dX8_run_40 : decode cX8_run 40 = .ok (.iinc 3 1, 3) := by decide +kernel
theorem dX8_run_43 : decode cX8_run 43 = .ok (.goto (-32), 3) := by decide +kernel
theorem dX8_run_46 : decode cX8_run 46 = .ok (.iload_n 2, 1) := by decide +kernel
theorem dX8_run_47 : decode cX8_run 47 = .ok (.ireturn, 1) := by decide +kernel
theorem dX8_ofBlock_0 : decode cX8_ofBlock 0 = .ok (.iload_n 1, 1) := by decide +kernel
theorem dX8_ofBlock_1 : decode cX8_ofBlock 1 = .ok (.aload_n 0, 1) := by decide +kernel
theorem dX8_ofBlock_2 : decode cX8_ofBlock 2 = .ok (.getfield 15, 3) := by decide +kernel
theorem dX8_ofBlock_5 : decode cX8_ofBlock 5 = .ok (.invokestatic 95, 3) := by decide +kernel
theorem dX8_ofBlock_8 : decode cX8_ofBlock 8 = .ok (.iload_n 2, 1) := by decide +kernel
theorem dX8_ofBlock_9 : decode cX8_ofBlock 9 = .ok (.iconst 0, 1) := by decide +kernel
theorem dX8_ofBlock_10 : decode cX8_ofBlock 10 = .ok (.iconst 5, 1) := by decide +kernel
theorem dX8_ofBlock_11 : decode cX8_ofBlock 11 = .ok (.invokestatic 80, 3) := by decide +kernel
theorem dX8_ofBlock_14 : decode cX8_ofBlock 14 = .ok (.iload_n 2, 1) := by decide +kernel
theorem dX8_ofBlock_15 : decode cX8_ofBlock 15 = .ok (.ifCond .ne 13, 3) := by decide +kernel
theorem dX8_ofBlock_18 : decode cX8_ofBlock 18 = .ok (.aload_n 0, 1) := by decide +kernel
theorem dX8_ofBlock_19 : decode cX8_ofBlock 19 = .ok (.getfield 11, 3) := by decide +kernel
theorem dX8_ofBlock_22 : decode cX8_ofBlock 22 = .ok (.iload_n 1, 1) := by decide +kernel
theorem dX8_ofBlock_23 : decode cX8_ofBlock 23 = .ok (.aaload, 1) := by decide +kernel
theorem dX8_ofBlock_24 : decode cX8_ofBlock 24 = .ok (.getfield 103, 3) := by decide +kernel
theorem dX8_ofBlock_27 : decode cX8_ofBlock 27 = .ok (.ireturn, 1) := by decide +kernel
theorem dX8_ofBlock_28 : decode cX8_ofBlock 28 = .ok (.iload_n 2, 1) := by decide +kernel
theorem dX8_ofBlock_29 : decode cX8_ofBlock 29 = .ok (.iconst 1, 1) := by decide +kernel
theorem dX8_ofBlock_30 : decode cX8_ofBlock 30 = .ok (.if_icmp .ne 16, 3) := by decide +kernel
theorem dX8_ofBlock_33 : decode cX8_ofBlock 33 = .ok (.aload_n 0, 1) := by decide +kernel
theorem dX8_ofBlock_34 : decode cX8_ofBlock 34 = .ok (.getfield 11, 3) := by decide +kernel
theorem dX8_ofBlock_37 : decode cX8_ofBlock 37 = .ok (.iload_n 1, 1) := by decide +kernel
theorem dX8_ofBlock_38 : decode cX8_ofBlock 38 = .ok (.aaload, 1) := by decide +kernel
theorem dX8_ofBlock_39 : decode cX8_ofBlock 39 = .ok (.getfield 99, 3) := by decide +kernel
theorem dX8_ofBlock_42 : decode cX8_ofBlock 42 = .ok (.invokestatic 220, 3) := by decide +kernel
theorem dX8_ofBlock_45 : decode cX8_ofBlock 45 = .ok (.ireturn, 1) := by decide +kernel
theorem dX8_ofBlock_46 : decode cX8_ofBlock 46 = .ok (.aload_n 0, 1) := by decide +kernel
theorem dX8_ofBlock_47 : decode cX8_ofBlock 47 = .ok (.getfield 11, 3) := by decide +kernel
theorem dX8_ofBlock_50 : decode cX8_ofBlock 50 = .ok (.iload_n 1, 1) := by decide +kernel
theorem dX8_ofBlock_51 : decode cX8_ofBlock 51 = .ok (.aaload, 1) := by decide +kernel
theorem dX8_ofBlock_52 : decode cX8_ofBlock 52 = .ok (.iload_n 2, 1) := by decide +kernel
theorem dX8_ofBlock_53 : decode cX8_ofBlock 53 = .ok (.iconst 2, 1) := by decide +kernel
theorem dX8_ofBlock_54 : decode cX8_ofBlock 54 = .ok (.isub, 1) := by decide +kernel
theorem dX8_ofBlock_55 : decode cX8_ofBlock 55 = .ok (.invokevirtual 224, 3) := by decide +kernel
theorem dX8_ofBlock_58 : decode cX8_ofBlock 58 = .ok (.ireturn, 1) := by decide +kernel
theorem dX8_ofLayer_0 : decode cX8_ofLayer 0 = .ok (.iload_n 1, 1) := by decide +kernel
theorem dX8_ofLayer_1 : decode cX8_ofLayer 1 = .ok (.aload_n 0, 1) := by decide +kernel
theorem dX8_ofLayer_2 : decode cX8_ofLayer 2 = .ok (.getfield 22, 3) := by decide +kernel
theorem dX8_ofLayer_5 : decode cX8_ofLayer 5 = .ok (.getfield 227, 3) := by decide +kernel
theorem dX8_ofLayer_8 : decode cX8_ofLayer 8 = .ok (.invokestatic 95, 3) := by decide +kernel
theorem dX8_ofLayer_11 : decode cX8_ofLayer 11 = .ok (.iload_n 2, 1) := by decide +kernel
theorem dX8_ofLayer_12 : decode cX8_ofLayer 12 = .ok (.iconst 0, 1) := by decide +kernel
theorem dX8_ofLayer_13 : decode cX8_ofLayer 13 = .ok (.iconst 1, 1) := by decide +kernel
theorem dX8_ofLayer_14 : decode cX8_ofLayer 14 = .ok (.invokestatic 80, 3) := by decide +kernel
theorem dX8_ofLayer_17 : decode cX8_ofLayer 17 = .ok (.iload_n 2, 1) := by decide +kernel
theorem dX8_ofLayer_18 : decode cX8_ofLayer 18 = .ok (.ifCond .ne 15, 3) := by decide +kernel
theorem dX8_ofLayer_21 : decode cX8_ofLayer 21 = .ok (.aload_n 0, 1) := by decide +kernel
theorem dX8_ofLayer_22 : decode cX8_ofLayer 22 = .ok (.getfield 22, 3) := by decide +kernel
theorem dX8_ofLayer_25 : decode cX8_ofLayer 25 = .ok (.getfield 230, 3) := by decide +kernel
theorem dX8_ofLayer_28 : decode cX8_ofLayer 28 = .ok (.iload_n 1, 1) := by decide +kernel
theorem dX8_ofLayer_29 : decode cX8_ofLayer 29 = .ok (.iaload, 1) := by decide +kernel
theorem dX8_ofLayer_30 : decode cX8_ofLayer 30 = .ok (.goto 12, 3) := by decide +kernel
theorem dX8_ofLayer_33 : decode cX8_ofLayer 33 = .ok (.aload_n 0, 1) := by decide +kernel
theorem dX8_ofLayer_34 : decode cX8_ofLayer 34 = .ok (.getfield 22, 3) := by decide +kernel
theorem dX8_ofLayer_37 : decode cX8_ofLayer 37 = .ok (.getfield 233, 3) := by decide +kernel
theorem dX8_ofLayer_40 : decode cX8_ofLayer 40 = .ok (.iload_n 1, 1) := by decide +kernel
theorem dX8_ofLayer_41 : decode cX8_ofLayer 41 = .ok (.iaload, 1) := by decide +kernel
theorem dX8_ofLayer_42 : decode cX8_ofLayer 42 = .ok (.ireturn, 1) := by decide +kernel
theorem dX8_ofCell_0 : decode cX8_ofCell 0 = .ok (.iload_n 1, 1) := by decide +kernel
theorem dX8_ofCell_1 : decode cX8_ofCell 1 = .ok (.iconst 5, 1) := by decide +kernel
theorem dX8_ofCell_2 : decode cX8_ofCell 2 = .ok (.invokestatic 95, 3) := by decide +kernel
theorem dX8_ofCell_5 : decode cX8_ofCell 5 = .ok (.iload_n 2, 1) := by decide +kernel
theorem dX8_ofCell_6 : decode cX8_ofCell 6 = .ok (.iconst 0, 1) := by decide +kernel
theorem dX8_ofCell_7 : decode cX8_ofCell 7 = .ok (.bipush 7, 2) := by decide +kernel
theorem dX8_ofCell_9 : decode cX8_ofCell 9 = .ok (.invokestatic 80, 3) := by decide +kernel
theorem dX8_ofCell_12 : decode cX8_ofCell 12 = .ok (.aload_n 0, 1) := by decide +kernel
theorem dX8_ofCell_13 : decode cX8_ofCell 13 = .ok (.getfield 39, 3) := by decide +kernel
theorem dX8_ofCell_16 : decode cX8_ofCell 16 = .ok (.getfield 236, 3) := by decide +kernel
theorem dX8_ofCell_19 : decode cX8_ofCell 19 = .ok (.iload_n 1, 1) := by decide +kernel
theorem dX8_ofCell_20 : decode cX8_ofCell 20 = .ok (.aaload, 1) := by decide +kernel
theorem dX8_ofCell_21 : decode cX8_ofCell 21 = .ok (.astore_n 3, 1) := by decide +kernel
theorem dX8_ofCell_22 : decode cX8_ofCell 22 = .ok (.iload_n 2, 1) := by decide +kernel
theorem dX8_ofCell_23 : decode cX8_ofCell 23 = .ok (.ifCond .ne 13, 3) := by decide +kernel
theorem dX8_ofCell_26 : decode cX8_ofCell 26 = .ok (.aload_n 0, 1) := by decide +kernel
theorem dX8_ofCell_27 : decode cX8_ofCell 27 = .ok (.getfield 39, 3) := by decide +kernel
theorem dX8_ofCell_30 : decode cX8_ofCell 30 = .ok (.getfield 240, 3) := by decide +kernel
theorem dX8_ofCell_33 : decode cX8_ofCell 33 = .ok (.iload_n 1, 1) := by decide +kernel
theorem dX8_ofCell_34 : decode cX8_ofCell 34 = .ok (.iaload, 1) := by decide +kernel
theorem dX8_ofCell_35 : decode cX8_ofCell 35 = .ok (.ireturn, 1) := by decide +kernel
theorem dX8_ofCell_36 : decode cX8_ofCell 36 = .ok (.aload_n 3, 1) := by decide +kernel
theorem dX8_ofCell_37 : decode cX8_ofCell 37 = .ok (.getfield 243, 3) := by decide +kernel
theorem dX8_ofCell_40 : decode cX8_ofCell 40 = .ok (.ifCond .ne 5, 3) := by decide +kernel
theorem dX8_ofCell_43 : decode cX8_ofCell 43 = .ok (.iconst 0, 1) := by decide +kernel
theorem dX8_ofCell_44 : decode cX8_ofCell 44 = .ok (.ireturn, 1) := by decide +kernel
theorem dX8_ofCell_45 : decode cX8_ofCell 45 = .ok (.iload_n 2, 1) := by decide +kernel
theorem dX8_ofCell_46 : decode cX8_ofCell 46 = .ok (.tableswitch 65 1 6 #[38, 40, 45, 50, 55, 60], 38) := by decide +kernel
theorem dX8_ofCell_84 : decode cX8_ofCell 84 = .ok (.iconst 1, 1) := by decide +kernel
theorem dX8_ofCell_85 : decode cX8_ofCell 85 = .ok (.ireturn, 1) := by decide +kernel
theorem dX8_ofCell_86 : decode cX8_ofCell 86 = .ok (.aload_n 3, 1) := by decide +kernel
theorem dX8_ofCell_87 : decode cX8_ofCell 87 = .ok (.getfield 246, 3) := by decide +kernel
theorem dX8_ofCell_90 : decode cX8_ofCell 90 = .ok (.ireturn, 1) := by decide +kernel
theorem dX8_ofCell_91 : decode cX8_ofCell 91 = .ok (.aload_n 3, 1) := by decide +kernel
theorem dX8_ofCell_92 : decode cX8_ofCell 92 = .ok (.getfield 249, 3) := by decide +kernel
theorem dX8_ofCell_95 : decode cX8_ofCell 95 = .ok (.ireturn, 1) := by decide +kernel
theorem dX8_ofCell_96 : decode cX8_ofCell 96 = .ok (.aload_n 3, 1) := by decide +kernel
theorem dX8_ofCell_97 : decode cX8_ofCell 97 = .ok (.getfield 252, 3) := by decide +kernel
theorem dX8_ofCell_100 : decode cX8_ofCell 100 = .ok (.ireturn, 1) := by decide +kernel
theorem dX8_ofCell_101 : decode cX8_ofCell 101 = .ok (.aload_n 3, 1) := by decide +kernel
theorem dX8_ofCell_102 : decode cX8_ofCell 102 = .ok (.getfield 255, 3) := by decide +kernel
theorem dX8_ofCell_105 : decode cX8_ofCell 105 = .ok (.ireturn, 1) := by decide +kernel
theorem dX8_ofCell_106 : decode cX8_ofCell 106 = .ok (.aload_n 3, 1) := by decide +kernel
theorem dX8_ofCell_107 : decode cX8_ofCell 107 = .ok (.getfield 258, 3) := by decide +kernel
theorem dX8_ofCell_110 : decode cX8_ofCell 110 = .ok (.ireturn, 1) := by decide +kernel
theorem dX8_ofCell_111 : decode cX8_ofCell 111 = .ok (.aload_n 3, 1) := by decide +kernel
theorem dX8_ofCell_112 : decode cX8_ofCell 112 = .ok (.invokevirtual 261, 3) := by decide +kernel
theorem dX8_ofCell_115 : decode cX8_ofCell 115 = .ok (.ireturn, 1) := by decide +kernel
theorem dX8_ofLot_0 : decode cX8_ofLot 0 = .ok (.iload_n 1, 1) := by decide +kernel
theorem dX8_ofLot_1 : decode cX8_ofLot 1 = .ok (.aload_n 0, 1) := by decide +kernel
theorem dX8_ofLot_2 : decode cX8_ofLot 2 = .ok (.getfield 52, 3) := by decide +kernel
theorem dX8_ofLot_5 : decode cX8_ofLot 5 = .ok (.invokestatic 95, 3) := by decide +kernel
theorem dX8_ofLot_8 : decode cX8_ofLot 8 = .ok (.iload_n 2, 1) := by decide +kernel
theorem dX8_ofLot_9 : decode cX8_ofLot 9 = .ok (.iconst 0, 1) := by decide +kernel
theorem dX8_ofLot_10 : decode cX8_ofLot 10 = .ok (.bipush 21, 2) := by decide +kernel
theorem dX8_ofLot_12 : decode cX8_ofLot 12 = .ok (.invokestatic 80, 3) := by decide +kernel
theorem dX8_ofLot_15 : decode cX8_ofLot 15 = .ok (.aload_n 0, 1) := by decide +kernel
theorem dX8_ofLot_16 : decode cX8_ofLot 16 = .ok (.getfield 48, 3) := by decide +kernel
theorem dX8_ofLot_19 : decode cX8_ofLot 19 = .ok (.iload_n 1, 1) := by decide +kernel
theorem dX8_ofLot_20 : decode cX8_ofLot 20 = .ok (.aaload, 1) := by decide +kernel
theorem dX8_ofLot_21 : decode cX8_ofLot 21 = .ok (.astore_n 3, 1) := by decide +kernel
theorem dX8_ofLot_22 : decode cX8_ofLot 22 = .ok (.aload_n 3, 1) := by decide +kernel
theorem dX8_ofLot_23 : decode cX8_ofLot 23 = .ok (.getfield 264, 3) := by decide +kernel
theorem dX8_ofLot_26 : decode cX8_ofLot 26 = .ok (.astore 4, 2) := by decide +kernel
theorem dX8_ofLot_28 : decode cX8_ofLot 28 = .ok (.iload_n 2, 1) := by decide +kernel
theorem dX8_ofLot_29 : decode cX8_ofLot 29 = .ok (.iconst 4, 1) := by decide +kernel
theorem dX8_ofLot_30 : decode cX8_ofLot 30 = .ok (.if_icmp .ge 14, 3) := by decide +kernel
theorem dX8_ofLot_33 : decode cX8_ofLot 33 = .ok (.aload 4, 2) := by decide +kernel
theorem dX8_ofLot_35 : decode cX8_ofLot 35 = .ok (.getfield 151, 3) := by decide +kernel
theorem dX8_ofLot_38 : decode cX8_ofLot 38 = .ok (.getfield 267, 3) := by decide +kernel
theorem dX8_ofLot_41 : decode cX8_ofLot 41 = .ok (.iload_n 2, 1) := by decide +kernel
theorem dX8_ofLot_42 : decode cX8_ofLot 42 = .ok (.iaload, 1) := by decide +kernel
theorem dX8_ofLot_43 : decode cX8_ofLot 43 = .ok (.ireturn, 1) := by decide +kernel
theorem dX8_ofLot_44 : decode cX8_ofLot 44 = .ok (.iload_n 2, 1) := by decide +kernel
theorem dX8_ofLot_45 : decode cX8_ofLot 45 = .ok (.bipush 16, 2) := by decide +kernel
theorem dX8_ofLot_47 : decode cX8_ofLot 47 = .ok (.if_icmp .lt 14, 3) := by decide +kernel
theorem dX8_ofLot_50 : decode cX8_ofLot 50 = .ok (.aload 4, 2) := by decide +kernel
theorem dX8_ofLot_52 : decode cX8_ofLot 52 = .ok (.getfield 141, 3) := by decide +kernel
theorem dX8_ofLot_55 : decode cX8_ofLot 55 = .ok (.iload_n 2, 1) := by decide +kernel
theorem dX8_ofLot_56 : decode cX8_ofLot 56 = .ok (.bipush 16, 2) := by decide +kernel
theorem dX8_ofLot_58 : decode cX8_ofLot 58 = .ok (.isub, 1) := by decide +kernel
theorem dX8_ofLot_59 : decode cX8_ofLot 59 = .ok (.iaload, 1) := by decide +kernel
theorem dX8_ofLot_60 : decode cX8_ofLot 60 = .ok (.ireturn, 1) := by decide +kernel
theorem dX8_ofLot_61 : decode cX8_ofLot 61 = .ok (.iload_n 2, 1) := by decide +kernel
theorem dX8_ofLot_62 : decode cX8_ofLot 62 = .ok (.bipush 13, 2) := by decide +kernel
theorem dX8_ofLot_64 : decode cX8_ofLot 64 = .ok (.if_icmp .lt 13, 3) := by decide +kernel
theorem dX8_ofLot_67 : decode cX8_ofLot 67 = .ok (.aload_n 3, 1) := by decide +kernel
theorem dX8_ofLot_68 : decode cX8_ofLot 68 = .ok (.getfield 210, 3) := by decide +kernel
theorem dX8_ofLot_71 : decode cX8_ofLot 71 = .ok (.iload_n 2, 1) := by decide +kernel
theorem dX8_ofLot_72 : decode cX8_ofLot 72 = .ok (.bipush 13, 2) := by decide +kernel
theorem dX8_ofLot_74 : decode cX8_ofLot 74 = .ok (.isub, 1) := by decide +kernel
theorem dX8_ofLot_75 : decode cX8_ofLot 75 = .ok (.iaload, 1) := by decide +kernel
theorem dX8_ofLot_76 : decode cX8_ofLot 76 = .ok (.ireturn, 1) := by decide +kernel
theorem dX8_ofLot_77 : decode cX8_ofLot 77 = .ok (.iload_n 2, 1) := by decide +kernel
theorem dX8_ofLot_78 : decode cX8_ofLot 78 = .ok (.tableswitch 91 4 11 #[46, 52, 58, 64, 70, 76, 81, 86], 46) := by decide +kernel
theorem dX8_ofLot_124 : decode cX8_ofLot 124 = .ok (.aload 4, 2) := by decide +kernel
theorem dX8_ofLot_126 : decode cX8_ofLot 126 = .ok (.getfield 246, 3) := by decide +kernel
theorem dX8_ofLot_129 : decode cX8_ofLot 129 = .ok (.ireturn, 1) := by decide +kernel
theorem dX8_ofLot_130 : decode cX8_ofLot 130 = .ok (.aload 4, 2) := by decide +kernel
theorem dX8_ofLot_132 : decode cX8_ofLot 132 = .ok (.getfield 249, 3) := by decide +kernel
theorem dX8_ofLot_135 : decode cX8_ofLot 135 = .ok (.ireturn, 1) := by decide +kernel
theorem dX8_ofLot_136 : decode cX8_ofLot 136 = .ok (.aload 4, 2) := by decide +kernel
theorem dX8_ofLot_138 : decode cX8_ofLot 138 = .ok (.getfield 252, 3) := by decide +kernel
theorem dX8_ofLot_141 : decode cX8_ofLot 141 = .ok (.ireturn, 1) := by decide +kernel
theorem dX8_ofLot_142 : decode cX8_ofLot 142 = .ok (.aload 4, 2) := by decide +kernel
theorem dX8_ofLot_144 : decode cX8_ofLot 144 = .ok (.getfield 255, 3) := by decide +kernel
theorem dX8_ofLot_147 : decode cX8_ofLot 147 = .ok (.ireturn, 1) := by decide +kernel
theorem dX8_ofLot_148 : decode cX8_ofLot 148 = .ok (.aload 4, 2) := by decide +kernel
theorem dX8_ofLot_150 : decode cX8_ofLot 150 = .ok (.getfield 258, 3) := by decide +kernel
theorem dX8_ofLot_153 : decode cX8_ofLot 153 = .ok (.ireturn, 1) := by decide +kernel
theorem dX8_ofLot_154 : decode cX8_ofLot 154 = .ok (.aload_n 3, 1) := by decide +kernel
theorem dX8_ofLot_155 : decode cX8_ofLot 155 = .ok (.getfield 270, 3) := by decide +kernel
theorem dX8_ofLot_158 : decode cX8_ofLot 158 = .ok (.ireturn, 1) := by decide +kernel
theorem dX8_ofLot_159 : decode cX8_ofLot 159 = .ok (.aload_n 3, 1) := by decide +kernel
theorem dX8_ofLot_160 : decode cX8_ofLot 160 = .ok (.getfield 273, 3) := by decide +kernel
theorem dX8_ofLot_163 : decode cX8_ofLot 163 = .ok (.ireturn, 1) := by decide +kernel
theorem dX8_ofLot_164 : decode cX8_ofLot 164 = .ok (.aload_n 3, 1) := by decide +kernel
theorem dX8_ofLot_165 : decode cX8_ofLot 165 = .ok (.getfield 276, 3) := by decide +kernel
theorem dX8_ofLot_168 : decode cX8_ofLot 168 = .ok (.ireturn, 1) := by decide +kernel
theorem dX8_ofLot_169 : decode cX8_ofLot 169 = .ok (.aload_n 3, 1) := by decide +kernel
theorem dX8_ofLot_170 : decode cX8_ofLot 170 = .ok (.getfield 188, 3) := by decide +kernel
theorem dX8_ofLot_173 : decode cX8_ofLot 173 = .ok (.ireturn, 1) := by decide +kernel
theorem dX8_modulus_0 : decode cX8_modulus 0 = .ok (.iload_n 1, 1) := by decide +kernel
theorem dX8_modulus_1 : decode cX8_modulus 1 = .ok (.aload_n 0, 1) := by decide +kernel
theorem dX8_modulus_2 : decode cX8_modulus 2 = .ok (.getfield 39, 3) := by decide +kernel
theorem dX8_modulus_5 : decode cX8_modulus 5 = .ok (.getfield 279, 3) := by decide +kernel
theorem dX8_modulus_8 : decode cX8_modulus 8 = .ok (.invokestatic 95, 3) := by decide +kernel
theorem dX8_modulus_11 : decode cX8_modulus 11 = .ok (.iload_n 2, 1) := by decide +kernel
theorem dX8_modulus_12 : decode cX8_modulus 12 = .ok (.iconst 0, 1) := by decide +kernel
theorem dX8_modulus_13 : decode cX8_modulus 13 = .ok (.iconst 3, 1) := by decide +kernel
theorem dX8_modulus_14 : decode cX8_modulus 14 = .ok (.invokestatic 80, 3) := by decide +kernel
theorem dX8_modulus_17 : decode cX8_modulus 17 = .ok (.aload_n 0, 1) := by decide +kernel
theorem dX8_modulus_18 : decode cX8_modulus 18 = .ok (.getfield 39, 3) := by decide +kernel
theorem dX8_modulus_21 : decode cX8_modulus 21 = .ok (.getfield 282, 3) := by decide +kernel
theorem dX8_modulus_24 : decode cX8_modulus 24 = .ok (.iload_n 1, 1) := by decide +kernel
theorem dX8_modulus_25 : decode cX8_modulus 25 = .ok (.aaload, 1) := by decide +kernel
theorem dX8_modulus_26 : decode cX8_modulus 26 = .ok (.getfield 151, 3) := by decide +kernel
theorem dX8_modulus_29 : decode cX8_modulus 29 = .ok (.astore_n 3, 1) := by decide +kernel
theorem dX8_modulus_30 : decode cX8_modulus 30 = .ok (.iload_n 2, 1) := by decide +kernel
theorem dX8_modulus_31 : decode cX8_modulus 31 = .ok (.tableswitch 40 0 2 #[25, 30, 35], 25) := by decide +kernel
theorem dX8_modulus_56 : decode cX8_modulus 56 = .ok (.aload_n 3, 1) := by decide +kernel
theorem dX8_modulus_57 : decode cX8_modulus 57 = .ok (.invokevirtual 154, 3) := by decide +kernel
theorem dX8_modulus_60 : decode cX8_modulus 60 = .ok (.ireturn, 1) := by decide +kernel
theorem dX8_modulus_61 : decode cX8_modulus 61 = .ok (.aload_n 3, 1) := by decide +kernel
theorem dX8_modulus_62 : decode cX8_modulus 62 = .ok (.invokevirtual 285, 3) := by decide +kernel
theorem dX8_modulus_65 : decode cX8_modulus 65 = .ok (.ireturn, 1) := by decide +kernel
theorem dX8_modulus_66 : decode cX8_modulus 66 = .ok (.aload_n 3, 1) := by decide +kernel
theorem dX8_modulus_67 : decode cX8_modulus 67 = .ok (.invokevirtual 288, 3) := by decide +kernel
theorem dX8_modulus_70 : decode cX8_modulus 70 = .ok (.ireturn, 1) := by decide +kernel
theorem dX8_modulus_71 : decode cX8_modulus 71 = .ok (.aload_n 3, 1) := by decide +kernel
theorem dX8_modulus_72 : decode cX8_modulus 72 = .ok (.invokevirtual 291, 3) := by decide +kernel
theorem dX8_modulus_75 : decode cX8_modulus 75 = .ok (.invokestatic 220, 3) := by decide +kernel
theorem dX8_modulus_78 : decode cX8_modulus 78 = .ok (.ireturn, 1) := by decide +kernel
theorem dX8_row_0 : decode cX8_row 0 = .ok (.iload_n 1, 1) := by decide +kernel
theorem dX8_row_1 : decode cX8_row 1 = .ok (.iconst 2, 1) := by decide +kernel
theorem dX8_row_2 : decode cX8_row 2 = .ok (.invokestatic 95, 3) := by decide +kernel
theorem dX8_row_5 : decode cX8_row 5 = .ok (.iload_n 2, 1) := by decide +kernel
theorem dX8_row_6 : decode cX8_row 6 = .ok (.ifCond .ge 14, 3) := by decide +kernel
theorem dX8_row_9 : decode cX8_row 9 = .ok (.new 294, 3) := by decide +kernel
theorem dX8_row_12 : decode cX8_row 12 = .ok (.dup, 1) := by decide +kernel
theorem dX8_row_13 : decode cX8_row 13 = .ok (.ldc_w 296, 3) := by decide +kernel
theorem dX8_row_16 : decode cX8_row 16 = .ok (.invokespecial 298, 3) := by decide +kernel
theorem dX8_row_19 : decode cX8_row 19 = .ok (.athrow, 1) := by decide +kernel
theorem dX8_row_20 : decode cX8_row 20 = .ok (.aload_n 0, 1) := by decide +kernel
theorem dX8_row_21 : decode cX8_row 21 = .ok (.getfield 60, 3) := by decide +kernel
theorem dX8_row_24 : decode cX8_row 24 = .ok (.iload_n 1, 1) := by decide +kernel
theorem dX8_row_25 : decode cX8_row 25 = .ok (.aaload, 1) := by decide +kernel
theorem dX8_row_26 : decode cX8_row 26 = .ok (.iload_n 2, 1) := by decide +kernel
theorem dX8_row_27 : decode cX8_row 27 = .ok (.invokevirtual 299, 3) := by decide +kernel
theorem dX8_row_30 : decode cX8_row 30 = .ok (.ireturn, 1) := by decide +kernel
theorem dX8_many_0 : decode cX8_many 0 = .ok (.iload_n 1, 1) := by decide +kernel
theorem dX8_many_1 : decode cX8_many 1 = .ok (.iconst 0, 1) := by decide +kernel
theorem dX8_many_2 : decode cX8_many 2 = .ok (.bipush 17, 2) := by decide +kernel
theorem dX8_many_4 : decode cX8_many 4 = .ok (.invokestatic 80, 3) := by decide +kernel
theorem dX8_many_7 : decode cX8_many 7 = .ok (.iload_n 1, 1) := by decide +kernel
theorem dX8_many_8 : decode cX8_many 8 = .ok (.tableswitch 225 0 16 #[84, 89, 97, 105, 113, 121, 129, 137, 145, 153, 161, 166, 171, 179, 184, 189, 197], 84) := by decide +kernel
theorem dX8_many_92 : decode cX8_many 92 = .ok (.aload_n 0, 1) := by decide +kernel
theorem dX8_many_93 : decode cX8_many 93 = .ok (.getfield 15, 3) := by decide +kernel
theorem dX8_many_96 : decode cX8_many 96 = .ok (.ireturn, 1) := by decide +kernel
theorem dX8_many_97 : decode cX8_many 97 = .ok (.aload_n 0, 1) := by decide +kernel
theorem dX8_many_98 : decode cX8_many 98 = .ok (.getfield 22, 3) := by decide +kernel
theorem dX8_many_101 : decode cX8_many 101 = .ok (.getfield 227, 3) := by decide +kernel
theorem dX8_many_104 : decode cX8_many 104 = .ok (.ireturn, 1) := by decide +kernel
theorem dX8_many_105 : decode cX8_many 105 = .ok (.aload_n 0, 1) := by decide +kernel
theorem dX8_many_106 : decode cX8_many 106 = .ok (.getfield 22, 3) := by decide +kernel
theorem dX8_many_109 : decode cX8_many 109 = .ok (.invokevirtual 121, 3) := by decide +kernel
theorem dX8_many_112 : decode cX8_many 112 = .ok (.ireturn, 1) := by decide +kernel
theorem dX8_many_113 : decode cX8_many 113 = .ok (.aload_n 0, 1) := by decide +kernel
theorem dX8_many_114 : decode cX8_many 114 = .ok (.getfield 39, 3) := by decide +kernel
theorem dX8_many_117 : decode cX8_many 117 = .ok (.getfield 279, 3) := by decide +kernel
theorem dX8_many_120 : decode cX8_many 120 = .ok (.ireturn, 1) := by decide +kernel
theorem dX8_many_121 : decode cX8_many 121 = .ok (.aload_n 0, 1) := by decide +kernel
theorem dX8_many_122 : decode cX8_many 122 = .ok (.getfield 39, 3) := by decide +kernel
theorem dX8_many_125 : decode cX8_many 125 = .ok (.getfield 157, 3) := by decide +kernel
theorem dX8_many_128 : decode cX8_many 128 = .ok (.ireturn, 1) := by decide +kernel
theorem dX8_many_129 : decode cX8_many 129 = .ok (.aload_n 0, 1) := by decide +kernel
theorem dX8_many_130 : decode cX8_many 130 = .ok (.getfield 39, 3) := by decide +kernel
theorem dX8_many_133 : decode cX8_many 133 = .ok (.getfield 160, 3) := by decide +kernel
theorem dX8_many_136 : decode cX8_many 136 = .ok (.ireturn, 1) := by decide +kernel
theorem dX8_many_137 : decode cX8_many 137 = .ok (.aload_n 0, 1) := by decide +kernel
theorem dX8_many_138 : decode cX8_many 138 = .ok (.getfield 39, 3) := by decide +kernel
theorem dX8_many_141 : decode cX8_many 141 = .ok (.getfield 302, 3) := by decide +kernel
theorem dX8_many_144 : decode cX8_many 144 = .ok (.ireturn, 1) := by decide +kernel
theorem dX8_many_145 : decode cX8_many 145 = .ok (.aload_n 0, 1) := by decide +kernel
theorem dX8_many_146 : decode cX8_many 146 = .ok (.getfield 39, 3) := by decide +kernel
theorem dX8_many_149 : decode cX8_many 149 = .ok (.getfield 174, 3) := by decide +kernel
theorem dX8_many_152 : decode cX8_many 152 = .ok (.ireturn, 1) := by decide +kernel
theorem dX8_many_153 : decode cX8_many 153 = .ok (.aload_n 0, 1) := by decide +kernel
theorem dX8_many_154 : decode cX8_many 154 = .ok (.getfield 39, 3) := by decide +kernel
theorem dX8_many_157 : decode cX8_many 157 = .ok (.getfield 305, 3) := by decide +kernel
theorem dX8_many_160 : decode cX8_many 160 = .ok (.ireturn, 1) := by decide +kernel
theorem dX8_many_161 : decode cX8_many 161 = .ok (.aload_n 0, 1) := by decide +kernel
theorem dX8_many_162 : decode cX8_many 162 = .ok (.getfield 39, 3) := by decide +kernel
theorem dX8_many_165 : decode cX8_many 165 = .ok (.getfield 308, 3) := by decide +kernel
theorem dX8_many_168 : decode cX8_many 168 = .ok (.ireturn, 1) := by decide +kernel
theorem dX8_many_169 : decode cX8_many 169 = .ok (.aload_n 0, 1) := by decide +kernel
theorem dX8_many_170 : decode cX8_many 170 = .ok (.getfield 52, 3) := by decide +kernel
theorem dX8_many_173 : decode cX8_many 173 = .ok (.ireturn, 1) := by decide +kernel
theorem dX8_many_174 : decode cX8_many 174 = .ok (.aload_n 0, 1) := by decide +kernel
theorem dX8_many_175 : decode cX8_many 175 = .ok (.getfield 55, 3) := by decide +kernel
theorem dX8_many_178 : decode cX8_many 178 = .ok (.ireturn, 1) := by decide +kernel
theorem dX8_many_179 : decode cX8_many 179 = .ok (.aload_n 0, 1) := by decide +kernel
theorem dX8_many_180 : decode cX8_many 180 = .ok (.getfield 39, 3) := by decide +kernel
theorem dX8_many_183 : decode cX8_many 183 = .ok (.getfield 311, 3) := by decide +kernel
theorem dX8_many_186 : decode cX8_many 186 = .ok (.ireturn, 1) := by decide +kernel
theorem dX8_many_187 : decode cX8_many 187 = .ok (.aload_n 0, 1) := by decide +kernel
theorem dX8_many_188 : decode cX8_many 188 = .ok (.getfield 64, 3) := by decide +kernel
theorem dX8_many_191 : decode cX8_many 191 = .ok (.ireturn, 1) := by decide +kernel
theorem dX8_many_192 : decode cX8_many 192 = .ok (.aload_n 0, 1) := by decide +kernel
theorem dX8_many_193 : decode cX8_many 193 = .ok (.getfield 74, 3) := by decide +kernel
theorem dX8_many_196 : decode cX8_many 196 = .ok (.ireturn, 1) := by decide +kernel
theorem dX8_many_197 : decode cX8_many 197 = .ok (.aload_n 0, 1) := by decide +kernel
theorem dX8_many_198 : decode cX8_many 198 = .ok (.getfield 70, 3) := by decide +kernel
theorem dX8_many_201 : decode cX8_many 201 = .ok (.getfield 314, 3) := by decide +kernel
theorem dX8_many_204 : decode cX8_many 204 = .ok (.ireturn, 1) := by decide +kernel
theorem dX8_many_205 : decode cX8_many 205 = .ok (.aload_n 0, 1) := by decide +kernel
theorem dX8_many_206 : decode cX8_many 206 = .ok (.getfield 60, 3) := by decide +kernel
theorem dX8_many_209 : decode cX8_many 209 = .ok (.iconst 0, 1) := by decide +kernel
theorem dX8_many_210 : decode cX8_many 210 = .ok (.aaload, 1) := by decide +kernel
theorem dX8_many_211 : decode cX8_many 211 = .ok (.getfield 191, 3) := by decide +kernel
theorem dX8_many_214 : decode cX8_many 214 = .ok (.invokestatic 220, 3) := by decide +kernel
theorem dX8_many_217 : decode cX8_many 217 = .ok (.iconst 2, 1) := by decide +kernel
theorem dX8_many_218 : decode cX8_many 218 = .ok (.aload_n 0, 1) := by decide +kernel
theorem dX8_many_219 : decode cX8_many 219 = .ok (.getfield 60, 3) := by decide +kernel
theorem dX8_many_222 : decode cX8_many 222 = .ok (.iconst 1, 1) := by decide +kernel
theorem dX8_many_223 : decode cX8_many 223 = .ok (.aaload, 1) := by decide +kernel
theorem dX8_many_224 : decode cX8_many 224 = .ok (.getfield 191, 3) := by decide +kernel
theorem dX8_many_227 : decode cX8_many 227 = .ok (.invokestatic 220, 3) := by decide +kernel
theorem dX8_many_230 : decode cX8_many 230 = .ok (.imul, 1) := by decide +kernel
theorem dX8_many_231 : decode cX8_many 231 = .ok (.iadd, 1) := by decide +kernel
theorem dX8_many_232 : decode cX8_many 232 = .ok (.ireturn, 1) := by decide +kernel
theorem dX8_many_233 : decode cX8_many 233 = .ok (.aload_n 0, 1) := by decide +kernel
theorem dX8_many_234 : decode cX8_many 234 = .ok (.getfield 70, 3) := by decide +kernel
theorem dX8_many_237 : decode cX8_many 237 = .ok (.getfield 217, 3) := by decide +kernel
theorem dX8_many_240 : decode cX8_many 240 = .ok (.ireturn, 1) := by decide +kernel
theorem dX8_isConform_0 : decode cX8_isConform 0 = .ok (.aload_n 0, 1) := by decide +kernel
theorem dX8_isConform_1 : decode cX8_isConform 1 = .ok (.getfield 70, 3) := by decide +kernel
theorem dX8_isConform_4 : decode cX8_isConform 4 = .ok (.invokevirtual 321, 3) := by decide +kernel
theorem dX8_isConform_7 : decode cX8_isConform 7 = .ok (.ireturn, 1) := by decide +kernel
theorem dX8_thought_0 : decode cX8_thought 0 = .ok (.iload_n 1, 1) := by decide +kernel
theorem dX8_thought_1 : decode cX8_thought 1 = .ok (.aload_n 0, 1) := by decide +kernel
theorem dX8_thought_2 : decode cX8_thought 2 = .ok (.getfield 52, 3) := by decide +kernel
theorem dX8_thought_5 : decode cX8_thought 5 = .ok (.invokestatic 95, 3) := by decide +kernel
theorem dX8_thought_8 : decode cX8_thought 8 = .ok (.aload_n 0, 1) := by decide +kernel
theorem dX8_thought_9 : decode cX8_thought 9 = .ok (.getfield 48, 3) := by decide +kernel
theorem dX8_thought_12 : decode cX8_thought 12 = .ok (.iload_n 1, 1) := by decide +kernel
theorem dX8_thought_13 : decode cX8_thought 13 = .ok (.aaload, 1) := by decide +kernel
theorem dX8_thought_14 : decode cX8_thought 14 = .ok (.iconst 1, 1) := by decide +kernel
theorem dX8_thought_15 : decode cX8_thought 15 = .ok (.invokevirtual 200, 3) := by decide +kernel
theorem dX8_thought_18 : decode cX8_thought 18 = .ok (.ifCond .ne 14, 3) := by decide +kernel
theorem dX8_thought_21 : decode cX8_thought 21 = .ok (.new 84, 3) := by decide +kernel
theorem dX8_thought_24 : decode cX8_thought 24 = .ok (.dup, 1) := by decide +kernel
theorem dX8_thought_25 : decode cX8_thought 25 = .ok (.ldc_w 324, 3) := by decide +kernel
theorem dX8_thought_28 : decode cX8_thought 28 = .ok (.invokespecial 88, 3) := by decide +kernel
theorem dX8_thought_31 : decode cX8_thought 31 = .ok (.athrow, 1) := by decide +kernel
theorem dX8_thought_32 : decode cX8_thought 32 = .ok (.aload_n 0, 1) := by decide +kernel
theorem dX8_thought_33 : decode cX8_thought 33 = .ok (.getfield 48, 3) := by decide +kernel
theorem dX8_thought_36 : decode cX8_thought 36 = .ok (.iload_n 1, 1) := by decide +kernel
theorem dX8_thought_37 : decode cX8_thought 37 = .ok (.aaload, 1) := by decide +kernel
theorem dX8_thought_38 : decode cX8_thought 38 = .ok (.getfield 210, 3) := by decide +kernel
theorem dX8_thought_41 : decode cX8_thought 41 = .ok (.iconst 1, 1) := by decide +kernel
theorem dX8_thought_42 : decode cX8_thought 42 = .ok (.iaload, 1) := by decide +kernel
theorem dX8_thought_43 : decode cX8_thought 43 = .ok (.aload_n 0, 1) := by decide +kernel
theorem dX8_thought_44 : decode cX8_thought 44 = .ok (.iload_n 1, 1) := by decide +kernel
theorem dX8_thought_45 : decode cX8_thought 45 = .ok (.invokevirtual 326, 3) := by decide +kernel
theorem dX8_thought_48 : decode cX8_thought 48 = .ok (.iadd, 1) := by decide +kernel
theorem dX8_thought_49 : decode cX8_thought 49 = .ok (.ireturn, 1) := by decide +kernel
theorem dX8_bestCharge_0 : decode cX8_bestCharge 0 = .ok (.iload_n 1, 1) := by decide +kernel
theorem dX8_bestCharge_1 : decode cX8_bestCharge 1 = .ok (.iconst 1, 1) := by decide +kernel
theorem dX8_bestCharge_2 : decode cX8_bestCharge 2 = .ok (.bipush 9, 2) := by decide +kernel
theorem dX8_bestCharge_4 : decode cX8_bestCharge 4 = .ok (.invokestatic 80, 3) := by decide +kernel
theorem dX8_bestCharge_7 : decode cX8_bestCharge 7 = .ok (.aload_n 0, 1) := by decide +kernel
theorem dX8_bestCharge_8 : decode cX8_bestCharge 8 = .ok (.getfield 22, 3) := by decide +kernel
theorem dX8_bestCharge_11 : decode cX8_bestCharge 11 = .ok (.invokevirtual 121, 3) := by decide +kernel
theorem dX8_bestCharge_14 : decode cX8_bestCharge 14 = .ok (.iload_n 1, 1) := by decide +kernel
theorem dX8_bestCharge_15 : decode cX8_bestCharge 15 = .ok (.if_icmp .ge 14, 3) := by decide +kernel
theorem dX8_bestCharge_18 : decode cX8_bestCharge 18 = .ok (.new 84, 3) := by decide +kernel
theorem dX8_bestCharge_21 : decode cX8_bestCharge 21 = .ok (.dup, 1) := by decide +kernel
theorem dX8_bestCharge_22 : decode cX8_bestCharge 22 = .ok (.ldc_w 329, 3) := by decide +kernel
theorem dX8_bestCharge_25 : decode cX8_bestCharge 25 = .ok (.invokespecial 88, 3) := by decide +kernel
theorem dX8_bestCharge_28 : decode cX8_bestCharge 28 = .ok (.athrow, 1) := by decide +kernel
theorem dX8_bestCharge_29 : decode cX8_bestCharge 29 = .ok (.aload_n 0, 1) := by decide +kernel
theorem dX8_bestCharge_30 : decode cX8_bestCharge 30 = .ok (.iload_n 1, 1) := by decide +kernel
theorem dX8_bestCharge_31 : decode cX8_bestCharge 31 = .ok (.invokevirtual 130, 3) := by decide +kernel
theorem dX8_bestCharge_34 : decode cX8_bestCharge 34 = .ok (.iconst 0, 1) := by decide +kernel
theorem dX8_bestCharge_35 : decode cX8_bestCharge 35 = .ok (.istore_n 2, 1) := by decide +kernel
theorem dX8_bestCharge_36 : decode cX8_bestCharge 36 = .ok (.iload_n 2, 1) := by decide +kernel
theorem dX8_bestCharge_37 : decode cX8_bestCharge 37 = .ok (.bipush 9, 2) := by decide +kernel
theorem dX8_bestCharge_39 : decode cX8_bestCharge 39 = .ok (.if_icmp .gt 22, 3) := by decide +kernel
theorem dX8_bestCharge_42 : decode cX8_bestCharge 42 = .ok (.aload_n 0, 1) := by decide +kernel
theorem dX8_bestCharge_43 : decode cX8_bestCharge 43 = .ok (.iload_n 2, 1) := by decide +kernel
theorem dX8_bestCharge_44 : decode cX8_bestCharge 44 = .ok (.invokevirtual 331, 3) := by decide +kernel
theorem dX8_bestCharge_47 : decode cX8_bestCharge 47 = .ok (.istore_n 3, 1) := by decide +kernel
theorem dX8_bestCharge_48 : decode cX8_bestCharge 48 = .ok (.iload_n 3, 1) := by decide +kernel
theorem dX8_bestCharge_49 : decode cX8_bestCharge 49 = .ok (.iconst (-1), 1) := by decide +kernel
theorem dX8_bestCharge_50 : decode cX8_bestCharge 50 = .ok (.if_icmp .eq 5, 3) := by decide +kernel
theorem dX8_bestCharge_53 : decode cX8_bestCharge 53 = .ok (.iload_n 3, 1) := by decide +kernel
theorem dX8_bestCharge_54 : decode cX8_bestCharge 54 = .ok (.ireturn, 1) := by decide +kernel
theorem dX8_bestCharge_55 : decode cX8_bestCharge 55 = .ok (.iinc 2 1, 3) := by decide +kernel
theorem dX8_bestCharge_58 : decode cX8_bestCharge 58 = .ok (.goto (-22), 3) := by decide +kernel
theorem dX8_bestCharge_61 : decode cX8_bestCharge 61 = .ok (.iconst (-1), 1) := by decide +kernel
theorem dX8_bestCharge_62 : decode cX8_bestCharge 62 = .ok (.ireturn, 1) := by decide +kernel
theorem dX8_freeAfter_0 : decode cX8_freeAfter 0 = .ok (.iload_n 1, 1) := by decide +kernel
theorem dX8_freeAfter_1 : decode cX8_freeAfter 1 = .ok (.iconst 1, 1) := by decide +kernel
theorem dX8_freeAfter_2 : decode cX8_freeAfter 2 = .ok (.bipush 12, 2) := by decide +kernel
theorem dX8_freeAfter_4 : decode cX8_freeAfter 4 = .ok (.invokestatic 80, 3) := by decide +kernel
theorem dX8_freeAfter_7 : decode cX8_freeAfter 7 = .ok (.iload_n 2, 1) := by decide +kernel
theorem dX8_freeAfter_8 : decode cX8_freeAfter 8 = .ok (.iconst 0, 1) := by decide +kernel
theorem dX8_freeAfter_9 : decode cX8_freeAfter 9 = .ok (.bipush 9, 2) := by decide +kernel
theorem dX8_freeAfter_11 : decode cX8_freeAfter 11 = .ok (.invokestatic 80, 3) := by decide +kernel
theorem dX8_freeAfter_14 : decode cX8_freeAfter 14 = .ok (.aload_n 0, 1) := by decide +kernel
theorem dX8_freeAfter_15 : decode cX8_freeAfter 15 = .ok (.getfield 43, 3) := by decide +kernel
theorem dX8_freeAfter_18 : decode cX8_freeAfter 18 = .ok (.aload_n 0, 1) := by decide +kernel
theorem dX8_freeAfter_19 : decode cX8_freeAfter 19 = .ok (.getfield 39, 3) := by decide +kernel
theorem dX8_freeAfter_22 : decode cX8_freeAfter 22 = .ok (.invokevirtual 334, 3) := by decide +kernel
theorem dX8_freeAfter_25 : decode cX8_freeAfter 25 = .ok (.aload_n 0, 1) := by decide +kernel
theorem dX8_freeAfter_26 : decode cX8_freeAfter 26 = .ok (.getfield 43, 3) := by decide +kernel
theorem dX8_freeAfter_29 : decode cX8_freeAfter 29 = .ok (.iload_n 2, 1) := by decide +kernel
theorem dX8_freeAfter_30 : decode cX8_freeAfter 30 = .ok (.putfield 157, 3) := by decide +kernel
theorem dX8_freeAfter_33 : decode cX8_freeAfter 33 = .ok (.iconst (-1), 1) := by decide +kernel
theorem dX8_freeAfter_34 : decode cX8_freeAfter 34 = .ok (.istore_n 3, 1) := by decide +kernel
theorem dX8_freeAfter_35 : decode cX8_freeAfter 35 = .ok (.iconst 0, 1) := by decide +kernel
theorem dX8_freeAfter_36 : decode cX8_freeAfter 36 = .ok (.istore 4, 2) := by decide +kernel
theorem dX8_freeAfter_38 : decode cX8_freeAfter 38 = .ok (.iload 4, 2) := by decide +kernel
theorem dX8_freeAfter_40 : decode cX8_freeAfter 40 = .ok (.iload_n 1, 1) := by decide +kernel
theorem dX8_freeAfter_41 : decode cX8_freeAfter 41 = .ok (.if_icmp .ge 30, 3) := by decide +kernel
theorem dX8_freeAfter_44 : decode cX8_freeAfter 44 = .ok (.aload_n 0, 1) := by decide +kernel
theorem dX8_freeAfter_45 : decode cX8_freeAfter 45 = .ok (.getfield 43, 3) := by decide +kernel
theorem dX8_freeAfter_48 : decode cX8_freeAfter 48 = .ok (.invokevirtual 163, 3) := by decide +kernel
theorem dX8_freeAfter_51 : decode cX8_freeAfter 51 = .ok (.ifCond .eq 14, 3) := by decide +kernel
theorem dX8_freeAfter_54 : decode cX8_freeAfter 54 = .ok (.aload_n 0, 1) := by decide +kernel
theorem dX8_freeAfter_55 : decode cX8_freeAfter 55 = .ok (.getfield 43, 3) := by decide +kernel
theorem dX8_freeAfter_58 : decode cX8_freeAfter 58 = .ok (.getfield 166, 3) := by decide +kernel
theorem dX8_freeAfter_61 : decode cX8_freeAfter 61 = .ok (.getfield 249, 3) := by decide +kernel
theorem dX8_freeAfter_64 : decode cX8_freeAfter 64 = .ok (.istore_n 3, 1) := by decide +kernel
theorem dX8_freeAfter_65 : decode cX8_freeAfter 65 = .ok (.iinc 4 1, 3) := by decide +kernel
theorem dX8_freeAfter_68 : decode cX8_freeAfter 68 = .ok (.goto (-30), 3) := by decide +kernel
theorem dX8_freeAfter_71 : decode cX8_freeAfter 71 = .ok (.iload_n 3, 1) := by decide +kernel
theorem dX8_freeAfter_72 : decode cX8_freeAfter 72 = .ok (.ireturn, 1) := by decide +kernel
theorem dX8_letFall_0 : decode cX8_letFall 0 = .ok (.iload_n 1, 1) := by decide +kernel
theorem dX8_letFall_1 : decode cX8_letFall 1 = .ok (.iconst 1, 1) := by decide +kernel
theorem dX8_letFall_2 : decode cX8_letFall 2 = .ok (.bipush 12, 2) := by decide +kernel
theorem dX8_letFall_4 : decode cX8_letFall 4 = .ok (.invokestatic 80, 3) := by decide +kernel
theorem dX8_letFall_7 : decode cX8_letFall 7 = .ok (.aload_n 0, 1) := by decide +kernel
theorem dX8_letFall_8 : decode cX8_letFall 8 = .ok (.getfield 39, 3) := by decide +kernel
theorem dX8_letFall_11 : decode cX8_letFall 11 = .ok (.getfield 174, 3) := by decide +kernel
theorem dX8_letFall_14 : decode cX8_letFall 14 = .ok (.ifCond .ne 5, 3) := by decide +kernel
theorem dX8_letFall_17 : decode cX8_letFall 17 = .ok (.iconst (-1), 1) := by decide +kernel
theorem dX8_letFall_18 : decode cX8_letFall 18 = .ok (.ireturn, 1) := by decide +kernel
theorem dX8_letFall_19 : decode cX8_letFall 19 = .ok (.iconst 0, 1) := by decide +kernel
theorem dX8_letFall_20 : decode cX8_letFall 20 = .ok (.istore_n 2, 1) := by decide +kernel
theorem dX8_letFall_21 : decode cX8_letFall 21 = .ok (.iload_n 2, 1) := by decide +kernel
theorem dX8_letFall_22 : decode cX8_letFall 22 = .ok (.bipush 9, 2) := by decide +kernel
theorem dX8_letFall_24 : decode cX8_letFall 24 = .ok (.if_icmp .gt 20, 3) := by decide +kernel
theorem dX8_letFall_27 : decode cX8_letFall 27 = .ok (.aload_n 0, 1) := by decide +kernel
theorem dX8_letFall_28 : decode cX8_letFall 28 = .ok (.iload_n 1, 1) := by decide +kernel
theorem dX8_letFall_29 : decode cX8_letFall 29 = .ok (.iload_n 2, 1) := by decide +kernel
theorem dX8_letFall_30 : decode cX8_letFall 30 = .ok (.invokevirtual 338, 3) := by decide +kernel
theorem dX8_letFall_33 : decode cX8_letFall 33 = .ok (.ifCond .eq 5, 3) := by decide +kernel
theorem dX8_letFall_36 : decode cX8_letFall 36 = .ok (.iload_n 2, 1) := by decide +kernel
theorem dX8_letFall_37 : decode cX8_letFall 37 = .ok (.ireturn, 1) := by decide +kernel
theorem dX8_letFall_38 : decode cX8_letFall 38 = .ok (.iinc 2 1, 3) := by decide +kernel
theorem dX8_letFall_41 : decode cX8_letFall 41 = .ok (.goto (-20), 3) := by decide +kernel
theorem dX8_letFall_44 : decode cX8_letFall 44 = .ok (.iconst (-1), 1) := by decide +kernel
theorem dX8_letFall_45 : decode cX8_letFall 45 = .ok (.ireturn, 1) := by decide +kernel
theorem dX8_digest_0 : decode cX8_digest 0 = .ok (.aload_n 0, 1) := by decide +kernel
theorem dX8_digest_1 : decode cX8_digest 1 = .ok (.aload_n 0, 1) := by decide +kernel
theorem dX8_digest_2 : decode cX8_digest 2 = .ok (.ldc2_w 342, 3) := by decide +kernel
theorem dX8_digest_5 : decode cX8_digest 5 = .ok (.invokevirtual 344, 3) := by decide +kernel
theorem dX8_digest_8 : decode cX8_digest 8 = .ok (.invokevirtual 348, 3) := by decide +kernel
theorem dX8_digest_11 : decode cX8_digest 11 = .ok (.lstore_n 1, 1) := by decide +kernel
theorem dX8_digest_12 : decode cX8_digest 12 = .ok (.aload_n 0, 1) := by decide +kernel
theorem dX8_digest_13 : decode cX8_digest 13 = .ok (.aload_n 0, 1) := by decide +kernel
theorem dX8_digest_14 : decode cX8_digest 14 = .ok (.lload_n 1, 1) := by decide +kernel
theorem dX8_digest_15 : decode cX8_digest 15 = .ok (.invokevirtual 351, 3) := by decide +kernel
theorem dX8_digest_18 : decode cX8_digest 18 = .ok (.invokevirtual 354, 3) := by decide +kernel
theorem dX8_digest_21 : decode cX8_digest 21 = .ok (.lstore_n 1, 1) := by decide +kernel
theorem dX8_digest_22 : decode cX8_digest 22 = .ok (.aload_n 0, 1) := by decide +kernel
theorem dX8_digest_23 : decode cX8_digest 23 = .ok (.lload_n 1, 1) := by decide +kernel
theorem dX8_digest_24 : decode cX8_digest 24 = .ok (.invokevirtual 357, 3) := by decide +kernel
theorem dX8_digest_27 : decode cX8_digest 27 = .ok (.lstore_n 1, 1) := by decide +kernel
theorem dX8_digest_28 : decode cX8_digest 28 = .ok (.lload_n 1, 1) := by decide +kernel
theorem dX8_digest_29 : decode cX8_digest 29 = .ok (.aload_n 0, 1) := by decide +kernel
theorem dX8_digest_30 : decode cX8_digest 30 = .ok (.invokevirtual 360, 3) := by decide +kernel
theorem dX8_digest_33 : decode cX8_digest 33 = .ok (.invokestatic 220, 3) := by decide +kernel
theorem dX8_digest_36 : decode cX8_digest 36 = .ok (.i2l, 1) := by decide +kernel
theorem dX8_digest_37 : decode cX8_digest 37 = .ok (.invokestatic 363, 3) := by decide +kernel
theorem dX8_digest_40 : decode cX8_digest 40 = .ok (.lstore_n 1, 1) := by decide +kernel
theorem dX8_digest_41 : decode cX8_digest 41 = .ok (.aload_n 0, 1) := by decide +kernel
theorem dX8_digest_42 : decode cX8_digest 42 = .ok (.getfield 22, 3) := by decide +kernel
theorem dX8_digest_45 : decode cX8_digest 45 = .ok (.invokevirtual 121, 3) := by decide +kernel
theorem dX8_digest_48 : decode cX8_digest 48 = .ok (.iconst 3, 1) := by decide +kernel
theorem dX8_digest_49 : decode cX8_digest 49 = .ok (.if_icmp .lt 14, 3) := by decide +kernel
theorem dX8_digest_52 : decode cX8_digest 52 = .ok (.lload_n 1, 1) := by decide +kernel
theorem dX8_digest_53 : decode cX8_digest 53 = .ok (.aload_n 0, 1) := by decide +kernel
theorem dX8_digest_54 : decode cX8_digest 54 = .ok (.iconst 3, 1) := by decide +kernel
theorem dX8_digest_55 : decode cX8_digest 55 = .ok (.invokevirtual 367, 3) := by decide +kernel
theorem dX8_digest_58 : decode cX8_digest 58 = .ok (.i2l, 1) := by decide +kernel
theorem dX8_digest_59 : decode cX8_digest 59 = .ok (.invokestatic 363, 3) := by decide +kernel
theorem dX8_digest_62 : decode cX8_digest 62 = .ok (.lstore_n 1, 1) := by decide +kernel
theorem dX8_digest_63 : decode cX8_digest 63 = .ok (.lload_n 1, 1) := by decide +kernel
theorem dX8_digest_64 : decode cX8_digest 64 = .ok (.aload_n 0, 1) := by decide +kernel
theorem dX8_digest_65 : decode cX8_digest 65 = .ok (.iconst 5, 1) := by decide +kernel
theorem dX8_digest_66 : decode cX8_digest 66 = .ok (.bipush 6, 2) := by decide +kernel
theorem dX8_digest_68 : decode cX8_digest 68 = .ok (.invokevirtual 370, 3) := by decide +kernel
theorem dX8_digest_71 : decode cX8_digest 71 = .ok (.i2l, 1) := by decide +kernel
theorem dX8_digest_72 : decode cX8_digest 72 = .ok (.invokestatic 363, 3) := by decide +kernel
theorem dX8_digest_75 : decode cX8_digest 75 = .ok (.lstore_n 1, 1) := by decide +kernel
theorem dX8_digest_76 : decode cX8_digest 76 = .ok (.lload_n 1, 1) := by decide +kernel
theorem dX8_digest_77 : decode cX8_digest 77 = .ok (.aload_n 0, 1) := by decide +kernel
theorem dX8_digest_78 : decode cX8_digest 78 = .ok (.iconst 5, 1) := by decide +kernel
theorem dX8_digest_79 : decode cX8_digest 79 = .ok (.invokevirtual 373, 3) := by decide +kernel
theorem dX8_digest_82 : decode cX8_digest 82 = .ok (.i2l, 1) := by decide +kernel
theorem dX8_digest_83 : decode cX8_digest 83 = .ok (.invokestatic 363, 3) := by decide +kernel
theorem dX8_digest_86 : decode cX8_digest 86 = .ok (.lreturn, 1) := by decide +kernel
theorem dX8_digestMany_0 : decode cX8_digestMany 0 = .ok (.lload_n 1, 1) := by decide +kernel
theorem dX8_digestMany_1 : decode cX8_digestMany 1 = .ok (.lstore_n 3, 1) := by decide +kernel
theorem dX8_digestMany_2 : decode cX8_digestMany 2 = .ok (.iconst 0, 1) := by decide +kernel
theorem dX8_digestMany_3 : decode cX8_digestMany 3 = .ok (.istore 5, 2) := by decide +kernel
theorem dX8_digestMany_5 : decode cX8_digestMany 5 = .ok (.iload 5, 2) := by decide +kernel
theorem dX8_digestMany_7 : decode cX8_digestMany 7 = .ok (.bipush 18, 2) := by decide +kernel
theorem dX8_digestMany_9 : decode cX8_digestMany 9 = .ok (.if_icmp .ge 21, 3) := by decide +kernel
theorem dX8_digestMany_12 : decode cX8_digestMany 12 = .ok (.lload_n 3, 1) := by decide +kernel
theorem dX8_digestMany_13 : decode cX8_digestMany 13 = .ok (.aload_n 0, 1) := by decide +kernel
theorem dX8_digestMany_14 : decode cX8_digestMany 14 = .ok (.iload 5, 2) := by decide +kernel
theorem dX8_digestMany_16 : decode cX8_digestMany 16 = .ok (.invokevirtual 376, 3) := by decide +kernel
theorem dX8_digestMany_19 : decode cX8_digestMany 19 = .ok (.i2l, 1) := by decide +kernel
theorem dX8_digestMany_20 : decode cX8_digestMany 20 = .ok (.invokestatic 363, 3) := by decide +kernel
theorem dX8_digestMany_23 : decode cX8_digestMany 23 = .ok (.lstore_n 3, 1) := by decide +kernel
theorem dX8_digestMany_24 : decode cX8_digestMany 24 = .ok (.iinc 5 1, 3) := by decide +kernel
theorem dX8_digestMany_27 : decode cX8_digestMany 27 = .ok (.goto (-22), 3) := by decide +kernel
theorem dX8_digestMany_30 : decode cX8_digestMany 30 = .ok (.lload_n 3, 1) := by decide +kernel
theorem dX8_digestMany_31 : decode cX8_digestMany 31 = .ok (.lreturn, 1) := by decide +kernel
theorem dX8_digestStone_0 : decode cX8_digestStone 0 = .ok (.lload_n 1, 1) := by decide +kernel
theorem dX8_digestStone_1 : decode cX8_digestStone 1 = .ok (.lstore_n 3, 1) := by decide +kernel
theorem dX8_digestStone_2 : decode cX8_digestStone 2 = .ok (.iconst 0, 1) := by decide +kernel
theorem dX8_digestStone_3 : decode cX8_digestStone 3 = .ok (.istore 5, 2) := by decide +kernel
theorem dX8_digestStone_5 : decode cX8_digestStone 5 = .ok (.iload 5, 2) := by decide +kernel
theorem dX8_digestStone_7 : decode cX8_digestStone 7 = .ok (.aload_n 0, 1) := by decide +kernel
theorem dX8_digestStone_8 : decode cX8_digestStone 8 = .ok (.getfield 15, 3) := by decide +kernel
theorem dX8_digestStone_11 : decode cX8_digestStone 11 = .ok (.if_icmp .ge 39, 3) := by decide +kernel
theorem dX8_digestStone_14 : decode cX8_digestStone 14 = .ok (.iconst 0, 1) := by decide +kernel
theorem dX8_digestStone_15 : decode cX8_digestStone 15 = .ok (.istore 6, 2) := by decide +kernel
theorem dX8_digestStone_17 : decode cX8_digestStone 17 = .ok (.iload 6, 2) := by decide +kernel
theorem dX8_digestStone_19 : decode cX8_digestStone 19 = .ok (.bipush 6, 2) := by decide +kernel
theorem dX8_digestStone_21 : decode cX8_digestStone 21 = .ok (.if_icmp .ge 23, 3) := by decide +kernel
theorem dX8_digestStone_24 : decode cX8_digestStone 24 = .ok (.lload_n 3, 1) := by decide +kernel
theorem dX8_digestStone_25 : decode cX8_digestStone 25 = .ok (.aload_n 0, 1) := by decide +kernel
theorem dX8_digestStone_26 : decode cX8_digestStone 26 = .ok (.iload 5, 2) := by decide +kernel
theorem dX8_digestStone_28 : decode cX8_digestStone 28 = .ok (.iload 6, 2) := by decide +kernel
theorem dX8_digestStone_30 : decode cX8_digestStone 30 = .ok (.invokevirtual 379, 3) := by decide +kernel
theorem dX8_digestStone_33 : decode cX8_digestStone 33 = .ok (.i2l, 1) := by decide +kernel
theorem dX8_digestStone_34 : decode cX8_digestStone 34 = .ok (.invokestatic 363, 3) := by decide +kernel
theorem dX8_digestStone_37 : decode cX8_digestStone 37 = .ok (.lstore_n 3, 1) := by decide +kernel
theorem dX8_digestStone_38 : decode cX8_digestStone 38 = .ok (.iinc 6 1, 3) := by decide +kernel
theorem dX8_digestStone_41 : decode cX8_digestStone 41 = .ok (.goto (-24), 3) := by decide +kernel
theorem dX8_digestStone_44 : decode cX8_digestStone 44 = .ok (.iinc 5 1, 3) := by decide +kernel
theorem dX8_digestStone_47 : decode cX8_digestStone 47 = .ok (.goto (-42), 3) := by decide +kernel
theorem dX8_digestStone_50 : decode cX8_digestStone 50 = .ok (.iconst 0, 1) := by decide +kernel
theorem dX8_digestStone_51 : decode cX8_digestStone 51 = .ok (.istore 5, 2) := by decide +kernel
theorem dX8_digestStone_53 : decode cX8_digestStone 53 = .ok (.iload 5, 2) := by decide +kernel
theorem dX8_digestStone_55 : decode cX8_digestStone 55 = .ok (.aload_n 0, 1) := by decide +kernel
theorem dX8_digestStone_56 : decode cX8_digestStone 56 = .ok (.getfield 22, 3) := by decide +kernel
theorem dX8_digestStone_59 : decode cX8_digestStone 59 = .ok (.getfield 227, 3) := by decide +kernel
theorem dX8_digestStone_62 : decode cX8_digestStone 62 = .ok (.if_icmp .ge 38, 3) := by decide +kernel
theorem dX8_digestStone_65 : decode cX8_digestStone 65 = .ok (.iconst 0, 1) := by decide +kernel
theorem dX8_digestStone_66 : decode cX8_digestStone 66 = .ok (.istore 6, 2) := by decide +kernel
theorem dX8_digestStone_68 : decode cX8_digestStone 68 = .ok (.iload 6, 2) := by decide +kernel
theorem dX8_digestStone_70 : decode cX8_digestStone 70 = .ok (.iconst 2, 1) := by decide +kernel
theorem dX8_digestStone_71 : decode cX8_digestStone 71 = .ok (.if_icmp .ge 23, 3) := by decide +kernel
theorem dX8_digestStone_74 : decode cX8_digestStone 74 = .ok (.lload_n 3, 1) := by decide +kernel
theorem dX8_digestStone_75 : decode cX8_digestStone 75 = .ok (.aload_n 0, 1) := by decide +kernel
theorem dX8_digestStone_76 : decode cX8_digestStone 76 = .ok (.iload 5, 2) := by decide +kernel
theorem dX8_digestStone_78 : decode cX8_digestStone 78 = .ok (.iload 6, 2) := by decide +kernel
theorem dX8_digestStone_80 : decode cX8_digestStone 80 = .ok (.invokevirtual 382, 3) := by decide +kernel
theorem dX8_digestStone_83 : decode cX8_digestStone 83 = .ok (.i2l, 1) := by decide +kernel
theorem dX8_digestStone_84 : decode cX8_digestStone 84 = .ok (.invokestatic 363, 3) := by decide +kernel
theorem dX8_digestStone_87 : decode cX8_digestStone 87 = .ok (.lstore_n 3, 1) := by decide +kernel
theorem dX8_digestStone_88 : decode cX8_digestStone 88 = .ok (.iinc 6 1, 3) := by decide +kernel
theorem dX8_digestStone_91 : decode cX8_digestStone 91 = .ok (.goto (-23), 3) := by decide +kernel
theorem dX8_digestStone_94 : decode cX8_digestStone 94 = .ok (.iinc 5 1, 3) := by decide +kernel
theorem dX8_digestStone_97 : decode cX8_digestStone 97 = .ok (.goto (-44), 3) := by decide +kernel
theorem dX8_digestStone_100 : decode cX8_digestStone 100 = .ok (.lload_n 3, 1) := by decide +kernel
theorem dX8_digestStone_101 : decode cX8_digestStone 101 = .ok (.lreturn, 1) := by decide +kernel
theorem dX8_digestKiln_0 : decode cX8_digestKiln 0 = .ok (.lload_n 1, 1) := by decide +kernel
theorem dX8_digestKiln_1 : decode cX8_digestKiln 1 = .ok (.lstore_n 3, 1) := by decide +kernel
theorem dX8_digestKiln_2 : decode cX8_digestKiln 2 = .ok (.iconst 0, 1) := by decide +kernel
theorem dX8_digestKiln_3 : decode cX8_digestKiln 3 = .ok (.istore 5, 2) := by decide +kernel
theorem dX8_digestKiln_5 : decode cX8_digestKiln 5 = .ok (.iload 5, 2) := by decide +kernel
theorem dX8_digestKiln_7 : decode cX8_digestKiln 7 = .ok (.iconst 5, 1) := by decide +kernel
theorem dX8_digestKiln_8 : decode cX8_digestKiln 8 = .ok (.if_icmp .ge 39, 3) := by decide +kernel
theorem dX8_digestKiln_11 : decode cX8_digestKiln 11 = .ok (.iconst 0, 1) := by decide +kernel
theorem dX8_digestKiln_12 : decode cX8_digestKiln 12 = .ok (.istore 6, 2) := by decide +kernel
theorem dX8_digestKiln_14 : decode cX8_digestKiln 14 = .ok (.iload 6, 2) := by decide +kernel
theorem dX8_digestKiln_16 : decode cX8_digestKiln 16 = .ok (.bipush 8, 2) := by decide +kernel
theorem dX8_digestKiln_18 : decode cX8_digestKiln 18 = .ok (.if_icmp .ge 23, 3) := by decide +kernel
theorem dX8_digestKiln_21 : decode cX8_digestKiln 21 = .ok (.lload_n 3, 1) := by decide +kernel
theorem dX8_digestKiln_22 : decode cX8_digestKiln 22 = .ok (.aload_n 0, 1) := by decide +kernel
theorem dX8_digestKiln_23 : decode cX8_digestKiln 23 = .ok (.iload 5, 2) := by decide +kernel
theorem dX8_digestKiln_25 : decode cX8_digestKiln 25 = .ok (.iload 6, 2) := by decide +kernel
theorem dX8_digestKiln_27 : decode cX8_digestKiln 27 = .ok (.invokevirtual 385, 3) := by decide +kernel
theorem dX8_digestKiln_30 : decode cX8_digestKiln 30 = .ok (.i2l, 1) := by decide +kernel
theorem dX8_digestKiln_31 : decode cX8_digestKiln 31 = .ok (.invokestatic 363, 3) := by decide +kernel
theorem dX8_digestKiln_34 : decode cX8_digestKiln 34 = .ok (.lstore_n 3, 1) := by decide +kernel
theorem dX8_digestKiln_35 : decode cX8_digestKiln 35 = .ok (.iinc 6 1, 3) := by decide +kernel
theorem dX8_digestKiln_38 : decode cX8_digestKiln 38 = .ok (.goto (-24), 3) := by decide +kernel
theorem dX8_digestKiln_41 : decode cX8_digestKiln 41 = .ok (.iinc 5 1, 3) := by decide +kernel
theorem dX8_digestKiln_44 : decode cX8_digestKiln 44 = .ok (.goto (-39), 3) := by decide +kernel
theorem dX8_digestKiln_47 : decode cX8_digestKiln 47 = .ok (.iconst 0, 1) := by decide +kernel
theorem dX8_digestKiln_48 : decode cX8_digestKiln 48 = .ok (.istore 5, 2) := by decide +kernel
theorem dX8_digestKiln_50 : decode cX8_digestKiln 50 = .ok (.iload 5, 2) := by decide +kernel
theorem dX8_digestKiln_52 : decode cX8_digestKiln 52 = .ok (.aload_n 0, 1) := by decide +kernel
theorem dX8_digestKiln_53 : decode cX8_digestKiln 53 = .ok (.getfield 39, 3) := by decide +kernel
theorem dX8_digestKiln_56 : decode cX8_digestKiln 56 = .ok (.getfield 279, 3) := by decide +kernel
theorem dX8_digestKiln_59 : decode cX8_digestKiln 59 = .ok (.if_icmp .ge 38, 3) := by decide +kernel
theorem dX8_digestKiln_62 : decode cX8_digestKiln 62 = .ok (.iconst 0, 1) := by decide +kernel
theorem dX8_digestKiln_63 : decode cX8_digestKiln 63 = .ok (.istore 6, 2) := by decide +kernel
theorem dX8_digestKiln_65 : decode cX8_digestKiln 65 = .ok (.iload 6, 2) := by decide +kernel
theorem dX8_digestKiln_67 : decode cX8_digestKiln 67 = .ok (.iconst 4, 1) := by decide +kernel
theorem dX8_digestKiln_68 : decode cX8_digestKiln 68 = .ok (.if_icmp .ge 23, 3) := by decide +kernel
theorem dX8_digestKiln_71 : decode cX8_digestKiln 71 = .ok (.lload_n 3, 1) := by decide +kernel
theorem dX8_digestKiln_72 : decode cX8_digestKiln 72 = .ok (.aload_n 0, 1) := by decide +kernel
theorem dX8_digestKiln_73 : decode cX8_digestKiln 73 = .ok (.iload 5, 2) := by decide +kernel
theorem dX8_digestKiln_75 : decode cX8_digestKiln 75 = .ok (.iload 6, 2) := by decide +kernel
theorem dX8_digestKiln_77 : decode cX8_digestKiln 77 = .ok (.invokevirtual 388, 3) := by decide +kernel
theorem dX8_digestKiln_80 : decode cX8_digestKiln 80 = .ok (.i2l, 1) := by decide +kernel
theorem dX8_digestKiln_81 : decode cX8_digestKiln 81 = .ok (.invokestatic 363, 3) := by decide +kernel
theorem dX8_digestKiln_84 : decode cX8_digestKiln 84 = .ok (.lstore_n 3, 1) := by decide +kernel
theorem dX8_digestKiln_85 : decode cX8_digestKiln 85 = .ok (.iinc 6 1, 3) := by decide +kernel
theorem dX8_digestKiln_88 : decode cX8_digestKiln 88 = .ok (.goto (-23), 3) := by decide +kernel
theorem dX8_digestKiln_91 : decode cX8_digestKiln 91 = .ok (.iinc 5 1, 3) := by decide +kernel
theorem dX8_digestKiln_94 : decode cX8_digestKiln 94 = .ok (.goto (-44), 3) := by decide +kernel
theorem dX8_digestKiln_97 : decode cX8_digestKiln 97 = .ok (.lload_n 3, 1) := by decide +kernel
theorem dX8_digestKiln_98 : decode cX8_digestKiln 98 = .ok (.lreturn, 1) := by decide +kernel
theorem dX8_digestLots_0 : decode cX8_digestLots 0 = .ok (.lload_n 1, 1) := by decide +kernel
theorem dX8_digestLots_1 : decode cX8_digestLots 1 = .ok (.lstore_n 3, 1) := by decide +kernel
theorem dX8_digestLots_2 : decode cX8_digestLots 2 = .ok (.iconst 0, 1) := by decide +kernel
theorem dX8_digestLots_3 : decode cX8_digestLots 3 = .ok (.istore 5, 2) := by decide +kernel
theorem dX8_digestLots_5 : decode cX8_digestLots 5 = .ok (.iload 5, 2) := by decide +kernel
theorem dX8_digestLots_7 : decode cX8_digestLots 7 = .ok (.aload_n 0, 1) := by decide +kernel
theorem dX8_digestLots_8 : decode cX8_digestLots 8 = .ok (.getfield 52, 3) := by decide +kernel
theorem dX8_digestLots_11 : decode cX8_digestLots 11 = .ok (.if_icmp .ge 65, 3) := by decide +kernel
theorem dX8_digestLots_14 : decode cX8_digestLots 14 = .ok (.iconst 0, 1) := by decide +kernel
theorem dX8_digestLots_15 : decode cX8_digestLots 15 = .ok (.istore 6, 2) := by decide +kernel
theorem dX8_digestLots_17 : decode cX8_digestLots 17 = .ok (.iload 6, 2) := by decide +kernel
theorem dX8_digestLots_19 : decode cX8_digestLots 19 = .ok (.bipush 22, 2) := by decide +kernel
theorem dX8_digestLots_21 : decode cX8_digestLots 21 = .ok (.if_icmp .ge 23, 3) := by decide +kernel
theorem dX8_digestLots_24 : decode cX8_digestLots 24 = .ok (.lload_n 3, 1) := by decide +kernel
theorem dX8_digestLots_25 : decode cX8_digestLots 25 = .ok (.aload_n 0, 1) := by decide +kernel
theorem dX8_digestLots_26 : decode cX8_digestLots 26 = .ok (.iload 5, 2) := by decide +kernel
theorem dX8_digestLots_28 : decode cX8_digestLots 28 = .ok (.iload 6, 2) := by decide +kernel
theorem dX8_digestLots_30 : decode cX8_digestLots 30 = .ok (.invokevirtual 391, 3) := by decide +kernel
theorem dX8_digestLots_33 : decode cX8_digestLots 33 = .ok (.i2l, 1) := by decide +kernel
theorem dX8_digestLots_34 : decode cX8_digestLots 34 = .ok (.invokestatic 363, 3) := by decide +kernel
theorem dX8_digestLots_37 : decode cX8_digestLots 37 = .ok (.lstore_n 3, 1) := by decide +kernel
theorem dX8_digestLots_38 : decode cX8_digestLots 38 = .ok (.iinc 6 1, 3) := by decide +kernel
theorem dX8_digestLots_41 : decode cX8_digestLots 41 = .ok (.goto (-24), 3) := by decide +kernel
theorem dX8_digestLots_44 : decode cX8_digestLots 44 = .ok (.aload_n 0, 1) := by decide +kernel
theorem dX8_digestLots_45 : decode cX8_digestLots 45 = .ok (.getfield 48, 3) := by decide +kernel
theorem dX8_digestLots_48 : decode cX8_digestLots 48 = .ok (.iload 5, 2) := by decide +kernel
theorem dX8_digestLots_50 : decode cX8_digestLots 50 = .ok (.aaload, 1) := by decide +kernel
theorem dX8_digestLots_51 : decode cX8_digestLots 51 = .ok (.iconst 1, 1) := by decide +kernel
theorem dX8_digestLots_52 : decode cX8_digestLots 52 = .ok (.invokevirtual 200, 3) := by decide +kernel
theorem dX8_digestLots_55 : decode cX8_digestLots 55 = .ok (.ifCond .eq 15, 3) := by decide +kernel
theorem dX8_digestLots_58 : decode cX8_digestLots 58 = .ok (.lload_n 3, 1) := by decide +kernel
theorem dX8_digestLots_59 : decode cX8_digestLots 59 = .ok (.aload_n 0, 1) := by decide +kernel
theorem dX8_digestLots_60 : decode cX8_digestLots 60 = .ok (.iload 5, 2) := by decide +kernel
theorem dX8_digestLots_62 : decode cX8_digestLots 62 = .ok (.invokevirtual 394, 3) := by decide +kernel
theorem dX8_digestLots_65 : decode cX8_digestLots 65 = .ok (.i2l, 1) := by decide +kernel
theorem dX8_digestLots_66 : decode cX8_digestLots 66 = .ok (.invokestatic 363, 3) := by decide +kernel
theorem dX8_digestLots_69 : decode cX8_digestLots 69 = .ok (.lstore_n 3, 1) := by decide +kernel
theorem dX8_digestLots_70 : decode cX8_digestLots 70 = .ok (.iinc 5 1, 3) := by decide +kernel
theorem dX8_digestLots_73 : decode cX8_digestLots 73 = .ok (.goto (-68), 3) := by decide +kernel
theorem dX8_digestLots_76 : decode cX8_digestLots 76 = .ok (.lload_n 3, 1) := by decide +kernel
theorem dX8_digestLots_77 : decode cX8_digestLots 77 = .ok (.lreturn, 1) := by decide +kernel
theorem dX8_digestSilos_0 : decode cX8_digestSilos 0 = .ok (.lload_n 1, 1) := by decide +kernel
theorem dX8_digestSilos_1 : decode cX8_digestSilos 1 = .ok (.lstore_n 3, 1) := by decide +kernel
theorem dX8_digestSilos_2 : decode cX8_digestSilos 2 = .ok (.iconst 0, 1) := by decide +kernel
theorem dX8_digestSilos_3 : decode cX8_digestSilos 3 = .ok (.istore 5, 2) := by decide +kernel
theorem dX8_digestSilos_5 : decode cX8_digestSilos 5 = .ok (.iload 5, 2) := by decide +kernel
theorem dX8_digestSilos_7 : decode cX8_digestSilos 7 = .ok (.iconst 2, 1) := by decide +kernel
theorem dX8_digestSilos_8 : decode cX8_digestSilos 8 = .ok (.if_icmp .ge 38, 3) := by decide +kernel
theorem dX8_digestSilos_11 : decode cX8_digestSilos 11 = .ok (.iconst 0, 1) := by decide +kernel
theorem dX8_digestSilos_12 : decode cX8_digestSilos 12 = .ok (.istore 6, 2) := by decide +kernel
theorem dX8_digestSilos_14 : decode cX8_digestSilos 14 = .ok (.iload 6, 2) := by decide +kernel
theorem dX8_digestSilos_16 : decode cX8_digestSilos 16 = .ok (.iconst 3, 1) := by decide +kernel
theorem dX8_digestSilos_17 : decode cX8_digestSilos 17 = .ok (.if_icmp .ge 23, 3) := by decide +kernel
theorem dX8_digestSilos_20 : decode cX8_digestSilos 20 = .ok (.lload_n 3, 1) := by decide +kernel
theorem dX8_digestSilos_21 : decode cX8_digestSilos 21 = .ok (.aload_n 0, 1) := by decide +kernel
theorem dX8_digestSilos_22 : decode cX8_digestSilos 22 = .ok (.iload 5, 2) := by decide +kernel
theorem dX8_digestSilos_24 : decode cX8_digestSilos 24 = .ok (.iload 6, 2) := by decide +kernel
theorem dX8_digestSilos_26 : decode cX8_digestSilos 26 = .ok (.invokevirtual 397, 3) := by decide +kernel
theorem dX8_digestSilos_29 : decode cX8_digestSilos 29 = .ok (.i2l, 1) := by decide +kernel
theorem dX8_digestSilos_30 : decode cX8_digestSilos 30 = .ok (.invokestatic 363, 3) := by decide +kernel
theorem dX8_digestSilos_33 : decode cX8_digestSilos 33 = .ok (.lstore_n 3, 1) := by decide +kernel
theorem dX8_digestSilos_34 : decode cX8_digestSilos 34 = .ok (.iinc 6 1, 3) := by decide +kernel
theorem dX8_digestSilos_37 : decode cX8_digestSilos 37 = .ok (.goto (-23), 3) := by decide +kernel
theorem dX8_digestSilos_40 : decode cX8_digestSilos 40 = .ok (.iinc 5 1, 3) := by decide +kernel
theorem dX8_digestSilos_43 : decode cX8_digestSilos 43 = .ok (.goto (-38), 3) := by decide +kernel
theorem dX8_digestSilos_46 : decode cX8_digestSilos 46 = .ok (.lload_n 3, 1) := by decide +kernel
theorem dX8_digestSilos_47 : decode cX8_digestSilos 47 = .ok (.lreturn, 1) := by decide +kernel
theorem dX8_fold_0 : decode cX8_fold 0 = .ok (.lload_n 0, 1) := by decide +kernel
theorem dX8_fold_1 : decode cX8_fold 1 = .ok (.ldc2_w 400, 3) := by decide +kernel
theorem dX8_fold_4 : decode cX8_fold 4 = .ok (.lmul, 1) := by decide +kernel
theorem dX8_fold_5 : decode cX8_fold 5 = .ok (.lload_n 2, 1) := by decide +kernel
theorem dX8_fold_6 : decode cX8_fold 6 = .ok (.ladd, 1) := by decide +kernel
theorem dX8_fold_7 : decode cX8_fold 7 = .ok (.lreturn, 1) := by decide +kernel
theorem dX8_asNumber_0 : decode cX8_asNumber 0 = .ok (.iload_n 0, 1) := by decide +kernel
theorem dX8_asNumber_1 : decode cX8_asNumber 1 = .ok (.ifCond .eq 7, 3) := by decide +kernel
theorem dX8_asNumber_4 : decode cX8_asNumber 4 = .ok (.iconst 1, 1) := by decide +kernel
theorem dX8_asNumber_5 : decode cX8_asNumber 5 = .ok (.goto 4, 3) := by decide +kernel
theorem dX8_asNumber_8 : decode cX8_asNumber 8 = .ok (.iconst 0, 1) := by decide +kernel
theorem dX8_asNumber_9 : decode cX8_asNumber 9 = .ok (.ireturn, 1) := by decide +kernel
theorem dX8_isIndex_0 : decode cX8_isIndex 0 = .ok (.iload_n 0, 1) := by decide +kernel
theorem dX8_isIndex_1 : decode cX8_isIndex 1 = .ok (.ifCond .lt 12, 3) := by decide +kernel
theorem dX8_isIndex_4 : decode cX8_isIndex 4 = .ok (.iload_n 0, 1) := by decide +kernel
theorem dX8_isIndex_5 : decode cX8_isIndex 5 = .ok (.iload_n 1, 1) := by decide +kernel
theorem dX8_isIndex_6 : decode cX8_isIndex 6 = .ok (.if_icmp .ge 7, 3) := by decide +kernel
theorem dX8_isIndex_9 : decode cX8_isIndex 9 = .ok (.iconst 1, 1) := by decide +kernel
theorem dX8_isIndex_10 : decode cX8_isIndex 10 = .ok (.goto 4, 3) := by decide +kernel
theorem dX8_isIndex_13 : decode cX8_isIndex 13 = .ok (.iconst 0, 1) := by decide +kernel
theorem dX8_isIndex_14 : decode cX8_isIndex 14 = .ok (.ireturn, 1) := by decide +kernel
theorem dX8_needIndex_0 : decode cX8_needIndex 0 = .ok (.iload_n 0, 1) := by decide +kernel
theorem dX8_needIndex_1 : decode cX8_needIndex 1 = .ok (.iload_n 1, 1) := by decide +kernel
theorem dX8_needIndex_2 : decode cX8_needIndex 2 = .ok (.invokestatic 402, 3) := by decide +kernel
theorem dX8_needIndex_5 : decode cX8_needIndex 5 = .ok (.ifCond .ne 14, 3) := by decide +kernel
theorem dX8_needIndex_8 : decode cX8_needIndex 8 = .ok (.new 405, 3) := by decide +kernel
theorem dX8_needIndex_11 : decode cX8_needIndex 11 = .ok (.dup, 1) := by decide +kernel
theorem dX8_needIndex_12 : decode cX8_needIndex 12 = .ok (.ldc_w 407, 3) := by decide +kernel
theorem dX8_needIndex_15 : decode cX8_needIndex 15 = .ok (.invokespecial 409, 3) := by decide +kernel
theorem dX8_needIndex_18 : decode cX8_needIndex 18 = .ok (.athrow, 1) := by decide +kernel
theorem dX8_needIndex_19 : decode cX8_needIndex 19 = .ok (.return_, 1) := by decide +kernel
theorem dX8_needArgument_0 : decode cX8_needArgument 0 = .ok (.iload_n 0, 1) := by decide +kernel
theorem dX8_needArgument_1 : decode cX8_needArgument 1 = .ok (.iload_n 1, 1) := by decide +kernel
theorem dX8_needArgument_2 : decode cX8_needArgument 2 = .ok (.if_icmp .lt 8, 3) := by decide +kernel
theorem dX8_needArgument_5 : decode cX8_needArgument 5 = .ok (.iload_n 0, 1) := by decide +kernel
theorem dX8_needArgument_6 : decode cX8_needArgument 6 = .ok (.iload_n 2, 1) := by decide +kernel
theorem dX8_needArgument_7 : decode cX8_needArgument 7 = .ok (.if_icmp .le 14, 3) := by decide +kernel
theorem dX8_needArgument_10 : decode cX8_needArgument 10 = .ok (.new 294, 3) := by decide +kernel
theorem dX8_needArgument_13 : decode cX8_needArgument 13 = .ok (.dup, 1) := by decide +kernel
theorem dX8_needArgument_14 : decode cX8_needArgument 14 = .ok (.ldc_w 410, 3) := by decide +kernel
theorem dX8_needArgument_17 : decode cX8_needArgument 17 = .ok (.invokespecial 298, 3) := by decide +kernel
theorem dX8_needArgument_20 : decode cX8_needArgument 20 = .ok (.athrow, 1) := by decide +kernel
theorem dX8_needArgument_21 : decode cX8_needArgument 21 = .ok (.return_, 1) := by decide +kernel
theorem dX8_mixCut_0 : decode cX8_mixCut 0 = .ok (.aload_n 0, 1) := by decide +kernel
theorem dX8_mixCut_1 : decode cX8_mixCut 1 = .ok (.getfield 22, 3) := by decide +kernel
theorem dX8_mixCut_4 : decode cX8_mixCut 4 = .ok (.iload_n 1, 1) := by decide +kernel
theorem dX8_mixCut_5 : decode cX8_mixCut 5 = .ok (.invokevirtual 412, 3) := by decide +kernel
theorem dX8_mixCut_8 : decode cX8_mixCut 8 = .ok (.aload_n 0, 1) := by decide +kernel
theorem dX8_mixCut_9 : decode cX8_mixCut 9 = .ok (.getfield 29, 3) := by decide +kernel
theorem dX8_mixCut_12 : decode cX8_mixCut 12 = .ok (.invokevirtual 415, 3) := by decide +kernel
theorem dX8_mixCut_15 : decode cX8_mixCut 15 = .ok (.iconst 0, 1) := by decide +kernel
theorem dX8_mixCut_16 : decode cX8_mixCut 16 = .ok (.istore_n 2, 1) := by decide +kernel
theorem dX8_mixCut_17 : decode cX8_mixCut 17 = .ok (.iload_n 2, 1) := by decide +kernel
theorem dX8_mixCut_18 : decode cX8_mixCut 18 = .ok (.aload_n 0, 1) := by decide +kernel
theorem dX8_mixCut_19 : decode cX8_mixCut 19 = .ok (.getfield 22, 3) := by decide +kernel
theorem dX8_mixCut_22 : decode cX8_mixCut 22 = .ok (.getfield 227, 3) := by decide +kernel
theorem dX8_mixCut_25 : decode cX8_mixCut 25 = .ok (.if_icmp .ge 52, 3) := by decide +kernel
theorem dX8_mixCut_28 : decode cX8_mixCut 28 = .ok (.aload_n 0, 1) := by decide +kernel
theorem dX8_mixCut_29 : decode cX8_mixCut 29 = .ok (.getfield 22, 3) := by decide +kernel
theorem dX8_mixCut_32 : decode cX8_mixCut 32 = .ok (.getfield 230, 3) := by decide +kernel
theorem dX8_mixCut_35 : decode cX8_mixCut 35 = .ok (.iload_n 2, 1) := by decide +kernel
theorem dX8_mixCut_36 : decode cX8_mixCut 36 = .ok (.iaload, 1) := by decide +kernel
theorem dX8_mixCut_37 : decode cX8_mixCut 37 = .ok (.istore_n 3, 1) := by decide +kernel
theorem dX8_mixCut_38 : decode cX8_mixCut 38 = .ok (.iload_n 3, 1) := by decide +kernel
theorem dX8_mixCut_39 : decode cX8_mixCut 39 = .ok (.aload_n 0, 1) := by decide +kernel
theorem dX8_mixCut_40 : decode cX8_mixCut 40 = .ok (.getfield 15, 3) := by decide +kernel
theorem dX8_mixCut_43 : decode cX8_mixCut 43 = .ok (.invokestatic 402, 3) := by decide +kernel
theorem dX8_mixCut_46 : decode cX8_mixCut 46 = .ok (.ifCond .eq 25, 3) := by decide +kernel
theorem dX8_mixCut_49 : decode cX8_mixCut 49 = .ok (.aload_n 0, 1) := by decide +kernel
theorem dX8_mixCut_50 : decode cX8_mixCut 50 = .ok (.getfield 29, 3) := by decide +kernel
theorem dX8_mixCut_53 : decode cX8_mixCut 53 = .ok (.aload_n 0, 1) := by decide +kernel
theorem dX8_mixCut_54 : decode cX8_mixCut 54 = .ok (.getfield 11, 3) := by decide +kernel
theorem dX8_mixCut_57 : decode cX8_mixCut 57 = .ok (.iload_n 3, 1) := by decide +kernel
theorem dX8_mixCut_58 : decode cX8_mixCut 58 = .ok (.aaload, 1) := by decide +kernel
theorem dX8_mixCut_59 : decode cX8_mixCut 59 = .ok (.aload_n 0, 1) := by decide +kernel
theorem dX8_mixCut_60 : decode cX8_mixCut 60 = .ok (.getfield 22, 3) := by decide +kernel
theorem dX8_mixCut_63 : decode cX8_mixCut 63 = .ok (.getfield 418, 3) := by decide +kernel
theorem dX8_mixCut_66 : decode cX8_mixCut 66 = .ok (.iload_n 2, 1) := by decide +kernel
theorem dX8_mixCut_67 : decode cX8_mixCut 67 = .ok (.iaload, 1) := by decide +kernel
theorem dX8_mixCut_68 : decode cX8_mixCut 68 = .ok (.invokevirtual 421, 3) := by decide +kernel
theorem dX8_mixCut_71 : decode cX8_mixCut 71 = .ok (.iinc 2 1, 3) := by decide +kernel
theorem dX8_mixCut_74 : decode cX8_mixCut 74 = .ok (.goto (-57), 3) := by decide +kernel
theorem dX8_mixCut_77 : decode cX8_mixCut 77 = .ok (.return_, 1) := by decide +kernel
theorem dX8_storeLot_0 : decode cX8_storeLot 0 = .ok (.aload_n 0, 1) := by decide +kernel
theorem dX8_storeLot_1 : decode cX8_storeLot 1 = .ok (.getfield 52, 3) := by decide +kernel
theorem dX8_storeLot_4 : decode cX8_storeLot 4 = .ok (.bipush 12, 2) := by decide +kernel
theorem dX8_storeLot_6 : decode cX8_storeLot 6 = .ok (.if_icmp .lt 14, 3) := by decide +kernel
theorem dX8_storeLot_9 : decode cX8_storeLot 9 = .ok (.aload_n 0, 1) := by decide +kernel
theorem dX8_storeLot_10 : decode cX8_storeLot 10 = .ok (.dup, 1) := by decide +kernel
theorem dX8_storeLot_11 : decode cX8_storeLot 11 = .ok (.getfield 55, 3) := by decide +kernel
theorem dX8_storeLot_14 : decode cX8_storeLot 14 = .ok (.iconst 1, 1) := by decide +kernel
theorem dX8_storeLot_15 : decode cX8_storeLot 15 = .ok (.iadd, 1) := by decide +kernel
theorem dX8_storeLot_16 : decode cX8_storeLot 16 = .ok (.putfield 55, 3) := by decide +kernel
theorem dX8_storeLot_19 : decode cX8_storeLot 19 = .ok (.return_, 1) := by decide +kernel
theorem dX8_storeLot_20 : decode cX8_storeLot 20 = .ok (.aload_n 0, 1) := by decide +kernel
theorem dX8_storeLot_21 : decode cX8_storeLot 21 = .ok (.getfield 48, 3) := by decide +kernel
theorem dX8_storeLot_24 : decode cX8_storeLot 24 = .ok (.aload_n 0, 1) := by decide +kernel
theorem dX8_storeLot_25 : decode cX8_storeLot 25 = .ok (.getfield 52, 3) := by decide +kernel
theorem dX8_storeLot_28 : decode cX8_storeLot 28 = .ok (.aaload, 1) := by decide +kernel
theorem dX8_storeLot_29 : decode cX8_storeLot 29 = .ok (.getfield 264, 3) := by decide +kernel
theorem dX8_storeLot_32 : decode cX8_storeLot 32 = .ok (.aload_n 1, 1) := by decide +kernel
theorem dX8_storeLot_33 : decode cX8_storeLot 33 = .ok (.invokevirtual 425, 3) := by decide +kernel
theorem dX8_storeLot_36 : decode cX8_storeLot 36 = .ok (.aload_n 0, 1) := by decide +kernel
theorem dX8_storeLot_37 : decode cX8_storeLot 37 = .ok (.dup, 1) := by decide +kernel
theorem dX8_storeLot_38 : decode cX8_storeLot 38 = .ok (.getfield 52, 3) := by decide +kernel
theorem dX8_storeLot_41 : decode cX8_storeLot 41 = .ok (.iconst 1, 1) := by decide +kernel
theorem dX8_storeLot_42 : decode cX8_storeLot 42 = .ok (.iadd, 1) := by decide +kernel
theorem dX8_storeLot_43 : decode cX8_storeLot 43 = .ok (.putfield 52, 3) := by decide +kernel
theorem dX8_storeLot_46 : decode cX8_storeLot 46 = .ok (.return_, 1) := by decide +kernel
theorem dX8_usualGain_0 : decode cX8_usualGain 0 = .ok (.iconst 0, 1) := by decide +kernel
theorem dX8_usualGain_1 : decode cX8_usualGain 1 = .ok (.istore_n 2, 1) := by decide +kernel
theorem dX8_usualGain_2 : decode cX8_usualGain 2 = .ok (.iconst 0, 1) := by decide +kernel
theorem dX8_usualGain_3 : decode cX8_usualGain 3 = .ok (.istore_n 3, 1) := by decide +kernel
theorem dX8_usualGain_4 : decode cX8_usualGain 4 = .ok (.iconst 0, 1) := by decide +kernel
theorem dX8_usualGain_5 : decode cX8_usualGain 5 = .ok (.istore 4, 2) := by decide +kernel
theorem dX8_usualGain_7 : decode cX8_usualGain 7 = .ok (.iload 4, 2) := by decide +kernel
theorem dX8_usualGain_9 : decode cX8_usualGain 9 = .ok (.aload_n 0, 1) := by decide +kernel
theorem dX8_usualGain_10 : decode cX8_usualGain 10 = .ok (.getfield 52, 3) := by decide +kernel
theorem dX8_usualGain_13 : decode cX8_usualGain 13 = .ok (.if_icmp .ge 74, 3) := by decide +kernel
theorem dX8_usualGain_16 : decode cX8_usualGain 16 = .ok (.iload 4, 2) := by decide +kernel
theorem dX8_usualGain_18 : decode cX8_usualGain 18 = .ok (.iload_n 1, 1) := by decide +kernel
theorem dX8_usualGain_19 : decode cX8_usualGain 19 = .ok (.if_icmp .eq 62, 3) := by decide +kernel
theorem dX8_usualGain_22 : decode cX8_usualGain 22 = .ok (.aload_n 0, 1) := by decide +kernel
theorem dX8_usualGain_23 : decode cX8_usualGain 23 = .ok (.getfield 48, 3) := by decide +kernel
theorem dX8_usualGain_26 : decode cX8_usualGain 26 = .ok (.iload 4, 2) := by decide +kernel
theorem dX8_usualGain_28 : decode cX8_usualGain 28 = .ok (.aaload, 1) := by decide +kernel
theorem dX8_usualGain_29 : decode cX8_usualGain 29 = .ok (.iconst 1, 1) := by decide +kernel
theorem dX8_usualGain_30 : decode cX8_usualGain 30 = .ok (.invokevirtual 200, 3) := by decide +kernel
theorem dX8_usualGain_33 : decode cX8_usualGain 33 = .ok (.ifCond .eq 48, 3) := by decide +kernel
theorem dX8_usualGain_36 : decode cX8_usualGain 36 = .ok (.aload_n 0, 1) := by decide +kernel
theorem dX8_usualGain_37 : decode cX8_usualGain 37 = .ok (.getfield 48, 3) := by decide +kernel
theorem dX8_usualGain_40 : decode cX8_usualGain 40 = .ok (.iload 4, 2) := by decide +kernel
theorem dX8_usualGain_42 : decode cX8_usualGain 42 = .ok (.aaload, 1) := by decide +kernel
theorem dX8_usualGain_43 : decode cX8_usualGain 43 = .ok (.iconst 2, 1) := by decide +kernel
theorem dX8_usualGain_44 : decode cX8_usualGain 44 = .ok (.invokevirtual 200, 3) := by decide +kernel
theorem dX8_usualGain_47 : decode cX8_usualGain 47 = .ok (.ifCond .eq 34, 3) := by decide +kernel
theorem dX8_usualGain_50 : decode cX8_usualGain 50 = .ok (.iload_n 2, 1) := by decide +kernel
theorem dX8_usualGain_51 : decode cX8_usualGain 51 = .ok (.aload_n 0, 1) := by decide +kernel
theorem dX8_usualGain_52 : decode cX8_usualGain 52 = .ok (.getfield 48, 3) := by decide +kernel
theorem dX8_usualGain_55 : decode cX8_usualGain 55 = .ok (.iload 4, 2) := by decide +kernel
theorem dX8_usualGain_57 : decode cX8_usualGain 57 = .ok (.aaload, 1) := by decide +kernel
theorem dX8_usualGain_58 : decode cX8_usualGain 58 = .ok (.getfield 210, 3) := by decide +kernel
theorem dX8_usualGain_61 : decode cX8_usualGain 61 = .ok (.iconst 2, 1) := by decide +kernel
theorem dX8_usualGain_62 : decode cX8_usualGain 62 = .ok (.iaload, 1) := by decide +kernel
theorem dX8_usualGain_63 : decode cX8_usualGain 63 = .ok (.aload_n 0, 1) := by decide +kernel
theorem dX8_usualGain_64 : decode cX8_usualGain 64 = .ok (.getfield 48, 3) := by decide +kernel
theorem dX8_usualGain_67 : decode cX8_usualGain 67 = .ok (.iload 4, 2) := by decide +kernel
theorem dX8_usualGain_69 : decode cX8_usualGain 69 = .ok (.aaload, 1) := by decide +kernel
theorem dX8_usualGain_70 : decode cX8_usualGain 70 = .ok (.getfield 210, 3) := by decide +kernel
theorem dX8_usualGain_73 : decode cX8_usualGain 73 = .ok (.iconst 1, 1) := by decide +kernel
theorem dX8_usualGain_74 : decode cX8_usualGain 74 = .ok (.iaload, 1) := by decide +kernel
theorem dX8_usualGain_75 : decode cX8_usualGain 75 = .ok (.isub, 1) := by decide +kernel
theorem dX8_usualGain_76 : decode cX8_usualGain 76 = .ok (.iadd, 1) := by decide +kernel
theorem dX8_usualGain_77 : decode cX8_usualGain 77 = .ok (.istore_n 2, 1) := by decide +kernel
theorem dX8_usualGain_78 : decode cX8_usualGain 78 = .ok (.iinc 3 1, 3) := by decide +kernel
theorem dX8_usualGain_81 : decode cX8_usualGain 81 = .ok (.iinc 4 1, 3) := by decide +kernel
theorem dX8_usualGain_84 : decode cX8_usualGain 84 = .ok (.goto (-77), 3) := by decide +kernel
theorem dX8_usualGain_87 : decode cX8_usualGain 87 = .ok (.iload_n 3, 1) := by decide +kernel
theorem dX8_usualGain_88 : decode cX8_usualGain 88 = .ok (.ifCond .ne 8, 3) := by decide +kernel
theorem dX8_usualGain_91 : decode cX8_usualGain 91 = .ok (.bipush 10, 2) := by decide +kernel
theorem dX8_usualGain_93 : decode cX8_usualGain 93 = .ok (.goto 8, 3) := by decide +kernel
theorem dX8_usualGain_96 : decode cX8_usualGain 96 = .ok (.iload_n 2, 1) := by decide +kernel
theorem dX8_usualGain_97 : decode cX8_usualGain 97 = .ok (.iload_n 3, 1) := by decide +kernel
theorem dX8_usualGain_98 : decode cX8_usualGain 98 = .ok (.invokestatic 436, 3) := by decide +kernel
theorem dX8_usualGain_101 : decode cX8_usualGain 101 = .ok (.ireturn, 1) := by decide +kernel
theorem dX8_smallestRight_0 : decode cX8_smallestRight 0 = .ok (.iconst 0, 1) := by decide +kernel
theorem dX8_smallestRight_1 : decode cX8_smallestRight 1 = .ok (.istore_n 2, 1) := by decide +kernel
theorem dX8_smallestRight_2 : decode cX8_smallestRight 2 = .ok (.iload_n 2, 1) := by decide +kernel
theorem dX8_smallestRight_3 : decode cX8_smallestRight 3 = .ok (.iconst 3, 1) := by decide +kernel
theorem dX8_smallestRight_4 : decode cX8_smallestRight 4 = .ok (.if_icmp .gt 64, 3) := by decide +kernel
theorem dX8_smallestRight_7 : decode cX8_smallestRight 7 = .ok (.iconst 0, 1) := by decide +kernel
theorem dX8_smallestRight_8 : decode cX8_smallestRight 8 = .ok (.istore_n 3, 1) := by decide +kernel
theorem dX8_smallestRight_9 : decode cX8_smallestRight 9 = .ok (.iload_n 3, 1) := by decide +kernel
theorem dX8_smallestRight_10 : decode cX8_smallestRight 10 = .ok (.iconst 3, 1) := by decide +kernel
theorem dX8_smallestRight_11 : decode cX8_smallestRight 11 = .ok (.if_icmp .gt 51, 3) := by decide +kernel
theorem dX8_smallestRight_14 : decode cX8_smallestRight 14 = .ok (.iload_n 1, 1) := by decide +kernel
theorem dX8_smallestRight_15 : decode cX8_smallestRight 15 = .ok (.iload_n 2, 1) := by decide +kernel
theorem dX8_smallestRight_16 : decode cX8_smallestRight 16 = .ok (.isub, 1) := by decide +kernel
theorem dX8_smallestRight_17 : decode cX8_smallestRight 17 = .ok (.iload_n 3, 1) := by decide +kernel
theorem dX8_smallestRight_18 : decode cX8_smallestRight 18 = .ok (.isub, 1) := by decide +kernel
theorem dX8_smallestRight_19 : decode cX8_smallestRight 19 = .ok (.istore 4, 2) := by decide +kernel
theorem dX8_smallestRight_21 : decode cX8_smallestRight 21 = .ok (.iload 4, 2) := by decide +kernel
theorem dX8_smallestRight_23 : decode cX8_smallestRight 23 = .ok (.ifCond .lt 33, 3) := by decide +kernel
theorem dX8_smallestRight_26 : decode cX8_smallestRight 26 = .ok (.iload 4, 2) := by decide +kernel
theorem dX8_smallestRight_28 : decode cX8_smallestRight 28 = .ok (.iconst 3, 1) := by decide +kernel
theorem dX8_smallestRight_29 : decode cX8_smallestRight 29 = .ok (.if_icmp .gt 27, 3) := by decide +kernel
theorem dX8_smallestRight_32 : decode cX8_smallestRight 32 = .ok (.aload_n 0, 1) := by decide +kernel
theorem dX8_smallestRight_33 : decode cX8_smallestRight 33 = .ok (.iload_n 2, 1) := by decide +kernel
theorem dX8_smallestRight_34 : decode cX8_smallestRight 34 = .ok (.iload_n 3, 1) := by decide +kernel
theorem dX8_smallestRight_35 : decode cX8_smallestRight 35 = .ok (.iload 4, 2) := by decide +kernel
theorem dX8_smallestRight_37 : decode cX8_smallestRight 37 = .ok (.invokevirtual 439, 3) := by decide +kernel
theorem dX8_smallestRight_40 : decode cX8_smallestRight 40 = .ok (.ifCond .eq 16, 3) := by decide +kernel
theorem dX8_smallestRight_43 : decode cX8_smallestRight 43 = .ok (.bipush 100, 2) := by decide +kernel
theorem dX8_smallestRight_45 : decode cX8_smallestRight 45 = .ok (.iload_n 2, 1) := by decide +kernel
theorem dX8_smallestRight_46 : decode cX8_smallestRight 46 = .ok (.imul, 1) := by decide +kernel
theorem dX8_smallestRight_47 : decode cX8_smallestRight 47 = .ok (.bipush 10, 2) := by decide +kernel
theorem dX8_smallestRight_49 : decode cX8_smallestRight 49 = .ok (.iload_n 3, 1) := by decide +kernel
theorem dX8_smallestRight_50 : decode cX8_smallestRight 50 = .ok (.imul, 1) := by decide +kernel
theorem dX8_smallestRight_51 : decode cX8_smallestRight 51 = .ok (.iadd, 1) := by decide +kernel
theorem dX8_smallestRight_52 : decode cX8_smallestRight 52 = .ok (.iload 4, 2) := by decide +kernel
theorem dX8_smallestRight_54 : decode cX8_smallestRight 54 = .ok (.iadd, 1) := by decide +kernel
theorem dX8_smallestRight_55 : decode cX8_smallestRight 55 = .ok (.ireturn, 1) := by decide +kernel
theorem dX8_smallestRight_56 : decode cX8_smallestRight 56 = .ok (.iinc 3 1, 3) := by decide +kernel
theorem dX8_smallestRight_59 : decode cX8_smallestRight 59 = .ok (.goto (-50), 3) := by decide +kernel
theorem dX8_smallestRight_62 : decode cX8_smallestRight 62 = .ok (.iinc 2 1, 3) := by decide +kernel
theorem dX8_smallestRight_65 : decode cX8_smallestRight 65 = .ok (.goto (-63), 3) := by decide +kernel
theorem dX8_smallestRight_68 : decode cX8_smallestRight 68 = .ok (.iconst (-1), 1) := by decide +kernel
theorem dX8_smallestRight_69 : decode cX8_smallestRight 69 = .ok (.ireturn, 1) := by decide +kernel
theorem dX8_isRightWith_0 : decode cX8_isRightWith 0 = .ok (.aload_n 0, 1) := by decide +kernel
theorem dX8_isRightWith_1 : decode cX8_isRightWith 1 = .ok (.getfield 33, 3) := by decide +kernel
theorem dX8_isRightWith_4 : decode cX8_isRightWith 4 = .ok (.aload_n 0, 1) := by decide +kernel
theorem dX8_isRightWith_5 : decode cX8_isRightWith 5 = .ok (.getfield 29, 3) := by decide +kernel
theorem dX8_isRightWith_8 : decode cX8_isRightWith 8 = .ok (.invokevirtual 443, 3) := by decide +kernel
theorem dX8_isRightWith_11 : decode cX8_isRightWith 11 = .ok (.aload_n 0, 1) := by decide +kernel
theorem dX8_isRightWith_12 : decode cX8_isRightWith 12 = .ok (.getfield 33, 3) := by decide +kernel
theorem dX8_isRightWith_15 : decode cX8_isRightWith 15 = .ok (.iload_n 1, 1) := by decide +kernel
theorem dX8_isRightWith_16 : decode cX8_isRightWith 16 = .ok (.iload_n 2, 1) := by decide +kernel
theorem dX8_isRightWith_17 : decode cX8_isRightWith 17 = .ok (.iload_n 3, 1) := by decide +kernel
theorem dX8_isRightWith_18 : decode cX8_isRightWith 18 = .ok (.invokevirtual 134, 3) := by decide +kernel
theorem dX8_isRightWith_21 : decode cX8_isRightWith 21 = .ok (.aload_n 0, 1) := by decide +kernel
theorem dX8_isRightWith_22 : decode cX8_isRightWith 22 = .ok (.getfield 33, 3) := by decide +kernel
theorem dX8_isRightWith_25 : decode cX8_isRightWith 25 = .ok (.invokevirtual 291, 3) := by decide +kernel
theorem dX8_isRightWith_28 : decode cX8_isRightWith 28 = .ok (.ireturn, 1) := by decide +kernel
theorem dX8_wouldFall_0 : decode cX8_wouldFall 0 = .ok (.aload_n 0, 1) := by decide +kernel
theorem dX8_wouldFall_1 : decode cX8_wouldFall 1 = .ok (.getfield 43, 3) := by decide +kernel
theorem dX8_wouldFall_4 : decode cX8_wouldFall 4 = .ok (.aload_n 0, 1) := by decide +kernel
theorem dX8_wouldFall_5 : decode cX8_wouldFall 5 = .ok (.getfield 39, 3) := by decide +kernel
theorem dX8_wouldFall_8 : decode cX8_wouldFall 8 = .ok (.invokevirtual 334, 3) := by decide +kernel
theorem dX8_wouldFall_11 : decode cX8_wouldFall 11 = .ok (.aload_n 0, 1) := by decide +kernel
theorem dX8_wouldFall_12 : decode cX8_wouldFall 12 = .ok (.getfield 43, 3) := by decide +kernel
theorem dX8_wouldFall_15 : decode cX8_wouldFall 15 = .ok (.iload_n 2, 1) := by decide +kernel
theorem dX8_wouldFall_16 : decode cX8_wouldFall 16 = .ok (.putfield 157, 3) := by decide +kernel
theorem dX8_wouldFall_19 : decode cX8_wouldFall 19 = .ok (.iconst 0, 1) := by decide +kernel
theorem dX8_wouldFall_20 : decode cX8_wouldFall 20 = .ok (.istore_n 3, 1) := by decide +kernel
theorem dX8_wouldFall_21 : decode cX8_wouldFall 21 = .ok (.iload_n 3, 1) := by decide +kernel
theorem dX8_wouldFall_22 : decode cX8_wouldFall 22 = .ok (.iload_n 1, 1) := by decide +kernel
theorem dX8_wouldFall_23 : decode cX8_wouldFall 23 = .ok (.if_icmp .ge 36, 3) := by decide +kernel
theorem dX8_wouldFall_26 : decode cX8_wouldFall 26 = .ok (.aload_n 0, 1) := by decide +kernel
theorem dX8_wouldFall_27 : decode cX8_wouldFall 27 = .ok (.getfield 43, 3) := by decide +kernel
theorem dX8_wouldFall_30 : decode cX8_wouldFall 30 = .ok (.invokevirtual 163, 3) := by decide +kernel
theorem dX8_wouldFall_33 : decode cX8_wouldFall 33 = .ok (.pop, 1) := by decide +kernel
theorem dX8_wouldFall_34 : decode cX8_wouldFall 34 = .ok (.aload_n 0, 1) := by decide +kernel
theorem dX8_wouldFall_35 : decode cX8_wouldFall 35 = .ok (.getfield 43, 3) := by decide +kernel
theorem dX8_wouldFall_38 : decode cX8_wouldFall 38 = .ok (.getfield 305, 3) := by decide +kernel
theorem dX8_wouldFall_41 : decode cX8_wouldFall 41 = .ok (.aload_n 0, 1) := by decide +kernel
theorem dX8_wouldFall_42 : decode cX8_wouldFall 42 = .ok (.getfield 39, 3) := by decide +kernel
theorem dX8_wouldFall_45 : decode cX8_wouldFall 45 = .ok (.getfield 305, 3) := by decide +kernel
theorem dX8_wouldFall_48 : decode cX8_wouldFall 48 = .ok (.if_icmp .le 5, 3) := by decide +kernel
theorem dX8_wouldFall_51 : decode cX8_wouldFall 51 = .ok (.iconst 1, 1) := by decide +kernel
theorem dX8_wouldFall_52 : decode cX8_wouldFall 52 = .ok (.ireturn, 1) := by decide +kernel
theorem dX8_wouldFall_53 : decode cX8_wouldFall 53 = .ok (.iinc 3 1, 3) := by decide +kernel
theorem dX8_wouldFall_56 : decode cX8_wouldFall 56 = .ok (.goto (-35), 3) := by decide +kernel
theorem dX8_wouldFall_59 : decode cX8_wouldFall 59 = .ok (.iconst 0, 1) := by decide +kernel
theorem dX8_wouldFall_60 : decode cX8_wouldFall 60 = .ok (.ireturn, 1) := by decide +kernel
