theorem dX9_init_0 : decode cX9_init 0 = .ok (.aload_n 0, 1) := by decide +kernel
theorem dX9_init_1 : decode cX9_init 1 = .ok (.invokespecial 3, 3) := by decide +kernel
theorem dX9_init_4 : decode cX9_init 4 = .ok (.aload_n 0, 1) := by decide +kernel
theorem dX9_init_5 : decode cX9_init 5 = .ok (.iconst 4, 1) := by decide +kernel
theorem dX9_init_6 : decode cX9_init 6 = .ok (.newarray .int, 2) := by decide +kernel
theorem dX9_init_8 : decode cX9_init 8 = .ok (.putfield 9, 3) := by decide +kernel
theorem dX9_init_11 : decode cX9_init 11 = .ok (.aload_n 0, 1) := by decide +kernel
theorem dX9_init_12 : decode cX9_init 12 = .ok (.bipush 6, 2) := by decide +kernel
theorem dX9_init_14 : decode cX9_init 14 = .ok (.newarray .int, 2) := by decide +kernel
theorem dX9_init_16 : decode cX9_init 16 = .ok (.putfield 15, 3) := by decide +kernel
theorem dX9_init_19 : decode cX9_init 19 = .ok (.aload_n 0, 1) := by decide +kernel
theorem dX9_init_20 : decode cX9_init 20 = .ok (.iconst (-1), 1) := by decide +kernel
theorem dX9_init_21 : decode cX9_init 21 = .ok (.putfield 18, 3) := by decide +kernel
theorem dX9_init_24 : decode cX9_init 24 = .ok (.aload_n 0, 1) := by decide +kernel
theorem dX9_init_25 : decode cX9_init 25 = .ok (.iconst (-1), 1) := by decide +kernel
theorem dX9_init_26 : decode cX9_init 26 = .ok (.putfield 22, 3) := by decide +kernel
theorem dX9_init_29 : decode cX9_init 29 = .ok (.aload_n 0, 1) := by decide +kernel
theorem dX9_init_30 : decode cX9_init 30 = .ok (.iconst (-1), 1) := by decide +kernel
theorem dX9_init_31 : decode cX9_init 31 = .ok (.putfield 25, 3) := by decide +kernel
theorem dX9_init_34 : decode cX9_init 34 = .ok (.aload_n 0, 1) := by decide +kernel
theorem dX9_init_35 : decode cX9_init 35 = .ok (.iconst 3, 1) := by decide +kernel
theorem dX9_init_36 : decode cX9_init 36 = .ok (.newarray .int, 2) := by decide +kernel
theorem dX9_init_38 : decode cX9_init 38 = .ok (.dup, 1) := by decide +kernel
theorem dX9_init_39 : decode cX9_init 39 = .ok (.iconst 0, 1) := by decide +kernel
theorem dX9_init_40 : decode cX9_init 40 = .ok (.iconst (-1), 1) := by decide +kernel
theorem dX9_init_41 : decode cX9_init 41 = .ok (.iastore, 1) := by decide +kernel
theorem dX9_init_42 : decode cX9_init 42 = .ok (.dup, 1) := by decide +kernel
theorem dX9_init_43 : decode cX9_init 43 = .ok (.iconst 1, 1) := by decide +kernel
theorem dX9_init_44 : decode cX9_init 44 = .ok (.iconst (-1), 1) := by decide +kernel
theorem dX9_init_45 : decode cX9_init 45 = .ok (.iastore, 1) := by decide +kernel
theorem dX9_init_46 : decode cX9_init 46 = .ok (.dup, 1) := by decide +kernel
theorem dX9_init_47 : decode cX9_init 47 = .ok (.iconst 2, 1) := by decide +kernel
theorem dX9_init_48 : decode cX9_init 48 = .ok (.iconst (-1), 1) := by decide +kernel
theorem dX9_init_49 : decode cX9_init 49 = .ok (.iastore, 1) := by decide +kernel
theorem dX9_init_50 : decode cX9_init 50 = .ok (.putfield 28, 3) := by decide +kernel
theorem dX9_init_53 : decode cX9_init 53 = .ok (.return_, 1) := by decide +kernel
theorem dX9_begin_0 : decode cX9_begin 0 = .ok (.aload_n 0, 1) := by decide +kernel
theorem dX9_begin_1 : decode cX9_begin 1 = .ok (.aload_n 0, 1) := by decide +kernel
theorem dX9_begin_2 : decode cX9_begin 2 = .ok (.getfield 9, 3) := by decide +kernel
theorem dX9_begin_5 : decode cX9_begin 5 = .ok (.iconst 0, 1) := by decide +kernel
theorem dX9_begin_6 : decode cX9_begin 6 = .ok (.iaload, 1) := by decide +kernel
theorem dX9_begin_7 : decode cX9_begin 7 = .ok (.putfield 31, 3) := by decide +kernel
theorem dX9_begin_10 : decode cX9_begin 10 = .ok (.aload_n 0, 1) := by decide +kernel
theorem dX9_begin_11 : decode cX9_begin 11 = .ok (.aload_n 0, 1) := by decide +kernel
theorem dX9_begin_12 : decode cX9_begin 12 = .ok (.getfield 9, 3) := by decide +kernel
theorem dX9_begin_15 : decode cX9_begin 15 = .ok (.iconst 1, 1) := by decide +kernel
theorem dX9_begin_16 : decode cX9_begin 16 = .ok (.iaload, 1) := by decide +kernel
theorem dX9_begin_17 : decode cX9_begin 17 = .ok (.putfield 34, 3) := by decide +kernel
theorem dX9_begin_20 : decode cX9_begin 20 = .ok (.return_, 1) := by decide +kernel
theorem dX9_copy_0 : decode cX9_copy 0 = .ok (.new 10, 3) := by decide +kernel
theorem dX9_copy_3 : decode cX9_copy 3 = .ok (.dup, 1) := by decide +kernel
theorem dX9_copy_4 : decode cX9_copy 4 = .ok (.invokespecial 37, 3) := by decide +kernel
theorem dX9_copy_7 : decode cX9_copy 7 = .ok (.astore_n 1, 1) := by decide +kernel
theorem dX9_copy_8 : decode cX9_copy 8 = .ok (.aload_n 0, 1) := by decide +kernel
theorem dX9_copy_9 : decode cX9_copy 9 = .ok (.getfield 9, 3) := by decide +kernel
theorem dX9_copy_12 : decode cX9_copy 12 = .ok (.iconst 0, 1) := by decide +kernel
theorem dX9_copy_13 : decode cX9_copy 13 = .ok (.aload_n 1, 1) := by decide +kernel
theorem dX9_copy_14 : decode cX9_copy 14 = .ok (.getfield 9, 3) := by decide +kernel
theorem dX9_copy_17 : decode cX9_copy 17 = .ok (.iconst 0, 1) := by decide +kernel
theorem dX9_copy_18 : decode cX9_copy 18 = .ok (.iconst 4, 1) := by decide +kernel
theorem dX9_copy_19 : decode cX9_copy 19 = .ok (.invokestatic 38, 3) := by decide +kernel
theorem dX9_copy_22 : decode cX9_copy 22 = .ok (.aload_n 1, 1) := by decide +kernel
theorem dX9_copy_23 : decode cX9_copy 23 = .ok (.aload_n 0, 1) := by decide +kernel
theorem dX9_copy_24 : decode cX9_copy 24 = .ok (.getfield 31, 3) := by decide +kernel
theorem dX9_copy_27 : decode cX9_copy 27 = .ok (.putfield 31, 3) := by decide +kernel
theorem dX9_copy_30 : decode cX9_copy 30 = .ok (.aload_n 1, 1) := by decide +kernel
theorem dX9_copy_31 : decode cX9_copy 31 = .ok (.aload_n 0, 1) := by decide +kernel
theorem dX9_copy_32 : decode cX9_copy 32 = .ok (.getfield 44, 3) := by decide +kernel
theorem dX9_copy_35 : decode cX9_copy 35 = .ok (.putfield 44, 3) := by decide +kernel
theorem dX9_copy_38 : decode cX9_copy 38 = .ok (.aload_n 1, 1) := by decide +kernel
theorem dX9_copy_39 : decode cX9_copy 39 = .ok (.aload_n 0, 1) := by decide +kernel
theorem dX9_copy_40 : decode cX9_copy 40 = .ok (.getfield 34, 3) := by decide +kernel
theorem dX9_copy_43 : decode cX9_copy 43 = .ok (.putfield 34, 3) := by decide +kernel
theorem dX9_copy_46 : decode cX9_copy 46 = .ok (.aload_n 1, 1) := by decide +kernel
theorem dX9_copy_47 : decode cX9_copy 47 = .ok (.aload_n 0, 1) := by decide +kernel
theorem dX9_copy_48 : decode cX9_copy 48 = .ok (.getfield 47, 3) := by decide +kernel
theorem dX9_copy_51 : decode cX9_copy 51 = .ok (.putfield 47, 3) := by decide +kernel
theorem dX9_copy_54 : decode cX9_copy 54 = .ok (.aload_n 1, 1) := by decide +kernel
theorem dX9_copy_55 : decode cX9_copy 55 = .ok (.aload_n 0, 1) := by decide +kernel
theorem dX9_copy_56 : decode cX9_copy 56 = .ok (.getfield 50, 3) := by decide +kernel
theorem dX9_copy_59 : decode cX9_copy 59 = .ok (.putfield 50, 3) := by decide +kernel
theorem dX9_copy_62 : decode cX9_copy 62 = .ok (.aload_n 1, 1) := by decide +kernel
theorem dX9_copy_63 : decode cX9_copy 63 = .ok (.areturn, 1) := by decide +kernel
theorem dX9_melt_0 : decode cX9_melt 0 = .ok (.aload_n 0, 1) := by decide +kernel
theorem dX9_melt_1 : decode cX9_melt 1 = .ok (.getfield 9, 3) := by decide +kernel
theorem dX9_melt_4 : decode cX9_melt 4 = .ok (.iconst 2, 1) := by decide +kernel
theorem dX9_melt_5 : decode cX9_melt 5 = .ok (.iaload, 1) := by decide +kernel
theorem dX9_melt_6 : decode cX9_melt 6 = .ok (.aload_n 0, 1) := by decide +kernel
theorem dX9_melt_7 : decode cX9_melt 7 = .ok (.getfield 9, 3) := by decide +kernel
theorem dX9_melt_10 : decode cX9_melt 10 = .ok (.iconst 3, 1) := by decide +kernel
theorem dX9_melt_11 : decode cX9_melt 11 = .ok (.iaload, 1) := by decide +kernel
theorem dX9_melt_12 : decode cX9_melt 12 = .ok (.iadd, 1) := by decide +kernel
theorem dX9_melt_13 : decode cX9_melt 13 = .ok (.ireturn, 1) := by decide +kernel
theorem dX9_all_0 : decode cX9_all 0 = .ok (.iconst 1, 1) := by decide +kernel
theorem dX9_all_1 : decode cX9_all 1 = .ok (.aload_n 0, 1) := by decide +kernel
theorem dX9_all_2 : decode cX9_all 2 = .ok (.getfield 9, 3) := by decide +kernel
theorem dX9_all_5 : decode cX9_all 5 = .ok (.iconst 0, 1) := by decide +kernel
theorem dX9_all_6 : decode cX9_all 6 = .ok (.iaload, 1) := by decide +kernel
theorem dX9_all_7 : decode cX9_all 7 = .ok (.aload_n 0, 1) := by decide +kernel
theorem dX9_all_8 : decode cX9_all 8 = .ok (.getfield 9, 3) := by decide +kernel
theorem dX9_all_11 : decode cX9_all 11 = .ok (.iconst 1, 1) := by decide +kernel
theorem dX9_all_12 : decode cX9_all 12 = .ok (.iaload, 1) := by decide +kernel
theorem dX9_all_13 : decode cX9_all 13 = .ok (.iadd, 1) := by decide +kernel
theorem dX9_all_14 : decode cX9_all 14 = .ok (.aload_n 0, 1) := by decide +kernel
theorem dX9_all_15 : decode cX9_all 15 = .ok (.getfield 9, 3) := by decide +kernel
theorem dX9_all_18 : decode cX9_all 18 = .ok (.iconst 2, 1) := by decide +kernel
theorem dX9_all_19 : decode cX9_all 19 = .ok (.iaload, 1) := by decide +kernel
theorem dX9_all_20 : decode cX9_all 20 = .ok (.iadd, 1) := by decide +kernel
theorem dX9_all_21 : decode cX9_all 21 = .ok (.aload_n 0, 1) := by decide +kernel
theorem dX9_all_22 : decode cX9_all 22 = .ok (.getfield 9, 3) := by decide +kernel
theorem dX9_all_25 : decode cX9_all 25 = .ok (.iconst 3, 1) := by decide +kernel
theorem dX9_all_26 : decode cX9_all 26 = .ok (.iaload, 1) := by decide +kernel
theorem dX9_all_27 : decode cX9_all 27 = .ok (.iadd, 1) := by decide +kernel
theorem dX9_all_28 : decode cX9_all 28 = .ok (.invokestatic 53, 3) := by decide +kernel
theorem dX9_all_31 : decode cX9_all 31 = .ok (.ireturn, 1) := by decide +kernel
theorem dX9_isGround_0 : decode cX9_isGround 0 = .ok (.aload_n 0, 1) := by decide +kernel
theorem dX9_isGround_1 : decode cX9_isGround 1 = .ok (.getfield 25, 3) := by decide +kernel
theorem dX9_isGround_4 : decode cX9_isGround 4 = .ok (.iconst (-1), 1) := by decide +kernel
theorem dX9_isGround_5 : decode cX9_isGround 5 = .ok (.if_icmp .eq 7, 3) := by decide +kernel
theorem dX9_isGround_8 : decode cX9_isGround 8 = .ok (.iconst 1, 1) := by decide +kernel
theorem dX9_isGround_9 : decode cX9_isGround 9 = .ok (.goto 4, 3) := by decide +kernel
theorem dX9_isGround_12 : decode cX9_isGround 12 = .ok (.iconst 0, 1) := by decide +kernel
theorem dX9_isGround_13 : decode cX9_isGround 13 = .ok (.ireturn, 1) := by decide +kernel
theorem dX9_burn_0 : decode cX9_burn 0 = .ok (.aload_n 0, 1) := by decide +kernel
theorem dX9_burn_1 : decode cX9_burn 1 = .ok (.getfield 31, 3) := by decide +kernel
theorem dX9_burn_4 : decode cX9_burn 4 = .ok (.iconst 0, 1) := by decide +kernel
theorem dX9_burn_5 : decode cX9_burn 5 = .ok (.iload_n 1, 1) := by decide +kernel
theorem dX9_burn_6 : decode cX9_burn 6 = .ok (.iconst 4, 1) := by decide +kernel
theorem dX9_burn_7 : decode cX9_burn 7 = .ok (.isub, 1) := by decide +kernel
theorem dX9_burn_8 : decode cX9_burn 8 = .ok (.invokestatic 53, 3) := by decide +kernel
theorem dX9_burn_11 : decode cX9_burn 11 = .ok (.invokestatic 59, 3) := by decide +kernel
theorem dX9_burn_14 : decode cX9_burn 14 = .ok (.istore_n 2, 1) := by decide +kernel
theorem dX9_burn_15 : decode cX9_burn 15 = .ok (.aload_n 0, 1) := by decide +kernel
theorem dX9_burn_16 : decode cX9_burn 16 = .ok (.dup, 1) := by decide +kernel
theorem dX9_burn_17 : decode cX9_burn 17 = .ok (.getfield 31, 3) := by decide +kernel
theorem dX9_burn_20 : decode cX9_burn 20 = .ok (.iload_n 2, 1) := by decide +kernel
theorem dX9_burn_21 : decode cX9_burn 21 = .ok (.isub, 1) := by decide +kernel
theorem dX9_burn_22 : decode cX9_burn 22 = .ok (.putfield 31, 3) := by decide +kernel
theorem dX9_burn_25 : decode cX9_burn 25 = .ok (.aload_n 0, 1) := by decide +kernel
theorem dX9_burn_26 : decode cX9_burn 26 = .ok (.dup, 1) := by decide +kernel
theorem dX9_burn_27 : decode cX9_burn 27 = .ok (.getfield 44, 3) := by decide +kernel
theorem dX9_burn_30 : decode cX9_burn 30 = .ok (.iload_n 2, 1) := by decide +kernel
theorem dX9_burn_31 : decode cX9_burn 31 = .ok (.iadd, 1) := by decide +kernel
theorem dX9_burn_32 : decode cX9_burn 32 = .ok (.putfield 44, 3) := by decide +kernel
theorem dX9_burn_35 : decode cX9_burn 35 = .ok (.bipush 6, 2) := by decide +kernel
theorem dX9_burn_37 : decode cX9_burn 37 = .ok (.istore_n 3, 1) := by decide +kernel
theorem dX9_burn_38 : decode cX9_burn 38 = .ok (.iload_n 3, 1) := by decide +kernel
theorem dX9_burn_39 : decode cX9_burn 39 = .ok (.iload_n 1, 1) := by decide +kernel
theorem dX9_burn_40 : decode cX9_burn 40 = .ok (.if_icmp .ge 54, 3) := by decide +kernel
theorem dX9_burn_43 : decode cX9_burn 43 = .ok (.aload_n 0, 1) := by decide +kernel
theorem dX9_burn_44 : decode cX9_burn 44 = .ok (.getfield 44, 3) := by decide +kernel
theorem dX9_burn_47 : decode cX9_burn 47 = .ok (.iconst 1, 1) := by decide +kernel
theorem dX9_burn_48 : decode cX9_burn 48 = .ok (.if_icmp .le 46, 3) := by decide +kernel
theorem dX9_burn_51 : decode cX9_burn 51 = .ok (.aload_n 0, 1) := by decide +kernel
theorem dX9_burn_52 : decode cX9_burn 52 = .ok (.getfield 34, 3) := by decide +kernel
theorem dX9_burn_55 : decode cX9_burn 55 = .ok (.ifCond .le 39, 3) := by decide +kernel
theorem dX9_burn_58 : decode cX9_burn 58 = .ok (.aload_n 0, 1) := by decide +kernel
theorem dX9_burn_59 : decode cX9_burn 59 = .ok (.dup, 1) := by decide +kernel
theorem dX9_burn_60 : decode cX9_burn 60 = .ok (.getfield 44, 3) := by decide +kernel
theorem dX9_burn_63 : decode cX9_burn 63 = .ok (.iconst 2, 1) := by decide +kernel
theorem dX9_burn_64 : decode cX9_burn 64 = .ok (.isub, 1) := by decide +kernel
theorem dX9_burn_65 : decode cX9_burn 65 = .ok (.putfield 44, 3) := by decide +kernel
theorem dX9_burn_68 : decode cX9_burn 68 = .ok (.aload_n 0, 1) := by decide +kernel
theorem dX9_burn_69 : decode cX9_burn 69 = .ok (.dup, 1) := by decide +kernel
theorem dX9_burn_70 : decode cX9_burn 70 = .ok (.getfield 34, 3) := by decide +kernel
theorem dX9_burn_73 : decode cX9_burn 73 = .ok (.iconst 1, 1) := by decide +kernel
theorem dX9_burn_74 : decode cX9_burn 74 = .ok (.isub, 1) := by decide +kernel
theorem dX9_burn_75 : decode cX9_burn 75 = .ok (.putfield 34, 3) := by decide +kernel
theorem dX9_burn_78 : decode cX9_burn 78 = .ok (.aload_n 0, 1) := by decide +kernel
theorem dX9_burn_79 : decode cX9_burn 79 = .ok (.dup, 1) := by decide +kernel
theorem dX9_burn_80 : decode cX9_burn 80 = .ok (.getfield 47, 3) := by decide +kernel
theorem dX9_burn_83 : decode cX9_burn 83 = .ok (.iconst 1, 1) := by decide +kernel
theorem dX9_burn_84 : decode cX9_burn 84 = .ok (.iadd, 1) := by decide +kernel
theorem dX9_burn_85 : decode cX9_burn 85 = .ok (.putfield 47, 3) := by decide +kernel
theorem dX9_burn_88 : decode cX9_burn 88 = .ok (.iinc 3 1, 3) := by decide +kernel
theorem dX9_burn_91 : decode cX9_burn 91 = .ok (.goto (-53), 3) := by decide +kernel
theorem dX9_burn_94 : decode cX9_burn 94 = .ok (.bipush 8, 2) := by decide +kernel
theorem dX9_burn_96 : decode cX9_burn 96 = .ok (.aload_n 0, 1) := by decide +kernel
theorem dX9_burn_97 : decode cX9_burn 97 = .ok (.invokevirtual 62, 3) := by decide +kernel
theorem dX9_burn_100 : decode cX9_burn 100 = .ok (.iconst 4, 1) := by decide +kernel
theorem dX9_burn_101 : decode cX9_burn 101 = .ok (.idiv, 1) := by decide +kernel
theorem dX9_burn_102 : decode cX9_burn 102 = .ok (.isub, 1) := by decide +kernel
theorem dX9_burn_103 : decode cX9_burn 103 = .ok (.istore_n 3, 1) := by decide +kernel
theorem dX9_burn_104 : decode cX9_burn 104 = .ok (.iload_n 1, 1) := by decide +kernel
theorem dX9_burn_105 : decode cX9_burn 105 = .ok (.bipush 8, 2) := by decide +kernel
theorem dX9_burn_107 : decode cX9_burn 107 = .ok (.if_icmp .le 58, 3) := by decide +kernel
theorem dX9_burn_110 : decode cX9_burn 110 = .ok (.iload_n 3, 1) := by decide +kernel
theorem dX9_burn_111 : decode cX9_burn 111 = .ok (.iload_n 1, 1) := by decide +kernel
theorem dX9_burn_112 : decode cX9_burn 112 = .ok (.if_icmp .ge 53, 3) := by decide +kernel
theorem dX9_burn_115 : decode cX9_burn 115 = .ok (.aload_n 0, 1) := by decide +kernel
theorem dX9_burn_116 : decode cX9_burn 116 = .ok (.getfield 44, 3) := by decide +kernel
theorem dX9_burn_119 : decode cX9_burn 119 = .ok (.ifCond .le 46, 3) := by decide +kernel
theorem dX9_burn_122 : decode cX9_burn 122 = .ok (.aload_n 0, 1) := by decide +kernel
theorem dX9_burn_123 : decode cX9_burn 123 = .ok (.getfield 47, 3) := by decide +kernel
theorem dX9_burn_126 : decode cX9_burn 126 = .ok (.ifCond .le 39, 3) := by decide +kernel
theorem dX9_burn_129 : decode cX9_burn 129 = .ok (.aload_n 0, 1) := by decide +kernel
theorem dX9_burn_130 : decode cX9_burn 130 = .ok (.dup, 1) := by decide +kernel
theorem dX9_burn_131 : decode cX9_burn 131 = .ok (.getfield 44, 3) := by decide +kernel
theorem dX9_burn_134 : decode cX9_burn 134 = .ok (.iconst 1, 1) := by decide +kernel
theorem dX9_burn_135 : decode cX9_burn 135 = .ok (.isub, 1) := by decide +kernel
theorem dX9_burn_136 : decode cX9_burn 136 = .ok (.putfield 44, 3) := by decide +kernel
theorem dX9_burn_139 : decode cX9_burn 139 = .ok (.aload_n 0, 1) := by decide +kernel
theorem dX9_burn_140 : decode cX9_burn 140 = .ok (.dup, 1) := by decide +kernel
theorem dX9_burn_141 : decode cX9_burn 141 = .ok (.getfield 47, 3) := by decide +kernel
theorem dX9_burn_144 : decode cX9_burn 144 = .ok (.iconst 1, 1) := by decide +kernel
theorem dX9_burn_145 : decode cX9_burn 145 = .ok (.isub, 1) := by decide +kernel
theorem dX9_burn_146 : decode cX9_burn 146 = .ok (.putfield 47, 3) := by decide +kernel
theorem dX9_burn_149 : decode cX9_burn 149 = .ok (.aload_n 0, 1) := by decide +kernel
theorem dX9_burn_150 : decode cX9_burn 150 = .ok (.dup, 1) := by decide +kernel
theorem dX9_burn_151 : decode cX9_burn 151 = .ok (.getfield 50, 3) := by decide +kernel
theorem dX9_burn_154 : decode cX9_burn 154 = .ok (.iconst 1, 1) := by decide +kernel
theorem dX9_burn_155 : decode cX9_burn 155 = .ok (.iadd, 1) := by decide +kernel
theorem dX9_burn_156 : decode cX9_burn 156 = .ok (.putfield 50, 3) := by decide +kernel
theorem dX9_burn_159 : decode cX9_burn 159 = .ok (.iinc 3 1, 3) := by decide +kernel
theorem dX9_burn_162 : decode cX9_burn 162 = .ok (.goto (-58), 3) := by decide +kernel
theorem dX9_burn_165 : decode cX9_burn 165 = .ok (.iload_n 2, 1) := by decide +kernel
theorem dX9_burn_166 : decode cX9_burn 166 = .ok (.ireturn, 1) := by decide +kernel
theorem dX9_strength_0 : decode cX9_strength 0 = .ok (.aload_n 0, 1) := by decide +kernel
theorem dX9_strength_1 : decode cX9_strength 1 = .ok (.getfield 50, 3) := by decide +kernel
theorem dX9_strength_4 : decode cX9_strength 4 = .ok (.iconst 2, 1) := by decide +kernel
theorem dX9_strength_5 : decode cX9_strength 5 = .ok (.iload_n 1, 1) := by decide +kernel
theorem dX9_strength_6 : decode cX9_strength 6 = .ok (.iadd, 1) := by decide +kernel
theorem dX9_strength_7 : decode cX9_strength 7 = .ok (.imul, 1) := by decide +kernel
theorem dX9_strength_8 : decode cX9_strength 8 = .ok (.aload_n 0, 1) := by decide +kernel
theorem dX9_strength_9 : decode cX9_strength 9 = .ok (.getfield 47, 3) := by decide +kernel
theorem dX9_strength_12 : decode cX9_strength 12 = .ok (.iload_n 1, 1) := by decide +kernel
theorem dX9_strength_13 : decode cX9_strength 13 = .ok (.iconst 2, 1) := by decide +kernel
theorem dX9_strength_14 : decode cX9_strength 14 = .ok (.if_icmp .ne 7, 3) := by decide +kernel
theorem dX9_strength_17 : decode cX9_strength 17 = .ok (.iconst 3, 1) := by decide +kernel
theorem dX9_strength_18 : decode cX9_strength 18 = .ok (.goto 4, 3) := by decide +kernel
theorem dX9_strength_21 : decode cX9_strength 21 = .ok (.iload_n 1, 1) := by decide +kernel
theorem dX9_strength_22 : decode cX9_strength 22 = .ok (.imul, 1) := by decide +kernel
theorem dX9_strength_23 : decode cX9_strength 23 = .ok (.iadd, 1) := by decide +kernel
theorem dX9_strength_24 : decode cX9_strength 24 = .ok (.bipush 10, 2) := by decide +kernel
theorem dX9_strength_26 : decode cX9_strength 26 = .ok (.imul, 1) := by decide +kernel
theorem dX9_strength_27 : decode cX9_strength 27 = .ok (.aload_n 0, 1) := by decide +kernel
theorem dX9_strength_28 : decode cX9_strength 28 = .ok (.invokevirtual 66, 3) := by decide +kernel
theorem dX9_strength_31 : decode cX9_strength 31 = .ok (.idiv, 1) := by decide +kernel
theorem dX9_strength_32 : decode cX9_strength 32 = .ok (.istore_n 2, 1) := by decide +kernel
theorem dX9_strength_33 : decode cX9_strength 33 = .ok (.iconst 0, 1) := by decide +kernel
theorem dX9_strength_34 : decode cX9_strength 34 = .ok (.iload_n 2, 1) := by decide +kernel
theorem dX9_strength_35 : decode cX9_strength 35 = .ok (.aload_n 0, 1) := by decide +kernel
theorem dX9_strength_36 : decode cX9_strength 36 = .ok (.getfield 18, 3) := by decide +kernel
theorem dX9_strength_39 : decode cX9_strength 39 = .ok (.iconst 2, 1) := by decide +kernel
theorem dX9_strength_40 : decode cX9_strength 40 = .ok (.iload_n 1, 1) := by decide +kernel
theorem dX9_strength_41 : decode cX9_strength 41 = .ok (.isub, 1) := by decide +kernel
theorem dX9_strength_42 : decode cX9_strength 42 = .ok (.imul, 1) := by decide +kernel
theorem dX9_strength_43 : decode cX9_strength 43 = .ok (.iadd, 1) := by decide +kernel
theorem dX9_strength_44 : decode cX9_strength 44 = .ok (.iconst 2, 1) := by decide +kernel
theorem dX9_strength_45 : decode cX9_strength 45 = .ok (.aload_n 0, 1) := by decide +kernel
theorem dX9_strength_46 : decode cX9_strength 46 = .ok (.getfield 44, 3) := by decide +kernel
theorem dX9_strength_49 : decode cX9_strength 49 = .ok (.imul, 1) := by decide +kernel
theorem dX9_strength_50 : decode cX9_strength 50 = .ok (.isub, 1) := by decide +kernel
theorem dX9_strength_51 : decode cX9_strength 51 = .ok (.iconst 3, 1) := by decide +kernel
theorem dX9_strength_52 : decode cX9_strength 52 = .ok (.aload_n 0, 1) := by decide +kernel
theorem dX9_strength_53 : decode cX9_strength 53 = .ok (.getfield 22, 3) := by decide +kernel
theorem dX9_strength_56 : decode cX9_strength 56 = .ok (.aload_n 0, 1) := by decide +kernel
theorem dX9_strength_57 : decode cX9_strength 57 = .ok (.getfield 9, 3) := by decide +kernel
theorem dX9_strength_60 : decode cX9_strength 60 = .ok (.iconst 2, 1) := by decide +kernel
theorem dX9_strength_61 : decode cX9_strength 61 = .ok (.iaload, 1) := by decide +kernel
theorem dX9_strength_62 : decode cX9_strength 62 = .ok (.iconst 4, 1) := by decide +kernel
theorem dX9_strength_63 : decode cX9_strength 63 = .ok (.idiv, 1) := by decide +kernel
theorem dX9_strength_64 : decode cX9_strength 64 = .ok (.isub, 1) := by decide +kernel
theorem dX9_strength_65 : decode cX9_strength 65 = .ok (.iconst 2, 1) := by decide +kernel
theorem dX9_strength_66 : decode cX9_strength 66 = .ok (.isub, 1) := by decide +kernel
theorem dX9_strength_67 : decode cX9_strength 67 = .ok (.invokestatic 69, 3) := by decide +kernel
theorem dX9_strength_70 : decode cX9_strength 70 = .ok (.imul, 1) := by decide +kernel
theorem dX9_strength_71 : decode cX9_strength 71 = .ok (.isub, 1) := by decide +kernel
theorem dX9_strength_72 : decode cX9_strength 72 = .ok (.invokestatic 53, 3) := by decide +kernel
theorem dX9_strength_75 : decode cX9_strength 75 = .ok (.ireturn, 1) := by decide +kernel
theorem dX9_of_0 : decode cX9_of 0 = .ok (.bipush 16, 2) := by decide +kernel
theorem dX9_of_2 : decode cX9_of 2 = .ok (.newarray .int, 2) := by decide +kernel
theorem dX9_of_4 : decode cX9_of 4 = .ok (.dup, 1) := by decide +kernel
theorem dX9_of_5 : decode cX9_of 5 = .ok (.iconst 0, 1) := by decide +kernel
theorem dX9_of_6 : decode cX9_of 6 = .ok (.aload_n 0, 1) := by decide +kernel
theorem dX9_of_7 : decode cX9_of 7 = .ok (.getfield 9, 3) := by decide +kernel
theorem dX9_of_10 : decode cX9_of 10 = .ok (.iconst 0, 1) := by decide +kernel
theorem dX9_of_11 : decode cX9_of 11 = .ok (.iaload, 1) := by decide +kernel
theorem dX9_of_12 : decode cX9_of 12 = .ok (.iastore, 1) := by decide +kernel
theorem dX9_of_13 : decode cX9_of 13 = .ok (.dup, 1) := by decide +kernel
theorem dX9_of_14 : decode cX9_of 14 = .ok (.iconst 1, 1) := by decide +kernel
theorem dX9_of_15 : decode cX9_of 15 = .ok (.aload_n 0, 1) := by decide +kernel
theorem dX9_of_16 : decode cX9_of 16 = .ok (.getfield 9, 3) := by decide +kernel
theorem dX9_of_19 : decode cX9_of 19 = .ok (.iconst 1, 1) := by decide +kernel
theorem dX9_of_20 : decode cX9_of 20 = .ok (.iaload, 1) := by decide +kernel
theorem dX9_of_21 : decode cX9_of 21 = .ok (.iastore, 1) := by decide +kernel
theorem dX9_of_22 : decode cX9_of 22 = .ok (.dup, 1) := by decide +kernel
theorem dX9_of_23 : decode cX9_of 23 = .ok (.iconst 2, 1) := by decide +kernel
theorem dX9_of_24 : decode cX9_of 24 = .ok (.aload_n 0, 1) := by decide +kernel
theorem dX9_of_25 : decode cX9_of 25 = .ok (.getfield 9, 3) := by decide +kernel
theorem dX9_of_28 : decode cX9_of 28 = .ok (.iconst 2, 1) := by decide +kernel
theorem dX9_of_29 : decode cX9_of 29 = .ok (.iaload, 1) := by decide +kernel
theorem dX9_of_30 : decode cX9_of 30 = .ok (.iastore, 1) := by decide +kernel
theorem dX9_of_31 : decode cX9_of 31 = .ok (.dup, 1) := by decide +kernel
theorem dX9_of_32 : decode cX9_of 32 = .ok (.iconst 3, 1) := by decide +kernel
theorem dX9_of_33 : decode cX9_of 33 = .ok (.aload_n 0, 1) := by decide +kernel
theorem dX9_of_34 : decode cX9_of 34 = .ok (.getfield 9, 3) := by decide +kernel
theorem dX9_of_37 : decode cX9_of 37 = .ok (.iconst 3, 1) := by decide +kernel
theorem dX9_of_38 : decode cX9_of 38 = .ok (.iaload, 1) := by decide +kernel
theorem dX9_of_39 : decode cX9_of 39 = .ok (.iastore, 1) := by decide +kernel
theorem dX9_of_40 : decode cX9_of 40 = .ok (.dup, 1) := by decide +kernel
theorem dX9_of_41 : decode cX9_of 41 = .ok (.iconst 4, 1) := by decide +kernel
theorem dX9_of_42 : decode cX9_of 42 = .ok (.aload_n 0, 1) := by decide +kernel
theorem dX9_of_43 : decode cX9_of 43 = .ok (.getfield 31, 3) := by decide +kernel
theorem dX9_of_46 : decode cX9_of 46 = .ok (.iastore, 1) := by decide +kernel
theorem dX9_of_47 : decode cX9_of 47 = .ok (.dup, 1) := by decide +kernel
theorem dX9_of_48 : decode cX9_of 48 = .ok (.iconst 5, 1) := by decide +kernel
theorem dX9_of_49 : decode cX9_of 49 = .ok (.aload_n 0, 1) := by decide +kernel
theorem dX9_of_50 : decode cX9_of 50 = .ok (.getfield 44, 3) := by decide +kernel
theorem dX9_of_53 : decode cX9_of 53 = .ok (.iastore, 1) := by decide +kernel
theorem dX9_of_54 : decode cX9_of 54 = .ok (.dup, 1) := by decide +kernel
theorem dX9_of_55 : decode cX9_of 55 = .ok (.bipush 6, 2) := by decide +kernel
theorem dX9_of_57 : decode cX9_of 57 = .ok (.aload_n 0, 1) := by decide +kernel
theorem dX9_of_58 : decode cX9_of 58 = .ok (.getfield 34, 3) := by decide +kernel
theorem dX9_of_61 : decode cX9_of 61 = .ok (.iastore, 1) := by decide +kernel
theorem dX9_of_62 : decode cX9_of 62 = .ok (.dup, 1) := by decide +kernel
theorem dX9_of_63 : decode cX9_of 63 = .ok (.bipush 7, 2) := by decide +kernel
theorem dX9_of_65 : decode cX9_of 65 = .ok (.aload_n 0, 1) := by decide +kernel
theorem dX9_of_66 : decode cX9_of 66 = .ok (.getfield 47, 3) := by decide +kernel
theorem dX9_of_69 : decode cX9_of 69 = .ok (.iastore, 1) := by decide +kernel
theorem dX9_of_70 : decode cX9_of 70 = .ok (.dup, 1) := by decide +kernel
theorem dX9_of_71 : decode cX9_of 71 = .ok (.bipush 8, 2) := by decide +kernel
theorem dX9_of_73 : decode cX9_of 73 = .ok (.aload_n 0, 1) := by decide +kernel
theorem dX9_of_74 : decode cX9_of 74 = .ok (.getfield 50, 3) := by decide +kernel
theorem dX9_of_77 : decode cX9_of 77 = .ok (.iastore, 1) := by decide +kernel
theorem dX9_of_78 : decode cX9_of 78 = .ok (.dup, 1) := by decide +kernel
theorem dX9_of_79 : decode cX9_of 79 = .ok (.bipush 9, 2) := by decide +kernel
theorem dX9_of_81 : decode cX9_of 81 = .ok (.aload_n 0, 1) := by decide +kernel
theorem dX9_of_82 : decode cX9_of 82 = .ok (.getfield 18, 3) := by decide +kernel
theorem dX9_of_85 : decode cX9_of 85 = .ok (.iastore, 1) := by decide +kernel
theorem dX9_of_86 : decode cX9_of 86 = .ok (.dup, 1) := by decide +kernel
theorem dX9_of_87 : decode cX9_of 87 = .ok (.bipush 10, 2) := by decide +kernel
theorem dX9_of_89 : decode cX9_of 89 = .ok (.aload_n 0, 1) := by decide +kernel
theorem dX9_of_90 : decode cX9_of 90 = .ok (.getfield 22, 3) := by decide +kernel
theorem dX9_of_93 : decode cX9_of 93 = .ok (.iastore, 1) := by decide +kernel
theorem dX9_of_94 : decode cX9_of 94 = .ok (.dup, 1) := by decide +kernel
theorem dX9_of_95 : decode cX9_of 95 = .ok (.bipush 11, 2) := by decide +kernel
theorem dX9_of_97 : decode cX9_of 97 = .ok (.aload_n 0, 1) := by decide +kernel
theorem dX9_of_98 : decode cX9_of 98 = .ok (.getfield 25, 3) := by decide +kernel
theorem dX9_of_101 : decode cX9_of 101 = .ok (.iastore, 1) := by decide +kernel
theorem dX9_of_102 : decode cX9_of 102 = .ok (.dup, 1) := by decide +kernel
theorem dX9_of_103 : decode cX9_of 103 = .ok (.bipush 12, 2) := by decide +kernel
theorem dX9_of_105 : decode cX9_of 105 = .ok (.aload_n 0, 1) := by decide +kernel
theorem dX9_of_106 : decode cX9_of 106 = .ok (.getfield 73, 3) := by decide +kernel
theorem dX9_of_109 : decode cX9_of 109 = .ok (.iastore, 1) := by decide +kernel
theorem dX9_of_110 : decode cX9_of 110 = .ok (.dup, 1) := by decide +kernel
theorem dX9_of_111 : decode cX9_of 111 = .ok (.bipush 13, 2) := by decide +kernel
theorem dX9_of_113 : decode cX9_of 113 = .ok (.aload_n 0, 1) := by decide +kernel
theorem dX9_of_114 : decode cX9_of 114 = .ok (.getfield 28, 3) := by decide +kernel
theorem dX9_of_117 : decode cX9_of 117 = .ok (.iconst 0, 1) := by decide +kernel
theorem dX9_of_118 : decode cX9_of 118 = .ok (.iaload, 1) := by decide +kernel
theorem dX9_of_119 : decode cX9_of 119 = .ok (.iastore, 1) := by decide +kernel
theorem dX9_of_120 : decode cX9_of 120 = .ok (.dup, 1) := by decide +kernel
theorem dX9_of_121 : decode cX9_of 121 = .ok (.bipush 14, 2) := by decide +kernel
theorem dX9_of_123 : decode cX9_of 123 = .ok (.aload_n 0, 1) := by decide +kernel
theorem dX9_of_124 : decode cX9_of 124 = .ok (.getfield 28, 3) := by decide +kernel
theorem dX9_of_127 : decode cX9_of 127 = .ok (.iconst 1, 1) := by decide +kernel
theorem dX9_of_128 : decode cX9_of 128 = .ok (.iaload, 1) := by decide +kernel
theorem dX9_of_129 : decode cX9_of 129 = .ok (.iastore, 1) := by decide +kernel
theorem dX9_of_130 : decode cX9_of 130 = .ok (.dup, 1) := by decide +kernel
theorem dX9_of_131 : decode cX9_of 131 = .ok (.bipush 15, 2) := by decide +kernel
theorem dX9_of_133 : decode cX9_of 133 = .ok (.aload_n 0, 1) := by decide +kernel
theorem dX9_of_134 : decode cX9_of 134 = .ok (.getfield 28, 3) := by decide +kernel
theorem dX9_of_137 : decode cX9_of 137 = .ok (.iconst 2, 1) := by decide +kernel
theorem dX9_of_138 : decode cX9_of 138 = .ok (.iaload, 1) := by decide +kernel
theorem dX9_of_139 : decode cX9_of 139 = .ok (.iastore, 1) := by decide +kernel
theorem dX9_of_140 : decode cX9_of 140 = .ok (.astore_n 2, 1) := by decide +kernel
theorem dX9_of_141 : decode cX9_of 141 = .ok (.iload_n 1, 1) := by decide +kernel
theorem dX9_of_142 : decode cX9_of 142 = .ok (.bipush 16, 2) := by decide +kernel
theorem dX9_of_144 : decode cX9_of 144 = .ok (.if_icmp .ge 9, 3) := by decide +kernel
theorem dX9_of_147 : decode cX9_of 147 = .ok (.aload_n 2, 1) := by decide +kernel
theorem dX9_of_148 : decode cX9_of 148 = .ok (.iload_n 1, 1) := by decide +kernel
theorem dX9_of_149 : decode cX9_of 149 = .ok (.iaload, 1) := by decide +kernel
theorem dX9_of_150 : decode cX9_of 150 = .ok (.goto 12, 3) := by decide +kernel
theorem dX9_of_153 : decode cX9_of 153 = .ok (.aload_n 0, 1) := by decide +kernel
theorem dX9_of_154 : decode cX9_of 154 = .ok (.getfield 15, 3) := by decide +kernel
theorem dX9_of_157 : decode cX9_of 157 = .ok (.iload_n 1, 1) := by decide +kernel
theorem dX9_of_158 : decode cX9_of 158 = .ok (.bipush 16, 2) := by decide +kernel
theorem dX9_of_160 : decode cX9_of 160 = .ok (.isub, 1) := by decide +kernel
theorem dX9_of_161 : decode cX9_of 161 = .ok (.iaload, 1) := by decide +kernel
theorem dX9_of_162 : decode cX9_of 162 = .ok (.ireturn, 1) := by decide +kernel
theorem dX10_init_0 : decode cX10_init 0 = .ok (.aload_n 0, 1) := by decide +kernel
theorem dX10_init_1 : decode cX10_init 1 = .ok (.invokespecial 1, 3) := by decide +kernel
theorem dX10_init_4 : decode cX10_init 4 = .ok (.aload_n 0, 1) := by decide +kernel
theorem dX10_init_5 : decode cX10_init 5 = .ok (.iconst 5, 1) := by decide +kernel
theorem dX10_init_6 : decode cX10_init 6 = .ok (.anewarray 7, 3) := by decide +kernel
theorem dX10_init_9 : decode cX10_init 9 = .ok (.putfield 9, 3) := by decide +kernel
theorem dX10_init_12 : decode cX10_init 12 = .ok (.aload_n 0, 1) := by decide +kernel
theorem dX10_init_13 : decode cX10_init 13 = .ok (.iconst 5, 1) := by decide +kernel
theorem dX10_init_14 : decode cX10_init 14 = .ok (.newarray .boolean, 2) := by decide +kernel
theorem dX10_init_16 : decode cX10_init 16 = .ok (.putfield 15, 3) := by decide +kernel
theorem dX10_init_19 : decode cX10_init 19 = .ok (.aload_n 0, 1) := by decide +kernel
theorem dX10_init_20 : decode cX10_init 20 = .ok (.iconst 5, 1) := by decide +kernel
theorem dX10_init_21 : decode cX10_init 21 = .ok (.newarray .int, 2) := by decide +kernel
theorem dX10_init_23 : decode cX10_init 23 = .ok (.putfield 19, 3) := by decide +kernel
theorem dX10_init_26 : decode cX10_init 26 = .ok (.iconst 0, 1) := by decide +kernel
theorem dX10_init_27 : decode cX10_init 27 = .ok (.istore_n 1, 1) := by decide +kernel
theorem dX10_init_28 : decode cX10_init 28 = .ok (.iload_n 1, 1) := by decide +kernel
theorem dX10_init_29 : decode cX10_init 29 = .ok (.iconst 5, 1) := by decide +kernel
theorem dX10_init_30 : decode cX10_init 30 = .ok (.if_icmp .ge 22, 3) := by decide +kernel
theorem dX10_init_33 : decode cX10_init 33 = .ok (.aload_n 0, 1) := by decide +kernel
theorem dX10_init_34 : decode cX10_init 34 = .ok (.getfield 9, 3) := by decide +kernel
theorem dX10_init_37 : decode cX10_init 37 = .ok (.iload_n 1, 1) := by decide +kernel
theorem dX10_init_38 : decode cX10_init 38 = .ok (.new 7, 3) := by decide +kernel
theorem dX10_init_41 : decode cX10_init 41 = .ok (.dup, 1) := by decide +kernel
theorem dX10_init_42 : decode cX10_init 42 = .ok (.invokespecial 23, 3) := by decide +kernel
theorem dX10_init_45 : decode cX10_init 45 = .ok (.aastore, 1) := by decide +kernel
theorem dX10_init_46 : decode cX10_init 46 = .ok (.iinc 1 1, 3) := by decide +kernel
theorem dX10_init_49 : decode cX10_init 49 = .ok (.goto (-21), 3) := by decide +kernel
theorem dX10_init_52 : decode cX10_init 52 = .ok (.return_, 1) := by decide +kernel
theorem dX10_copy_0 : decode cX10_copy 0 = .ok (.new 10, 3) := by decide +kernel
theorem dX10_copy_3 : decode cX10_copy 3 = .ok (.dup, 1) := by decide +kernel
theorem dX10_copy_4 : decode cX10_copy 4 = .ok (.invokespecial 24, 3) := by decide +kernel
theorem dX10_copy_7 : decode cX10_copy 7 = .ok (.astore_n 1, 1) := by decide +kernel
theorem dX10_copy_8 : decode cX10_copy 8 = .ok (.iconst 0, 1) := by decide +kernel
theorem dX10_copy_9 : decode cX10_copy 9 = .ok (.istore_n 2, 1) := by decide +kernel
theorem dX10_copy_10 : decode cX10_copy 10 = .ok (.iload_n 2, 1) := by decide +kernel
theorem dX10_copy_11 : decode cX10_copy 11 = .ok (.iconst 5, 1) := by decide +kernel
theorem dX10_copy_12 : decode cX10_copy 12 = .ok (.if_icmp .ge 48, 3) := by decide +kernel
theorem dX10_copy_15 : decode cX10_copy 15 = .ok (.aload_n 1, 1) := by decide +kernel
theorem dX10_copy_16 : decode cX10_copy 16 = .ok (.getfield 9, 3) := by decide +kernel
theorem dX10_copy_19 : decode cX10_copy 19 = .ok (.iload_n 2, 1) := by decide +kernel
theorem dX10_copy_20 : decode cX10_copy 20 = .ok (.aload_n 0, 1) := by decide +kernel
theorem dX10_copy_21 : decode cX10_copy 21 = .ok (.getfield 9, 3) := by decide +kernel
theorem dX10_copy_24 : decode cX10_copy 24 = .ok (.iload_n 2, 1) := by decide +kernel
theorem dX10_copy_25 : decode cX10_copy 25 = .ok (.aaload, 1) := by decide +kernel
theorem dX10_copy_26 : decode cX10_copy 26 = .ok (.invokevirtual 25, 3) := by decide +kernel
theorem dX10_copy_29 : decode cX10_copy 29 = .ok (.aastore, 1) := by decide +kernel
theorem dX10_copy_30 : decode cX10_copy 30 = .ok (.aload_n 1, 1) := by decide +kernel
theorem dX10_copy_31 : decode cX10_copy 31 = .ok (.getfield 15, 3) := by decide +kernel
theorem dX10_copy_34 : decode cX10_copy 34 = .ok (.iload_n 2, 1) := by decide +kernel
theorem dX10_copy_35 : decode cX10_copy 35 = .ok (.aload_n 0, 1) := by decide +kernel
theorem dX10_copy_36 : decode cX10_copy 36 = .ok (.getfield 15, 3) := by decide +kernel
theorem dX10_copy_39 : decode cX10_copy 39 = .ok (.iload_n 2, 1) := by decide +kernel
theorem dX10_copy_40 : decode cX10_copy 40 = .ok (.baload, 1) := by decide +kernel
theorem dX10_copy_41 : decode cX10_copy 41 = .ok (.bastore, 1) := by decide +kernel
theorem dX10_copy_42 : decode cX10_copy 42 = .ok (.aload_n 1, 1) := by decide +kernel
theorem dX10_copy_43 : decode cX10_copy 43 = .ok (.getfield 19, 3) := by decide +kernel
theorem dX10_copy_46 : decode cX10_copy 46 = .ok (.iload_n 2, 1) := by decide +kernel
theorem dX10_copy_47 : decode cX10_copy 47 = .ok (.aload_n 0, 1) := by decide +kernel
theorem dX10_copy_48 : decode cX10_copy 48 = .ok (.getfield 19, 3) := by decide +kernel
theorem dX10_copy_51 : decode cX10_copy 51 = .ok (.iload_n 2, 1) := by decide +kernel
theorem dX10_copy_52 : decode cX10_copy 52 = .ok (.iaload, 1) := by decide +kernel
theorem dX10_copy_53 : decode cX10_copy 53 = .ok (.iastore, 1) := by decide +kernel
theorem dX10_copy_54 : decode cX10_copy 54 = .ok (.iinc 2 1, 3) := by decide +kernel
theorem dX10_copy_57 : decode cX10_copy 57 = .ok (.goto (-47), 3) := by decide +kernel
theorem dX10_copy_60 : decode cX10_copy 60 = .ok (.aload_n 1, 1) := by decide +kernel
theorem dX10_copy_61 : decode cX10_copy 61 = .ok (.aload_n 0, 1) := by decide +kernel
theorem dX10_copy_62 : decode cX10_copy 62 = .ok (.getfield 29, 3) := by decide +kernel
theorem dX10_copy_65 : decode cX10_copy 65 = .ok (.putfield 29, 3) := by decide +kernel
theorem dX10_copy_68 : decode cX10_copy 68 = .ok (.aload_n 1, 1) := by decide +kernel
theorem dX10_copy_69 : decode cX10_copy 69 = .ok (.aload_n 0, 1) := by decide +kernel
theorem dX10_copy_70 : decode cX10_copy 70 = .ok (.getfield 33, 3) := by decide +kernel
theorem dX10_copy_73 : decode cX10_copy 73 = .ok (.putfield 33, 3) := by decide +kernel
theorem dX10_copy_76 : decode cX10_copy 76 = .ok (.aload_n 1, 1) := by decide +kernel
theorem dX10_copy_77 : decode cX10_copy 77 = .ok (.aload_n 0, 1) := by decide +kernel
theorem dX10_copy_78 : decode cX10_copy 78 = .ok (.getfield 36, 3) := by decide +kernel
theorem dX10_copy_81 : decode cX10_copy 81 = .ok (.putfield 36, 3) := by decide +kernel
theorem dX10_copy_84 : decode cX10_copy 84 = .ok (.aload_n 1, 1) := by decide +kernel
theorem dX10_copy_85 : decode cX10_copy 85 = .ok (.aload_n 0, 1) := by decide +kernel
theorem dX10_copy_86 : decode cX10_copy 86 = .ok (.getfield 39, 3) := by decide +kernel
theorem dX10_copy_89 : decode cX10_copy 89 = .ok (.putfield 39, 3) := by decide +kernel
theorem dX10_copy_92 : decode cX10_copy 92 = .ok (.aload_n 1, 1) := by decide +kernel
theorem dX10_copy_93 : decode cX10_copy 93 = .ok (.aload_n 0, 1) := by decide +kernel
theorem dX10_copy_94 : decode cX10_copy 94 = .ok (.getfield 42, 3) := by decide +kernel
theorem dX10_copy_97 : decode cX10_copy 97 = .ok (.putfield 42, 3) := by decide +kernel
theorem dX10_copy_100 : decode cX10_copy 100 = .ok (.aload_n 1, 1) := by decide +kernel
theorem dX10_copy_101 : decode cX10_copy 101 = .ok (.aload_n 0, 1) := by decide +kernel
theorem dX10_copy_102 : decode cX10_copy 102 = .ok (.getfield 45, 3) := by decide +kernel
theorem dX10_copy_105 : decode cX10_copy 105 = .ok (.putfield 45, 3) := by decide +kernel
theorem dX10_copy_108 : decode cX10_copy 108 = .ok (.aload_n 1, 1) := by decide +kernel
theorem dX10_copy_109 : decode cX10_copy 109 = .ok (.aload_n 0, 1) := by decide +kernel
theorem dX10_copy_110 : decode cX10_copy 110 = .ok (.getfield 48, 3) := by decide +kernel
theorem dX10_copy_113 : decode cX10_copy 113 = .ok (.putfield 48, 3) := by decide +kernel
theorem dX10_copy_116 : decode cX10_copy 116 = .ok (.aload_n 1, 1) := by decide +kernel
theorem dX10_copy_117 : decode cX10_copy 117 = .ok (.areturn, 1) := by decide +kernel
theorem dX10_isBlocked_0 : decode cX10_isBlocked 0 = .ok (.aload_n 0, 1) := by decide +kernel
theorem dX10_isBlocked_1 : decode cX10_isBlocked 1 = .ok (.getfield 39, 3) := by decide +kernel
theorem dX10_isBlocked_4 : decode cX10_isBlocked 4 = .ok (.iconst 5, 1) := by decide +kernel
theorem dX10_isBlocked_5 : decode cX10_isBlocked 5 = .ok (.if_icmp .le 7, 3) := by decide +kernel
theorem dX10_isBlocked_8 : decode cX10_isBlocked 8 = .ok (.iconst 1, 1) := by decide +kernel
theorem dX10_isBlocked_9 : decode cX10_isBlocked 9 = .ok (.goto 4, 3) := by decide +kernel
theorem dX10_isBlocked_12 : decode cX10_isBlocked 12 = .ok (.iconst 0, 1) := by decide +kernel
theorem dX10_isBlocked_13 : decode cX10_isBlocked 13 = .ok (.ireturn, 1) := by decide +kernel
theorem dX10_move_0 : decode cX10_move 0 = .ok (.aload_n 0, 1) := by decide +kernel
theorem dX10_move_1 : decode cX10_move 1 = .ok (.getfield 9, 3) := by decide +kernel
theorem dX10_move_4 : decode cX10_move 4 = .ok (.iconst 4, 1) := by decide +kernel
theorem dX10_move_5 : decode cX10_move 5 = .ok (.aaload, 1) := by decide +kernel
theorem dX10_move_6 : decode cX10_move 6 = .ok (.astore_n 1, 1) := by decide +kernel
theorem dX10_move_7 : decode cX10_move 7 = .ok (.iconst 4, 1) := by decide +kernel
theorem dX10_move_8 : decode cX10_move 8 = .ok (.istore_n 2, 1) := by decide +kernel
theorem dX10_move_9 : decode cX10_move 9 = .ok (.iload_n 2, 1) := by decide +kernel
theorem dX10_move_10 : decode cX10_move 10 = .ok (.ifCond .le 37, 3) := by decide +kernel
theorem dX10_move_13 : decode cX10_move 13 = .ok (.aload_n 0, 1) := by decide +kernel
theorem dX10_move_14 : decode cX10_move 14 = .ok (.getfield 9, 3) := by decide +kernel
theorem dX10_move_17 : decode cX10_move 17 = .ok (.iload_n 2, 1) := by decide +kernel
theorem dX10_move_18 : decode cX10_move 18 = .ok (.aload_n 0, 1) := by decide +kernel
theorem dX10_move_19 : decode cX10_move 19 = .ok (.getfield 9, 3) := by decide +kernel
theorem dX10_move_22 : decode cX10_move 22 = .ok (.iload_n 2, 1) := by decide +kernel
theorem dX10_move_23 : decode cX10_move 23 = .ok (.iconst 1, 1) := by decide +kernel
theorem dX10_move_24 : decode cX10_move 24 = .ok (.isub, 1) := by decide +kernel
theorem dX10_move_25 : decode cX10_move 25 = .ok (.aaload, 1) := by decide +kernel
theorem dX10_move_26 : decode cX10_move 26 = .ok (.aastore, 1) := by decide +kernel
theorem dX10_move_27 : decode cX10_move 27 = .ok (.aload_n 0, 1) := by decide +kernel
theorem dX10_move_28 : decode cX10_move 28 = .ok (.getfield 15, 3) := by decide +kernel
theorem dX10_move_31 : decode cX10_move 31 = .ok (.iload_n 2, 1) := by decide +kernel
theorem dX10_move_32 : decode cX10_move 32 = .ok (.aload_n 0, 1) := by decide +kernel
theorem dX10_move_33 : decode cX10_move 33 = .ok (.getfield 15, 3) := by decide +kernel
theorem dX10_move_36 : decode cX10_move 36 = .ok (.iload_n 2, 1) := by decide +kernel
theorem dX10_move_37 : decode cX10_move 37 = .ok (.iconst 1, 1) := by decide +kernel
theorem dX10_move_38 : decode cX10_move 38 = .ok (.isub, 1) := by decide +kernel
theorem dX10_move_39 : decode cX10_move 39 = .ok (.baload, 1) := by decide +kernel
theorem dX10_move_40 : decode cX10_move 40 = .ok (.bastore, 1) := by decide +kernel
theorem dX10_move_41 : decode cX10_move 41 = .ok (.iinc 2 (-1), 3) := by decide +kernel
theorem dX10_move_44 : decode cX10_move 44 = .ok (.goto (-35), 3) := by decide +kernel
theorem dX10_move_47 : decode cX10_move 47 = .ok (.aload_n 0, 1) := by decide +kernel
theorem dX10_move_48 : decode cX10_move 48 = .ok (.getfield 15, 3) := by decide +kernel
theorem dX10_move_51 : decode cX10_move 51 = .ok (.iconst 0, 1) := by decide +kernel
theorem dX10_move_52 : decode cX10_move 52 = .ok (.iconst 0, 1) := by decide +kernel
theorem dX10_move_53 : decode cX10_move 53 = .ok (.bastore, 1) := by decide +kernel
theorem dX10_move_54 : decode cX10_move 54 = .ok (.aload_n 1, 1) := by decide +kernel
theorem dX10_move_55 : decode cX10_move 55 = .ok (.areturn, 1) := by decide +kernel
theorem dX10_take_0 : decode cX10_take 0 = .ok (.aload_n 0, 1) := by decide +kernel
theorem dX10_take_1 : decode cX10_take 1 = .ok (.getfield 9, 3) := by decide +kernel
theorem dX10_take_4 : decode cX10_take 4 = .ok (.iconst 0, 1) := by decide +kernel
theorem dX10_take_5 : decode cX10_take 5 = .ok (.aload_n 1, 1) := by decide +kernel
theorem dX10_take_6 : decode cX10_take 6 = .ok (.aastore, 1) := by decide +kernel
theorem dX10_take_7 : decode cX10_take 7 = .ok (.aload_n 0, 1) := by decide +kernel
theorem dX10_take_8 : decode cX10_take 8 = .ok (.getfield 15, 3) := by decide +kernel
theorem dX10_take_11 : decode cX10_take 11 = .ok (.iconst 0, 1) := by decide +kernel
theorem dX10_take_12 : decode cX10_take 12 = .ok (.iconst 1, 1) := by decide +kernel
theorem dX10_take_13 : decode cX10_take 13 = .ok (.bastore, 1) := by decide +kernel
theorem dX10_take_14 : decode cX10_take 14 = .ok (.return_, 1) := by decide +kernel
theorem dX10_burn_0 : decode cX10_burn 0 = .ok (.aload_n 0, 1) := by decide +kernel
theorem dX10_burn_1 : decode cX10_burn 1 = .ok (.dup, 1) := by decide +kernel
theorem dX10_burn_2 : decode cX10_burn 2 = .ok (.getfield 48, 3) := by decide +kernel
theorem dX10_burn_5 : decode cX10_burn 5 = .ok (.iconst 2, 1) := by decide +kernel
theorem dX10_burn_6 : decode cX10_burn 6 = .ok (.iload_n 1, 1) := by decide +kernel
theorem dX10_burn_7 : decode cX10_burn 7 = .ok (.imul, 1) := by decide +kernel
theorem dX10_burn_8 : decode cX10_burn 8 = .ok (.iadd, 1) := by decide +kernel
theorem dX10_burn_9 : decode cX10_burn 9 = .ok (.putfield 48, 3) := by decide +kernel
theorem dX10_burn_12 : decode cX10_burn 12 = .ok (.aload_n 0, 1) := by decide +kernel
theorem dX10_burn_13 : decode cX10_burn 13 = .ok (.getfield 19, 3) := by decide +kernel
theorem dX10_burn_16 : decode cX10_burn 16 = .ok (.iconst 4, 1) := by decide +kernel
theorem dX10_burn_17 : decode cX10_burn 17 = .ok (.aload_n 0, 1) := by decide +kernel
theorem dX10_burn_18 : decode cX10_burn 18 = .ok (.getfield 19, 3) := by decide +kernel
theorem dX10_burn_21 : decode cX10_burn 21 = .ok (.iconst 4, 1) := by decide +kernel
theorem dX10_burn_22 : decode cX10_burn 22 = .ok (.iaload, 1) := by decide +kernel
theorem dX10_burn_23 : decode cX10_burn 23 = .ok (.iconst 3, 1) := by decide +kernel
theorem dX10_burn_24 : decode cX10_burn 24 = .ok (.iload_n 1, 1) := by decide +kernel
theorem dX10_burn_25 : decode cX10_burn 25 = .ok (.imul, 1) := by decide +kernel
theorem dX10_burn_26 : decode cX10_burn 26 = .ok (.iadd, 1) := by decide +kernel
theorem dX10_burn_27 : decode cX10_burn 27 = .ok (.iconst 2, 1) := by decide +kernel
theorem dX10_burn_28 : decode cX10_burn 28 = .ok (.idiv, 1) := by decide +kernel
theorem dX10_burn_29 : decode cX10_burn 29 = .ok (.iastore, 1) := by decide +kernel
theorem dX10_burn_30 : decode cX10_burn 30 = .ok (.iconst 3, 1) := by decide +kernel
theorem dX10_burn_31 : decode cX10_burn 31 = .ok (.istore_n 2, 1) := by decide +kernel
theorem dX10_burn_32 : decode cX10_burn 32 = .ok (.iload_n 2, 1) := by decide +kernel
theorem dX10_burn_33 : decode cX10_burn 33 = .ok (.ifCond .lt 65, 3) := by decide +kernel
theorem dX10_burn_36 : decode cX10_burn 36 = .ok (.aload_n 0, 1) := by decide +kernel
theorem dX10_burn_37 : decode cX10_burn 37 = .ok (.getfield 19, 3) := by decide +kernel
theorem dX10_burn_40 : decode cX10_burn 40 = .ok (.iload_n 2, 1) := by decide +kernel
theorem dX10_burn_41 : decode cX10_burn 41 = .ok (.iconst 0, 1) := by decide +kernel
theorem dX10_burn_42 : decode cX10_burn 42 = .ok (.aload_n 0, 1) := by decide +kernel
theorem dX10_burn_43 : decode cX10_burn 43 = .ok (.getfield 19, 3) := by decide +kernel
theorem dX10_burn_46 : decode cX10_burn 46 = .ok (.iload_n 2, 1) := by decide +kernel
theorem dX10_burn_47 : decode cX10_burn 47 = .ok (.iaload, 1) := by decide +kernel
theorem dX10_burn_48 : decode cX10_burn 48 = .ok (.iconst 2, 1) := by decide +kernel
theorem dX10_burn_49 : decode cX10_burn 49 = .ok (.aload_n 0, 1) := by decide +kernel
theorem dX10_burn_50 : decode cX10_burn 50 = .ok (.getfield 19, 3) := by decide +kernel
theorem dX10_burn_53 : decode cX10_burn 53 = .ok (.iload_n 2, 1) := by decide +kernel
theorem dX10_burn_54 : decode cX10_burn 54 = .ok (.iconst 1, 1) := by decide +kernel
theorem dX10_burn_55 : decode cX10_burn 55 = .ok (.iadd, 1) := by decide +kernel
theorem dX10_burn_56 : decode cX10_burn 56 = .ok (.iaload, 1) := by decide +kernel
theorem dX10_burn_57 : decode cX10_burn 57 = .ok (.imul, 1) := by decide +kernel
theorem dX10_burn_58 : decode cX10_burn 58 = .ok (.iadd, 1) := by decide +kernel
theorem dX10_burn_59 : decode cX10_burn 59 = .ok (.iconst 3, 1) := by decide +kernel
theorem dX10_burn_60 : decode cX10_burn 60 = .ok (.idiv, 1) := by decide +kernel
theorem dX10_burn_61 : decode cX10_burn 61 = .ok (.aload_n 0, 1) := by decide +kernel
theorem dX10_burn_62 : decode cX10_burn 62 = .ok (.getfield 15, 3) := by decide +kernel
theorem dX10_burn_65 : decode cX10_burn 65 = .ok (.iload_n 2, 1) := by decide +kernel
theorem dX10_burn_66 : decode cX10_burn 66 = .ok (.baload, 1) := by decide +kernel
theorem dX10_burn_67 : decode cX10_burn 67 = .ok (.ifCond .eq 19, 3) := by decide +kernel
theorem dX10_burn_70 : decode cX10_burn 70 = .ok (.aload_n 0, 1) := by decide +kernel
theorem dX10_burn_71 : decode cX10_burn 71 = .ok (.getfield 9, 3) := by decide +kernel
theorem dX10_burn_74 : decode cX10_burn 74 = .ok (.iload_n 2, 1) := by decide +kernel
theorem dX10_burn_75 : decode cX10_burn 75 = .ok (.aaload, 1) := by decide +kernel
theorem dX10_burn_76 : decode cX10_burn 76 = .ok (.getfield 51, 3) := by decide +kernel
theorem dX10_burn_79 : decode cX10_burn 79 = .ok (.ifCond .le 7, 3) := by decide +kernel
theorem dX10_burn_82 : decode cX10_burn 82 = .ok (.iconst 1, 1) := by decide +kernel
theorem dX10_burn_83 : decode cX10_burn 83 = .ok (.goto 4, 3) := by decide +kernel
theorem dX10_burn_86 : decode cX10_burn 86 = .ok (.iconst 0, 1) := by decide +kernel
theorem dX10_burn_87 : decode cX10_burn 87 = .ok (.isub, 1) := by decide +kernel
theorem dX10_burn_88 : decode cX10_burn 88 = .ok (.invokestatic 54, 3) := by decide +kernel
theorem dX10_burn_91 : decode cX10_burn 91 = .ok (.iastore, 1) := by decide +kernel
theorem dX10_burn_92 : decode cX10_burn 92 = .ok (.iinc 2 (-1), 3) := by decide +kernel
theorem dX10_burn_95 : decode cX10_burn 95 = .ok (.goto (-63), 3) := by decide +kernel
theorem dX10_burn_98 : decode cX10_burn 98 = .ok (.iconst 0, 1) := by decide +kernel
theorem dX10_burn_99 : decode cX10_burn 99 = .ok (.istore_n 2, 1) := by decide +kernel
theorem dX10_burn_100 : decode cX10_burn 100 = .ok (.iload_n 2, 1) := by decide +kernel
theorem dX10_burn_101 : decode cX10_burn 101 = .ok (.iconst 5, 1) := by decide +kernel
theorem dX10_burn_102 : decode cX10_burn 102 = .ok (.if_icmp .ge 42, 3) := by decide +kernel
theorem dX10_burn_105 : decode cX10_burn 105 = .ok (.aload_n 0, 1) := by decide +kernel
theorem dX10_burn_106 : decode cX10_burn 106 = .ok (.getfield 15, 3) := by decide +kernel
theorem dX10_burn_109 : decode cX10_burn 109 = .ok (.iload_n 2, 1) := by decide +kernel
theorem dX10_burn_110 : decode cX10_burn 110 = .ok (.baload, 1) := by decide +kernel
theorem dX10_burn_111 : decode cX10_burn 111 = .ok (.ifCond .eq 27, 3) := by decide +kernel
theorem dX10_burn_114 : decode cX10_burn 114 = .ok (.aload_n 0, 1) := by decide +kernel
theorem dX10_burn_115 : decode cX10_burn 115 = .ok (.dup, 1) := by decide +kernel
theorem dX10_burn_116 : decode cX10_burn 116 = .ok (.getfield 48, 3) := by decide +kernel
theorem dX10_burn_119 : decode cX10_burn 119 = .ok (.aload_n 0, 1) := by decide +kernel
theorem dX10_burn_120 : decode cX10_burn 120 = .ok (.getfield 9, 3) := by decide +kernel
theorem dX10_burn_123 : decode cX10_burn 123 = .ok (.iload_n 2, 1) := by decide +kernel
theorem dX10_burn_124 : decode cX10_burn 124 = .ok (.aaload, 1) := by decide +kernel
theorem dX10_burn_125 : decode cX10_burn 125 = .ok (.aload_n 0, 1) := by decide +kernel
theorem dX10_burn_126 : decode cX10_burn 126 = .ok (.getfield 19, 3) := by decide +kernel
theorem dX10_burn_129 : decode cX10_burn 129 = .ok (.iload_n 2, 1) := by decide +kernel
theorem dX10_burn_130 : decode cX10_burn 130 = .ok (.iaload, 1) := by decide +kernel
theorem dX10_burn_131 : decode cX10_burn 131 = .ok (.invokevirtual 60, 3) := by decide +kernel
theorem dX10_burn_134 : decode cX10_burn 134 = .ok (.iadd, 1) := by decide +kernel
theorem dX10_burn_135 : decode cX10_burn 135 = .ok (.putfield 48, 3) := by decide +kernel
theorem dX10_burn_138 : decode cX10_burn 138 = .ok (.iinc 2 1, 3) := by decide +kernel
theorem dX10_burn_141 : decode cX10_burn 141 = .ok (.goto (-41), 3) := by decide +kernel
theorem dX10_burn_144 : decode cX10_burn 144 = .ok (.aload_n 0, 1) := by decide +kernel
theorem dX10_burn_145 : decode cX10_burn 145 = .ok (.getfield 15, 3) := by decide +kernel
theorem dX10_burn_148 : decode cX10_burn 148 = .ok (.iconst 3, 1) := by decide +kernel
theorem dX10_burn_149 : decode cX10_burn 149 = .ok (.baload, 1) := by decide +kernel
theorem dX10_burn_150 : decode cX10_burn 150 = .ok (.ifCond .eq 40, 3) := by decide +kernel
theorem dX10_burn_153 : decode cX10_burn 153 = .ok (.aload_n 0, 1) := by decide +kernel
theorem dX10_burn_154 : decode cX10_burn 154 = .ok (.getfield 9, 3) := by decide +kernel
theorem dX10_burn_157 : decode cX10_burn 157 = .ok (.iconst 3, 1) := by decide +kernel
theorem dX10_burn_158 : decode cX10_burn 158 = .ok (.aaload, 1) := by decide +kernel
theorem dX10_burn_159 : decode cX10_burn 159 = .ok (.invokevirtual 64, 3) := by decide +kernel
theorem dX10_burn_162 : decode cX10_burn 162 = .ok (.iconst 5, 1) := by decide +kernel
theorem dX10_burn_163 : decode cX10_burn 163 = .ok (.if_icmp .le 27, 3) := by decide +kernel
theorem dX10_burn_166 : decode cX10_burn 166 = .ok (.aload_n 0, 1) := by decide +kernel
theorem dX10_burn_167 : decode cX10_burn 167 = .ok (.getfield 19, 3) := by decide +kernel
theorem dX10_burn_170 : decode cX10_burn 170 = .ok (.iconst 3, 1) := by decide +kernel
theorem dX10_burn_171 : decode cX10_burn 171 = .ok (.iaload, 1) := by decide +kernel
theorem dX10_burn_172 : decode cX10_burn 172 = .ok (.bipush 7, 2) := by decide +kernel
theorem dX10_burn_174 : decode cX10_burn 174 = .ok (.if_icmp .le 16, 3) := by decide +kernel
theorem dX10_burn_177 : decode cX10_burn 177 = .ok (.aload_n 0, 1) := by decide +kernel
theorem dX10_burn_178 : decode cX10_burn 178 = .ok (.dup, 1) := by decide +kernel
theorem dX10_burn_179 : decode cX10_burn 179 = .ok (.getfield 39, 3) := by decide +kernel
theorem dX10_burn_182 : decode cX10_burn 182 = .ok (.iconst 1, 1) := by decide +kernel
theorem dX10_burn_183 : decode cX10_burn 183 = .ok (.iadd, 1) := by decide +kernel
theorem dX10_burn_184 : decode cX10_burn 184 = .ok (.putfield 39, 3) := by decide +kernel
theorem dX10_burn_187 : decode cX10_burn 187 = .ok (.goto 35, 3) := by decide +kernel
theorem dX10_burn_190 : decode cX10_burn 190 = .ok (.aload_n 0, 1) := by decide +kernel
theorem dX10_burn_191 : decode cX10_burn 191 = .ok (.getfield 19, 3) := by decide +kernel
theorem dX10_burn_194 : decode cX10_burn 194 = .ok (.iconst 3, 1) := by decide +kernel
theorem dX10_burn_195 : decode cX10_burn 195 = .ok (.iaload, 1) := by decide +kernel
theorem dX10_burn_196 : decode cX10_burn 196 = .ok (.iconst 5, 1) := by decide +kernel
theorem dX10_burn_197 : decode cX10_burn 197 = .ok (.if_icmp .ge 25, 3) := by decide +kernel
theorem dX10_burn_200 : decode cX10_burn 200 = .ok (.aload_n 0, 1) := by decide +kernel
theorem dX10_burn_201 : decode cX10_burn 201 = .ok (.getfield 39, 3) := by decide +kernel
theorem dX10_burn_204 : decode cX10_burn 204 = .ok (.ifCond .le 18, 3) := by decide +kernel
theorem dX10_burn_207 : decode cX10_burn 207 = .ok (.aload_n 0, 1) := by decide +kernel
theorem dX10_burn_208 : decode cX10_burn 208 = .ok (.iconst 0, 1) := by decide +kernel
theorem dX10_burn_209 : decode cX10_burn 209 = .ok (.putfield 39, 3) := by decide +kernel
theorem dX10_burn_212 : decode cX10_burn 212 = .ok (.aload_n 0, 1) := by decide +kernel
theorem dX10_burn_213 : decode cX10_burn 213 = .ok (.dup, 1) := by decide +kernel
theorem dX10_burn_214 : decode cX10_burn 214 = .ok (.getfield 42, 3) := by decide +kernel
theorem dX10_burn_217 : decode cX10_burn 217 = .ok (.iconst 1, 1) := by decide +kernel
theorem dX10_burn_218 : decode cX10_burn 218 = .ok (.iadd, 1) := by decide +kernel
theorem dX10_burn_219 : decode cX10_burn 219 = .ok (.putfield 42, 3) := by decide +kernel
theorem dX10_burn_222 : decode cX10_burn 222 = .ok (.return_, 1) := by decide +kernel
theorem dX10_burns_0 : decode cX10_burns 0 = .ok (.aload_n 0, 1) := by decide +kernel
theorem dX10_burns_1 : decode cX10_burns 1 = .ok (.getfield 33, 3) := by decide +kernel
theorem dX10_burns_4 : decode cX10_burns 4 = .ok (.aload_n 0, 1) := by decide +kernel
theorem dX10_burns_5 : decode cX10_burns 5 = .ok (.getfield 29, 3) := by decide +kernel
theorem dX10_burns_8 : decode cX10_burns 8 = .ok (.if_icmp .ge 5, 3) := by decide +kernel
theorem dX10_burns_11 : decode cX10_burns 11 = .ok (.iconst 0, 1) := by decide +kernel
theorem dX10_burns_12 : decode cX10_burns 12 = .ok (.ireturn, 1) := by decide +kernel
theorem dX10_burns_13 : decode cX10_burns 13 = .ok (.aload_n 0, 1) := by decide +kernel
theorem dX10_burns_14 : decode cX10_burns 14 = .ok (.dup, 1) := by decide +kernel
theorem dX10_burns_15 : decode cX10_burns 15 = .ok (.getfield 33, 3) := by decide +kernel
theorem dX10_burns_18 : decode cX10_burns 18 = .ok (.aload_n 0, 1) := by decide +kernel
theorem dX10_burns_19 : decode cX10_burns 19 = .ok (.getfield 29, 3) := by decide +kernel
theorem dX10_burns_22 : decode cX10_burns 22 = .ok (.isub, 1) := by decide +kernel
theorem dX10_burns_23 : decode cX10_burns 23 = .ok (.putfield 33, 3) := by decide +kernel
theorem dX10_burns_26 : decode cX10_burns 26 = .ok (.aload_n 0, 1) := by decide +kernel
theorem dX10_burns_27 : decode cX10_burns 27 = .ok (.getfield 29, 3) := by decide +kernel
theorem dX10_burns_30 : decode cX10_burns 30 = .ok (.ireturn, 1) := by decide +kernel
theorem dX11_init_0 : decode cX11_init 0 = .ok (.aload_n 0, 1) := by decide +kernel
theorem dX11_init_1 : decode cX11_init 1 = .ok (.invokespecial 1, 3) := by decide +kernel
theorem dX11_init_4 : decode cX11_init 4 = .ok (.aload_n 0, 1) := by decide +kernel
theorem dX11_init_5 : decode cX11_init 5 = .ok (.bipush 6, 2) := by decide +kernel
theorem dX11_init_7 : decode cX11_init 7 = .ok (.bipush 6, 2) := by decide +kernel
theorem dX11_init_9 : decode cX11_init 9 = .ok (.multianewarray 7 2, 4) := by decide +kernel
theorem dX11_init_13 : decode cX11_init 13 = .ok (.putfield 9, 3) := by decide +kernel
theorem dX11_init_16 : decode cX11_init 16 = .ok (.aload_n 0, 1) := by decide +kernel
theorem dX11_init_17 : decode cX11_init 17 = .ok (.bipush 8, 2) := by decide +kernel
theorem dX11_init_19 : decode cX11_init 19 = .ok (.iconst 2, 1) := by decide +kernel
theorem dX11_init_20 : decode cX11_init 20 = .ok (.multianewarray 7 2, 4) := by decide +kernel
theorem dX11_init_24 : decode cX11_init 24 = .ok (.putfield 14, 3) := by decide +kernel
theorem dX11_init_27 : decode cX11_init 27 = .ok (.aload_n 0, 1) := by decide +kernel
theorem dX11_init_28 : decode cX11_init 28 = .ok (.new 17, 3) := by decide +kernel
theorem dX11_init_31 : decode cX11_init 31 = .ok (.dup, 1) := by decide +kernel
theorem dX11_init_32 : decode cX11_init 32 = .ok (.invokespecial 19, 3) := by decide +kernel
theorem dX11_init_35 : decode cX11_init 35 = .ok (.putfield 20, 3) := by decide +kernel
theorem dX11_init_38 : decode cX11_init 38 = .ok (.aload_n 0, 1) := by decide +kernel
theorem dX11_init_39 : decode cX11_init 39 = .ok (.new 17, 3) := by decide +kernel
theorem dX11_init_42 : decode cX11_init 42 = .ok (.dup, 1) := by decide +kernel
theorem dX11_init_43 : decode cX11_init 43 = .ok (.invokespecial 19, 3) := by decide +kernel
theorem dX11_init_46 : decode cX11_init 46 = .ok (.putfield 24, 3) := by decide +kernel
theorem dX11_init_49 : decode cX11_init 49 = .ok (.aload_n 0, 1) := by decide +kernel
theorem dX11_init_50 : decode cX11_init 50 = .ok (.iconst 2, 1) := by decide +kernel
theorem dX11_init_51 : decode cX11_init 51 = .ok (.bipush 12, 2) := by decide +kernel
theorem dX11_init_53 : decode cX11_init 53 = .ok (.multianewarray 7 2, 4) := by decide +kernel
theorem dX11_init_57 : decode cX11_init 57 = .ok (.putfield 27, 3) := by decide +kernel
theorem dX11_init_60 : decode cX11_init 60 = .ok (.aload_n 0, 1) := by decide +kernel
theorem dX11_init_61 : decode cX11_init 61 = .ok (.iconst 2, 1) := by decide +kernel
theorem dX11_init_62 : decode cX11_init 62 = .ok (.newarray .int, 2) := by decide +kernel
theorem dX11_init_64 : decode cX11_init 64 = .ok (.putfield 30, 3) := by decide +kernel
theorem dX11_init_67 : decode cX11_init 67 = .ok (.aload_n 0, 1) := by decide +kernel
theorem dX11_init_68 : decode cX11_init 68 = .ok (.iconst 2, 1) := by decide +kernel
theorem dX11_init_69 : decode cX11_init 69 = .ok (.newarray .boolean, 2) := by decide +kernel
theorem dX11_init_71 : decode cX11_init 71 = .ok (.putfield 34, 3) := by decide +kernel
theorem dX11_init_74 : decode cX11_init 74 = .ok (.aload_n 0, 1) := by decide +kernel
theorem dX11_init_75 : decode cX11_init 75 = .ok (.bipush 6, 2) := by decide +kernel
theorem dX11_init_77 : decode cX11_init 77 = .ok (.newarray .int, 2) := by decide +kernel
theorem dX11_init_79 : decode cX11_init 79 = .ok (.putfield 38, 3) := by decide +kernel
theorem dX11_init_82 : decode cX11_init 82 = .ok (.aload_n 0, 1) := by decide +kernel
theorem dX11_init_83 : decode cX11_init 83 = .ok (.new 41, 3) := by decide +kernel
theorem dX11_init_86 : decode cX11_init 86 = .ok (.dup, 1) := by decide +kernel
theorem dX11_init_87 : decode cX11_init 87 = .ok (.invokespecial 43, 3) := by decide +kernel
theorem dX11_init_90 : decode cX11_init 90 = .ok (.putfield 44, 3) := by decide +kernel
theorem dX11_init_93 : decode cX11_init 93 = .ok (.aload_n 0, 1) := by decide +kernel
theorem dX11_init_94 : decode cX11_init 94 = .ok (.bipush 6, 2) := by decide +kernel
theorem dX11_init_96 : decode cX11_init 96 = .ok (.putfield 48, 3) := by decide +kernel
theorem dX11_init_99 : decode cX11_init 99 = .ok (.return_, 1) := by decide +kernel
theorem dX11_thrown_0 : decode cX11_thrown 0 = .ok (.aload_n 0, 1) := by decide +kernel
theorem dX11_thrown_1 : decode cX11_thrown 1 = .ok (.getfield 52, 3) := by decide +kernel
theorem dX11_thrown_4 : decode cX11_thrown 4 = .ok (.ireturn, 1) := by decide +kernel
theorem dX11_no_0 : decode cX11_no 0 = .ok (.aload_n 0, 1) := by decide +kernel
theorem dX11_no_1 : decode cX11_no 1 = .ok (.iload_n 1, 1) := by decide +kernel
theorem dX11_no_2 : decode cX11_no 2 = .ok (.putfield 52, 3) := by decide +kernel
theorem dX11_no_5 : decode cX11_no 5 = .ok (.iconst 0, 1) := by decide +kernel
theorem dX11_no_6 : decode cX11_no 6 = .ok (.ireturn, 1) := by decide +kernel
theorem dX11_in_0 : decode cX11_in 0 = .ok (.iload_n 0, 1) := by decide +kernel
theorem dX11_in_1 : decode cX11_in 1 = .ok (.iload_n 1, 1) := by decide +kernel
theorem dX11_in_2 : decode cX11_in 2 = .ok (.if_icmp .lt 12, 3) := by decide +kernel
theorem dX11_in_5 : decode cX11_in 5 = .ok (.iload_n 0, 1) := by decide +kernel
theorem dX11_in_6 : decode cX11_in 6 = .ok (.iload_n 2, 1) := by decide +kernel
theorem dX11_in_7 : decode cX11_in 7 = .ok (.if_icmp .gt 7, 3) := by decide +kernel
theorem dX11_in_10 : decode cX11_in 10 = .ok (.iconst 1, 1) := by decide +kernel
theorem dX11_in_11 : decode cX11_in 11 = .ok (.goto 4, 3) := by decide +kernel
theorem dX11_in_14 : decode cX11_in 14 = .ok (.iconst 0, 1) := by decide +kernel
theorem dX11_in_15 : decode cX11_in 15 = .ok (.ireturn, 1) := by decide +kernel
theorem dX11_lower_0 : decode cX11_lower 0 = .ok (.iload_n 0, 1) := by decide +kernel
theorem dX11_lower_1 : decode cX11_lower 1 = .ok (.ifCond .lt 9, 3) := by decide +kernel
theorem dX11_lower_4 : decode cX11_lower 4 = .ok (.iload_n 0, 1) := by decide +kernel
theorem dX11_lower_5 : decode cX11_lower 5 = .ok (.iload_n 1, 1) := by decide +kernel
theorem dX11_lower_6 : decode cX11_lower 6 = .ok (.idiv, 1) := by decide +kernel
theorem dX11_lower_7 : decode cX11_lower 7 = .ok (.goto 11, 3) := by decide +kernel
theorem dX11_lower_10 : decode cX11_lower 10 = .ok (.iload_n 1, 1) := by decide +kernel
theorem dX11_lower_11 : decode cX11_lower 11 = .ok (.iconst 1, 1) := by decide +kernel
theorem dX11_lower_12 : decode cX11_lower 12 = .ok (.isub, 1) := by decide +kernel
theorem dX11_lower_13 : decode cX11_lower 13 = .ok (.iload_n 0, 1) := by decide +kernel
theorem dX11_lower_14 : decode cX11_lower 14 = .ok (.isub, 1) := by decide +kernel
theorem dX11_lower_15 : decode cX11_lower 15 = .ok (.iload_n 1, 1) := by decide +kernel
theorem dX11_lower_16 : decode cX11_lower 16 = .ok (.idiv, 1) := by decide +kernel
theorem dX11_lower_17 : decode cX11_lower 17 = .ok (.ineg, 1) := by decide +kernel
theorem dX11_lower_18 : decode cX11_lower 18 = .ok (.ireturn, 1) := by decide +kernel
theorem dX11_part_0 : decode cX11_part 0 = .ok (.iload_n 1, 1) := by decide +kernel
theorem dX11_part_1 : decode cX11_part 1 = .ok (.ifCond .ne 9, 3) := by decide +kernel
theorem dX11_part_4 : decode cX11_part 4 = .ok (.sipush 999, 3) := by decide +kernel
theorem dX11_part_7 : decode cX11_part 7 = .ok (.goto 6, 3) := by decide +kernel
theorem dX11_part_10 : decode cX11_part 10 = .ok (.iload_n 0, 1) := by decide +kernel
theorem dX11_part_11 : decode cX11_part 11 = .ok (.iload_n 1, 1) := by decide +kernel
theorem dX11_part_12 : decode cX11_part 12 = .ok (.idiv, 1) := by decide +kernel
theorem dX11_part_13 : decode cX11_part 13 = .ok (.ireturn, 1) := by decide +kernel
theorem dX11_modulusOf_0 : decode cX11_modulusOf 0 = .ok (.bipush 100, 2) := by decide +kernel
theorem dX11_modulusOf_2 : decode cX11_modulusOf 2 = .ok (.aload_n 0, 1) := by decide +kernel
theorem dX11_modulusOf_3 : decode cX11_modulusOf 3 = .ok (.iconst 0, 1) := by decide +kernel
theorem dX11_modulusOf_4 : decode cX11_modulusOf 4 = .ok (.iaload, 1) := by decide +kernel
theorem dX11_modulusOf_5 : decode cX11_modulusOf 5 = .ok (.imul, 1) := by decide +kernel
theorem dX11_modulusOf_6 : decode cX11_modulusOf 6 = .ok (.iconst 3, 1) := by decide +kernel
theorem dX11_modulusOf_7 : decode cX11_modulusOf 7 = .ok (.aload_n 0, 1) := by decide +kernel
theorem dX11_modulusOf_8 : decode cX11_modulusOf 8 = .ok (.iconst 1, 1) := by decide +kernel
theorem dX11_modulusOf_9 : decode cX11_modulusOf 9 = .ok (.iaload, 1) := by decide +kernel
theorem dX11_modulusOf_10 : decode cX11_modulusOf 10 = .ok (.imul, 1) := by decide +kernel
theorem dX11_modulusOf_11 : decode cX11_modulusOf 11 = .ok (.iconst 2, 1) := by decide +kernel
theorem dX11_modulusOf_12 : decode cX11_modulusOf 12 = .ok (.aload_n 0, 1) := by decide +kernel
theorem dX11_modulusOf_13 : decode cX11_modulusOf 13 = .ok (.iconst 2, 1) := by decide +kernel
theorem dX11_modulusOf_14 : decode cX11_modulusOf 14 = .ok (.iaload, 1) := by decide +kernel
theorem dX11_modulusOf_15 : decode cX11_modulusOf 15 = .ok (.imul, 1) := by decide +kernel
theorem dX11_modulusOf_16 : decode cX11_modulusOf 16 = .ok (.iadd, 1) := by decide +kernel
theorem dX11_modulusOf_17 : decode cX11_modulusOf 17 = .ok (.aload_n 0, 1) := by decide +kernel
theorem dX11_modulusOf_18 : decode cX11_modulusOf 18 = .ok (.iconst 3, 1) := by decide +kernel
theorem dX11_modulusOf_19 : decode cX11_modulusOf 19 = .ok (.iaload, 1) := by decide +kernel
theorem dX11_modulusOf_20 : decode cX11_modulusOf 20 = .ok (.iadd, 1) := by decide +kernel
theorem dX11_modulusOf_21 : decode cX11_modulusOf 21 = .ok (.invokestatic 55, 3) := by decide +kernel
theorem dX11_modulusOf_24 : decode cX11_modulusOf 24 = .ok (.istore_n 2, 1) := by decide +kernel
theorem dX11_modulusOf_25 : decode cX11_modulusOf 25 = .ok (.bipush 10, 2) := by decide +kernel
theorem dX11_modulusOf_27 : decode cX11_modulusOf 27 = .ok (.aload_n 0, 1) := by decide +kernel
theorem dX11_modulusOf_28 : decode cX11_modulusOf 28 = .ok (.iconst 1, 1) := by decide +kernel
theorem dX11_modulusOf_29 : decode cX11_modulusOf 29 = .ok (.iaload, 1) := by decide +kernel
theorem dX11_modulusOf_30 : decode cX11_modulusOf 30 = .ok (.imul, 1) := by decide +kernel
theorem dX11_modulusOf_31 : decode cX11_modulusOf 31 = .ok (.aload_n 0, 1) := by decide +kernel
theorem dX11_modulusOf_32 : decode cX11_modulusOf 32 = .ok (.iconst 2, 1) := by decide +kernel
theorem dX11_modulusOf_33 : decode cX11_modulusOf 33 = .ok (.iaload, 1) := by decide +kernel
theorem dX11_modulusOf_34 : decode cX11_modulusOf 34 = .ok (.aload_n 0, 1) := by decide +kernel
theorem dX11_modulusOf_35 : decode cX11_modulusOf 35 = .ok (.iconst 3, 1) := by decide +kernel
theorem dX11_modulusOf_36 : decode cX11_modulusOf 36 = .ok (.iaload, 1) := by decide +kernel
theorem dX11_modulusOf_37 : decode cX11_modulusOf 37 = .ok (.iadd, 1) := by decide +kernel
theorem dX11_modulusOf_38 : decode cX11_modulusOf 38 = .ok (.invokestatic 55, 3) := by decide +kernel
theorem dX11_modulusOf_41 : decode cX11_modulusOf 41 = .ok (.istore_n 3, 1) := by decide +kernel
theorem dX11_modulusOf_42 : decode cX11_modulusOf 42 = .ok (.bipush 10, 2) := by decide +kernel
theorem dX11_modulusOf_44 : decode cX11_modulusOf 44 = .ok (.aload_n 0, 1) := by decide +kernel
theorem dX11_modulusOf_45 : decode cX11_modulusOf 45 = .ok (.iconst 2, 1) := by decide +kernel
theorem dX11_modulusOf_46 : decode cX11_modulusOf 46 = .ok (.iaload, 1) := by decide +kernel
theorem dX11_modulusOf_47 : decode cX11_modulusOf 47 = .ok (.imul, 1) := by decide +kernel
theorem dX11_modulusOf_48 : decode cX11_modulusOf 48 = .ok (.aload_n 0, 1) := by decide +kernel
theorem dX11_modulusOf_49 : decode cX11_modulusOf 49 = .ok (.iconst 3, 1) := by decide +kernel
theorem dX11_modulusOf_50 : decode cX11_modulusOf 50 = .ok (.iaload, 1) := by decide +kernel
theorem dX11_modulusOf_51 : decode cX11_modulusOf 51 = .ok (.invokestatic 55, 3) := by decide +kernel
theorem dX11_modulusOf_54 : decode cX11_modulusOf 54 = .ok (.istore 4, 2) := by decide +kernel
theorem dX11_modulusOf_56 : decode cX11_modulusOf 56 = .ok (.iload_n 2, 1) := by decide +kernel
theorem dX11_modulusOf_57 : decode cX11_modulusOf 57 = .ok (.bipush 80, 2) := by decide +kernel
theorem dX11_modulusOf_59 : decode cX11_modulusOf 59 = .ok (.bipush 110, 2) := by decide +kernel
theorem dX11_modulusOf_61 : decode cX11_modulusOf 61 = .ok (.invokestatic 59, 3) := by decide +kernel
theorem dX11_modulusOf_64 : decode cX11_modulusOf 64 = .ok (.ifCond .eq 29, 3) := by decide +kernel
theorem dX11_modulusOf_67 : decode cX11_modulusOf 67 = .ok (.iload_n 3, 1) := by decide +kernel
theorem dX11_modulusOf_68 : decode cX11_modulusOf 68 = .ok (.bipush 12, 2) := by decide +kernel
theorem dX11_modulusOf_70 : decode cX11_modulusOf 70 = .ok (.bipush 40, 2) := by decide +kernel
theorem dX11_modulusOf_72 : decode cX11_modulusOf 72 = .ok (.invokestatic 59, 3) := by decide +kernel
theorem dX11_modulusOf_75 : decode cX11_modulusOf 75 = .ok (.ifCond .eq 18, 3) := by decide +kernel
theorem dX11_modulusOf_78 : decode cX11_modulusOf 78 = .ok (.iload 4, 2) := by decide +kernel
theorem dX11_modulusOf_80 : decode cX11_modulusOf 80 = .ok (.iconst 5, 1) := by decide +kernel
theorem dX11_modulusOf_81 : decode cX11_modulusOf 81 = .ok (.bipush 40, 2) := by decide +kernel
theorem dX11_modulusOf_83 : decode cX11_modulusOf 83 = .ok (.invokestatic 59, 3) := by decide +kernel
theorem dX11_modulusOf_86 : decode cX11_modulusOf 86 = .ok (.ifCond .eq 7, 3) := by decide +kernel
theorem dX11_modulusOf_89 : decode cX11_modulusOf 89 = .ok (.iconst 1, 1) := by decide +kernel
theorem dX11_modulusOf_90 : decode cX11_modulusOf 90 = .ok (.goto 4, 3) := by decide +kernel
theorem dX11_modulusOf_93 : decode cX11_modulusOf 93 = .ok (.iconst 0, 1) := by decide +kernel
theorem dX11_modulusOf_94 : decode cX11_modulusOf 94 = .ok (.istore 5, 2) := by decide +kernel
theorem dX11_modulusOf_96 : decode cX11_modulusOf 96 = .ok (.iload_n 1, 1) := by decide +kernel
theorem dX11_modulusOf_97 : decode cX11_modulusOf 97 = .ok (.ifCond .ne 7, 3) := by decide +kernel
theorem dX11_modulusOf_100 : decode cX11_modulusOf 100 = .ok (.iload_n 2, 1) := by decide +kernel
theorem dX11_modulusOf_101 : decode cX11_modulusOf 101 = .ok (.goto 32, 3) := by decide +kernel
theorem dX11_modulusOf_104 : decode cX11_modulusOf 104 = .ok (.iload_n 1, 1) := by decide +kernel
theorem dX11_modulusOf_105 : decode cX11_modulusOf 105 = .ok (.iconst 1, 1) := by decide +kernel
theorem dX11_modulusOf_106 : decode cX11_modulusOf 106 = .ok (.if_icmp .ne 7, 3) := by decide +kernel
theorem dX11_modulusOf_109 : decode cX11_modulusOf 109 = .ok (.iload_n 3, 1) := by decide +kernel
theorem dX11_modulusOf_110 : decode cX11_modulusOf 110 = .ok (.goto 23, 3) := by decide +kernel
theorem dX11_modulusOf_113 : decode cX11_modulusOf 113 = .ok (.iload_n 1, 1) := by decide +kernel
theorem dX11_modulusOf_114 : decode cX11_modulusOf 114 = .ok (.iconst 2, 1) := by decide +kernel
theorem dX11_modulusOf_115 : decode cX11_modulusOf 115 = .ok (.if_icmp .ne 8, 3) := by decide +kernel
theorem dX11_modulusOf_118 : decode cX11_modulusOf 118 = .ok (.iload 4, 2) := by decide +kernel
theorem dX11_modulusOf_120 : decode cX11_modulusOf 120 = .ok (.goto 13, 3) := by decide +kernel
theorem dX11_modulusOf_123 : decode cX11_modulusOf 123 = .ok (.iload 5, 2) := by decide +kernel
theorem dX11_modulusOf_125 : decode cX11_modulusOf 125 = .ok (.ifCond .eq 7, 3) := by decide +kernel
theorem dX11_modulusOf_128 : decode cX11_modulusOf 128 = .ok (.iconst 1, 1) := by decide +kernel
theorem dX11_modulusOf_129 : decode cX11_modulusOf 129 = .ok (.goto 4, 3) := by decide +kernel
theorem dX11_modulusOf_132 : decode cX11_modulusOf 132 = .ok (.iconst 0, 1) := by decide +kernel
theorem dX11_modulusOf_133 : decode cX11_modulusOf 133 = .ok (.ireturn, 1) := by decide +kernel
theorem dX11_step_0 : decode cX11_step 0 = .ok (.aload_n 0, 1) := by decide +kernel
theorem dX11_step_1 : decode cX11_step 1 = .ok (.dup, 1) := by decide +kernel
theorem dX11_step_2 : decode cX11_step 2 = .ok (.getfield 63, 3) := by decide +kernel
theorem dX11_step_5 : decode cX11_step 5 = .ok (.iconst 1, 1) := by decide +kernel
theorem dX11_step_6 : decode cX11_step 6 = .ok (.iadd, 1) := by decide +kernel
theorem dX11_step_7 : decode cX11_step 7 = .ok (.putfield 63, 3) := by decide +kernel
theorem dX11_step_10 : decode cX11_step 10 = .ok (.aload_n 0, 1) := by decide +kernel
theorem dX11_step_11 : decode cX11_step 11 = .ok (.invokevirtual 66, 3) := by decide +kernel
theorem dX11_step_14 : decode cX11_step 14 = .ok (.istore_n 3, 1) := by decide +kernel
theorem dX11_step_15 : decode cX11_step 15 = .ok (.aload_n 0, 1) := by decide +kernel
theorem dX11_step_16 : decode cX11_step 16 = .ok (.invokevirtual 70, 3) := by decide +kernel
theorem dX11_step_19 : decode cX11_step 19 = .ok (.ifCond .eq 16, 3) := by decide +kernel
theorem dX11_step_22 : decode cX11_step 22 = .ok (.aload_n 0, 1) := by decide +kernel
theorem dX11_step_23 : decode cX11_step 23 = .ok (.dup, 1) := by decide +kernel
theorem dX11_step_24 : decode cX11_step 24 = .ok (.getfield 74, 3) := by decide +kernel
theorem dX11_step_27 : decode cX11_step 27 = .ok (.iconst 1, 1) := by decide +kernel
theorem dX11_step_28 : decode cX11_step 28 = .ok (.iadd, 1) := by decide +kernel
theorem dX11_step_29 : decode cX11_step 29 = .ok (.putfield 74, 3) := by decide +kernel
theorem dX11_step_32 : decode cX11_step 32 = .ok (.goto 62, 3) := by decide +kernel
theorem dX11_step_35 : decode cX11_step 35 = .ok (.aload_n 0, 1) := by decide +kernel
theorem dX11_step_36 : decode cX11_step 36 = .ok (.getfield 77, 3) := by decide +kernel
theorem dX11_step_39 : decode cX11_step 39 = .ok (.iconst 4, 1) := by decide +kernel
theorem dX11_step_40 : decode cX11_step 40 = .ok (.baload, 1) := by decide +kernel
theorem dX11_step_41 : decode cX11_step 41 = .ok (.istore 4, 2) := by decide +kernel
theorem dX11_step_43 : decode cX11_step 43 = .ok (.aload_n 0, 1) := by decide +kernel
theorem dX11_step_44 : decode cX11_step 44 = .ok (.invokevirtual 80, 3) := by decide +kernel
theorem dX11_step_47 : decode cX11_step 47 = .ok (.astore 5, 2) := by decide +kernel
theorem dX11_step_49 : decode cX11_step 49 = .ok (.iload 4, 2) := by decide +kernel
theorem dX11_step_51 : decode cX11_step 51 = .ok (.ifCond .eq 12, 3) := by decide +kernel
theorem dX11_step_54 : decode cX11_step 54 = .ok (.aload_n 2, 1) := by decide +kernel
theorem dX11_step_55 : decode cX11_step 55 = .ok (.aload 5, 2) := by decide +kernel
theorem dX11_step_57 : decode cX11_step 57 = .ok (.invokeinterface 84 2, 5) := by decide +kernel
theorem dX11_step_62 : decode cX11_step 62 = .ok (.pop, 1) := by decide +kernel
theorem dX11_step_63 : decode cX11_step 63 = .ok (.aload_n 1, 1) := by decide +kernel
theorem dX11_step_64 : decode cX11_step 64 = .ok (.invokeinterface 90 1, 5) := by decide +kernel
theorem dX11_step_69 : decode cX11_step 69 = .ok (.ifCond .ne 25, 3) := by decide +kernel
theorem dX11_step_72 : decode cX11_step 72 = .ok (.aload_n 0, 1) := by decide +kernel
theorem dX11_step_73 : decode cX11_step 73 = .ok (.aload_n 1, 1) := by decide +kernel
theorem dX11_step_74 : decode cX11_step 74 = .ok (.iconst 0, 1) := by decide +kernel
theorem dX11_step_75 : decode cX11_step 75 = .ok (.invokeinterface 93 2, 5) := by decide +kernel
theorem dX11_step_80 : decode cX11_step 80 = .ok (.checkcast 97, 3) := by decide +kernel
theorem dX11_step_83 : decode cX11_step 83 = .ok (.invokevirtual 99, 3) := by decide +kernel
theorem dX11_step_86 : decode cX11_step 86 = .ok (.aload_n 1, 1) := by decide +kernel
theorem dX11_step_87 : decode cX11_step 87 = .ok (.iconst 0, 1) := by decide +kernel
theorem dX11_step_88 : decode cX11_step 88 = .ok (.invokeinterface 103 2, 5) := by decide +kernel
theorem dX11_step_93 : decode cX11_step 93 = .ok (.pop, 1) := by decide +kernel
theorem dX11_step_94 : decode cX11_step 94 = .ok (.aload_n 0, 1) := by decide +kernel
theorem dX11_step_95 : decode cX11_step 95 = .ok (.iload_n 3, 1) := by decide +kernel
theorem dX11_step_96 : decode cX11_step 96 = .ok (.invokevirtual 106, 3) := by decide +kernel
theorem dX11_step_99 : decode cX11_step 99 = .ok (.return_, 1) := by decide +kernel
theorem dX11_isBlock_0 : decode cX11_isBlock 0 = .ok (.iload_n 1, 1) := by decide +kernel
theorem dX11_isBlock_1 : decode cX11_isBlock 1 = .ok (.iconst 0, 1) := by decide +kernel
theorem dX11_isBlock_2 : decode cX11_isBlock 2 = .ok (.aload_n 0, 1) := by decide +kernel
theorem dX11_isBlock_3 : decode cX11_isBlock 3 = .ok (.getfield 110, 3) := by decide +kernel
theorem dX11_isBlock_6 : decode cX11_isBlock 6 = .ok (.iconst 1, 1) := by decide +kernel
theorem dX11_isBlock_7 : decode cX11_isBlock 7 = .ok (.isub, 1) := by decide +kernel
theorem dX11_isBlock_8 : decode cX11_isBlock 8 = .ok (.invokestatic 59, 3) := by decide +kernel
theorem dX11_isBlock_11 : decode cX11_isBlock 11 = .ok (.ireturn, 1) := by decide +kernel
theorem dX11_isLot_0 : decode cX11_isLot 0 = .ok (.iload_n 1, 1) := by decide +kernel
theorem dX11_isLot_1 : decode cX11_isLot 1 = .ok (.iconst 0, 1) := by decide +kernel
theorem dX11_isLot_2 : decode cX11_isLot 2 = .ok (.aload_n 0, 1) := by decide +kernel
theorem dX11_isLot_3 : decode cX11_isLot 3 = .ok (.getfield 24, 3) := by decide +kernel
theorem dX11_isLot_6 : decode cX11_isLot 6 = .ok (.invokeinterface 113 1, 5) := by decide +kernel
theorem dX11_isLot_11 : decode cX11_isLot 11 = .ok (.iconst 1, 1) := by decide +kernel
theorem dX11_isLot_12 : decode cX11_isLot 12 = .ok (.isub, 1) := by decide +kernel
theorem dX11_isLot_13 : decode cX11_isLot 13 = .ok (.invokestatic 59, 3) := by decide +kernel
theorem dX11_isLot_16 : decode cX11_isLot 16 = .ok (.ireturn, 1) := by decide +kernel
theorem dX11_pile_0 : decode cX11_pile 0 = .ok (.iconst 0, 1) := by decide +kernel
theorem dX11_pile_1 : decode cX11_pile 1 = .ok (.istore_n 1, 1) := by decide +kernel
theorem dX11_pile_2 : decode cX11_pile 2 = .ok (.iconst 0, 1) := by decide +kernel
theorem dX11_pile_3 : decode cX11_pile 3 = .ok (.istore_n 2, 1) := by decide +kernel
theorem dX11_pile_4 : decode cX11_pile 4 = .ok (.iload_n 2, 1) := by decide +kernel
theorem dX11_pile_5 : decode cX11_pile 5 = .ok (.aload_n 0, 1) := by decide +kernel
theorem dX11_pile_6 : decode cX11_pile 6 = .ok (.getfield 116, 3) := by decide +kernel
theorem dX11_pile_9 : decode cX11_pile 9 = .ok (.if_icmp .ge 20, 3) := by decide +kernel
theorem dX11_pile_12 : decode cX11_pile 12 = .ok (.iload_n 1, 1) := by decide +kernel
theorem dX11_pile_13 : decode cX11_pile 13 = .ok (.aload_n 0, 1) := by decide +kernel
theorem dX11_pile_14 : decode cX11_pile 14 = .ok (.getfield 14, 3) := by decide +kernel
theorem dX11_pile_17 : decode cX11_pile 17 = .ok (.iload_n 2, 1) := by decide +kernel
theorem dX11_pile_18 : decode cX11_pile 18 = .ok (.aaload, 1) := by decide +kernel
theorem dX11_pile_19 : decode cX11_pile 19 = .ok (.iconst 1, 1) := by decide +kernel
theorem dX11_pile_20 : decode cX11_pile 20 = .ok (.iaload, 1) := by decide +kernel
theorem dX11_pile_21 : decode cX11_pile 21 = .ok (.iadd, 1) := by decide +kernel
theorem dX11_pile_22 : decode cX11_pile 22 = .ok (.istore_n 1, 1) := by decide +kernel
theorem dX11_pile_23 : decode cX11_pile 23 = .ok (.iinc 2 1, 3) := by decide +kernel
theorem dX11_pile_26 : decode cX11_pile 26 = .ok (.goto (-22), 3) := by decide +kernel
theorem dX11_pile_29 : decode cX11_pile 29 = .ok (.iload_n 1, 1) := by decide +kernel
theorem dX11_pile_30 : decode cX11_pile 30 = .ok (.ireturn, 1) := by decide +kernel
theorem dX11_block_0 : decode cX11_block 0 = .ok (.aload_n 0, 1) := by decide +kernel
theorem dX11_block_1 : decode cX11_block 1 = .ok (.iconst 0, 1) := by decide +kernel
theorem dX11_block_2 : decode cX11_block 2 = .ok (.putfield 52, 3) := by decide +kernel
theorem dX11_block_5 : decode cX11_block 5 = .ok (.iload_n 1, 1) := by decide +kernel
theorem dX11_block_6 : decode cX11_block 6 = .ok (.iconst 0, 1) := by decide +kernel
theorem dX11_block_7 : decode cX11_block 7 = .ok (.sipush 200, 3) := by decide +kernel
theorem dX11_block_10 : decode cX11_block 10 = .ok (.invokestatic 59, 3) := by decide +kernel
theorem dX11_block_13 : decode cX11_block 13 = .ok (.ifCond .eq 45, 3) := by decide +kernel
theorem dX11_block_16 : decode cX11_block 16 = .ok (.iload_n 2, 1) := by decide +kernel
theorem dX11_block_17 : decode cX11_block 17 = .ok (.iconst 0, 1) := by decide +kernel
theorem dX11_block_18 : decode cX11_block 18 = .ok (.bipush 9, 2) := by decide +kernel
theorem dX11_block_20 : decode cX11_block 20 = .ok (.invokestatic 59, 3) := by decide +kernel
theorem dX11_block_23 : decode cX11_block 23 = .ok (.ifCond .eq 35, 3) := by decide +kernel
theorem dX11_block_26 : decode cX11_block 26 = .ok (.iload_n 3, 1) := by decide +kernel
theorem dX11_block_27 : decode cX11_block 27 = .ok (.iconst 0, 1) := by decide +kernel
theorem dX11_block_28 : decode cX11_block 28 = .ok (.bipush 9, 2) := by decide +kernel
theorem dX11_block_30 : decode cX11_block 30 = .ok (.invokestatic 59, 3) := by decide +kernel
theorem dX11_block_33 : decode cX11_block 33 = .ok (.ifCond .eq 25, 3) := by decide +kernel
theorem dX11_block_36 : decode cX11_block 36 = .ok (.iload 4, 2) := by decide +kernel
theorem dX11_block_38 : decode cX11_block 38 = .ok (.iconst 0, 1) := by decide +kernel
theorem dX11_block_39 : decode cX11_block 39 = .ok (.bipush 9, 2) := by decide +kernel
theorem dX11_block_41 : decode cX11_block 41 = .ok (.invokestatic 59, 3) := by decide +kernel
theorem dX11_block_44 : decode cX11_block 44 = .ok (.ifCond .eq 14, 3) := by decide +kernel
theorem dX11_block_47 : decode cX11_block 47 = .ok (.iload 5, 2) := by decide +kernel
theorem dX11_block_49 : decode cX11_block 49 = .ok (.iconst 0, 1) := by decide +kernel
theorem dX11_block_50 : decode cX11_block 50 = .ok (.bipush 9, 2) := by decide +kernel
theorem dX11_block_52 : decode cX11_block 52 = .ok (.invokestatic 59, 3) := by decide +kernel
theorem dX11_block_55 : decode cX11_block 55 = .ok (.ifCond .ne 9, 3) := by decide +kernel
theorem dX11_block_58 : decode cX11_block 58 = .ok (.aload_n 0, 1) := by decide +kernel
theorem dX11_block_59 : decode cX11_block 59 = .ok (.iconst 1, 1) := by decide +kernel
theorem dX11_block_60 : decode cX11_block 60 = .ok (.invokevirtual 119, 3) := by decide +kernel
theorem dX11_block_63 : decode cX11_block 63 = .ok (.ireturn, 1) := by decide +kernel
theorem dX11_block_64 : decode cX11_block 64 = .ok (.aload_n 0, 1) := by decide +kernel
theorem dX11_block_65 : decode cX11_block 65 = .ok (.getfield 110, 3) := by decide +kernel
theorem dX11_block_68 : decode cX11_block 68 = .ok (.bipush 6, 2) := by decide +kernel
theorem dX11_block_70 : decode cX11_block 70 = .ok (.if_icmp .ne 9, 3) := by decide +kernel
theorem dX11_block_73 : decode cX11_block 73 = .ok (.aload_n 0, 1) := by decide +kernel
theorem dX11_block_74 : decode cX11_block 74 = .ok (.iconst 2, 1) := by decide +kernel
theorem dX11_block_75 : decode cX11_block 75 = .ok (.invokevirtual 119, 3) := by decide +kernel
theorem dX11_block_78 : decode cX11_block 78 = .ok (.ireturn, 1) := by decide +kernel
theorem dX11_block_79 : decode cX11_block 79 = .ok (.bipush 6, 2) := by decide +kernel
theorem dX11_block_81 : decode cX11_block 81 = .ok (.newarray .int, 2) := by decide +kernel
theorem dX11_block_83 : decode cX11_block 83 = .ok (.dup, 1) := by decide +kernel
theorem dX11_block_84 : decode cX11_block 84 = .ok (.iconst 0, 1) := by decide +kernel
theorem dX11_block_85 : decode cX11_block 85 = .ok (.iload_n 1, 1) := by decide +kernel
theorem dX11_block_86 : decode cX11_block 86 = .ok (.iastore, 1) := by decide +kernel
theorem dX11_block_87 : decode cX11_block 87 = .ok (.dup, 1) := by decide +kernel
theorem dX11_block_88 : decode cX11_block 88 = .ok (.iconst 1, 1) := by decide +kernel
theorem dX11_block_89 : decode cX11_block 89 = .ok (.iconst 0, 1) := by decide +kernel
theorem dX11_block_90 : decode cX11_block 90 = .ok (.iastore, 1) := by decide +kernel
theorem dX11_block_91 : decode cX11_block 91 = .ok (.dup, 1) := by decide +kernel
theorem dX11_block_92 : decode cX11_block 92 = .ok (.iconst 2, 1) := by decide +kernel
theorem dX11_block_93 : decode cX11_block 93 = .ok (.iload_n 2, 1) := by decide +kernel
theorem dX11_block_94 : decode cX11_block 94 = .ok (.iastore, 1) := by decide +kernel
theorem dX11_block_95 : decode cX11_block 95 = .ok (.dup, 1) := by decide +kernel
theorem dX11_block_96 : decode cX11_block 96 = .ok (.iconst 3, 1) := by decide +kernel
theorem dX11_block_97 : decode cX11_block 97 = .ok (.iload_n 3, 1) := by decide +kernel
theorem dX11_block_98 : decode cX11_block 98 = .ok (.iastore, 1) := by decide +kernel
theorem dX11_block_99 : decode cX11_block 99 = .ok (.dup, 1) := by decide +kernel
theorem dX11_block_100 : decode cX11_block 100 = .ok (.iconst 4, 1) := by decide +kernel
theorem dX11_block_101 : decode cX11_block 101 = .ok (.iload 4, 2) := by decide +kernel
theorem dX11_block_103 : decode cX11_block 103 = .ok (.iastore, 1) := by decide +kernel
theorem dX11_block_104 : decode cX11_block 104 = .ok (.dup, 1) := by decide +kernel
theorem dX11_block_105 : decode cX11_block 105 = .ok (.iconst 5, 1) := by decide +kernel
theorem dX11_block_106 : decode cX11_block 106 = .ok (.iload 5, 2) := by decide +kernel
theorem dX11_block_108 : decode cX11_block 108 = .ok (.iastore, 1) := by decide +kernel
theorem dX11_block_109 : decode cX11_block 109 = .ok (.astore 6, 2) := by decide +kernel
theorem dX11_block_111 : decode cX11_block 111 = .ok (.aload 6, 2) := by decide +kernel
theorem dX11_block_113 : decode cX11_block 113 = .ok (.iconst 0, 1) := by decide +kernel
theorem dX11_block_114 : decode cX11_block 114 = .ok (.aload_n 0, 1) := by decide +kernel
theorem dX11_block_115 : decode cX11_block 115 = .ok (.getfield 9, 3) := by decide +kernel
theorem dX11_block_118 : decode cX11_block 118 = .ok (.aload_n 0, 1) := by decide +kernel
theorem dX11_block_119 : decode cX11_block 119 = .ok (.getfield 110, 3) := by decide +kernel
theorem dX11_block_122 : decode cX11_block 122 = .ok (.aaload, 1) := by decide +kernel
theorem dX11_block_123 : decode cX11_block 123 = .ok (.iconst 0, 1) := by decide +kernel
theorem dX11_block_124 : decode cX11_block 124 = .ok (.bipush 6, 2) := by decide +kernel
theorem dX11_block_126 : decode cX11_block 126 = .ok (.invokestatic 123, 3) := by decide +kernel
theorem dX11_block_129 : decode cX11_block 129 = .ok (.aload_n 0, 1) := by decide +kernel
theorem dX11_block_130 : decode cX11_block 130 = .ok (.dup, 1) := by decide +kernel
theorem dX11_block_131 : decode cX11_block 131 = .ok (.getfield 110, 3) := by decide +kernel
theorem dX11_block_134 : decode cX11_block 134 = .ok (.dup_x1, 1) := by decide +kernel
theorem dX11_block_135 : decode cX11_block 135 = .ok (.iconst 1, 1) := by decide +kernel
theorem dX11_block_136 : decode cX11_block 136 = .ok (.iadd, 1) := by decide +kernel
theorem dX11_block_137 : decode cX11_block 137 = .ok (.putfield 110, 3) := by decide +kernel
theorem dX11_block_140 : decode cX11_block 140 = .ok (.ireturn, 1) := by decide +kernel
theorem dX11_drill_0 : decode cX11_drill 0 = .ok (.aload_n 0, 1) := by decide +kernel
theorem dX11_drill_1 : decode cX11_drill 1 = .ok (.iconst 0, 1) := by decide +kernel
theorem dX11_drill_2 : decode cX11_drill 2 = .ok (.putfield 52, 3) := by decide +kernel
theorem dX11_drill_5 : decode cX11_drill 5 = .ok (.aload_n 0, 1) := by decide +kernel
theorem dX11_drill_6 : decode cX11_drill 6 = .ok (.iload_n 1, 1) := by decide +kernel
theorem dX11_drill_7 : decode cX11_drill 7 = .ok (.invokevirtual 129, 3) := by decide +kernel
theorem dX11_drill_10 : decode cX11_drill 10 = .ok (.ifCond .ne 17, 3) := by decide +kernel
theorem dX11_drill_13 : decode cX11_drill 13 = .ok (.aload_n 0, 1) := by decide +kernel
theorem dX11_drill_14 : decode cX11_drill 14 = .ok (.iconst 1, 1) := by decide +kernel
theorem dX11_drill_15 : decode cX11_drill 15 = .ok (.invokevirtual 119, 3) := by decide +kernel
theorem dX11_drill_18 : decode cX11_drill 18 = .ok (.ifCond .le 7, 3) := by decide +kernel
theorem dX11_drill_21 : decode cX11_drill 21 = .ok (.iconst 1, 1) := by decide +kernel
theorem dX11_drill_22 : decode cX11_drill 22 = .ok (.goto 4, 3) := by decide +kernel
theorem dX11_drill_25 : decode cX11_drill 25 = .ok (.iconst 0, 1) := by decide +kernel
theorem dX11_drill_26 : decode cX11_drill 26 = .ok (.ireturn, 1) := by decide +kernel
theorem dX11_drill_27 : decode cX11_drill 27 = .ok (.aload_n 0, 1) := by decide +kernel
theorem dX11_drill_28 : decode cX11_drill 28 = .ok (.getfield 9, 3) := by decide +kernel
theorem dX11_drill_31 : decode cX11_drill 31 = .ok (.iload_n 1, 1) := by decide +kernel
theorem dX11_drill_32 : decode cX11_drill 32 = .ok (.aaload, 1) := by decide +kernel
theorem dX11_drill_33 : decode cX11_drill 33 = .ok (.iconst 1, 1) := by decide +kernel
theorem dX11_drill_34 : decode cX11_drill 34 = .ok (.iaload, 1) := by decide +kernel
theorem dX11_drill_35 : decode cX11_drill 35 = .ok (.ifCond .ne 7, 3) := by decide +kernel
theorem dX11_drill_38 : decode cX11_drill 38 = .ok (.iconst 1, 1) := by decide +kernel
theorem dX11_drill_39 : decode cX11_drill 39 = .ok (.goto 4, 3) := by decide +kernel
theorem dX11_drill_42 : decode cX11_drill 42 = .ok (.iconst 0, 1) := by decide +kernel
theorem dX11_drill_43 : decode cX11_drill 43 = .ok (.istore_n 2, 1) := by decide +kernel
theorem dX11_drill_44 : decode cX11_drill 44 = .ok (.aload_n 0, 1) := by decide +kernel
theorem dX11_drill_45 : decode cX11_drill 45 = .ok (.getfield 9, 3) := by decide +kernel
theorem dX11_drill_48 : decode cX11_drill 48 = .ok (.iload_n 1, 1) := by decide +kernel
theorem dX11_drill_49 : decode cX11_drill 49 = .ok (.aaload, 1) := by decide +kernel
theorem dX11_drill_50 : decode cX11_drill 50 = .ok (.iconst 1, 1) := by decide +kernel
theorem dX11_drill_51 : decode cX11_drill 51 = .ok (.iconst 1, 1) := by decide +kernel
theorem dX11_drill_52 : decode cX11_drill 52 = .ok (.iastore, 1) := by decide +kernel
theorem dX11_drill_53 : decode cX11_drill 53 = .ok (.iload_n 2, 1) := by decide +kernel
theorem dX11_drill_54 : decode cX11_drill 54 = .ok (.ireturn, 1) := by decide +kernel
theorem dX11_blast_0 : decode cX11_blast 0 = .ok (.aload_n 0, 1) := by decide +kernel
theorem dX11_blast_1 : decode cX11_blast 1 = .ok (.iconst 0, 1) := by decide +kernel
theorem dX11_blast_2 : decode cX11_blast 2 = .ok (.putfield 52, 3) := by decide +kernel
theorem dX11_blast_5 : decode cX11_blast 5 = .ok (.aload_n 0, 1) := by decide +kernel
theorem dX11_blast_6 : decode cX11_blast 6 = .ok (.iload_n 1, 1) := by decide +kernel
theorem dX11_blast_7 : decode cX11_blast 7 = .ok (.invokevirtual 129, 3) := by decide +kernel
theorem dX11_blast_10 : decode cX11_blast 10 = .ok (.ifCond .ne 9, 3) := by decide +kernel
theorem dX11_blast_13 : decode cX11_blast 13 = .ok (.aload_n 0, 1) := by decide +kernel
theorem dX11_blast_14 : decode cX11_blast 14 = .ok (.iconst 1, 1) := by decide +kernel
theorem dX11_blast_15 : decode cX11_blast 15 = .ok (.invokevirtual 119, 3) := by decide +kernel
theorem dX11_blast_18 : decode cX11_blast 18 = .ok (.ireturn, 1) := by decide +kernel
theorem dX11_blast_19 : decode cX11_blast 19 = .ok (.iload_n 2, 1) := by decide +kernel
theorem dX11_blast_20 : decode cX11_blast 20 = .ok (.iconst 1, 1) := by decide +kernel
theorem dX11_blast_21 : decode cX11_blast 21 = .ok (.bipush 99, 2) := by decide +kernel
theorem dX11_blast_23 : decode cX11_blast 23 = .ok (.invokestatic 59, 3) := by decide +kernel
theorem dX11_blast_26 : decode cX11_blast 26 = .ok (.ifCond .ne 9, 3) := by decide +kernel
theorem dX11_blast_29 : decode cX11_blast 29 = .ok (.aload_n 0, 1) := by decide +kernel
theorem dX11_blast_30 : decode cX11_blast 30 = .ok (.iconst 2, 1) := by decide +kernel
theorem dX11_blast_31 : decode cX11_blast 31 = .ok (.invokevirtual 119, 3) := by decide +kernel
theorem dX11_blast_34 : decode cX11_blast 34 = .ok (.ireturn, 1) := by decide +kernel
theorem dX11_blast_35 : decode cX11_blast 35 = .ok (.aload_n 0, 1) := by decide +kernel
theorem dX11_blast_36 : decode cX11_blast 36 = .ok (.getfield 9, 3) := by decide +kernel
theorem dX11_blast_39 : decode cX11_blast 39 = .ok (.iload_n 1, 1) := by decide +kernel
theorem dX11_blast_40 : decode cX11_blast 40 = .ok (.aaload, 1) := by decide +kernel
theorem dX11_blast_41 : decode cX11_blast 41 = .ok (.astore_n 3, 1) := by decide +kernel
theorem dX11_blast_42 : decode cX11_blast 42 = .ok (.aload_n 3, 1) := by decide +kernel
theorem dX11_blast_43 : decode cX11_blast 43 = .ok (.iconst 0, 1) := by decide +kernel
theorem dX11_blast_44 : decode cX11_blast 44 = .ok (.iaload, 1) := by decide +kernel
theorem dX11_blast_45 : decode cX11_blast 45 = .ok (.ifCond .eq 12, 3) := by decide +kernel
theorem dX11_blast_48 : decode cX11_blast 48 = .ok (.aload_n 0, 1) := by decide +kernel
theorem dX11_blast_49 : decode cX11_blast 49 = .ok (.getfield 116, 3) := by decide +kernel
theorem dX11_blast_52 : decode cX11_blast 52 = .ok (.bipush 8, 2) := by decide +kernel
theorem dX11_blast_54 : decode cX11_blast 54 = .ok (.if_icmp .ne 9, 3) := by decide +kernel
theorem dX11_blast_57 : decode cX11_blast 57 = .ok (.aload_n 0, 1) := by decide +kernel
theorem dX11_blast_58 : decode cX11_blast 58 = .ok (.iconst 3, 1) := by decide +kernel
theorem dX11_blast_59 : decode cX11_blast 59 = .ok (.invokevirtual 119, 3) := by decide +kernel
theorem dX11_blast_62 : decode cX11_blast 62 = .ok (.ireturn, 1) := by decide +kernel
theorem dX11_blast_63 : decode cX11_blast 63 = .ok (.iload_n 2, 1) := by decide +kernel
theorem dX11_blast_64 : decode cX11_blast 64 = .ok (.aload_n 3, 1) := by decide +kernel
theorem dX11_blast_65 : decode cX11_blast 65 = .ok (.iconst 0, 1) := by decide +kernel
theorem dX11_blast_66 : decode cX11_blast 66 = .ok (.iaload, 1) := by decide +kernel
theorem dX11_blast_67 : decode cX11_blast 67 = .ok (.invokestatic 133, 3) := by decide +kernel
theorem dX11_blast_70 : decode cX11_blast 70 = .ok (.istore 4, 2) := by decide +kernel
theorem dX11_blast_72 : decode cX11_blast 72 = .ok (.aload_n 3, 1) := by decide +kernel
theorem dX11_blast_73 : decode cX11_blast 73 = .ok (.iconst 0, 1) := by decide +kernel
theorem dX11_blast_74 : decode cX11_blast 74 = .ok (.dup2, 1) := by decide +kernel
theorem dX11_blast_75 : decode cX11_blast 75 = .ok (.iaload, 1) := by decide +kernel
theorem dX11_blast_76 : decode cX11_blast 76 = .ok (.iload 4, 2) := by decide +kernel
theorem dX11_blast_78 : decode cX11_blast 78 = .ok (.isub, 1) := by decide +kernel
theorem dX11_blast_79 : decode cX11_blast 79 = .ok (.iastore, 1) := by decide +kernel
theorem dX11_blast_80 : decode cX11_blast 80 = .ok (.aload_n 3, 1) := by decide +kernel
theorem dX11_blast_81 : decode cX11_blast 81 = .ok (.iconst 1, 1) := by decide +kernel
theorem dX11_blast_82 : decode cX11_blast 82 = .ok (.iconst 1, 1) := by decide +kernel
theorem dX11_blast_83 : decode cX11_blast 83 = .ok (.iastore, 1) := by decide +kernel
theorem dX11_blast_84 : decode cX11_blast 84 = .ok (.aload_n 0, 1) := by decide +kernel
theorem dX11_blast_85 : decode cX11_blast 85 = .ok (.getfield 14, 3) := by decide +kernel
theorem dX11_blast_88 : decode cX11_blast 88 = .ok (.aload_n 0, 1) := by decide +kernel
theorem dX11_blast_89 : decode cX11_blast 89 = .ok (.getfield 116, 3) := by decide +kernel
theorem dX11_blast_92 : decode cX11_blast 92 = .ok (.aaload, 1) := by decide +kernel
theorem dX11_blast_93 : decode cX11_blast 93 = .ok (.iconst 0, 1) := by decide +kernel
theorem dX11_blast_94 : decode cX11_blast 94 = .ok (.iload_n 1, 1) := by decide +kernel
theorem dX11_blast_95 : decode cX11_blast 95 = .ok (.iastore, 1) := by decide +kernel
theorem dX11_blast_96 : decode cX11_blast 96 = .ok (.aload_n 0, 1) := by decide +kernel
theorem dX11_blast_97 : decode cX11_blast 97 = .ok (.getfield 14, 3) := by decide +kernel
theorem dX11_blast_100 : decode cX11_blast 100 = .ok (.aload_n 0, 1) := by decide +kernel
theorem dX11_blast_101 : decode cX11_blast 101 = .ok (.dup, 1) := by decide +kernel
theorem dX11_blast_102 : decode cX11_blast 102 = .ok (.getfield 116, 3) := by decide +kernel
theorem dX11_blast_105 : decode cX11_blast 105 = .ok (.dup_x1, 1) := by decide +kernel
theorem dX11_blast_106 : decode cX11_blast 106 = .ok (.iconst 1, 1) := by decide +kernel
theorem dX11_blast_107 : decode cX11_blast 107 = .ok (.iadd, 1) := by decide +kernel
theorem dX11_blast_108 : decode cX11_blast 108 = .ok (.putfield 116, 3) := by decide +kernel
theorem dX11_blast_111 : decode cX11_blast 111 = .ok (.aaload, 1) := by decide +kernel
theorem dX11_blast_112 : decode cX11_blast 112 = .ok (.iconst 1, 1) := by decide +kernel
theorem dX11_blast_113 : decode cX11_blast 113 = .ok (.iload 4, 2) := by decide +kernel
theorem dX11_blast_115 : decode cX11_blast 115 = .ok (.iastore, 1) := by decide +kernel
theorem dX11_blast_116 : decode cX11_blast 116 = .ok (.iload 4, 2) := by decide +kernel
theorem dX11_blast_118 : decode cX11_blast 118 = .ok (.ireturn, 1) := by decide +kernel
theorem dX11_cutOf_0 : decode cX11_cutOf 0 = .ok (.bipush 8, 2) := by decide +kernel
theorem dX11_cutOf_2 : decode cX11_cutOf 2 = .ok (.newarray .int, 2) := by decide +kernel
theorem dX11_cutOf_4 : decode cX11_cutOf 4 = .ok (.astore_n 2, 1) := by decide +kernel
theorem dX11_cutOf_5 : decode cX11_cutOf 5 = .ok (.aload_n 0, 1) := by decide +kernel
theorem dX11_cutOf_6 : decode cX11_cutOf 6 = .ok (.invokevirtual 138, 3) := by decide +kernel
theorem dX11_cutOf_9 : decode cX11_cutOf 9 = .ok (.istore_n 3, 1) := by decide +kernel
theorem dX11_cutOf_10 : decode cX11_cutOf 10 = .ok (.iload_n 1, 1) := by decide +kernel
theorem dX11_cutOf_11 : decode cX11_cutOf 11 = .ok (.istore 4, 2) := by decide +kernel
theorem dX11_cutOf_13 : decode cX11_cutOf 13 = .ok (.iconst 0, 1) := by decide +kernel
theorem dX11_cutOf_14 : decode cX11_cutOf 14 = .ok (.istore 5, 2) := by decide +kernel
theorem dX11_cutOf_16 : decode cX11_cutOf 16 = .ok (.iload 5, 2) := by decide +kernel
theorem dX11_cutOf_18 : decode cX11_cutOf 18 = .ok (.aload_n 0, 1) := by decide +kernel
theorem dX11_cutOf_19 : decode cX11_cutOf 19 = .ok (.getfield 116, 3) := by decide +kernel
theorem dX11_cutOf_22 : decode cX11_cutOf 22 = .ok (.if_icmp .ge 35, 3) := by decide +kernel
theorem dX11_cutOf_25 : decode cX11_cutOf 25 = .ok (.aload_n 2, 1) := by decide +kernel
theorem dX11_cutOf_26 : decode cX11_cutOf 26 = .ok (.iload 5, 2) := by decide +kernel
theorem dX11_cutOf_28 : decode cX11_cutOf 28 = .ok (.aload_n 0, 1) := by decide +kernel
theorem dX11_cutOf_29 : decode cX11_cutOf 29 = .ok (.getfield 14, 3) := by decide +kernel
theorem dX11_cutOf_32 : decode cX11_cutOf 32 = .ok (.iload 5, 2) := by decide +kernel
theorem dX11_cutOf_34 : decode cX11_cutOf 34 = .ok (.aaload, 1) := by decide +kernel
theorem dX11_cutOf_35 : decode cX11_cutOf 35 = .ok (.iconst 1, 1) := by decide +kernel
theorem dX11_cutOf_36 : decode cX11_cutOf 36 = .ok (.iaload, 1) := by decide +kernel
theorem dX11_cutOf_37 : decode cX11_cutOf 37 = .ok (.iload_n 1, 1) := by decide +kernel
theorem dX11_cutOf_38 : decode cX11_cutOf 38 = .ok (.imul, 1) := by decide +kernel
theorem dX11_cutOf_39 : decode cX11_cutOf 39 = .ok (.iload_n 3, 1) := by decide +kernel
theorem dX11_cutOf_40 : decode cX11_cutOf 40 = .ok (.idiv, 1) := by decide +kernel
theorem dX11_cutOf_41 : decode cX11_cutOf 41 = .ok (.iastore, 1) := by decide +kernel
theorem dX11_cutOf_42 : decode cX11_cutOf 42 = .ok (.iload 4, 2) := by decide +kernel
theorem dX11_cutOf_44 : decode cX11_cutOf 44 = .ok (.aload_n 2, 1) := by decide +kernel
theorem dX11_cutOf_45 : decode cX11_cutOf 45 = .ok (.iload 5, 2) := by decide +kernel
theorem dX11_cutOf_47 : decode cX11_cutOf 47 = .ok (.iaload, 1) := by decide +kernel
theorem dX11_cutOf_48 : decode cX11_cutOf 48 = .ok (.isub, 1) := by decide +kernel
theorem dX11_cutOf_49 : decode cX11_cutOf 49 = .ok (.istore 4, 2) := by decide +kernel
theorem dX11_cutOf_51 : decode cX11_cutOf 51 = .ok (.iinc 5 1, 3) := by decide +kernel
theorem dX11_cutOf_54 : decode cX11_cutOf 54 = .ok (.goto (-38), 3) := by decide +kernel
theorem dX11_cutOf_57 : decode cX11_cutOf 57 = .ok (.iconst 0, 1) := by decide +kernel
theorem dX11_cutOf_58 : decode cX11_cutOf 58 = .ok (.istore 5, 2) := by decide +kernel
theorem dX11_cutOf_60 : decode cX11_cutOf 60 = .ok (.iload 4, 2) := by decide +kernel
theorem dX11_cutOf_62 : decode cX11_cutOf 62 = .ok (.ifCond .le 47, 3) := by decide +kernel
theorem dX11_cutOf_65 : decode cX11_cutOf 65 = .ok (.aload_n 2, 1) := by decide +kernel
theorem dX11_cutOf_66 : decode cX11_cutOf 66 = .ok (.iload 5, 2) := by decide +kernel
theorem dX11_cutOf_68 : decode cX11_cutOf 68 = .ok (.iaload, 1) := by decide +kernel
theorem dX11_cutOf_69 : decode cX11_cutOf 69 = .ok (.aload_n 0, 1) := by decide +kernel
theorem dX11_cutOf_70 : decode cX11_cutOf 70 = .ok (.getfield 14, 3) := by decide +kernel
theorem dX11_cutOf_73 : decode cX11_cutOf 73 = .ok (.iload 5, 2) := by decide +kernel
theorem dX11_cutOf_75 : decode cX11_cutOf 75 = .ok (.aaload, 1) := by decide +kernel
theorem dX11_cutOf_76 : decode cX11_cutOf 76 = .ok (.iconst 1, 1) := by decide +kernel
theorem dX11_cutOf_77 : decode cX11_cutOf 77 = .ok (.iaload, 1) := by decide +kernel
theorem dX11_cutOf_78 : decode cX11_cutOf 78 = .ok (.if_icmp .ne 6, 3) := by decide +kernel
theorem dX11_cutOf_81 : decode cX11_cutOf 81 = .ok (.goto 14, 3) := by decide +kernel
theorem dX11_cutOf_84 : decode cX11_cutOf 84 = .ok (.aload_n 2, 1) := by decide +kernel
theorem dX11_cutOf_85 : decode cX11_cutOf 85 = .ok (.iload 5, 2) := by decide +kernel
theorem dX11_cutOf_87 : decode cX11_cutOf 87 = .ok (.dup2, 1) := by decide +kernel
theorem dX11_cutOf_88 : decode cX11_cutOf 88 = .ok (.iaload, 1) := by decide +kernel
theorem dX11_cutOf_89 : decode cX11_cutOf 89 = .ok (.iconst 1, 1) := by decide +kernel
theorem dX11_cutOf_90 : decode cX11_cutOf 90 = .ok (.iadd, 1) := by decide +kernel
theorem dX11_cutOf_91 : decode cX11_cutOf 91 = .ok (.iastore, 1) := by decide +kernel
theorem dX11_cutOf_92 : decode cX11_cutOf 92 = .ok (.iinc 4 (-1), 3) := by decide +kernel
theorem dX11_cutOf_95 : decode cX11_cutOf 95 = .ok (.iload 5, 2) := by decide +kernel
theorem dX11_cutOf_97 : decode cX11_cutOf 97 = .ok (.iconst 1, 1) := by decide +kernel
theorem dX11_cutOf_98 : decode cX11_cutOf 98 = .ok (.iadd, 1) := by decide +kernel
theorem dX11_cutOf_99 : decode cX11_cutOf 99 = .ok (.aload_n 0, 1) := by decide +kernel
theorem dX11_cutOf_100 : decode cX11_cutOf 100 = .ok (.getfield 116, 3) := by decide +kernel
theorem dX11_cutOf_103 : decode cX11_cutOf 103 = .ok (.irem, 1) := by decide +kernel
theorem dX11_cutOf_104 : decode cX11_cutOf 104 = .ok (.istore 5, 2) := by decide +kernel
theorem dX11_cutOf_106 : decode cX11_cutOf 106 = .ok (.goto (-46), 3) := by decide +kernel
theorem dX11_cutOf_109 : decode cX11_cutOf 109 = .ok (.aload_n 2, 1) := by decide +kernel
theorem dX11_cutOf_110 : decode cX11_cutOf 110 = .ok (.areturn, 1) := by decide +kernel
theorem dX11_fill_0 : decode cX11_fill 0 = .ok (.iconst 0, 1) := by decide +kernel
theorem dX11_fill_1 : decode cX11_fill 1 = .ok (.istore 6, 2) := by decide +kernel
theorem dX11_fill_3 : decode cX11_fill 3 = .ok (.iload 6, 2) := by decide +kernel
theorem dX11_fill_5 : decode cX11_fill 5 = .ok (.aload_n 0, 1) := by decide +kernel
theorem dX11_fill_6 : decode cX11_fill 6 = .ok (.getfield 116, 3) := by decide +kernel
theorem dX11_fill_9 : decode cX11_fill 9 = .ok (.if_icmp .ge 55, 3) := by decide +kernel
theorem dX11_fill_12 : decode cX11_fill 12 = .ok (.iconst 0, 1) := by decide +kernel
theorem dX11_fill_13 : decode cX11_fill 13 = .ok (.istore 7, 2) := by decide +kernel
theorem dX11_fill_15 : decode cX11_fill 15 = .ok (.iload 7, 2) := by decide +kernel
theorem dX11_fill_17 : decode cX11_fill 17 = .ok (.iconst 4, 1) := by decide +kernel
theorem dX11_fill_18 : decode cX11_fill 18 = .ok (.if_icmp .ge 40, 3) := by decide +kernel
theorem dX11_fill_21 : decode cX11_fill 21 = .ok (.aload_n 1, 1) := by decide +kernel
theorem dX11_fill_22 : decode cX11_fill 22 = .ok (.iload 7, 2) := by decide +kernel
theorem dX11_fill_24 : decode cX11_fill 24 = .ok (.dup2, 1) := by decide +kernel
theorem dX11_fill_25 : decode cX11_fill 25 = .ok (.iaload, 1) := by decide +kernel
theorem dX11_fill_26 : decode cX11_fill 26 = .ok (.aload_n 2, 1) := by decide +kernel
theorem dX11_fill_27 : decode cX11_fill 27 = .ok (.iload 6, 2) := by decide +kernel
theorem dX11_fill_29 : decode cX11_fill 29 = .ok (.iaload, 1) := by decide +kernel
theorem dX11_fill_30 : decode cX11_fill 30 = .ok (.aload_n 0, 1) := by decide +kernel
theorem dX11_fill_31 : decode cX11_fill 31 = .ok (.getfield 9, 3) := by decide +kernel
theorem dX11_fill_34 : decode cX11_fill 34 = .ok (.aload_n 0, 1) := by decide +kernel
theorem dX11_fill_35 : decode cX11_fill 35 = .ok (.getfield 14, 3) := by decide +kernel
theorem dX11_fill_38 : decode cX11_fill 38 = .ok (.iload 6, 2) := by decide +kernel
theorem dX11_fill_40 : decode cX11_fill 40 = .ok (.aaload, 1) := by decide +kernel
theorem dX11_fill_41 : decode cX11_fill 41 = .ok (.iconst 0, 1) := by decide +kernel
theorem dX11_fill_42 : decode cX11_fill 42 = .ok (.iaload, 1) := by decide +kernel
theorem dX11_fill_43 : decode cX11_fill 43 = .ok (.aaload, 1) := by decide +kernel
theorem dX11_fill_44 : decode cX11_fill 44 = .ok (.iconst 2, 1) := by decide +kernel
theorem dX11_fill_45 : decode cX11_fill 45 = .ok (.iload 7, 2) := by decide +kernel
theorem dX11_fill_47 : decode cX11_fill 47 = .ok (.iadd, 1) := by decide +kernel
theorem dX11_fill_48 : decode cX11_fill 48 = .ok (.iaload, 1) := by decide +kernel
theorem dX11_fill_49 : decode cX11_fill 49 = .ok (.imul, 1) := by decide +kernel
theorem dX11_fill_50 : decode cX11_fill 50 = .ok (.iadd, 1) := by decide +kernel
theorem dX11_fill_51 : decode cX11_fill 51 = .ok (.iastore, 1) := by decide +kernel
theorem dX11_fill_52 : decode cX11_fill 52 = .ok (.iinc 7 1, 3) := by decide +kernel
theorem dX11_fill_55 : decode cX11_fill 55 = .ok (.goto (-40), 3) := by decide +kernel
theorem dX11_fill_58 : decode cX11_fill 58 = .ok (.iinc 6 1, 3) := by decide +kernel
theorem dX11_fill_61 : decode cX11_fill 61 = .ok (.goto (-58), 3) := by decide +kernel
theorem dX11_fill_64 : decode cX11_fill 64 = .ok (.aload_n 1, 1) := by decide +kernel
theorem dX11_fill_65 : decode cX11_fill 65 = .ok (.iconst 1, 1) := by decide +kernel
theorem dX11_fill_66 : decode cX11_fill 66 = .ok (.dup2, 1) := by decide +kernel
theorem dX11_fill_67 : decode cX11_fill 67 = .ok (.iaload, 1) := by decide +kernel
theorem dX11_fill_68 : decode cX11_fill 68 = .ok (.bipush 9, 2) := by decide +kernel
theorem dX11_fill_70 : decode cX11_fill 70 = .ok (.iload_n 3, 1) := by decide +kernel
theorem dX11_fill_71 : decode cX11_fill 71 = .ok (.imul, 1) := by decide +kernel
theorem dX11_fill_72 : decode cX11_fill 72 = .ok (.iconst 3, 1) := by decide +kernel
theorem dX11_fill_73 : decode cX11_fill 73 = .ok (.iload 4, 2) := by decide +kernel
theorem dX11_fill_75 : decode cX11_fill 75 = .ok (.imul, 1) := by decide +kernel
theorem dX11_fill_76 : decode cX11_fill 76 = .ok (.iadd, 1) := by decide +kernel
theorem dX11_fill_77 : decode cX11_fill 77 = .ok (.iadd, 1) := by decide +kernel
theorem dX11_fill_78 : decode cX11_fill 78 = .ok (.iastore, 1) := by decide +kernel
theorem dX11_fill_79 : decode cX11_fill 79 = .ok (.aload_n 1, 1) := by decide +kernel
theorem dX11_fill_80 : decode cX11_fill 80 = .ok (.iconst 2, 1) := by decide +kernel
theorem dX11_fill_81 : decode cX11_fill 81 = .ok (.dup2, 1) := by decide +kernel
theorem dX11_fill_82 : decode cX11_fill 82 = .ok (.iaload, 1) := by decide +kernel
theorem dX11_fill_83 : decode cX11_fill 83 = .ok (.bipush 6, 2) := by decide +kernel
theorem dX11_fill_85 : decode cX11_fill 85 = .ok (.iload 4, 2) := by decide +kernel
theorem dX11_fill_87 : decode cX11_fill 87 = .ok (.imul, 1) := by decide +kernel
theorem dX11_fill_88 : decode cX11_fill 88 = .ok (.iadd, 1) := by decide +kernel
theorem dX11_fill_89 : decode cX11_fill 89 = .ok (.iastore, 1) := by decide +kernel
theorem dX11_fill_90 : decode cX11_fill 90 = .ok (.aload_n 1, 1) := by decide +kernel
theorem dX11_fill_91 : decode cX11_fill 91 = .ok (.iconst 3, 1) := by decide +kernel
theorem dX11_fill_92 : decode cX11_fill 92 = .ok (.dup2, 1) := by decide +kernel
theorem dX11_fill_93 : decode cX11_fill 93 = .ok (.iaload, 1) := by decide +kernel
theorem dX11_fill_94 : decode cX11_fill 94 = .ok (.bipush 9, 2) := by decide +kernel
theorem dX11_fill_96 : decode cX11_fill 96 = .ok (.iload 5, 2) := by decide +kernel
theorem dX11_fill_98 : decode cX11_fill 98 = .ok (.imul, 1) := by decide +kernel
theorem dX11_fill_99 : decode cX11_fill 99 = .ok (.iadd, 1) := by decide +kernel
theorem dX11_fill_100 : decode cX11_fill 100 = .ok (.iastore, 1) := by decide +kernel
theorem dX11_fill_101 : decode cX11_fill 101 = .ok (.return_, 1) := by decide +kernel
theorem dX11_charge_0 : decode cX11_charge 0 = .ok (.aload_n 0, 1) := by decide +kernel
theorem dX11_charge_1 : decode cX11_charge 1 = .ok (.iconst 0, 1) := by decide +kernel
theorem dX11_charge_2 : decode cX11_charge 2 = .ok (.putfield 52, 3) := by decide +kernel
theorem dX11_charge_5 : decode cX11_charge 5 = .ok (.iload_n 1, 1) := by decide +kernel
theorem dX11_charge_6 : decode cX11_charge 6 = .ok (.iconst 1, 1) := by decide +kernel
theorem dX11_charge_7 : decode cX11_charge 7 = .ok (.bipush 9, 2) := by decide +kernel
theorem dX11_charge_9 : decode cX11_charge 9 = .ok (.invokestatic 59, 3) := by decide +kernel
theorem dX11_charge_12 : decode cX11_charge 12 = .ok (.ifCond .eq 31, 3) := by decide +kernel
theorem dX11_charge_15 : decode cX11_charge 15 = .ok (.iload_n 2, 1) := by decide +kernel
theorem dX11_charge_16 : decode cX11_charge 16 = .ok (.iconst 0, 1) := by decide +kernel
theorem dX11_charge_17 : decode cX11_charge 17 = .ok (.iconst 3, 1) := by decide +kernel
theorem dX11_charge_18 : decode cX11_charge 18 = .ok (.invokestatic 59, 3) := by decide +kernel
theorem dX11_charge_21 : decode cX11_charge 21 = .ok (.ifCond .eq 22, 3) := by decide +kernel
theorem dX11_charge_24 : decode cX11_charge 24 = .ok (.iload_n 3, 1) := by decide +kernel
theorem dX11_charge_25 : decode cX11_charge 25 = .ok (.iconst 0, 1) := by decide +kernel
theorem dX11_charge_26 : decode cX11_charge 26 = .ok (.iconst 3, 1) := by decide +kernel
theorem dX11_charge_27 : decode cX11_charge 27 = .ok (.invokestatic 59, 3) := by decide +kernel
theorem dX11_charge_30 : decode cX11_charge 30 = .ok (.ifCond .eq 13, 3) := by decide +kernel
theorem dX11_charge_33 : decode cX11_charge 33 = .ok (.iload 4, 2) := by decide +kernel
theorem dX11_charge_35 : decode cX11_charge 35 = .ok (.iconst 0, 1) := by decide +kernel
theorem dX11_charge_36 : decode cX11_charge 36 = .ok (.iconst 3, 1) := by decide +kernel
theorem dX11_charge_37 : decode cX11_charge 37 = .ok (.invokestatic 59, 3) := by decide +kernel
theorem dX11_charge_40 : decode cX11_charge 40 = .ok (.ifCond .ne 9, 3) := by decide +kernel
theorem dX11_charge_43 : decode cX11_charge 43 = .ok (.aload_n 0, 1) := by decide +kernel
theorem dX11_charge_44 : decode cX11_charge 44 = .ok (.iconst 1, 1) := by decide +kernel
theorem dX11_charge_45 : decode cX11_charge 45 = .ok (.invokevirtual 119, 3) := by decide +kernel
theorem dX11_charge_48 : decode cX11_charge 48 = .ok (.ireturn, 1) := by decide +kernel
theorem dX11_charge_49 : decode cX11_charge 49 = .ok (.aload_n 0, 1) := by decide +kernel
theorem dX11_charge_50 : decode cX11_charge 50 = .ok (.invokevirtual 138, 3) := by decide +kernel
theorem dX11_charge_53 : decode cX11_charge 53 = .ok (.iload_n 1, 1) := by decide +kernel
theorem dX11_charge_54 : decode cX11_charge 54 = .ok (.if_icmp .lt 16, 3) := by decide +kernel
theorem dX11_charge_57 : decode cX11_charge 57 = .ok (.aload_n 0, 1) := by decide +kernel
theorem dX11_charge_58 : decode cX11_charge 58 = .ok (.getfield 20, 3) := by decide +kernel
theorem dX11_charge_61 : decode cX11_charge 61 = .ok (.invokeinterface 113 1, 5) := by decide +kernel
theorem dX11_charge_66 : decode cX11_charge 66 = .ok (.iconst 3, 1) := by decide +kernel
theorem dX11_charge_67 : decode cX11_charge 67 = .ok (.if_icmp .ne 9, 3) := by decide +kernel
theorem dX11_charge_70 : decode cX11_charge 70 = .ok (.aload_n 0, 1) := by decide +kernel
theorem dX11_charge_71 : decode cX11_charge 71 = .ok (.iconst 2, 1) := by decide +kernel
theorem dX11_charge_72 : decode cX11_charge 72 = .ok (.invokevirtual 119, 3) := by decide +kernel
theorem dX11_charge_75 : decode cX11_charge 75 = .ok (.ireturn, 1) := by decide +kernel
theorem dX11_charge_76 : decode cX11_charge 76 = .ok (.aload_n 0, 1) := by decide +kernel
theorem dX11_charge_77 : decode cX11_charge 77 = .ok (.iload_n 1, 1) := by decide +kernel
theorem dX11_charge_78 : decode cX11_charge 78 = .ok (.invokevirtual 141, 3) := by decide +kernel
theorem dX11_charge_81 : decode cX11_charge 81 = .ok (.astore 5, 2) := by decide +kernel
theorem dX11_charge_83 : decode cX11_charge 83 = .ok (.new 97, 3) := by decide +kernel
theorem dX11_charge_86 : decode cX11_charge 86 = .ok (.dup, 1) := by decide +kernel
theorem dX11_charge_87 : decode cX11_charge 87 = .ok (.invokespecial 145, 3) := by decide +kernel
theorem dX11_charge_90 : decode cX11_charge 90 = .ok (.astore 6, 2) := by decide +kernel
theorem dX11_charge_92 : decode cX11_charge 92 = .ok (.aload_n 0, 1) := by decide +kernel
theorem dX11_charge_93 : decode cX11_charge 93 = .ok (.aload 6, 2) := by decide +kernel
theorem dX11_charge_95 : decode cX11_charge 95 = .ok (.getfield 146, 3) := by decide +kernel
theorem dX11_charge_98 : decode cX11_charge 98 = .ok (.aload 5, 2) := by decide +kernel
theorem dX11_charge_100 : decode cX11_charge 100 = .ok (.iload_n 2, 1) := by decide +kernel
theorem dX11_charge_101 : decode cX11_charge 101 = .ok (.iload_n 3, 1) := by decide +kernel
theorem dX11_charge_102 : decode cX11_charge 102 = .ok (.iload 4, 2) := by decide +kernel
theorem dX11_charge_104 : decode cX11_charge 104 = .ok (.invokevirtual 149, 3) := by decide +kernel
theorem dX11_charge_107 : decode cX11_charge 107 = .ok (.aload 6, 2) := by decide +kernel
theorem dX11_charge_109 : decode cX11_charge 109 = .ok (.invokevirtual 153, 3) := by decide +kernel
theorem dX11_charge_112 : decode cX11_charge 112 = .ok (.iconst 0, 1) := by decide +kernel
theorem dX11_charge_113 : decode cX11_charge 113 = .ok (.istore 7, 2) := by decide +kernel
theorem dX11_charge_115 : decode cX11_charge 115 = .ok (.iconst 0, 1) := by decide +kernel
theorem dX11_charge_116 : decode cX11_charge 116 = .ok (.istore 8, 2) := by decide +kernel
theorem dX11_charge_118 : decode cX11_charge 118 = .ok (.iload 8, 2) := by decide +kernel
theorem dX11_charge_120 : decode cX11_charge 120 = .ok (.aload_n 0, 1) := by decide +kernel
theorem dX11_charge_121 : decode cX11_charge 121 = .ok (.getfield 116, 3) := by decide +kernel
theorem dX11_charge_124 : decode cX11_charge 124 = .ok (.if_icmp .ge 96, 3) := by decide +kernel
theorem dX11_charge_127 : decode cX11_charge 127 = .ok (.aload 6, 2) := by decide +kernel
theorem dX11_charge_129 : decode cX11_charge 129 = .ok (.getfield 156, 3) := by decide +kernel
theorem dX11_charge_132 : decode cX11_charge 132 = .ok (.aload_n 0, 1) := by decide +kernel
theorem dX11_charge_133 : decode cX11_charge 133 = .ok (.getfield 14, 3) := by decide +kernel
theorem dX11_charge_136 : decode cX11_charge 136 = .ok (.iload 8, 2) := by decide +kernel
theorem dX11_charge_138 : decode cX11_charge 138 = .ok (.aaload, 1) := by decide +kernel
theorem dX11_charge_139 : decode cX11_charge 139 = .ok (.iconst 0, 1) := by decide +kernel
theorem dX11_charge_140 : decode cX11_charge 140 = .ok (.iaload, 1) := by decide +kernel
theorem dX11_charge_141 : decode cX11_charge 141 = .ok (.dup2, 1) := by decide +kernel
theorem dX11_charge_142 : decode cX11_charge 142 = .ok (.iaload, 1) := by decide +kernel
theorem dX11_charge_143 : decode cX11_charge 143 = .ok (.aload 5, 2) := by decide +kernel
theorem dX11_charge_145 : decode cX11_charge 145 = .ok (.iload 8, 2) := by decide +kernel
theorem dX11_charge_147 : decode cX11_charge 147 = .ok (.iaload, 1) := by decide +kernel
theorem dX11_charge_148 : decode cX11_charge 148 = .ok (.iadd, 1) := by decide +kernel
theorem dX11_charge_149 : decode cX11_charge 149 = .ok (.iastore, 1) := by decide +kernel
theorem dX11_charge_150 : decode cX11_charge 150 = .ok (.aload_n 0, 1) := by decide +kernel
theorem dX11_charge_151 : decode cX11_charge 151 = .ok (.getfield 14, 3) := by decide +kernel
theorem dX11_charge_154 : decode cX11_charge 154 = .ok (.iload 7, 2) := by decide +kernel
theorem dX11_charge_156 : decode cX11_charge 156 = .ok (.aaload, 1) := by decide +kernel
theorem dX11_charge_157 : decode cX11_charge 157 = .ok (.iconst 0, 1) := by decide +kernel
theorem dX11_charge_158 : decode cX11_charge 158 = .ok (.aload_n 0, 1) := by decide +kernel
theorem dX11_charge_159 : decode cX11_charge 159 = .ok (.getfield 14, 3) := by decide +kernel
theorem dX11_charge_162 : decode cX11_charge 162 = .ok (.iload 8, 2) := by decide +kernel
theorem dX11_charge_164 : decode cX11_charge 164 = .ok (.aaload, 1) := by decide +kernel
theorem dX11_charge_165 : decode cX11_charge 165 = .ok (.iconst 0, 1) := by decide +kernel
theorem dX11_charge_166 : decode cX11_charge 166 = .ok (.iaload, 1) := by decide +kernel
theorem dX11_charge_167 : decode cX11_charge 167 = .ok (.iastore, 1) := by decide +kernel
theorem dX11_charge_168 : decode cX11_charge 168 = .ok (.aload_n 0, 1) := by decide +kernel
theorem dX11_charge_169 : decode cX11_charge 169 = .ok (.getfield 14, 3) := by decide +kernel
theorem dX11_charge_172 : decode cX11_charge 172 = .ok (.iload 7, 2) := by decide +kernel
theorem dX11_charge_174 : decode cX11_charge 174 = .ok (.aaload, 1) := by decide +kernel
theorem dX11_charge_175 : decode cX11_charge 175 = .ok (.iconst 1, 1) := by decide +kernel
theorem dX11_charge_176 : decode cX11_charge 176 = .ok (.aload_n 0, 1) := by decide +kernel
theorem dX11_charge_177 : decode cX11_charge 177 = .ok (.getfield 14, 3) := by decide +kernel
theorem dX11_charge_180 : decode cX11_charge 180 = .ok (.iload 8, 2) := by decide +kernel
theorem dX11_charge_182 : decode cX11_charge 182 = .ok (.aaload, 1) := by decide +kernel
theorem dX11_charge_183 : decode cX11_charge 183 = .ok (.iconst 1, 1) := by decide +kernel
theorem dX11_charge_184 : decode cX11_charge 184 = .ok (.iaload, 1) := by decide +kernel
theorem dX11_charge_185 : decode cX11_charge 185 = .ok (.aload 5, 2) := by decide +kernel
theorem dX11_charge_187 : decode cX11_charge 187 = .ok (.iload 8, 2) := by decide +kernel
theorem dX11_charge_189 : decode cX11_charge 189 = .ok (.iaload, 1) := by decide +kernel
theorem dX11_charge_190 : decode cX11_charge 190 = .ok (.isub, 1) := by decide +kernel
theorem dX11_charge_191 : decode cX11_charge 191 = .ok (.iastore, 1) := by decide +kernel
theorem dX11_charge_192 : decode cX11_charge 192 = .ok (.iload 7, 2) := by decide +kernel
theorem dX11_charge_194 : decode cX11_charge 194 = .ok (.aload_n 0, 1) := by decide +kernel
theorem dX11_charge_195 : decode cX11_charge 195 = .ok (.getfield 14, 3) := by decide +kernel
theorem dX11_charge_198 : decode cX11_charge 198 = .ok (.iload 7, 2) := by decide +kernel
theorem dX11_charge_200 : decode cX11_charge 200 = .ok (.aaload, 1) := by decide +kernel
theorem dX11_charge_201 : decode cX11_charge 201 = .ok (.iconst 1, 1) := by decide +kernel
theorem dX11_charge_202 : decode cX11_charge 202 = .ok (.iaload, 1) := by decide +kernel
theorem dX11_charge_203 : decode cX11_charge 203 = .ok (.ifCond .le 7, 3) := by decide +kernel
theorem dX11_charge_206 : decode cX11_charge 206 = .ok (.iconst 1, 1) := by decide +kernel
theorem dX11_charge_207 : decode cX11_charge 207 = .ok (.goto 4, 3) := by decide +kernel
theorem dX11_charge_210 : decode cX11_charge 210 = .ok (.iconst 0, 1) := by decide +kernel
theorem dX11_charge_211 : decode cX11_charge 211 = .ok (.iadd, 1) := by decide +kernel
theorem dX11_charge_212 : decode cX11_charge 212 = .ok (.istore 7, 2) := by decide +kernel
theorem dX11_charge_214 : decode cX11_charge 214 = .ok (.iinc 8 1, 3) := by decide +kernel
theorem dX11_charge_217 : decode cX11_charge 217 = .ok (.goto (-99), 3) := by decide +kernel
theorem dX11_charge_220 : decode cX11_charge 220 = .ok (.aload_n 0, 1) := by decide +kernel
theorem dX11_charge_221 : decode cX11_charge 221 = .ok (.iload 7, 2) := by decide +kernel
theorem dX11_charge_223 : decode cX11_charge 223 = .ok (.putfield 116, 3) := by decide +kernel
theorem dX11_charge_226 : decode cX11_charge 226 = .ok (.aload_n 0, 1) := by decide +kernel
theorem dX11_charge_227 : decode cX11_charge 227 = .ok (.getfield 20, 3) := by decide +kernel
theorem dX11_charge_230 : decode cX11_charge 230 = .ok (.aload 6, 2) := by decide +kernel
theorem dX11_charge_232 : decode cX11_charge 232 = .ok (.invokeinterface 84 2, 5) := by decide +kernel
theorem dX11_charge_237 : decode cX11_charge 237 = .ok (.pop, 1) := by decide +kernel
theorem dX11_charge_238 : decode cX11_charge 238 = .ok (.aload 6, 2) := by decide +kernel
theorem dX11_charge_240 : decode cX11_charge 240 = .ok (.getfield 146, 3) := by decide +kernel
theorem dX11_charge_243 : decode cX11_charge 243 = .ok (.iconst 0, 1) := by decide +kernel
theorem dX11_charge_244 : decode cX11_charge 244 = .ok (.invokestatic 159, 3) := by decide +kernel
theorem dX11_charge_247 : decode cX11_charge 247 = .ok (.ireturn, 1) := by decide +kernel
theorem dX11_flame_0 : decode cX11_flame 0 = .ok (.aload_n 0, 1) := by decide +kernel
theorem dX11_flame_1 : decode cX11_flame 1 = .ok (.iconst 0, 1) := by decide +kernel
theorem dX11_flame_2 : decode cX11_flame 2 = .ok (.putfield 52, 3) := by decide +kernel
theorem dX11_flame_5 : decode cX11_flame 5 = .ok (.iload_n 1, 1) := by decide +kernel
theorem dX11_flame_6 : decode cX11_flame 6 = .ok (.iconst 0, 1) := by decide +kernel
theorem dX11_flame_7 : decode cX11_flame 7 = .ok (.bipush 9, 2) := by decide +kernel
theorem dX11_flame_9 : decode cX11_flame 9 = .ok (.invokestatic 59, 3) := by decide +kernel
theorem dX11_flame_12 : decode cX11_flame 12 = .ok (.ifCond .ne 9, 3) := by decide +kernel
theorem dX11_flame_15 : decode cX11_flame 15 = .ok (.aload_n 0, 1) := by decide +kernel
theorem dX11_flame_16 : decode cX11_flame 16 = .ok (.iconst 1, 1) := by decide +kernel
theorem dX11_flame_17 : decode cX11_flame 17 = .ok (.invokevirtual 119, 3) := by decide +kernel
theorem dX11_flame_20 : decode cX11_flame 20 = .ok (.ireturn, 1) := by decide +kernel
theorem dX11_flame_21 : decode cX11_flame 21 = .ok (.aload_n 0, 1) := by decide +kernel
theorem dX11_flame_22 : decode cX11_flame 22 = .ok (.getfield 44, 3) := by decide +kernel
theorem dX11_flame_25 : decode cX11_flame 25 = .ok (.getfield 163, 3) := by decide +kernel
theorem dX11_flame_28 : decode cX11_flame 28 = .ok (.istore_n 2, 1) := by decide +kernel
theorem dX11_flame_29 : decode cX11_flame 29 = .ok (.aload_n 0, 1) := by decide +kernel
theorem dX11_flame_30 : decode cX11_flame 30 = .ok (.getfield 44, 3) := by decide +kernel
theorem dX11_flame_33 : decode cX11_flame 33 = .ok (.iload_n 1, 1) := by decide +kernel
theorem dX11_flame_34 : decode cX11_flame 34 = .ok (.putfield 163, 3) := by decide +kernel
theorem dX11_flame_37 : decode cX11_flame 37 = .ok (.iload_n 2, 1) := by decide +kernel
theorem dX11_flame_38 : decode cX11_flame 38 = .ok (.ireturn, 1) := by decide +kernel
theorem dX11_coal_0 : decode cX11_coal 0 = .ok (.aload_n 0, 1) := by decide +kernel
theorem dX11_coal_1 : decode cX11_coal 1 = .ok (.iconst 0, 1) := by decide +kernel
theorem dX11_coal_2 : decode cX11_coal 2 = .ok (.putfield 52, 3) := by decide +kernel
theorem dX11_coal_5 : decode cX11_coal 5 = .ok (.iload_n 1, 1) := by decide +kernel
theorem dX11_coal_6 : decode cX11_coal 6 = .ok (.iconst 1, 1) := by decide +kernel
theorem dX11_coal_7 : decode cX11_coal 7 = .ok (.sipush 999, 3) := by decide +kernel
theorem dX11_coal_10 : decode cX11_coal 10 = .ok (.invokestatic 59, 3) := by decide +kernel
theorem dX11_coal_13 : decode cX11_coal 13 = .ok (.ifCond .eq 18, 3) := by decide +kernel
theorem dX11_coal_16 : decode cX11_coal 16 = .ok (.aload_n 0, 1) := by decide +kernel
theorem dX11_coal_17 : decode cX11_coal 17 = .ok (.getfield 44, 3) := by decide +kernel
theorem dX11_coal_20 : decode cX11_coal 20 = .ok (.getfield 166, 3) := by decide +kernel
theorem dX11_coal_23 : decode cX11_coal 23 = .ok (.iload_n 1, 1) := by decide +kernel
theorem dX11_coal_24 : decode cX11_coal 24 = .ok (.iadd, 1) := by decide +kernel
theorem dX11_coal_25 : decode cX11_coal 25 = .ok (.sipush 999, 3) := by decide +kernel
theorem dX11_coal_28 : decode cX11_coal 28 = .ok (.if_icmp .le 9, 3) := by decide +kernel
theorem dX11_coal_31 : decode cX11_coal 31 = .ok (.aload_n 0, 1) := by decide +kernel
theorem dX11_coal_32 : decode cX11_coal 32 = .ok (.iconst 1, 1) := by decide +kernel
theorem dX11_coal_33 : decode cX11_coal 33 = .ok (.invokevirtual 119, 3) := by decide +kernel
theorem dX11_coal_36 : decode cX11_coal 36 = .ok (.ireturn, 1) := by decide +kernel
theorem dX11_coal_37 : decode cX11_coal 37 = .ok (.aload_n 0, 1) := by decide +kernel
theorem dX11_coal_38 : decode cX11_coal 38 = .ok (.getfield 44, 3) := by decide +kernel
theorem dX11_coal_41 : decode cX11_coal 41 = .ok (.dup, 1) := by decide +kernel
theorem dX11_coal_42 : decode cX11_coal 42 = .ok (.getfield 166, 3) := by decide +kernel
theorem dX11_coal_45 : decode cX11_coal 45 = .ok (.iload_n 1, 1) := by decide +kernel
theorem dX11_coal_46 : decode cX11_coal 46 = .ok (.iadd, 1) := by decide +kernel
theorem dX11_coal_47 : decode cX11_coal 47 = .ok (.putfield 166, 3) := by decide +kernel
theorem dX11_coal_50 : decode cX11_coal 50 = .ok (.aload_n 0, 1) := by decide +kernel
theorem dX11_coal_51 : decode cX11_coal 51 = .ok (.getfield 44, 3) := by decide +kernel
theorem dX11_coal_54 : decode cX11_coal 54 = .ok (.getfield 166, 3) := by decide +kernel
theorem dX11_coal_57 : decode cX11_coal 57 = .ok (.ireturn, 1) := by decide +kernel
theorem dX11_run_0 : decode cX11_run 0 = .ok (.aload_n 0, 1) := by decide +kernel
theorem dX11_run_1 : decode cX11_run 1 = .ok (.iconst 0, 1) := by decide +kernel
theorem dX11_run_2 : decode cX11_run 2 = .ok (.putfield 52, 3) := by decide +kernel
theorem dX11_run_5 : decode cX11_run 5 = .ok (.iload_n 1, 1) := by decide +kernel
theorem dX11_run_6 : decode cX11_run 6 = .ok (.iconst 1, 1) := by decide +kernel
theorem dX11_run_7 : decode cX11_run 7 = .ok (.bipush 30, 2) := by decide +kernel
theorem dX11_run_9 : decode cX11_run 9 = .ok (.invokestatic 59, 3) := by decide +kernel
theorem dX11_run_12 : decode cX11_run 12 = .ok (.ifCond .ne 9, 3) := by decide +kernel
theorem dX11_run_15 : decode cX11_run 15 = .ok (.aload_n 0, 1) := by decide +kernel
theorem dX11_run_16 : decode cX11_run 16 = .ok (.iconst 1, 1) := by decide +kernel
theorem dX11_run_17 : decode cX11_run 17 = .ok (.invokevirtual 119, 3) := by decide +kernel
theorem dX11_run_20 : decode cX11_run 20 = .ok (.ireturn, 1) := by decide +kernel
theorem dX11_run_21 : decode cX11_run 21 = .ok (.new 17, 3) := by decide +kernel
theorem dX11_run_24 : decode cX11_run 24 = .ok (.dup, 1) := by decide +kernel
theorem dX11_run_25 : decode cX11_run 25 = .ok (.invokespecial 19, 3) := by decide +kernel
theorem dX11_run_28 : decode cX11_run 28 = .ok (.astore_n 2, 1) := by decide +kernel
theorem dX11_run_29 : decode cX11_run 29 = .ok (.iconst 0, 1) := by decide +kernel
theorem dX11_run_30 : decode cX11_run 30 = .ok (.istore_n 3, 1) := by decide +kernel
theorem dX11_run_31 : decode cX11_run 31 = .ok (.iload_n 3, 1) := by decide +kernel
theorem dX11_run_32 : decode cX11_run 32 = .ok (.iload_n 1, 1) := by decide +kernel
theorem dX11_run_33 : decode cX11_run 33 = .ok (.if_icmp .ge 21, 3) := by decide +kernel
theorem dX11_run_36 : decode cX11_run 36 = .ok (.aload_n 0, 1) := by decide +kernel
theorem dX11_run_37 : decode cX11_run 37 = .ok (.getfield 44, 3) := by decide +kernel
theorem dX11_run_40 : decode cX11_run 40 = .ok (.aload_n 0, 1) := by decide +kernel
theorem dX11_run_41 : decode cX11_run 41 = .ok (.getfield 20, 3) := by decide +kernel
theorem dX11_run_44 : decode cX11_run 44 = .ok (.aload_n 2, 1) := by decide +kernel
theorem dX11_run_45 : decode cX11_run 45 = .ok (.invokestatic 169, 3) := by decide +kernel
theorem dX11_run_48 : decode cX11_run 48 = .ok (.iinc 3 1, 3) := by decide +kernel
theorem dX11_run_51 : decode cX11_run 51 = .ok (.goto (-20), 3) := by decide +kernel
theorem dX11_run_54 : decode cX11_run 54 = .ok (.iconst 0, 1) := by decide +kernel
theorem dX11_run_55 : decode cX11_run 55 = .ok (.istore_n 3, 1) := by decide +kernel
theorem dX11_run_56 : decode cX11_run 56 = .ok (.iload_n 3, 1) := by decide +kernel
theorem dX11_run_57 : decode cX11_run 57 = .ok (.aload_n 2, 1) := by decide +kernel
theorem dX11_run_58 : decode cX11_run 58 = .ok (.invokeinterface 113 1, 5) := by decide +kernel
theorem dX11_run_63 : decode cX11_run 63 = .ok (.if_icmp .ge 56, 3) := by decide +kernel
theorem dX11_run_66 : decode cX11_run 66 = .ok (.aload_n 0, 1) := by decide +kernel
theorem dX11_run_67 : decode cX11_run 67 = .ok (.getfield 24, 3) := by decide +kernel
theorem dX11_run_70 : decode cX11_run 70 = .ok (.invokeinterface 113 1, 5) := by decide +kernel
theorem dX11_run_75 : decode cX11_run 75 = .ok (.bipush 12, 2) := by decide +kernel
theorem dX11_run_77 : decode cX11_run 77 = .ok (.if_icmp .ge 26, 3) := by decide +kernel
theorem dX11_run_80 : decode cX11_run 80 = .ok (.aload_n 0, 1) := by decide +kernel
theorem dX11_run_81 : decode cX11_run 81 = .ok (.getfield 24, 3) := by decide +kernel
theorem dX11_run_84 : decode cX11_run 84 = .ok (.aload_n 2, 1) := by decide +kernel
theorem dX11_run_85 : decode cX11_run 85 = .ok (.iload_n 3, 1) := by decide +kernel
theorem dX11_run_86 : decode cX11_run 86 = .ok (.invokeinterface 93 2, 5) := by decide +kernel
theorem dX11_run_91 : decode cX11_run 91 = .ok (.checkcast 97, 3) := by decide +kernel
theorem dX11_run_94 : decode cX11_run 94 = .ok (.invokeinterface 84 2, 5) := by decide +kernel
theorem dX11_run_99 : decode cX11_run 99 = .ok (.pop, 1) := by decide +kernel
theorem dX11_run_100 : decode cX11_run 100 = .ok (.goto 13, 3) := by decide +kernel
theorem dX11_run_103 : decode cX11_run 103 = .ok (.aload_n 0, 1) := by decide +kernel
theorem dX11_run_104 : decode cX11_run 104 = .ok (.dup, 1) := by decide +kernel
theorem dX11_run_105 : decode cX11_run 105 = .ok (.getfield 173, 3) := by decide +kernel
theorem dX11_run_108 : decode cX11_run 108 = .ok (.iconst 1, 1) := by decide +kernel
theorem dX11_run_109 : decode cX11_run 109 = .ok (.iadd, 1) := by decide +kernel
theorem dX11_run_110 : decode cX11_run 110 = .ok (.putfield 173, 3) := by decide +kernel
theorem dX11_run_113 : decode cX11_run 113 = .ok (.iinc 3 1, 3) := by decide +kernel
theorem dX11_run_116 : decode cX11_run 116 = .ok (.goto (-60), 3) := by decide +kernel
theorem dX11_run_119 : decode cX11_run 119 = .ok (.aload_n 2, 1) := by decide +kernel
theorem dX11_run_120 : decode cX11_run 120 = .ok (.invokeinterface 113 1, 5) := by decide +kernel
theorem dX11_run_125 : decode cX11_run 125 = .ok (.ireturn, 1) := by decide +kernel
theorem dX11_hammer_0 : decode cX11_hammer 0 = .ok (.aload_n 0, 1) := by decide +kernel
theorem dX11_hammer_1 : decode cX11_hammer 1 = .ok (.iconst 0, 1) := by decide +kernel
theorem dX11_hammer_2 : decode cX11_hammer 2 = .ok (.putfield 52, 3) := by decide +kernel
theorem dX11_hammer_5 : decode cX11_hammer 5 = .ok (.aload_n 0, 1) := by decide +kernel
theorem dX11_hammer_6 : decode cX11_hammer 6 = .ok (.getfield 44, 3) := by decide +kernel
theorem dX11_hammer_9 : decode cX11_hammer 9 = .ok (.getfield 176, 3) := by decide +kernel
theorem dX11_hammer_12 : decode cX11_hammer 12 = .ok (.istore_n 1, 1) := by decide +kernel
theorem dX11_hammer_13 : decode cX11_hammer 13 = .ok (.aload_n 0, 1) := by decide +kernel
theorem dX11_hammer_14 : decode cX11_hammer 14 = .ok (.getfield 44, 3) := by decide +kernel
theorem dX11_hammer_17 : decode cX11_hammer 17 = .ok (.iconst 0, 1) := by decide +kernel
theorem dX11_hammer_18 : decode cX11_hammer 18 = .ok (.putfield 176, 3) := by decide +kernel
theorem dX11_hammer_21 : decode cX11_hammer 21 = .ok (.iload_n 1, 1) := by decide +kernel
theorem dX11_hammer_22 : decode cX11_hammer 22 = .ok (.ireturn, 1) := by decide +kernel
theorem dX11_grind_0 : decode cX11_grind 0 = .ok (.aload_n 0, 1) := by decide +kernel
theorem dX11_grind_1 : decode cX11_grind 1 = .ok (.iconst 0, 1) := by decide +kernel
theorem dX11_grind_2 : decode cX11_grind 2 = .ok (.putfield 52, 3) := by decide +kernel
theorem dX11_grind_5 : decode cX11_grind 5 = .ok (.aload_n 0, 1) := by decide +kernel
theorem dX11_grind_6 : decode cX11_grind 6 = .ok (.iload_n 1, 1) := by decide +kernel
theorem dX11_grind_7 : decode cX11_grind 7 = .ok (.invokevirtual 179, 3) := by decide +kernel
theorem dX11_grind_10 : decode cX11_grind 10 = .ok (.ifCond .eq 13, 3) := by decide +kernel
theorem dX11_grind_13 : decode cX11_grind 13 = .ok (.iload 4, 2) := by decide +kernel
theorem dX11_grind_15 : decode cX11_grind 15 = .ok (.iconst 0, 1) := by decide +kernel
theorem dX11_grind_16 : decode cX11_grind 16 = .ok (.iconst 1, 1) := by decide +kernel
theorem dX11_grind_17 : decode cX11_grind 17 = .ok (.invokestatic 59, 3) := by decide +kernel
theorem dX11_grind_20 : decode cX11_grind 20 = .ok (.ifCond .ne 9, 3) := by decide +kernel
theorem dX11_grind_23 : decode cX11_grind 23 = .ok (.aload_n 0, 1) := by decide +kernel
theorem dX11_grind_24 : decode cX11_grind 24 = .ok (.iconst 1, 1) := by decide +kernel
theorem dX11_grind_25 : decode cX11_grind 25 = .ok (.invokevirtual 119, 3) := by decide +kernel
theorem dX11_grind_28 : decode cX11_grind 28 = .ok (.ireturn, 1) := by decide +kernel
theorem dX11_grind_29 : decode cX11_grind 29 = .ok (.iload_n 2, 1) := by decide +kernel
theorem dX11_grind_30 : decode cX11_grind 30 = .ok (.iconst 1, 1) := by decide +kernel
theorem dX11_grind_31 : decode cX11_grind 31 = .ok (.bipush 9, 2) := by decide +kernel
theorem dX11_grind_33 : decode cX11_grind 33 = .ok (.invokestatic 59, 3) := by decide +kernel
theorem dX11_grind_36 : decode cX11_grind 36 = .ok (.ifCond .eq 13, 3) := by decide +kernel
theorem dX11_grind_39 : decode cX11_grind 39 = .ok (.iload_n 3, 1) := by decide +kernel
theorem dX11_grind_40 : decode cX11_grind 40 = .ok (.iconst 0, 1) := by decide +kernel
theorem dX11_grind_41 : decode cX11_grind 41 = .ok (.bipush 9, 2) := by decide +kernel
theorem dX11_grind_43 : decode cX11_grind 43 = .ok (.invokestatic 59, 3) := by decide +kernel
theorem dX11_grind_46 : decode cX11_grind 46 = .ok (.ifCond .ne 9, 3) := by decide +kernel
theorem dX11_grind_49 : decode cX11_grind 49 = .ok (.aload_n 0, 1) := by decide +kernel
theorem dX11_grind_50 : decode cX11_grind 50 = .ok (.iconst 2, 1) := by decide +kernel
theorem dX11_grind_51 : decode cX11_grind 51 = .ok (.invokevirtual 119, 3) := by decide +kernel
theorem dX11_grind_54 : decode cX11_grind 54 = .ok (.ireturn, 1) := by decide +kernel
theorem dX11_grind_55 : decode cX11_grind 55 = .ok (.aload_n 0, 1) := by decide +kernel
theorem dX11_grind_56 : decode cX11_grind 56 = .ok (.getfield 24, 3) := by decide +kernel
theorem dX11_grind_59 : decode cX11_grind 59 = .ok (.iload_n 1, 1) := by decide +kernel
theorem dX11_grind_60 : decode cX11_grind 60 = .ok (.invokeinterface 93 2, 5) := by decide +kernel
theorem dX11_grind_65 : decode cX11_grind 65 = .ok (.checkcast 97, 3) := by decide +kernel
theorem dX11_grind_68 : decode cX11_grind 68 = .ok (.astore 5, 2) := by decide +kernel
theorem dX11_grind_70 : decode cX11_grind 70 = .ok (.aload 5, 2) := by decide +kernel
theorem dX11_grind_72 : decode cX11_grind 72 = .ok (.invokevirtual 182, 3) := by decide +kernel
theorem dX11_grind_75 : decode cX11_grind 75 = .ok (.ifCond .eq 9, 3) := by decide +kernel
theorem dX11_grind_78 : decode cX11_grind 78 = .ok (.aload_n 0, 1) := by decide +kernel
theorem dX11_grind_79 : decode cX11_grind 79 = .ok (.iconst 3, 1) := by decide +kernel
theorem dX11_grind_80 : decode cX11_grind 80 = .ok (.invokevirtual 119, 3) := by decide +kernel
theorem dX11_grind_83 : decode cX11_grind 83 = .ok (.ireturn, 1) := by decide +kernel
theorem dX11_grind_84 : decode cX11_grind 84 = .ok (.aload 5, 2) := by decide +kernel
theorem dX11_grind_86 : decode cX11_grind 86 = .ok (.iload_n 2, 1) := by decide +kernel
theorem dX11_grind_87 : decode cX11_grind 87 = .ok (.putfield 185, 3) := by decide +kernel
theorem dX11_grind_90 : decode cX11_grind 90 = .ok (.aload 5, 2) := by decide +kernel
theorem dX11_grind_92 : decode cX11_grind 92 = .ok (.iload_n 3, 1) := by decide +kernel
theorem dX11_grind_93 : decode cX11_grind 93 = .ok (.putfield 188, 3) := by decide +kernel
theorem dX11_grind_96 : decode cX11_grind 96 = .ok (.aload 5, 2) := by decide +kernel
theorem dX11_grind_98 : decode cX11_grind 98 = .ok (.iload 4, 2) := by decide +kernel
theorem dX11_grind_100 : decode cX11_grind 100 = .ok (.putfield 191, 3) := by decide +kernel
theorem dX11_grind_103 : decode cX11_grind 103 = .ok (.aload 5, 2) := by decide +kernel
theorem dX11_grind_105 : decode cX11_grind 105 = .ok (.aload 5, 2) := by decide +kernel
theorem dX11_grind_107 : decode cX11_grind 107 = .ok (.invokevirtual 194, 3) := by decide +kernel
theorem dX11_grind_110 : decode cX11_grind 110 = .ok (.putfield 197, 3) := by decide +kernel
theorem dX11_grind_113 : decode cX11_grind 113 = .ok (.aload_n 0, 1) := by decide +kernel
theorem dX11_grind_114 : decode cX11_grind 114 = .ok (.getfield 27, 3) := by decide +kernel
theorem dX11_grind_117 : decode cX11_grind 117 = .ok (.iload 4, 2) := by decide +kernel
theorem dX11_grind_119 : decode cX11_grind 119 = .ok (.aaload, 1) := by decide +kernel
theorem dX11_grind_120 : decode cX11_grind 120 = .ok (.aload_n 0, 1) := by decide +kernel
theorem dX11_grind_121 : decode cX11_grind 121 = .ok (.getfield 30, 3) := by decide +kernel
theorem dX11_grind_124 : decode cX11_grind 124 = .ok (.iload 4, 2) := by decide +kernel
theorem dX11_grind_126 : decode cX11_grind 126 = .ok (.dup2, 1) := by decide +kernel
theorem dX11_grind_127 : decode cX11_grind 127 = .ok (.iaload, 1) := by decide +kernel
theorem dX11_grind_128 : decode cX11_grind 128 = .ok (.dup_x2, 1) := by decide +kernel
theorem dX11_grind_129 : decode cX11_grind 129 = .ok (.iconst 1, 1) := by decide +kernel
theorem dX11_grind_130 : decode cX11_grind 130 = .ok (.iadd, 1) := by decide +kernel
theorem dX11_grind_131 : decode cX11_grind 131 = .ok (.iastore, 1) := by decide +kernel
theorem dX11_grind_132 : decode cX11_grind 132 = .ok (.iload_n 1, 1) := by decide +kernel
theorem dX11_grind_133 : decode cX11_grind 133 = .ok (.iastore, 1) := by decide +kernel
theorem dX11_grind_134 : decode cX11_grind 134 = .ok (.aload 5, 2) := by decide +kernel
theorem dX11_grind_136 : decode cX11_grind 136 = .ok (.getfield 197, 3) := by decide +kernel
theorem dX11_grind_139 : decode cX11_grind 139 = .ok (.ireturn, 1) := by decide +kernel
theorem dX11_sell_0 : decode cX11_sell 0 = .ok (.aload_n 0, 1) := by decide +kernel
theorem dX11_sell_1 : decode cX11_sell 1 = .ok (.iconst 0, 1) := by decide +kernel
theorem dX11_sell_2 : decode cX11_sell 2 = .ok (.putfield 52, 3) := by decide +kernel
theorem dX11_sell_5 : decode cX11_sell 5 = .ok (.iload_n 1, 1) := by decide +kernel
theorem dX11_sell_6 : decode cX11_sell 6 = .ok (.iconst 0, 1) := by decide +kernel
theorem dX11_sell_7 : decode cX11_sell 7 = .ok (.iconst 1, 1) := by decide +kernel
theorem dX11_sell_8 : decode cX11_sell 8 = .ok (.invokestatic 59, 3) := by decide +kernel
theorem dX11_sell_11 : decode cX11_sell 11 = .ok (.ifCond .ne 9, 3) := by decide +kernel
theorem dX11_sell_14 : decode cX11_sell 14 = .ok (.aload_n 0, 1) := by decide +kernel
theorem dX11_sell_15 : decode cX11_sell 15 = .ok (.iconst 1, 1) := by decide +kernel
theorem dX11_sell_16 : decode cX11_sell 16 = .ok (.invokevirtual 119, 3) := by decide +kernel
theorem dX11_sell_19 : decode cX11_sell 19 = .ok (.ireturn, 1) := by decide +kernel
theorem dX11_sell_20 : decode cX11_sell 20 = .ok (.iload_n 2, 1) := by decide +kernel
theorem dX11_sell_21 : decode cX11_sell 21 = .ok (.iconst 1, 1) := by decide +kernel
theorem dX11_sell_22 : decode cX11_sell 22 = .ok (.sipush 999, 3) := by decide +kernel
theorem dX11_sell_25 : decode cX11_sell 25 = .ok (.invokestatic 59, 3) := by decide +kernel
theorem dX11_sell_28 : decode cX11_sell 28 = .ok (.ifCond .ne 9, 3) := by decide +kernel
theorem dX11_sell_31 : decode cX11_sell 31 = .ok (.aload_n 0, 1) := by decide +kernel
theorem dX11_sell_32 : decode cX11_sell 32 = .ok (.iconst 2, 1) := by decide +kernel
theorem dX11_sell_33 : decode cX11_sell 33 = .ok (.invokevirtual 119, 3) := by decide +kernel
theorem dX11_sell_36 : decode cX11_sell 36 = .ok (.ireturn, 1) := by decide +kernel
theorem dX11_sell_37 : decode cX11_sell 37 = .ok (.aload_n 0, 1) := by decide +kernel
theorem dX11_sell_38 : decode cX11_sell 38 = .ok (.getfield 34, 3) := by decide +kernel
theorem dX11_sell_41 : decode cX11_sell 41 = .ok (.iload_n 1, 1) := by decide +kernel
theorem dX11_sell_42 : decode cX11_sell 42 = .ok (.baload, 1) := by decide +kernel
theorem dX11_sell_43 : decode cX11_sell 43 = .ok (.ifCond .eq 9, 3) := by decide +kernel
theorem dX11_sell_46 : decode cX11_sell 46 = .ok (.aload_n 0, 1) := by decide +kernel
theorem dX11_sell_47 : decode cX11_sell 47 = .ok (.iconst 3, 1) := by decide +kernel
theorem dX11_sell_48 : decode cX11_sell 48 = .ok (.invokevirtual 119, 3) := by decide +kernel
theorem dX11_sell_51 : decode cX11_sell 51 = .ok (.ireturn, 1) := by decide +kernel
theorem dX11_sell_52 : decode cX11_sell 52 = .ok (.iconst 0, 1) := by decide +kernel
theorem dX11_sell_53 : decode cX11_sell 53 = .ok (.istore_n 3, 1) := by decide +kernel
theorem dX11_sell_54 : decode cX11_sell 54 = .ok (.iload_n 2, 1) := by decide +kernel
theorem dX11_sell_55 : decode cX11_sell 55 = .ok (.istore 4, 2) := by decide +kernel
theorem dX11_sell_57 : decode cX11_sell 57 = .ok (.iload 4, 2) := by decide +kernel
theorem dX11_sell_59 : decode cX11_sell 59 = .ok (.ifCond .le 132, 3) := by decide +kernel
theorem dX11_sell_62 : decode cX11_sell 62 = .ok (.aload_n 0, 1) := by decide +kernel
theorem dX11_sell_63 : decode cX11_sell 63 = .ok (.getfield 30, 3) := by decide +kernel
theorem dX11_sell_66 : decode cX11_sell 66 = .ok (.iload_n 1, 1) := by decide +kernel
theorem dX11_sell_67 : decode cX11_sell 67 = .ok (.iaload, 1) := by decide +kernel
theorem dX11_sell_68 : decode cX11_sell 68 = .ok (.ifCond .le 123, 3) := by decide +kernel
theorem dX11_sell_71 : decode cX11_sell 71 = .ok (.aload_n 0, 1) := by decide +kernel
theorem dX11_sell_72 : decode cX11_sell 72 = .ok (.getfield 24, 3) := by decide +kernel
theorem dX11_sell_75 : decode cX11_sell 75 = .ok (.aload_n 0, 1) := by decide +kernel
theorem dX11_sell_76 : decode cX11_sell 76 = .ok (.getfield 27, 3) := by decide +kernel
theorem dX11_sell_79 : decode cX11_sell 79 = .ok (.iload_n 1, 1) := by decide +kernel
theorem dX11_sell_80 : decode cX11_sell 80 = .ok (.aaload, 1) := by decide +kernel
theorem dX11_sell_81 : decode cX11_sell 81 = .ok (.iconst 0, 1) := by decide +kernel
theorem dX11_sell_82 : decode cX11_sell 82 = .ok (.iaload, 1) := by decide +kernel
theorem dX11_sell_83 : decode cX11_sell 83 = .ok (.invokeinterface 93 2, 5) := by decide +kernel
theorem dX11_sell_88 : decode cX11_sell 88 = .ok (.checkcast 97, 3) := by decide +kernel
theorem dX11_sell_91 : decode cX11_sell 91 = .ok (.astore 5, 2) := by decide +kernel
theorem dX11_sell_93 : decode cX11_sell 93 = .ok (.iload 4, 2) := by decide +kernel
theorem dX11_sell_95 : decode cX11_sell 95 = .ok (.aload 5, 2) := by decide +kernel
theorem dX11_sell_97 : decode cX11_sell 97 = .ok (.getfield 197, 3) := by decide +kernel
theorem dX11_sell_100 : decode cX11_sell 100 = .ok (.invokestatic 133, 3) := by decide +kernel
theorem dX11_sell_103 : decode cX11_sell 103 = .ok (.istore 6, 2) := by decide +kernel
theorem dX11_sell_105 : decode cX11_sell 105 = .ok (.aload 5, 2) := by decide +kernel
theorem dX11_sell_107 : decode cX11_sell 107 = .ok (.dup, 1) := by decide +kernel
theorem dX11_sell_108 : decode cX11_sell 108 = .ok (.getfield 197, 3) := by decide +kernel
theorem dX11_sell_111 : decode cX11_sell 111 = .ok (.iload 6, 2) := by decide +kernel
theorem dX11_sell_113 : decode cX11_sell 113 = .ok (.isub, 1) := by decide +kernel
theorem dX11_sell_114 : decode cX11_sell 114 = .ok (.putfield 197, 3) := by decide +kernel
theorem dX11_sell_117 : decode cX11_sell 117 = .ok (.iload 4, 2) := by decide +kernel
theorem dX11_sell_119 : decode cX11_sell 119 = .ok (.iload 6, 2) := by decide +kernel
theorem dX11_sell_121 : decode cX11_sell 121 = .ok (.isub, 1) := by decide +kernel
theorem dX11_sell_122 : decode cX11_sell 122 = .ok (.istore 4, 2) := by decide +kernel
theorem dX11_sell_124 : decode cX11_sell 124 = .ok (.iload_n 3, 1) := by decide +kernel
theorem dX11_sell_125 : decode cX11_sell 125 = .ok (.iload 6, 2) := by decide +kernel
theorem dX11_sell_127 : decode cX11_sell 127 = .ok (.aload 5, 2) := by decide +kernel
theorem dX11_sell_129 : decode cX11_sell 129 = .ok (.getfield 185, 3) := by decide +kernel
theorem dX11_sell_132 : decode cX11_sell 132 = .ok (.iconst 5, 1) := by decide +kernel
theorem dX11_sell_133 : decode cX11_sell 133 = .ok (.if_icmp .le 7, 3) := by decide +kernel
theorem dX11_sell_136 : decode cX11_sell 136 = .ok (.iconst 4, 1) := by decide +kernel
theorem dX11_sell_137 : decode cX11_sell 137 = .ok (.goto 4, 3) := by decide +kernel
theorem dX11_sell_140 : decode cX11_sell 140 = .ok (.iconst 3, 1) := by decide +kernel
theorem dX11_sell_141 : decode cX11_sell 141 = .ok (.imul, 1) := by decide +kernel
theorem dX11_sell_142 : decode cX11_sell 142 = .ok (.iadd, 1) := by decide +kernel
theorem dX11_sell_143 : decode cX11_sell 143 = .ok (.istore_n 3, 1) := by decide +kernel
theorem dX11_sell_144 : decode cX11_sell 144 = .ok (.aload 5, 2) := by decide +kernel
theorem dX11_sell_146 : decode cX11_sell 146 = .ok (.getfield 197, 3) := by decide +kernel
theorem dX11_sell_149 : decode cX11_sell 149 = .ok (.ifCond .le 6, 3) := by decide +kernel
theorem dX11_sell_152 : decode cX11_sell 152 = .ok (.goto 39, 3) := by decide +kernel
theorem dX11_sell_155 : decode cX11_sell 155 = .ok (.aload_n 0, 1) := by decide +kernel
theorem dX11_sell_156 : decode cX11_sell 156 = .ok (.getfield 30, 3) := by decide +kernel
theorem dX11_sell_159 : decode cX11_sell 159 = .ok (.iload_n 1, 1) := by decide +kernel
theorem dX11_sell_160 : decode cX11_sell 160 = .ok (.dup2, 1) := by decide +kernel
theorem dX11_sell_161 : decode cX11_sell 161 = .ok (.iaload, 1) := by decide +kernel
theorem dX11_sell_162 : decode cX11_sell 162 = .ok (.iconst 1, 1) := by decide +kernel
theorem dX11_sell_163 : decode cX11_sell 163 = .ok (.isub, 1) := by decide +kernel
theorem dX11_sell_164 : decode cX11_sell 164 = .ok (.iastore, 1) := by decide +kernel
theorem dX11_sell_165 : decode cX11_sell 165 = .ok (.aload_n 0, 1) := by decide +kernel
theorem dX11_sell_166 : decode cX11_sell 166 = .ok (.getfield 27, 3) := by decide +kernel
theorem dX11_sell_169 : decode cX11_sell 169 = .ok (.iload_n 1, 1) := by decide +kernel
theorem dX11_sell_170 : decode cX11_sell 170 = .ok (.aaload, 1) := by decide +kernel
theorem dX11_sell_171 : decode cX11_sell 171 = .ok (.iconst 1, 1) := by decide +kernel
theorem dX11_sell_172 : decode cX11_sell 172 = .ok (.aload_n 0, 1) := by decide +kernel
theorem dX11_sell_173 : decode cX11_sell 173 = .ok (.getfield 27, 3) := by decide +kernel
theorem dX11_sell_176 : decode cX11_sell 176 = .ok (.iload_n 1, 1) := by decide +kernel
theorem dX11_sell_177 : decode cX11_sell 177 = .ok (.aaload, 1) := by decide +kernel
theorem dX11_sell_178 : decode cX11_sell 178 = .ok (.iconst 0, 1) := by decide +kernel
theorem dX11_sell_179 : decode cX11_sell 179 = .ok (.aload_n 0, 1) := by decide +kernel
theorem dX11_sell_180 : decode cX11_sell 180 = .ok (.getfield 30, 3) := by decide +kernel
theorem dX11_sell_183 : decode cX11_sell 183 = .ok (.iload_n 1, 1) := by decide +kernel
theorem dX11_sell_184 : decode cX11_sell 184 = .ok (.iaload, 1) := by decide +kernel
theorem dX11_sell_185 : decode cX11_sell 185 = .ok (.invokestatic 123, 3) := by decide +kernel
theorem dX11_sell_188 : decode cX11_sell 188 = .ok (.goto (-131), 3) := by decide +kernel
theorem dX11_sell_191 : decode cX11_sell 191 = .ok (.aload_n 0, 1) := by decide +kernel
theorem dX11_sell_192 : decode cX11_sell 192 = .ok (.dup, 1) := by decide +kernel
theorem dX11_sell_193 : decode cX11_sell 193 = .ok (.getfield 200, 3) := by decide +kernel
theorem dX11_sell_196 : decode cX11_sell 196 = .ok (.iload_n 3, 1) := by decide +kernel
theorem dX11_sell_197 : decode cX11_sell 197 = .ok (.iadd, 1) := by decide +kernel
theorem dX11_sell_198 : decode cX11_sell 198 = .ok (.putfield 200, 3) := by decide +kernel
theorem dX11_sell_201 : decode cX11_sell 201 = .ok (.iload_n 3, 1) := by decide +kernel
theorem dX11_sell_202 : decode cX11_sell 202 = .ok (.ireturn, 1) := by decide +kernel
theorem dX11_open_0 : decode cX11_open 0 = .ok (.aload_n 0, 1) := by decide +kernel
theorem dX11_open_1 : decode cX11_open 1 = .ok (.iconst 0, 1) := by decide +kernel
theorem dX11_open_2 : decode cX11_open 2 = .ok (.putfield 52, 3) := by decide +kernel
theorem dX11_open_5 : decode cX11_open 5 = .ok (.iload_n 1, 1) := by decide +kernel
theorem dX11_open_6 : decode cX11_open 6 = .ok (.iconst 0, 1) := by decide +kernel
theorem dX11_open_7 : decode cX11_open 7 = .ok (.iconst 1, 1) := by decide +kernel
theorem dX11_open_8 : decode cX11_open 8 = .ok (.invokestatic 59, 3) := by decide +kernel
theorem dX11_open_11 : decode cX11_open 11 = .ok (.ifCond .ne 17, 3) := by decide +kernel
theorem dX11_open_14 : decode cX11_open 14 = .ok (.aload_n 0, 1) := by decide +kernel
theorem dX11_open_15 : decode cX11_open 15 = .ok (.iconst 1, 1) := by decide +kernel
theorem dX11_open_16 : decode cX11_open 16 = .ok (.invokevirtual 119, 3) := by decide +kernel
theorem dX11_open_19 : decode cX11_open 19 = .ok (.ifCond .le 7, 3) := by decide +kernel
theorem dX11_open_22 : decode cX11_open 22 = .ok (.iconst 1, 1) := by decide +kernel
theorem dX11_open_23 : decode cX11_open 23 = .ok (.goto 4, 3) := by decide +kernel
theorem dX11_open_26 : decode cX11_open 26 = .ok (.iconst 0, 1) := by decide +kernel
theorem dX11_open_27 : decode cX11_open 27 = .ok (.ireturn, 1) := by decide +kernel
theorem dX11_open_28 : decode cX11_open 28 = .ok (.aload_n 0, 1) := by decide +kernel
theorem dX11_open_29 : decode cX11_open 29 = .ok (.getfield 34, 3) := by decide +kernel
theorem dX11_open_32 : decode cX11_open 32 = .ok (.iload_n 1, 1) := by decide +kernel
theorem dX11_open_33 : decode cX11_open 33 = .ok (.baload, 1) := by decide +kernel
theorem dX11_open_34 : decode cX11_open 34 = .ok (.istore_n 2, 1) := by decide +kernel
theorem dX11_open_35 : decode cX11_open 35 = .ok (.aload_n 0, 1) := by decide +kernel
theorem dX11_open_36 : decode cX11_open 36 = .ok (.getfield 34, 3) := by decide +kernel
theorem dX11_open_39 : decode cX11_open 39 = .ok (.iload_n 1, 1) := by decide +kernel
theorem dX11_open_40 : decode cX11_open 40 = .ok (.iconst 0, 1) := by decide +kernel
theorem dX11_open_41 : decode cX11_open 41 = .ok (.bastore, 1) := by decide +kernel
theorem dX11_open_42 : decode cX11_open 42 = .ok (.iload_n 2, 1) := by decide +kernel
theorem dX11_open_43 : decode cX11_open 43 = .ok (.ireturn, 1) := by decide +kernel
theorem dX11_inWindow_0 : decode cX11_inWindow 0 = .ok (.bipush 6, 2) := by decide +kernel
theorem dX11_inWindow_2 : decode cX11_inWindow 2 = .ok (.aload_n 0, 1) := by decide +kernel
theorem dX11_inWindow_3 : decode cX11_inWindow 3 = .ok (.getfield 203, 3) := by decide +kernel
theorem dX11_inWindow_6 : decode cX11_inWindow 6 = .ok (.invokestatic 133, 3) := by decide +kernel
theorem dX11_inWindow_9 : decode cX11_inWindow 9 = .ok (.ireturn, 1) := by decide +kernel
theorem dX11_sum_0 : decode cX11_sum 0 = .ok (.iconst 0, 1) := by decide +kernel
theorem dX11_sum_1 : decode cX11_sum 1 = .ok (.istore_n 1, 1) := by decide +kernel
theorem dX11_sum_2 : decode cX11_sum 2 = .ok (.iconst 0, 1) := by decide +kernel
theorem dX11_sum_3 : decode cX11_sum 3 = .ok (.istore_n 2, 1) := by decide +kernel
theorem dX11_sum_4 : decode cX11_sum 4 = .ok (.iload_n 2, 1) := by decide +kernel
theorem dX11_sum_5 : decode cX11_sum 5 = .ok (.aload_n 0, 1) := by decide +kernel
theorem dX11_sum_6 : decode cX11_sum 6 = .ok (.invokevirtual 206, 3) := by decide +kernel
theorem dX11_sum_9 : decode cX11_sum 9 = .ok (.if_icmp .ge 18, 3) := by decide +kernel
theorem dX11_sum_12 : decode cX11_sum 12 = .ok (.iload_n 1, 1) := by decide +kernel
theorem dX11_sum_13 : decode cX11_sum 13 = .ok (.aload_n 0, 1) := by decide +kernel
theorem dX11_sum_14 : decode cX11_sum 14 = .ok (.getfield 38, 3) := by decide +kernel
theorem dX11_sum_17 : decode cX11_sum 17 = .ok (.iload_n 2, 1) := by decide +kernel
theorem dX11_sum_18 : decode cX11_sum 18 = .ok (.iaload, 1) := by decide +kernel
theorem dX11_sum_19 : decode cX11_sum 19 = .ok (.iadd, 1) := by decide +kernel
theorem dX11_sum_20 : decode cX11_sum 20 = .ok (.istore_n 1, 1) := by decide +kernel
theorem dX11_sum_21 : decode cX11_sum 21 = .ok (.iinc 2 1, 3) := by decide +kernel
theorem dX11_sum_24 : decode cX11_sum 24 = .ok (.goto (-20), 3) := by decide +kernel
theorem dX11_sum_27 : decode cX11_sum 27 = .ok (.iload_n 1, 1) := by decide +kernel
theorem dX11_sum_28 : decode cX11_sum 28 = .ok (.ireturn, 1) := by decide +kernel
theorem dX11_conformNow_0 : decode cX11_conformNow 0 = .ok (.aload_n 0, 1) := by decide +kernel
theorem dX11_conformNow_1 : decode cX11_conformNow 1 = .ok (.invokevirtual 209, 3) := by decide +kernel
theorem dX11_conformNow_4 : decode cX11_conformNow 4 = .ok (.aload_n 0, 1) := by decide +kernel
theorem dX11_conformNow_5 : decode cX11_conformNow 5 = .ok (.getfield 48, 3) := by decide +kernel
theorem dX11_conformNow_8 : decode cX11_conformNow 8 = .ok (.aload_n 0, 1) := by decide +kernel
theorem dX11_conformNow_9 : decode cX11_conformNow 9 = .ok (.invokevirtual 206, 3) := by decide +kernel
theorem dX11_conformNow_12 : decode cX11_conformNow 12 = .ok (.imul, 1) := by decide +kernel
theorem dX11_conformNow_13 : decode cX11_conformNow 13 = .ok (.if_icmp .lt 7, 3) := by decide +kernel
theorem dX11_conformNow_16 : decode cX11_conformNow 16 = .ok (.iconst 1, 1) := by decide +kernel
theorem dX11_conformNow_17 : decode cX11_conformNow 17 = .ok (.goto 4, 3) := by decide +kernel
theorem dX11_conformNow_20 : decode cX11_conformNow 20 = .ok (.iconst 0, 1) := by decide +kernel
theorem dX11_conformNow_21 : decode cX11_conformNow 21 = .ok (.istore_n 1, 1) := by decide +kernel
theorem dX11_conformNow_22 : decode cX11_conformNow 22 = .ok (.iconst 0, 1) := by decide +kernel
theorem dX11_conformNow_23 : decode cX11_conformNow 23 = .ok (.istore_n 2, 1) := by decide +kernel
theorem dX11_conformNow_24 : decode cX11_conformNow 24 = .ok (.iload_n 2, 1) := by decide +kernel
theorem dX11_conformNow_25 : decode cX11_conformNow 25 = .ok (.aload_n 0, 1) := by decide +kernel
theorem dX11_conformNow_26 : decode cX11_conformNow 26 = .ok (.invokevirtual 206, 3) := by decide +kernel
theorem dX11_conformNow_29 : decode cX11_conformNow 29 = .ok (.if_icmp .ge 32, 3) := by decide +kernel
theorem dX11_conformNow_32 : decode cX11_conformNow 32 = .ok (.iload_n 1, 1) := by decide +kernel
theorem dX11_conformNow_33 : decode cX11_conformNow 33 = .ok (.aload_n 0, 1) := by decide +kernel
theorem dX11_conformNow_34 : decode cX11_conformNow 34 = .ok (.getfield 38, 3) := by decide +kernel
theorem dX11_conformNow_37 : decode cX11_conformNow 37 = .ok (.iload_n 2, 1) := by decide +kernel
theorem dX11_conformNow_38 : decode cX11_conformNow 38 = .ok (.iaload, 1) := by decide +kernel
theorem dX11_conformNow_39 : decode cX11_conformNow 39 = .ok (.aload_n 0, 1) := by decide +kernel
theorem dX11_conformNow_40 : decode cX11_conformNow 40 = .ok (.getfield 48, 3) := by decide +kernel
theorem dX11_conformNow_43 : decode cX11_conformNow 43 = .ok (.iconst 4, 1) := by decide +kernel
theorem dX11_conformNow_44 : decode cX11_conformNow 44 = .ok (.isub, 1) := by decide +kernel
theorem dX11_conformNow_45 : decode cX11_conformNow 45 = .ok (.if_icmp .lt 7, 3) := by decide +kernel
theorem dX11_conformNow_48 : decode cX11_conformNow 48 = .ok (.iconst 1, 1) := by decide +kernel
theorem dX11_conformNow_49 : decode cX11_conformNow 49 = .ok (.goto 4, 3) := by decide +kernel
theorem dX11_conformNow_52 : decode cX11_conformNow 52 = .ok (.iconst 0, 1) := by decide +kernel
theorem dX11_conformNow_53 : decode cX11_conformNow 53 = .ok (.iand, 1) := by decide +kernel
theorem dX11_conformNow_54 : decode cX11_conformNow 54 = .ok (.istore_n 1, 1) := by decide +kernel
theorem dX11_conformNow_55 : decode cX11_conformNow 55 = .ok (.iinc 2 1, 3) := by decide +kernel
theorem dX11_conformNow_58 : decode cX11_conformNow 58 = .ok (.goto (-34), 3) := by decide +kernel
theorem dX11_conformNow_61 : decode cX11_conformNow 61 = .ok (.iload_n 1, 1) := by decide +kernel
theorem dX11_conformNow_62 : decode cX11_conformNow 62 = .ok (.ireturn, 1) := by decide +kernel
theorem dX11_cube_0 : decode cX11_cube 0 = .ok (.aload_n 0, 1) := by decide +kernel
theorem dX11_cube_1 : decode cX11_cube 1 = .ok (.iconst 0, 1) := by decide +kernel
theorem dX11_cube_2 : decode cX11_cube 2 = .ok (.putfield 52, 3) := by decide +kernel
theorem dX11_cube_5 : decode cX11_cube 5 = .ok (.aload_n 0, 1) := by decide +kernel
theorem dX11_cube_6 : decode cX11_cube 6 = .ok (.iload_n 1, 1) := by decide +kernel
theorem dX11_cube_7 : decode cX11_cube 7 = .ok (.invokevirtual 179, 3) := by decide +kernel
theorem dX11_cube_10 : decode cX11_cube 10 = .ok (.ifCond .ne 9, 3) := by decide +kernel
theorem dX11_cube_13 : decode cX11_cube 13 = .ok (.aload_n 0, 1) := by decide +kernel
theorem dX11_cube_14 : decode cX11_cube 14 = .ok (.iconst 1, 1) := by decide +kernel
theorem dX11_cube_15 : decode cX11_cube 15 = .ok (.invokevirtual 119, 3) := by decide +kernel
theorem dX11_cube_18 : decode cX11_cube 18 = .ok (.ireturn, 1) := by decide +kernel
theorem dX11_cube_19 : decode cX11_cube 19 = .ok (.iload_n 2, 1) := by decide +kernel
theorem dX11_cube_20 : decode cX11_cube 20 = .ok (.iconst 0, 1) := by decide +kernel
theorem dX11_cube_21 : decode cX11_cube 21 = .ok (.iconst 2, 1) := by decide +kernel
theorem dX11_cube_22 : decode cX11_cube 22 = .ok (.invokestatic 59, 3) := by decide +kernel
theorem dX11_cube_25 : decode cX11_cube 25 = .ok (.ifCond .ne 9, 3) := by decide +kernel
theorem dX11_cube_28 : decode cX11_cube 28 = .ok (.aload_n 0, 1) := by decide +kernel
theorem dX11_cube_29 : decode cX11_cube 29 = .ok (.iconst 2, 1) := by decide +kernel
theorem dX11_cube_30 : decode cX11_cube 30 = .ok (.invokevirtual 119, 3) := by decide +kernel
theorem dX11_cube_33 : decode cX11_cube 33 = .ok (.ireturn, 1) := by decide +kernel
theorem dX11_cube_34 : decode cX11_cube 34 = .ok (.aload_n 0, 1) := by decide +kernel
theorem dX11_cube_35 : decode cX11_cube 35 = .ok (.getfield 24, 3) := by decide +kernel
theorem dX11_cube_38 : decode cX11_cube 38 = .ok (.iload_n 1, 1) := by decide +kernel
theorem dX11_cube_39 : decode cX11_cube 39 = .ok (.invokeinterface 93 2, 5) := by decide +kernel
theorem dX11_cube_44 : decode cX11_cube 44 = .ok (.checkcast 97, 3) := by decide +kernel
theorem dX11_cube_47 : decode cX11_cube 47 = .ok (.astore_n 3, 1) := by decide +kernel
theorem dX11_cube_48 : decode cX11_cube 48 = .ok (.aload_n 3, 1) := by decide +kernel
theorem dX11_cube_49 : decode cX11_cube 49 = .ok (.invokevirtual 182, 3) := by decide +kernel
theorem dX11_cube_52 : decode cX11_cube 52 = .ok (.ifCond .eq 13, 3) := by decide +kernel
theorem dX11_cube_55 : decode cX11_cube 55 = .ok (.aload_n 3, 1) := by decide +kernel
theorem dX11_cube_56 : decode cX11_cube 56 = .ok (.getfield 212, 3) := by decide +kernel
theorem dX11_cube_59 : decode cX11_cube 59 = .ok (.iload_n 2, 1) := by decide +kernel
theorem dX11_cube_60 : decode cX11_cube 60 = .ok (.iaload, 1) := by decide +kernel
theorem dX11_cube_61 : decode cX11_cube 61 = .ok (.iconst (-1), 1) := by decide +kernel
theorem dX11_cube_62 : decode cX11_cube 62 = .ok (.if_icmp .eq 9, 3) := by decide +kernel
theorem dX11_cube_65 : decode cX11_cube 65 = .ok (.aload_n 0, 1) := by decide +kernel
theorem dX11_cube_66 : decode cX11_cube 66 = .ok (.iconst 3, 1) := by decide +kernel
theorem dX11_cube_67 : decode cX11_cube 67 = .ok (.invokevirtual 119, 3) := by decide +kernel
theorem dX11_cube_70 : decode cX11_cube 70 = .ok (.ireturn, 1) := by decide +kernel
theorem dX11_cube_71 : decode cX11_cube 71 = .ok (.aload_n 3, 1) := by decide +kernel
theorem dX11_cube_72 : decode cX11_cube 72 = .ok (.getfield 212, 3) := by decide +kernel
theorem dX11_cube_75 : decode cX11_cube 75 = .ok (.iload_n 2, 1) := by decide +kernel
theorem dX11_cube_76 : decode cX11_cube 76 = .ok (.aload_n 3, 1) := by decide +kernel
theorem dX11_cube_77 : decode cX11_cube 77 = .ok (.iload_n 2, 1) := by decide +kernel
theorem dX11_cube_78 : decode cX11_cube 78 = .ok (.invokevirtual 214, 3) := by decide +kernel
theorem dX11_cube_81 : decode cX11_cube 81 = .ok (.iastore, 1) := by decide +kernel
theorem dX11_cube_82 : decode cX11_cube 82 = .ok (.iload_n 2, 1) := by decide +kernel
theorem dX11_cube_83 : decode cX11_cube 83 = .ok (.iconst 2, 1) := by decide +kernel
theorem dX11_cube_84 : decode cX11_cube 84 = .ok (.if_icmp .ge 10, 3) := by decide +kernel
theorem dX11_cube_87 : decode cX11_cube 87 = .ok (.aload_n 3, 1) := by decide +kernel
theorem dX11_cube_88 : decode cX11_cube 88 = .ok (.getfield 212, 3) := by decide +kernel
theorem dX11_cube_91 : decode cX11_cube 91 = .ok (.iload_n 2, 1) := by decide +kernel
theorem dX11_cube_92 : decode cX11_cube 92 = .ok (.iaload, 1) := by decide +kernel
theorem dX11_cube_93 : decode cX11_cube 93 = .ok (.ireturn, 1) := by decide +kernel
theorem dX11_cube_94 : decode cX11_cube 94 = .ok (.aload_n 0, 1) := by decide +kernel
theorem dX11_cube_95 : decode cX11_cube 95 = .ok (.getfield 38, 3) := by decide +kernel
theorem dX11_cube_98 : decode cX11_cube 98 = .ok (.aload_n 0, 1) := by decide +kernel
theorem dX11_cube_99 : decode cX11_cube 99 = .ok (.dup, 1) := by decide +kernel
theorem dX11_cube_100 : decode cX11_cube 100 = .ok (.getfield 203, 3) := by decide +kernel
theorem dX11_cube_103 : decode cX11_cube 103 = .ok (.dup_x1, 1) := by decide +kernel
theorem dX11_cube_104 : decode cX11_cube 104 = .ok (.iconst 1, 1) := by decide +kernel
theorem dX11_cube_105 : decode cX11_cube 105 = .ok (.iadd, 1) := by decide +kernel
theorem dX11_cube_106 : decode cX11_cube 106 = .ok (.putfield 203, 3) := by decide +kernel
theorem dX11_cube_109 : decode cX11_cube 109 = .ok (.bipush 6, 2) := by decide +kernel
theorem dX11_cube_111 : decode cX11_cube 111 = .ok (.irem, 1) := by decide +kernel
theorem dX11_cube_112 : decode cX11_cube 112 = .ok (.aload_n 3, 1) := by decide +kernel
theorem dX11_cube_113 : decode cX11_cube 113 = .ok (.getfield 212, 3) := by decide +kernel
theorem dX11_cube_116 : decode cX11_cube 116 = .ok (.iconst 2, 1) := by decide +kernel
theorem dX11_cube_117 : decode cX11_cube 117 = .ok (.iaload, 1) := by decide +kernel
theorem dX11_cube_118 : decode cX11_cube 118 = .ok (.iastore, 1) := by decide +kernel
theorem dX11_cube_119 : decode cX11_cube 119 = .ok (.aload_n 0, 1) := by decide +kernel
theorem dX11_cube_120 : decode cX11_cube 120 = .ok (.invokevirtual 217, 3) := by decide +kernel
theorem dX11_cube_123 : decode cX11_cube 123 = .ok (.ifCond .ne 37, 3) := by decide +kernel
theorem dX11_cube_126 : decode cX11_cube 126 = .ok (.aload_n 0, 1) := by decide +kernel
theorem dX11_cube_127 : decode cX11_cube 127 = .ok (.dup, 1) := by decide +kernel
theorem dX11_cube_128 : decode cX11_cube 128 = .ok (.getfield 220, 3) := by decide +kernel
theorem dX11_cube_131 : decode cX11_cube 131 = .ok (.iconst 1, 1) := by decide +kernel
theorem dX11_cube_132 : decode cX11_cube 132 = .ok (.iadd, 1) := by decide +kernel
theorem dX11_cube_133 : decode cX11_cube 133 = .ok (.putfield 220, 3) := by decide +kernel
theorem dX11_cube_136 : decode cX11_cube 136 = .ok (.aload_n 0, 1) := by decide +kernel
theorem dX11_cube_137 : decode cX11_cube 137 = .ok (.getfield 34, 3) := by decide +kernel
theorem dX11_cube_140 : decode cX11_cube 140 = .ok (.aload_n 3, 1) := by decide +kernel
theorem dX11_cube_141 : decode cX11_cube 141 = .ok (.getfield 191, 3) := by decide +kernel
theorem dX11_cube_144 : decode cX11_cube 144 = .ok (.dup2, 1) := by decide +kernel
theorem dX11_cube_145 : decode cX11_cube 145 = .ok (.baload, 1) := by decide +kernel
theorem dX11_cube_146 : decode cX11_cube 146 = .ok (.aload_n 3, 1) := by decide +kernel
theorem dX11_cube_147 : decode cX11_cube 147 = .ok (.getfield 197, 3) := by decide +kernel
theorem dX11_cube_150 : decode cX11_cube 150 = .ok (.ifCond .le 7, 3) := by decide +kernel
theorem dX11_cube_153 : decode cX11_cube 153 = .ok (.iconst 1, 1) := by decide +kernel
theorem dX11_cube_154 : decode cX11_cube 154 = .ok (.goto 4, 3) := by decide +kernel
theorem dX11_cube_157 : decode cX11_cube 157 = .ok (.iconst 0, 1) := by decide +kernel
theorem dX11_cube_158 : decode cX11_cube 158 = .ok (.ior, 1) := by decide +kernel
theorem dX11_cube_159 : decode cX11_cube 159 = .ok (.bastore, 1) := by decide +kernel
theorem dX11_cube_160 : decode cX11_cube 160 = .ok (.aload_n 3, 1) := by decide +kernel
theorem dX11_cube_161 : decode cX11_cube 161 = .ok (.getfield 212, 3) := by decide +kernel
theorem dX11_cube_164 : decode cX11_cube 164 = .ok (.iconst 2, 1) := by decide +kernel
theorem dX11_cube_165 : decode cX11_cube 165 = .ok (.iaload, 1) := by decide +kernel
theorem dX11_cube_166 : decode cX11_cube 166 = .ok (.ireturn, 1) := by decide +kernel
theorem dX11_standard_0 : decode cX11_standard 0 = .ok (.aload_n 0, 1) := by decide +kernel
theorem dX11_standard_1 : decode cX11_standard 1 = .ok (.iconst 0, 1) := by decide +kernel
theorem dX11_standard_2 : decode cX11_standard 2 = .ok (.putfield 52, 3) := by decide +kernel
theorem dX11_standard_5 : decode cX11_standard 5 = .ok (.iload_n 1, 1) := by decide +kernel
theorem dX11_standard_6 : decode cX11_standard 6 = .ok (.iconst 0, 1) := by decide +kernel
theorem dX11_standard_7 : decode cX11_standard 7 = .ok (.bipush 99, 2) := by decide +kernel
theorem dX11_standard_9 : decode cX11_standard 9 = .ok (.invokestatic 59, 3) := by decide +kernel
theorem dX11_standard_12 : decode cX11_standard 12 = .ok (.ifCond .ne 9, 3) := by decide +kernel
theorem dX11_standard_15 : decode cX11_standard 15 = .ok (.aload_n 0, 1) := by decide +kernel
theorem dX11_standard_16 : decode cX11_standard 16 = .ok (.iconst 1, 1) := by decide +kernel
theorem dX11_standard_17 : decode cX11_standard 17 = .ok (.invokevirtual 119, 3) := by decide +kernel
theorem dX11_standard_20 : decode cX11_standard 20 = .ok (.ireturn, 1) := by decide +kernel
theorem dX11_standard_21 : decode cX11_standard 21 = .ok (.aload_n 0, 1) := by decide +kernel
theorem dX11_standard_22 : decode cX11_standard 22 = .ok (.getfield 48, 3) := by decide +kernel
theorem dX11_standard_25 : decode cX11_standard 25 = .ok (.istore_n 2, 1) := by decide +kernel
theorem dX11_standard_26 : decode cX11_standard 26 = .ok (.aload_n 0, 1) := by decide +kernel
theorem dX11_standard_27 : decode cX11_standard 27 = .ok (.iload_n 1, 1) := by decide +kernel
theorem dX11_standard_28 : decode cX11_standard 28 = .ok (.putfield 48, 3) := by decide +kernel
theorem dX11_standard_31 : decode cX11_standard 31 = .ok (.iload_n 2, 1) := by decide +kernel
theorem dX11_standard_32 : decode cX11_standard 32 = .ok (.ireturn, 1) := by decide +kernel
theorem dX11_blockNow_0 : decode cX11_blockNow 0 = .ok (.iconst 4, 1) := by decide +kernel
theorem dX11_blockNow_1 : decode cX11_blockNow 1 = .ok (.newarray .int, 2) := by decide +kernel
theorem dX11_blockNow_3 : decode cX11_blockNow 3 = .ok (.dup, 1) := by decide +kernel
theorem dX11_blockNow_4 : decode cX11_blockNow 4 = .ok (.iconst 0, 1) := by decide +kernel
theorem dX11_blockNow_5 : decode cX11_blockNow 5 = .ok (.iconst 5, 1) := by decide +kernel
theorem dX11_blockNow_6 : decode cX11_blockNow 6 = .ok (.iastore, 1) := by decide +kernel
theorem dX11_blockNow_7 : decode cX11_blockNow 7 = .ok (.dup, 1) := by decide +kernel
theorem dX11_blockNow_8 : decode cX11_blockNow 8 = .ok (.iconst 1, 1) := by decide +kernel
theorem dX11_blockNow_9 : decode cX11_blockNow 9 = .ok (.iconst 2, 1) := by decide +kernel
theorem dX11_blockNow_10 : decode cX11_blockNow 10 = .ok (.iastore, 1) := by decide +kernel
theorem dX11_blockNow_11 : decode cX11_blockNow 11 = .ok (.dup, 1) := by decide +kernel
theorem dX11_blockNow_12 : decode cX11_blockNow 12 = .ok (.iconst 2, 1) := by decide +kernel
theorem dX11_blockNow_13 : decode cX11_blockNow 13 = .ok (.iconst 1, 1) := by decide +kernel
theorem dX11_blockNow_14 : decode cX11_blockNow 14 = .ok (.iastore, 1) := by decide +kernel
theorem dX11_blockNow_15 : decode cX11_blockNow 15 = .ok (.dup, 1) := by decide +kernel
theorem dX11_blockNow_16 : decode cX11_blockNow 16 = .ok (.iconst 3, 1) := by decide +kernel
theorem dX11_blockNow_17 : decode cX11_blockNow 17 = .ok (.iconst 0, 1) := by decide +kernel
theorem dX11_blockNow_18 : decode cX11_blockNow 18 = .ok (.iastore, 1) := by decide +kernel
theorem dX11_blockNow_19 : decode cX11_blockNow 19 = .ok (.astore_n 3, 1) := by decide +kernel
theorem dX11_blockNow_20 : decode cX11_blockNow 20 = .ok (.aload_n 0, 1) := by decide +kernel
theorem dX11_blockNow_21 : decode cX11_blockNow 21 = .ok (.getfield 9, 3) := by decide +kernel
theorem dX11_blockNow_24 : decode cX11_blockNow 24 = .ok (.iload_n 1, 1) := by decide +kernel
theorem dX11_blockNow_25 : decode cX11_blockNow 25 = .ok (.aaload, 1) := by decide +kernel
theorem dX11_blockNow_26 : decode cX11_blockNow 26 = .ok (.astore 4, 2) := by decide +kernel
theorem dX11_blockNow_28 : decode cX11_blockNow 28 = .ok (.iload_n 2, 1) := by decide +kernel
theorem dX11_blockNow_29 : decode cX11_blockNow 29 = .ok (.iconst 2, 1) := by decide +kernel
theorem dX11_blockNow_30 : decode cX11_blockNow 30 = .ok (.if_icmp .ge 10, 3) := by decide +kernel
theorem dX11_blockNow_33 : decode cX11_blockNow 33 = .ok (.aload 4, 2) := by decide +kernel
theorem dX11_blockNow_35 : decode cX11_blockNow 35 = .ok (.iload_n 2, 1) := by decide +kernel
theorem dX11_blockNow_36 : decode cX11_blockNow 36 = .ok (.iaload, 1) := by decide +kernel
theorem dX11_blockNow_37 : decode cX11_blockNow 37 = .ok (.goto 23, 3) := by decide +kernel
theorem dX11_blockNow_40 : decode cX11_blockNow 40 = .ok (.aload 4, 2) := by decide +kernel
theorem dX11_blockNow_42 : decode cX11_blockNow 42 = .ok (.iconst 1, 1) := by decide +kernel
theorem dX11_blockNow_43 : decode cX11_blockNow 43 = .ok (.iaload, 1) := by decide +kernel
theorem dX11_blockNow_44 : decode cX11_blockNow 44 = .ok (.iconst 1, 1) := by decide +kernel
theorem dX11_blockNow_45 : decode cX11_blockNow 45 = .ok (.if_icmp .ne 10, 3) := by decide +kernel
theorem dX11_blockNow_48 : decode cX11_blockNow 48 = .ok (.aload 4, 2) := by decide +kernel
theorem dX11_blockNow_50 : decode cX11_blockNow 50 = .ok (.iload_n 2, 1) := by decide +kernel
theorem dX11_blockNow_51 : decode cX11_blockNow 51 = .ok (.iaload, 1) := by decide +kernel
theorem dX11_blockNow_52 : decode cX11_blockNow 52 = .ok (.goto 8, 3) := by decide +kernel
theorem dX11_blockNow_55 : decode cX11_blockNow 55 = .ok (.aload_n 3, 1) := by decide +kernel
theorem dX11_blockNow_56 : decode cX11_blockNow 56 = .ok (.iload_n 2, 1) := by decide +kernel
theorem dX11_blockNow_57 : decode cX11_blockNow 57 = .ok (.iconst 2, 1) := by decide +kernel
theorem dX11_blockNow_58 : decode cX11_blockNow 58 = .ok (.isub, 1) := by decide +kernel
theorem dX11_blockNow_59 : decode cX11_blockNow 59 = .ok (.iaload, 1) := by decide +kernel
theorem dX11_blockNow_60 : decode cX11_blockNow 60 = .ok (.ireturn, 1) := by decide +kernel
theorem dX11_ofBlock_0 : decode cX11_ofBlock 0 = .ok (.aload_n 0, 1) := by decide +kernel
theorem dX11_ofBlock_1 : decode cX11_ofBlock 1 = .ok (.iconst 0, 1) := by decide +kernel
theorem dX11_ofBlock_2 : decode cX11_ofBlock 2 = .ok (.putfield 52, 3) := by decide +kernel
theorem dX11_ofBlock_5 : decode cX11_ofBlock 5 = .ok (.aload_n 0, 1) := by decide +kernel
theorem dX11_ofBlock_6 : decode cX11_ofBlock 6 = .ok (.iload_n 1, 1) := by decide +kernel
theorem dX11_ofBlock_7 : decode cX11_ofBlock 7 = .ok (.invokevirtual 129, 3) := by decide +kernel
theorem dX11_ofBlock_10 : decode cX11_ofBlock 10 = .ok (.ifCond .ne 9, 3) := by decide +kernel
theorem dX11_ofBlock_13 : decode cX11_ofBlock 13 = .ok (.aload_n 0, 1) := by decide +kernel
theorem dX11_ofBlock_14 : decode cX11_ofBlock 14 = .ok (.iconst 1, 1) := by decide +kernel
theorem dX11_ofBlock_15 : decode cX11_ofBlock 15 = .ok (.invokevirtual 119, 3) := by decide +kernel
theorem dX11_ofBlock_18 : decode cX11_ofBlock 18 = .ok (.ireturn, 1) := by decide +kernel
theorem dX11_ofBlock_19 : decode cX11_ofBlock 19 = .ok (.iload_n 2, 1) := by decide +kernel
theorem dX11_ofBlock_20 : decode cX11_ofBlock 20 = .ok (.iconst 0, 1) := by decide +kernel
theorem dX11_ofBlock_21 : decode cX11_ofBlock 21 = .ok (.iconst 5, 1) := by decide +kernel
theorem dX11_ofBlock_22 : decode cX11_ofBlock 22 = .ok (.invokestatic 59, 3) := by decide +kernel
theorem dX11_ofBlock_25 : decode cX11_ofBlock 25 = .ok (.ifCond .ne 9, 3) := by decide +kernel
theorem dX11_ofBlock_28 : decode cX11_ofBlock 28 = .ok (.aload_n 0, 1) := by decide +kernel
theorem dX11_ofBlock_29 : decode cX11_ofBlock 29 = .ok (.iconst 2, 1) := by decide +kernel
theorem dX11_ofBlock_30 : decode cX11_ofBlock 30 = .ok (.invokevirtual 119, 3) := by decide +kernel
theorem dX11_ofBlock_33 : decode cX11_ofBlock 33 = .ok (.ireturn, 1) := by decide +kernel
theorem dX11_ofBlock_34 : decode cX11_ofBlock 34 = .ok (.aload_n 0, 1) := by decide +kernel
theorem dX11_ofBlock_35 : decode cX11_ofBlock 35 = .ok (.iload_n 1, 1) := by decide +kernel
theorem dX11_ofBlock_36 : decode cX11_ofBlock 36 = .ok (.iload_n 2, 1) := by decide +kernel
theorem dX11_ofBlock_37 : decode cX11_ofBlock 37 = .ok (.invokevirtual 223, 3) := by decide +kernel
theorem dX11_ofBlock_40 : decode cX11_ofBlock 40 = .ok (.ireturn, 1) := by decide +kernel
theorem dX11_ofLayer_0 : decode cX11_ofLayer 0 = .ok (.aload_n 0, 1) := by decide +kernel
theorem dX11_ofLayer_1 : decode cX11_ofLayer 1 = .ok (.iconst 0, 1) := by decide +kernel
theorem dX11_ofLayer_2 : decode cX11_ofLayer 2 = .ok (.putfield 52, 3) := by decide +kernel
theorem dX11_ofLayer_5 : decode cX11_ofLayer 5 = .ok (.iload_n 1, 1) := by decide +kernel
theorem dX11_ofLayer_6 : decode cX11_ofLayer 6 = .ok (.iconst 0, 1) := by decide +kernel
theorem dX11_ofLayer_7 : decode cX11_ofLayer 7 = .ok (.aload_n 0, 1) := by decide +kernel
theorem dX11_ofLayer_8 : decode cX11_ofLayer 8 = .ok (.getfield 116, 3) := by decide +kernel
theorem dX11_ofLayer_11 : decode cX11_ofLayer 11 = .ok (.iconst 1, 1) := by decide +kernel
theorem dX11_ofLayer_12 : decode cX11_ofLayer 12 = .ok (.isub, 1) := by decide +kernel
theorem dX11_ofLayer_13 : decode cX11_ofLayer 13 = .ok (.invokestatic 59, 3) := by decide +kernel
theorem dX11_ofLayer_16 : decode cX11_ofLayer 16 = .ok (.ifCond .ne 9, 3) := by decide +kernel
theorem dX11_ofLayer_19 : decode cX11_ofLayer 19 = .ok (.aload_n 0, 1) := by decide +kernel
theorem dX11_ofLayer_20 : decode cX11_ofLayer 20 = .ok (.iconst 1, 1) := by decide +kernel
theorem dX11_ofLayer_21 : decode cX11_ofLayer 21 = .ok (.invokevirtual 119, 3) := by decide +kernel
theorem dX11_ofLayer_24 : decode cX11_ofLayer 24 = .ok (.ireturn, 1) := by decide +kernel
theorem dX11_ofLayer_25 : decode cX11_ofLayer 25 = .ok (.iload_n 2, 1) := by decide +kernel
theorem dX11_ofLayer_26 : decode cX11_ofLayer 26 = .ok (.iconst 0, 1) := by decide +kernel
theorem dX11_ofLayer_27 : decode cX11_ofLayer 27 = .ok (.iconst 1, 1) := by decide +kernel
theorem dX11_ofLayer_28 : decode cX11_ofLayer 28 = .ok (.invokestatic 59, 3) := by decide +kernel
theorem dX11_ofLayer_31 : decode cX11_ofLayer 31 = .ok (.ifCond .ne 9, 3) := by decide +kernel
theorem dX11_ofLayer_34 : decode cX11_ofLayer 34 = .ok (.aload_n 0, 1) := by decide +kernel
theorem dX11_ofLayer_35 : decode cX11_ofLayer 35 = .ok (.iconst 2, 1) := by decide +kernel
theorem dX11_ofLayer_36 : decode cX11_ofLayer 36 = .ok (.invokevirtual 119, 3) := by decide +kernel
theorem dX11_ofLayer_39 : decode cX11_ofLayer 39 = .ok (.ireturn, 1) := by decide +kernel
theorem dX11_ofLayer_40 : decode cX11_ofLayer 40 = .ok (.aload_n 0, 1) := by decide +kernel
theorem dX11_ofLayer_41 : decode cX11_ofLayer 41 = .ok (.getfield 14, 3) := by decide +kernel
theorem dX11_ofLayer_44 : decode cX11_ofLayer 44 = .ok (.iload_n 1, 1) := by decide +kernel
theorem dX11_ofLayer_45 : decode cX11_ofLayer 45 = .ok (.aaload, 1) := by decide +kernel
theorem dX11_ofLayer_46 : decode cX11_ofLayer 46 = .ok (.iload_n 2, 1) := by decide +kernel
theorem dX11_ofLayer_47 : decode cX11_ofLayer 47 = .ok (.iaload, 1) := by decide +kernel
theorem dX11_ofLayer_48 : decode cX11_ofLayer 48 = .ok (.ireturn, 1) := by decide +kernel
theorem dX11_cellNow_0 : decode cX11_cellNow 0 = .ok (.iload_n 2, 1) := by decide +kernel
theorem dX11_cellNow_1 : decode cX11_cellNow 1 = .ok (.ifCond .ne 13, 3) := by decide +kernel
theorem dX11_cellNow_4 : decode cX11_cellNow 4 = .ok (.aload_n 0, 1) := by decide +kernel
theorem dX11_cellNow_5 : decode cX11_cellNow 5 = .ok (.getfield 44, 3) := by decide +kernel
theorem dX11_cellNow_8 : decode cX11_cellNow 8 = .ok (.getfield 226, 3) := by decide +kernel
theorem dX11_cellNow_11 : decode cX11_cellNow 11 = .ok (.iload_n 1, 1) := by decide +kernel
theorem dX11_cellNow_12 : decode cX11_cellNow 12 = .ok (.iaload, 1) := by decide +kernel
theorem dX11_cellNow_13 : decode cX11_cellNow 13 = .ok (.ireturn, 1) := by decide +kernel
theorem dX11_cellNow_14 : decode cX11_cellNow 14 = .ok (.aload_n 0, 1) := by decide +kernel
theorem dX11_cellNow_15 : decode cX11_cellNow 15 = .ok (.getfield 44, 3) := by decide +kernel
theorem dX11_cellNow_18 : decode cX11_cellNow 18 = .ok (.getfield 77, 3) := by decide +kernel
theorem dX11_cellNow_21 : decode cX11_cellNow 21 = .ok (.iload_n 1, 1) := by decide +kernel
theorem dX11_cellNow_22 : decode cX11_cellNow 22 = .ok (.baload, 1) := by decide +kernel
theorem dX11_cellNow_23 : decode cX11_cellNow 23 = .ok (.ifCond .ne 5, 3) := by decide +kernel
theorem dX11_cellNow_26 : decode cX11_cellNow 26 = .ok (.iconst 0, 1) := by decide +kernel
theorem dX11_cellNow_27 : decode cX11_cellNow 27 = .ok (.ireturn, 1) := by decide +kernel
theorem dX11_cellNow_28 : decode cX11_cellNow 28 = .ok (.aload_n 0, 1) := by decide +kernel
theorem dX11_cellNow_29 : decode cX11_cellNow 29 = .ok (.getfield 44, 3) := by decide +kernel
theorem dX11_cellNow_32 : decode cX11_cellNow 32 = .ok (.getfield 229, 3) := by decide +kernel
theorem dX11_cellNow_35 : decode cX11_cellNow 35 = .ok (.iload_n 1, 1) := by decide +kernel
theorem dX11_cellNow_36 : decode cX11_cellNow 36 = .ok (.aaload, 1) := by decide +kernel
theorem dX11_cellNow_37 : decode cX11_cellNow 37 = .ok (.astore_n 3, 1) := by decide +kernel
theorem dX11_cellNow_38 : decode cX11_cellNow 38 = .ok (.bipush 8, 2) := by decide +kernel
theorem dX11_cellNow_40 : decode cX11_cellNow 40 = .ok (.newarray .int, 2) := by decide +kernel
theorem dX11_cellNow_42 : decode cX11_cellNow 42 = .ok (.dup, 1) := by decide +kernel
theorem dX11_cellNow_43 : decode cX11_cellNow 43 = .ok (.iconst 0, 1) := by decide +kernel
theorem dX11_cellNow_44 : decode cX11_cellNow 44 = .ok (.iconst 0, 1) := by decide +kernel
theorem dX11_cellNow_45 : decode cX11_cellNow 45 = .ok (.iastore, 1) := by decide +kernel
theorem dX11_cellNow_46 : decode cX11_cellNow 46 = .ok (.dup, 1) := by decide +kernel
theorem dX11_cellNow_47 : decode cX11_cellNow 47 = .ok (.iconst 1, 1) := by decide +kernel
theorem dX11_cellNow_48 : decode cX11_cellNow 48 = .ok (.iconst 1, 1) := by decide +kernel
theorem dX11_cellNow_49 : decode cX11_cellNow 49 = .ok (.iastore, 1) := by decide +kernel
theorem dX11_cellNow_50 : decode cX11_cellNow 50 = .ok (.dup, 1) := by decide +kernel
theorem dX11_cellNow_51 : decode cX11_cellNow 51 = .ok (.iconst 2, 1) := by decide +kernel
theorem dX11_cellNow_52 : decode cX11_cellNow 52 = .ok (.aload_n 3, 1) := by decide +kernel
theorem dX11_cellNow_53 : decode cX11_cellNow 53 = .ok (.getfield 233, 3) := by decide +kernel
theorem dX11_cellNow_56 : decode cX11_cellNow 56 = .ok (.iastore, 1) := by decide +kernel
theorem dX11_cellNow_57 : decode cX11_cellNow 57 = .ok (.dup, 1) := by decide +kernel
theorem dX11_cellNow_58 : decode cX11_cellNow 58 = .ok (.iconst 3, 1) := by decide +kernel
theorem dX11_cellNow_59 : decode cX11_cellNow 59 = .ok (.aload_n 3, 1) := by decide +kernel
theorem dX11_cellNow_60 : decode cX11_cellNow 60 = .ok (.getfield 236, 3) := by decide +kernel
theorem dX11_cellNow_63 : decode cX11_cellNow 63 = .ok (.iastore, 1) := by decide +kernel
theorem dX11_cellNow_64 : decode cX11_cellNow 64 = .ok (.dup, 1) := by decide +kernel
theorem dX11_cellNow_65 : decode cX11_cellNow 65 = .ok (.iconst 4, 1) := by decide +kernel
theorem dX11_cellNow_66 : decode cX11_cellNow 66 = .ok (.aload_n 3, 1) := by decide +kernel
theorem dX11_cellNow_67 : decode cX11_cellNow 67 = .ok (.getfield 239, 3) := by decide +kernel
theorem dX11_cellNow_70 : decode cX11_cellNow 70 = .ok (.iastore, 1) := by decide +kernel
theorem dX11_cellNow_71 : decode cX11_cellNow 71 = .ok (.dup, 1) := by decide +kernel
theorem dX11_cellNow_72 : decode cX11_cellNow 72 = .ok (.iconst 5, 1) := by decide +kernel
theorem dX11_cellNow_73 : decode cX11_cellNow 73 = .ok (.aload_n 3, 1) := by decide +kernel
theorem dX11_cellNow_74 : decode cX11_cellNow 74 = .ok (.getfield 242, 3) := by decide +kernel
theorem dX11_cellNow_77 : decode cX11_cellNow 77 = .ok (.iastore, 1) := by decide +kernel
theorem dX11_cellNow_78 : decode cX11_cellNow 78 = .ok (.dup, 1) := by decide +kernel
theorem dX11_cellNow_79 : decode cX11_cellNow 79 = .ok (.bipush 6, 2) := by decide +kernel
theorem dX11_cellNow_81 : decode cX11_cellNow 81 = .ok (.aload_n 3, 1) := by decide +kernel
theorem dX11_cellNow_82 : decode cX11_cellNow 82 = .ok (.getfield 245, 3) := by decide +kernel
theorem dX11_cellNow_85 : decode cX11_cellNow 85 = .ok (.iastore, 1) := by decide +kernel
theorem dX11_cellNow_86 : decode cX11_cellNow 86 = .ok (.dup, 1) := by decide +kernel
theorem dX11_cellNow_87 : decode cX11_cellNow 87 = .ok (.bipush 7, 2) := by decide +kernel
theorem dX11_cellNow_89 : decode cX11_cellNow 89 = .ok (.aload_n 3, 1) := by decide +kernel
theorem dX11_cellNow_90 : decode cX11_cellNow 90 = .ok (.invokevirtual 248, 3) := by decide +kernel
theorem dX11_cellNow_93 : decode cX11_cellNow 93 = .ok (.iastore, 1) := by decide +kernel
theorem dX11_cellNow_94 : decode cX11_cellNow 94 = .ok (.astore 4, 2) := by decide +kernel
theorem dX11_cellNow_96 : decode cX11_cellNow 96 = .ok (.aload 4, 2) := by decide +kernel
theorem dX11_cellNow_98 : decode cX11_cellNow 98 = .ok (.iload_n 2, 1) := by decide +kernel
theorem dX11_cellNow_99 : decode cX11_cellNow 99 = .ok (.iaload, 1) := by decide +kernel
theorem dX11_cellNow_100 : decode cX11_cellNow 100 = .ok (.ireturn, 1) := by decide +kernel
theorem dX11_ofCell_0 : decode cX11_ofCell 0 = .ok (.aload_n 0, 1) := by decide +kernel
theorem dX11_ofCell_1 : decode cX11_ofCell 1 = .ok (.iconst 0, 1) := by decide +kernel
theorem dX11_ofCell_2 : decode cX11_ofCell 2 = .ok (.putfield 52, 3) := by decide +kernel
theorem dX11_ofCell_5 : decode cX11_ofCell 5 = .ok (.iload_n 1, 1) := by decide +kernel
theorem dX11_ofCell_6 : decode cX11_ofCell 6 = .ok (.iconst 0, 1) := by decide +kernel
theorem dX11_ofCell_7 : decode cX11_ofCell 7 = .ok (.iconst 4, 1) := by decide +kernel
theorem dX11_ofCell_8 : decode cX11_ofCell 8 = .ok (.invokestatic 59, 3) := by decide +kernel
theorem dX11_ofCell_11 : decode cX11_ofCell 11 = .ok (.ifCond .ne 9, 3) := by decide +kernel
theorem dX11_ofCell_14 : decode cX11_ofCell 14 = .ok (.aload_n 0, 1) := by decide +kernel
theorem dX11_ofCell_15 : decode cX11_ofCell 15 = .ok (.iconst 1, 1) := by decide +kernel
theorem dX11_ofCell_16 : decode cX11_ofCell 16 = .ok (.invokevirtual 119, 3) := by decide +kernel
theorem dX11_ofCell_19 : decode cX11_ofCell 19 = .ok (.ireturn, 1) := by decide +kernel
theorem dX11_ofCell_20 : decode cX11_ofCell 20 = .ok (.iload_n 2, 1) := by decide +kernel
theorem dX11_ofCell_21 : decode cX11_ofCell 21 = .ok (.iconst 0, 1) := by decide +kernel
theorem dX11_ofCell_22 : decode cX11_ofCell 22 = .ok (.bipush 7, 2) := by decide +kernel
theorem dX11_ofCell_24 : decode cX11_ofCell 24 = .ok (.invokestatic 59, 3) := by decide +kernel
theorem dX11_ofCell_27 : decode cX11_ofCell 27 = .ok (.ifCond .ne 9, 3) := by decide +kernel
theorem dX11_ofCell_30 : decode cX11_ofCell 30 = .ok (.aload_n 0, 1) := by decide +kernel
theorem dX11_ofCell_31 : decode cX11_ofCell 31 = .ok (.iconst 2, 1) := by decide +kernel
theorem dX11_ofCell_32 : decode cX11_ofCell 32 = .ok (.invokevirtual 119, 3) := by decide +kernel
theorem dX11_ofCell_35 : decode cX11_ofCell 35 = .ok (.ireturn, 1) := by decide +kernel
theorem dX11_ofCell_36 : decode cX11_ofCell 36 = .ok (.aload_n 0, 1) := by decide +kernel
theorem dX11_ofCell_37 : decode cX11_ofCell 37 = .ok (.iload_n 1, 1) := by decide +kernel
theorem dX11_ofCell_38 : decode cX11_ofCell 38 = .ok (.iload_n 2, 1) := by decide +kernel
theorem dX11_ofCell_39 : decode cX11_ofCell 39 = .ok (.invokevirtual 251, 3) := by decide +kernel
theorem dX11_ofCell_42 : decode cX11_ofCell 42 = .ok (.ireturn, 1) := by decide +kernel
theorem dX11_ofLot_0 : decode cX11_ofLot 0 = .ok (.aload_n 0, 1) := by decide +kernel
theorem dX11_ofLot_1 : decode cX11_ofLot 1 = .ok (.iconst 0, 1) := by decide +kernel
theorem dX11_ofLot_2 : decode cX11_ofLot 2 = .ok (.putfield 52, 3) := by decide +kernel
theorem dX11_ofLot_5 : decode cX11_ofLot 5 = .ok (.aload_n 0, 1) := by decide +kernel
theorem dX11_ofLot_6 : decode cX11_ofLot 6 = .ok (.iload_n 1, 1) := by decide +kernel
theorem dX11_ofLot_7 : decode cX11_ofLot 7 = .ok (.invokevirtual 179, 3) := by decide +kernel
theorem dX11_ofLot_10 : decode cX11_ofLot 10 = .ok (.ifCond .ne 9, 3) := by decide +kernel
theorem dX11_ofLot_13 : decode cX11_ofLot 13 = .ok (.aload_n 0, 1) := by decide +kernel
theorem dX11_ofLot_14 : decode cX11_ofLot 14 = .ok (.iconst 1, 1) := by decide +kernel
theorem dX11_ofLot_15 : decode cX11_ofLot 15 = .ok (.invokevirtual 119, 3) := by decide +kernel
theorem dX11_ofLot_18 : decode cX11_ofLot 18 = .ok (.ireturn, 1) := by decide +kernel
theorem dX11_ofLot_19 : decode cX11_ofLot 19 = .ok (.iload_n 2, 1) := by decide +kernel
theorem dX11_ofLot_20 : decode cX11_ofLot 20 = .ok (.iconst 0, 1) := by decide +kernel
theorem dX11_ofLot_21 : decode cX11_ofLot 21 = .ok (.bipush 21, 2) := by decide +kernel
theorem dX11_ofLot_23 : decode cX11_ofLot 23 = .ok (.invokestatic 59, 3) := by decide +kernel
theorem dX11_ofLot_26 : decode cX11_ofLot 26 = .ok (.ifCond .ne 9, 3) := by decide +kernel
theorem dX11_ofLot_29 : decode cX11_ofLot 29 = .ok (.aload_n 0, 1) := by decide +kernel
theorem dX11_ofLot_30 : decode cX11_ofLot 30 = .ok (.iconst 2, 1) := by decide +kernel
theorem dX11_ofLot_31 : decode cX11_ofLot 31 = .ok (.invokevirtual 119, 3) := by decide +kernel
theorem dX11_ofLot_34 : decode cX11_ofLot 34 = .ok (.ireturn, 1) := by decide +kernel
theorem dX11_ofLot_35 : decode cX11_ofLot 35 = .ok (.aload_n 0, 1) := by decide +kernel
theorem dX11_ofLot_36 : decode cX11_ofLot 36 = .ok (.getfield 24, 3) := by decide +kernel
theorem dX11_ofLot_39 : decode cX11_ofLot 39 = .ok (.iload_n 1, 1) := by decide +kernel
theorem dX11_ofLot_40 : decode cX11_ofLot 40 = .ok (.invokeinterface 93 2, 5) := by decide +kernel
theorem dX11_ofLot_45 : decode cX11_ofLot 45 = .ok (.checkcast 97, 3) := by decide +kernel
theorem dX11_ofLot_48 : decode cX11_ofLot 48 = .ok (.iload_n 2, 1) := by decide +kernel
theorem dX11_ofLot_49 : decode cX11_ofLot 49 = .ok (.invokevirtual 254, 3) := by decide +kernel
theorem dX11_ofLot_52 : decode cX11_ofLot 52 = .ok (.ireturn, 1) := by decide +kernel
theorem dX11_modulus_0 : decode cX11_modulus 0 = .ok (.aload_n 0, 1) := by decide +kernel
theorem dX11_modulus_1 : decode cX11_modulus 1 = .ok (.iconst 0, 1) := by decide +kernel
theorem dX11_modulus_2 : decode cX11_modulus 2 = .ok (.putfield 52, 3) := by decide +kernel
theorem dX11_modulus_5 : decode cX11_modulus 5 = .ok (.iload_n 1, 1) := by decide +kernel
theorem dX11_modulus_6 : decode cX11_modulus 6 = .ok (.iconst 0, 1) := by decide +kernel
theorem dX11_modulus_7 : decode cX11_modulus 7 = .ok (.aload_n 0, 1) := by decide +kernel
theorem dX11_modulus_8 : decode cX11_modulus 8 = .ok (.getfield 20, 3) := by decide +kernel
theorem dX11_modulus_11 : decode cX11_modulus 11 = .ok (.invokeinterface 113 1, 5) := by decide +kernel
theorem dX11_modulus_16 : decode cX11_modulus 16 = .ok (.iconst 1, 1) := by decide +kernel
theorem dX11_modulus_17 : decode cX11_modulus 17 = .ok (.isub, 1) := by decide +kernel
theorem dX11_modulus_18 : decode cX11_modulus 18 = .ok (.invokestatic 59, 3) := by decide +kernel
theorem dX11_modulus_21 : decode cX11_modulus 21 = .ok (.ifCond .ne 9, 3) := by decide +kernel
theorem dX11_modulus_24 : decode cX11_modulus 24 = .ok (.aload_n 0, 1) := by decide +kernel
theorem dX11_modulus_25 : decode cX11_modulus 25 = .ok (.iconst 1, 1) := by decide +kernel
theorem dX11_modulus_26 : decode cX11_modulus 26 = .ok (.invokevirtual 119, 3) := by decide +kernel
theorem dX11_modulus_29 : decode cX11_modulus 29 = .ok (.ireturn, 1) := by decide +kernel
theorem dX11_modulus_30 : decode cX11_modulus 30 = .ok (.iload_n 2, 1) := by decide +kernel
theorem dX11_modulus_31 : decode cX11_modulus 31 = .ok (.iconst 0, 1) := by decide +kernel
theorem dX11_modulus_32 : decode cX11_modulus 32 = .ok (.iconst 3, 1) := by decide +kernel
theorem dX11_modulus_33 : decode cX11_modulus 33 = .ok (.invokestatic 59, 3) := by decide +kernel
theorem dX11_modulus_36 : decode cX11_modulus 36 = .ok (.ifCond .ne 9, 3) := by decide +kernel
theorem dX11_modulus_39 : decode cX11_modulus 39 = .ok (.aload_n 0, 1) := by decide +kernel
theorem dX11_modulus_40 : decode cX11_modulus 40 = .ok (.iconst 2, 1) := by decide +kernel
theorem dX11_modulus_41 : decode cX11_modulus 41 = .ok (.invokevirtual 119, 3) := by decide +kernel
theorem dX11_modulus_44 : decode cX11_modulus 44 = .ok (.ireturn, 1) := by decide +kernel
theorem dX11_modulus_45 : decode cX11_modulus 45 = .ok (.aload_n 0, 1) := by decide +kernel
theorem dX11_modulus_46 : decode cX11_modulus 46 = .ok (.getfield 20, 3) := by decide +kernel
theorem dX11_modulus_49 : decode cX11_modulus 49 = .ok (.iload_n 1, 1) := by decide +kernel
theorem dX11_modulus_50 : decode cX11_modulus 50 = .ok (.invokeinterface 93 2, 5) := by decide +kernel
theorem dX11_modulus_55 : decode cX11_modulus 55 = .ok (.checkcast 97, 3) := by decide +kernel
theorem dX11_modulus_58 : decode cX11_modulus 58 = .ok (.getfield 146, 3) := by decide +kernel
theorem dX11_modulus_61 : decode cX11_modulus 61 = .ok (.iload_n 2, 1) := by decide +kernel
theorem dX11_modulus_62 : decode cX11_modulus 62 = .ok (.invokestatic 159, 3) := by decide +kernel
theorem dX11_modulus_65 : decode cX11_modulus 65 = .ok (.ireturn, 1) := by decide +kernel
theorem dX11_rowNow_0 : decode cX11_rowNow 0 = .ok (.iload_n 2, 1) := by decide +kernel
theorem dX11_rowNow_1 : decode cX11_rowNow 1 = .ok (.aload_n 0, 1) := by decide +kernel
theorem dX11_rowNow_2 : decode cX11_rowNow 2 = .ok (.getfield 30, 3) := by decide +kernel
theorem dX11_rowNow_5 : decode cX11_rowNow 5 = .ok (.iload_n 1, 1) := by decide +kernel
theorem dX11_rowNow_6 : decode cX11_rowNow 6 = .ok (.iaload, 1) := by decide +kernel
theorem dX11_rowNow_7 : decode cX11_rowNow 7 = .ok (.if_icmp .ge 14, 3) := by decide +kernel
theorem dX11_rowNow_10 : decode cX11_rowNow 10 = .ok (.aload_n 0, 1) := by decide +kernel
theorem dX11_rowNow_11 : decode cX11_rowNow 11 = .ok (.getfield 27, 3) := by decide +kernel
theorem dX11_rowNow_14 : decode cX11_rowNow 14 = .ok (.iload_n 1, 1) := by decide +kernel
theorem dX11_rowNow_15 : decode cX11_rowNow 15 = .ok (.aaload, 1) := by decide +kernel
theorem dX11_rowNow_16 : decode cX11_rowNow 16 = .ok (.iload_n 2, 1) := by decide +kernel
theorem dX11_rowNow_17 : decode cX11_rowNow 17 = .ok (.iaload, 1) := by decide +kernel
theorem dX11_rowNow_18 : decode cX11_rowNow 18 = .ok (.goto 4, 3) := by decide +kernel
theorem dX11_rowNow_21 : decode cX11_rowNow 21 = .ok (.iconst (-1), 1) := by decide +kernel
theorem dX11_rowNow_22 : decode cX11_rowNow 22 = .ok (.ireturn, 1) := by decide +kernel
theorem dX11_row_0 : decode cX11_row 0 = .ok (.aload_n 0, 1) := by decide +kernel
theorem dX11_row_1 : decode cX11_row 1 = .ok (.iconst 0, 1) := by decide +kernel
theorem dX11_row_2 : decode cX11_row 2 = .ok (.putfield 52, 3) := by decide +kernel
theorem dX11_row_5 : decode cX11_row 5 = .ok (.iload_n 1, 1) := by decide +kernel
theorem dX11_row_6 : decode cX11_row 6 = .ok (.iconst 0, 1) := by decide +kernel
theorem dX11_row_7 : decode cX11_row 7 = .ok (.iconst 1, 1) := by decide +kernel
theorem dX11_row_8 : decode cX11_row 8 = .ok (.invokestatic 59, 3) := by decide +kernel
theorem dX11_row_11 : decode cX11_row 11 = .ok (.ifCond .ne 9, 3) := by decide +kernel
theorem dX11_row_14 : decode cX11_row 14 = .ok (.aload_n 0, 1) := by decide +kernel
theorem dX11_row_15 : decode cX11_row 15 = .ok (.iconst 1, 1) := by decide +kernel
theorem dX11_row_16 : decode cX11_row 16 = .ok (.invokevirtual 119, 3) := by decide +kernel
theorem dX11_row_19 : decode cX11_row 19 = .ok (.ireturn, 1) := by decide +kernel
theorem dX11_row_20 : decode cX11_row 20 = .ok (.iload_n 2, 1) := by decide +kernel
theorem dX11_row_21 : decode cX11_row 21 = .ok (.ifCond .ge 9, 3) := by decide +kernel
theorem dX11_row_24 : decode cX11_row 24 = .ok (.aload_n 0, 1) := by decide +kernel
theorem dX11_row_25 : decode cX11_row 25 = .ok (.iconst 2, 1) := by decide +kernel
theorem dX11_row_26 : decode cX11_row 26 = .ok (.invokevirtual 119, 3) := by decide +kernel
theorem dX11_row_29 : decode cX11_row 29 = .ok (.ireturn, 1) := by decide +kernel
theorem dX11_row_30 : decode cX11_row 30 = .ok (.aload_n 0, 1) := by decide +kernel
theorem dX11_row_31 : decode cX11_row 31 = .ok (.iload_n 1, 1) := by decide +kernel
theorem dX11_row_32 : decode cX11_row 32 = .ok (.iload_n 2, 1) := by decide +kernel
theorem dX11_row_33 : decode cX11_row 33 = .ok (.invokevirtual 257, 3) := by decide +kernel
theorem dX11_row_36 : decode cX11_row 36 = .ok (.ireturn, 1) := by decide +kernel
theorem dX11_manyNow_0 : decode cX11_manyNow 0 = .ok (.bipush 18, 2) := by decide +kernel
theorem dX11_manyNow_2 : decode cX11_manyNow 2 = .ok (.newarray .int, 2) := by decide +kernel
theorem dX11_manyNow_4 : decode cX11_manyNow 4 = .ok (.dup, 1) := by decide +kernel
theorem dX11_manyNow_5 : decode cX11_manyNow 5 = .ok (.iconst 0, 1) := by decide +kernel
theorem dX11_manyNow_6 : decode cX11_manyNow 6 = .ok (.aload_n 0, 1) := by decide +kernel
theorem dX11_manyNow_7 : decode cX11_manyNow 7 = .ok (.getfield 110, 3) := by decide +kernel
theorem dX11_manyNow_10 : decode cX11_manyNow 10 = .ok (.iastore, 1) := by decide +kernel
theorem dX11_manyNow_11 : decode cX11_manyNow 11 = .ok (.dup, 1) := by decide +kernel
theorem dX11_manyNow_12 : decode cX11_manyNow 12 = .ok (.iconst 1, 1) := by decide +kernel
theorem dX11_manyNow_13 : decode cX11_manyNow 13 = .ok (.aload_n 0, 1) := by decide +kernel
theorem dX11_manyNow_14 : decode cX11_manyNow 14 = .ok (.getfield 116, 3) := by decide +kernel
theorem dX11_manyNow_17 : decode cX11_manyNow 17 = .ok (.iastore, 1) := by decide +kernel
theorem dX11_manyNow_18 : decode cX11_manyNow 18 = .ok (.dup, 1) := by decide +kernel
theorem dX11_manyNow_19 : decode cX11_manyNow 19 = .ok (.iconst 2, 1) := by decide +kernel
theorem dX11_manyNow_20 : decode cX11_manyNow 20 = .ok (.aload_n 0, 1) := by decide +kernel
theorem dX11_manyNow_21 : decode cX11_manyNow 21 = .ok (.invokevirtual 138, 3) := by decide +kernel
theorem dX11_manyNow_24 : decode cX11_manyNow 24 = .ok (.iastore, 1) := by decide +kernel
theorem dX11_manyNow_25 : decode cX11_manyNow 25 = .ok (.dup, 1) := by decide +kernel
theorem dX11_manyNow_26 : decode cX11_manyNow 26 = .ok (.iconst 3, 1) := by decide +kernel
theorem dX11_manyNow_27 : decode cX11_manyNow 27 = .ok (.aload_n 0, 1) := by decide +kernel
theorem dX11_manyNow_28 : decode cX11_manyNow 28 = .ok (.getfield 20, 3) := by decide +kernel
theorem dX11_manyNow_31 : decode cX11_manyNow 31 = .ok (.invokeinterface 113 1, 5) := by decide +kernel
theorem dX11_manyNow_36 : decode cX11_manyNow 36 = .ok (.iastore, 1) := by decide +kernel
theorem dX11_manyNow_37 : decode cX11_manyNow 37 = .ok (.dup, 1) := by decide +kernel
theorem dX11_manyNow_38 : decode cX11_manyNow 38 = .ok (.iconst 4, 1) := by decide +kernel
theorem dX11_manyNow_39 : decode cX11_manyNow 39 = .ok (.aload_n 0, 1) := by decide +kernel
theorem dX11_manyNow_40 : decode cX11_manyNow 40 = .ok (.getfield 44, 3) := by decide +kernel
theorem dX11_manyNow_43 : decode cX11_manyNow 43 = .ok (.getfield 163, 3) := by decide +kernel
theorem dX11_manyNow_46 : decode cX11_manyNow 46 = .ok (.iastore, 1) := by decide +kernel
theorem dX11_manyNow_47 : decode cX11_manyNow 47 = .ok (.dup, 1) := by decide +kernel
theorem dX11_manyNow_48 : decode cX11_manyNow 48 = .ok (.iconst 5, 1) := by decide +kernel
theorem dX11_manyNow_49 : decode cX11_manyNow 49 = .ok (.aload_n 0, 1) := by decide +kernel
theorem dX11_manyNow_50 : decode cX11_manyNow 50 = .ok (.getfield 44, 3) := by decide +kernel
theorem dX11_manyNow_53 : decode cX11_manyNow 53 = .ok (.getfield 166, 3) := by decide +kernel
theorem dX11_manyNow_56 : decode cX11_manyNow 56 = .ok (.iastore, 1) := by decide +kernel
theorem dX11_manyNow_57 : decode cX11_manyNow 57 = .ok (.dup, 1) := by decide +kernel
theorem dX11_manyNow_58 : decode cX11_manyNow 58 = .ok (.bipush 6, 2) := by decide +kernel
theorem dX11_manyNow_60 : decode cX11_manyNow 60 = .ok (.aload_n 0, 1) := by decide +kernel
theorem dX11_manyNow_61 : decode cX11_manyNow 61 = .ok (.getfield 44, 3) := by decide +kernel
theorem dX11_manyNow_64 : decode cX11_manyNow 64 = .ok (.getfield 63, 3) := by decide +kernel
theorem dX11_manyNow_67 : decode cX11_manyNow 67 = .ok (.iastore, 1) := by decide +kernel
theorem dX11_manyNow_68 : decode cX11_manyNow 68 = .ok (.dup, 1) := by decide +kernel
theorem dX11_manyNow_69 : decode cX11_manyNow 69 = .ok (.bipush 7, 2) := by decide +kernel
theorem dX11_manyNow_71 : decode cX11_manyNow 71 = .ok (.aload_n 0, 1) := by decide +kernel
theorem dX11_manyNow_72 : decode cX11_manyNow 72 = .ok (.getfield 44, 3) := by decide +kernel
theorem dX11_manyNow_75 : decode cX11_manyNow 75 = .ok (.getfield 176, 3) := by decide +kernel
theorem dX11_manyNow_78 : decode cX11_manyNow 78 = .ok (.iastore, 1) := by decide +kernel
theorem dX11_manyNow_79 : decode cX11_manyNow 79 = .ok (.dup, 1) := by decide +kernel
theorem dX11_manyNow_80 : decode cX11_manyNow 80 = .ok (.bipush 8, 2) := by decide +kernel
theorem dX11_manyNow_82 : decode cX11_manyNow 82 = .ok (.aload_n 0, 1) := by decide +kernel
theorem dX11_manyNow_83 : decode cX11_manyNow 83 = .ok (.getfield 44, 3) := by decide +kernel
theorem dX11_manyNow_86 : decode cX11_manyNow 86 = .ok (.getfield 260, 3) := by decide +kernel
theorem dX11_manyNow_89 : decode cX11_manyNow 89 = .ok (.iastore, 1) := by decide +kernel
theorem dX11_manyNow_90 : decode cX11_manyNow 90 = .ok (.dup, 1) := by decide +kernel
theorem dX11_manyNow_91 : decode cX11_manyNow 91 = .ok (.bipush 9, 2) := by decide +kernel
theorem dX11_manyNow_93 : decode cX11_manyNow 93 = .ok (.aload_n 0, 1) := by decide +kernel
theorem dX11_manyNow_94 : decode cX11_manyNow 94 = .ok (.getfield 44, 3) := by decide +kernel
theorem dX11_manyNow_97 : decode cX11_manyNow 97 = .ok (.getfield 74, 3) := by decide +kernel
theorem dX11_manyNow_100 : decode cX11_manyNow 100 = .ok (.iastore, 1) := by decide +kernel
theorem dX11_manyNow_101 : decode cX11_manyNow 101 = .ok (.dup, 1) := by decide +kernel
theorem dX11_manyNow_102 : decode cX11_manyNow 102 = .ok (.bipush 10, 2) := by decide +kernel
theorem dX11_manyNow_104 : decode cX11_manyNow 104 = .ok (.aload_n 0, 1) := by decide +kernel
theorem dX11_manyNow_105 : decode cX11_manyNow 105 = .ok (.getfield 24, 3) := by decide +kernel
theorem dX11_manyNow_108 : decode cX11_manyNow 108 = .ok (.invokeinterface 113 1, 5) := by decide +kernel
theorem dX11_manyNow_113 : decode cX11_manyNow 113 = .ok (.iastore, 1) := by decide +kernel
theorem dX11_manyNow_114 : decode cX11_manyNow 114 = .ok (.dup, 1) := by decide +kernel
theorem dX11_manyNow_115 : decode cX11_manyNow 115 = .ok (.bipush 11, 2) := by decide +kernel
theorem dX11_manyNow_117 : decode cX11_manyNow 117 = .ok (.aload_n 0, 1) := by decide +kernel
theorem dX11_manyNow_118 : decode cX11_manyNow 118 = .ok (.getfield 173, 3) := by decide +kernel
theorem dX11_manyNow_121 : decode cX11_manyNow 121 = .ok (.iastore, 1) := by decide +kernel
theorem dX11_manyNow_122 : decode cX11_manyNow 122 = .ok (.dup, 1) := by decide +kernel
theorem dX11_manyNow_123 : decode cX11_manyNow 123 = .ok (.bipush 12, 2) := by decide +kernel
theorem dX11_manyNow_125 : decode cX11_manyNow 125 = .ok (.aload_n 0, 1) := by decide +kernel
theorem dX11_manyNow_126 : decode cX11_manyNow 126 = .ok (.getfield 44, 3) := by decide +kernel
theorem dX11_manyNow_129 : decode cX11_manyNow 129 = .ok (.getfield 263, 3) := by decide +kernel
theorem dX11_manyNow_132 : decode cX11_manyNow 132 = .ok (.iastore, 1) := by decide +kernel
theorem dX11_manyNow_133 : decode cX11_manyNow 133 = .ok (.dup, 1) := by decide +kernel
theorem dX11_manyNow_134 : decode cX11_manyNow 134 = .ok (.bipush 13, 2) := by decide +kernel
theorem dX11_manyNow_136 : decode cX11_manyNow 136 = .ok (.aload_n 0, 1) := by decide +kernel
theorem dX11_manyNow_137 : decode cX11_manyNow 137 = .ok (.getfield 200, 3) := by decide +kernel
theorem dX11_manyNow_140 : decode cX11_manyNow 140 = .ok (.iastore, 1) := by decide +kernel
theorem dX11_manyNow_141 : decode cX11_manyNow 141 = .ok (.dup, 1) := by decide +kernel
theorem dX11_manyNow_142 : decode cX11_manyNow 142 = .ok (.bipush 14, 2) := by decide +kernel
theorem dX11_manyNow_144 : decode cX11_manyNow 144 = .ok (.aload_n 0, 1) := by decide +kernel
theorem dX11_manyNow_145 : decode cX11_manyNow 145 = .ok (.getfield 220, 3) := by decide +kernel
theorem dX11_manyNow_148 : decode cX11_manyNow 148 = .ok (.iastore, 1) := by decide +kernel
theorem dX11_manyNow_149 : decode cX11_manyNow 149 = .ok (.dup, 1) := by decide +kernel
theorem dX11_manyNow_150 : decode cX11_manyNow 150 = .ok (.bipush 15, 2) := by decide +kernel
theorem dX11_manyNow_152 : decode cX11_manyNow 152 = .ok (.aload_n 0, 1) := by decide +kernel
theorem dX11_manyNow_153 : decode cX11_manyNow 153 = .ok (.invokevirtual 206, 3) := by decide +kernel
theorem dX11_manyNow_156 : decode cX11_manyNow 156 = .ok (.iastore, 1) := by decide +kernel
theorem dX11_manyNow_157 : decode cX11_manyNow 157 = .ok (.dup, 1) := by decide +kernel
theorem dX11_manyNow_158 : decode cX11_manyNow 158 = .ok (.bipush 16, 2) := by decide +kernel
theorem dX11_manyNow_160 : decode cX11_manyNow 160 = .ok (.aload_n 0, 1) := by decide +kernel
theorem dX11_manyNow_161 : decode cX11_manyNow 161 = .ok (.getfield 34, 3) := by decide +kernel
theorem dX11_manyNow_164 : decode cX11_manyNow 164 = .ok (.iconst 0, 1) := by decide +kernel
theorem dX11_manyNow_165 : decode cX11_manyNow 165 = .ok (.baload, 1) := by decide +kernel
theorem dX11_manyNow_166 : decode cX11_manyNow 166 = .ok (.ifCond .eq 7, 3) := by decide +kernel
theorem dX11_manyNow_169 : decode cX11_manyNow 169 = .ok (.iconst 1, 1) := by decide +kernel
theorem dX11_manyNow_170 : decode cX11_manyNow 170 = .ok (.goto 4, 3) := by decide +kernel
theorem dX11_manyNow_173 : decode cX11_manyNow 173 = .ok (.iconst 0, 1) := by decide +kernel
theorem dX11_manyNow_174 : decode cX11_manyNow 174 = .ok (.aload_n 0, 1) := by decide +kernel
theorem dX11_manyNow_175 : decode cX11_manyNow 175 = .ok (.getfield 34, 3) := by decide +kernel
theorem dX11_manyNow_178 : decode cX11_manyNow 178 = .ok (.iconst 1, 1) := by decide +kernel
theorem dX11_manyNow_179 : decode cX11_manyNow 179 = .ok (.baload, 1) := by decide +kernel
theorem dX11_manyNow_180 : decode cX11_manyNow 180 = .ok (.ifCond .eq 7, 3) := by decide +kernel
theorem dX11_manyNow_183 : decode cX11_manyNow 183 = .ok (.iconst 2, 1) := by decide +kernel
theorem dX11_manyNow_184 : decode cX11_manyNow 184 = .ok (.goto 4, 3) := by decide +kernel
theorem dX11_manyNow_187 : decode cX11_manyNow 187 = .ok (.iconst 0, 1) := by decide +kernel
theorem dX11_manyNow_188 : decode cX11_manyNow 188 = .ok (.iadd, 1) := by decide +kernel
theorem dX11_manyNow_189 : decode cX11_manyNow 189 = .ok (.iastore, 1) := by decide +kernel
theorem dX11_manyNow_190 : decode cX11_manyNow 190 = .ok (.dup, 1) := by decide +kernel
theorem dX11_manyNow_191 : decode cX11_manyNow 191 = .ok (.bipush 17, 2) := by decide +kernel
theorem dX11_manyNow_193 : decode cX11_manyNow 193 = .ok (.aload_n 0, 1) := by decide +kernel
theorem dX11_manyNow_194 : decode cX11_manyNow 194 = .ok (.getfield 48, 3) := by decide +kernel
theorem dX11_manyNow_197 : decode cX11_manyNow 197 = .ok (.iastore, 1) := by decide +kernel
theorem dX11_manyNow_198 : decode cX11_manyNow 198 = .ok (.astore_n 2, 1) := by decide +kernel
theorem dX11_manyNow_199 : decode cX11_manyNow 199 = .ok (.aload_n 2, 1) := by decide +kernel
theorem dX11_manyNow_200 : decode cX11_manyNow 200 = .ok (.iload_n 1, 1) := by decide +kernel
theorem dX11_manyNow_201 : decode cX11_manyNow 201 = .ok (.iaload, 1) := by decide +kernel
theorem dX11_manyNow_202 : decode cX11_manyNow 202 = .ok (.ireturn, 1) := by decide +kernel
theorem dX11_many_0 : decode cX11_many 0 = .ok (.aload_n 0, 1) := by decide +kernel
theorem dX11_many_1 : decode cX11_many 1 = .ok (.iconst 0, 1) := by decide +kernel
theorem dX11_many_2 : decode cX11_many 2 = .ok (.putfield 52, 3) := by decide +kernel
theorem dX11_many_5 : decode cX11_many 5 = .ok (.iload_n 1, 1) := by decide +kernel
theorem dX11_many_6 : decode cX11_many 6 = .ok (.iconst 0, 1) := by decide +kernel
theorem dX11_many_7 : decode cX11_many 7 = .ok (.bipush 17, 2) := by decide +kernel
theorem dX11_many_9 : decode cX11_many 9 = .ok (.invokestatic 59, 3) := by decide +kernel
theorem dX11_many_12 : decode cX11_many 12 = .ok (.ifCond .ne 9, 3) := by decide +kernel
theorem dX11_many_15 : decode cX11_many 15 = .ok (.aload_n 0, 1) := by decide +kernel
theorem dX11_many_16 : decode cX11_many 16 = .ok (.iconst 1, 1) := by decide +kernel
theorem dX11_many_17 : decode cX11_many 17 = .ok (.invokevirtual 119, 3) := by decide +kernel
theorem dX11_many_20 : decode cX11_many 20 = .ok (.ireturn, 1) := by decide +kernel
theorem dX11_many_21 : decode cX11_many 21 = .ok (.aload_n 0, 1) := by decide +kernel
theorem dX11_many_22 : decode cX11_many 22 = .ok (.iload_n 1, 1) := by decide +kernel
theorem dX11_many_23 : decode cX11_many 23 = .ok (.invokevirtual 266, 3) := by decide +kernel
theorem dX11_many_26 : decode cX11_many 26 = .ok (.ireturn, 1) := by decide +kernel
theorem dX11_meanFound_0 : decode cX11_meanFound 0 = .ok (.aload_n 0, 1) := by decide +kernel
theorem dX11_meanFound_1 : decode cX11_meanFound 1 = .ok (.iconst 0, 1) := by decide +kernel
theorem dX11_meanFound_2 : decode cX11_meanFound 2 = .ok (.putfield 52, 3) := by decide +kernel
theorem dX11_meanFound_5 : decode cX11_meanFound 5 = .ok (.aload_n 0, 1) := by decide +kernel
theorem dX11_meanFound_6 : decode cX11_meanFound 6 = .ok (.invokevirtual 206, 3) := by decide +kernel
theorem dX11_meanFound_9 : decode cX11_meanFound 9 = .ok (.ifCond .ne 7, 3) := by decide +kernel
theorem dX11_meanFound_12 : decode cX11_meanFound 12 = .ok (.dconst 0, 1) := by decide +kernel
theorem dX11_meanFound_13 : decode cX11_meanFound 13 = .ok (.goto 14, 3) := by decide +kernel
theorem dX11_meanFound_16 : decode cX11_meanFound 16 = .ok (.aload_n 0, 1) := by decide +kernel
theorem dX11_meanFound_17 : decode cX11_meanFound 17 = .ok (.invokevirtual 209, 3) := by decide +kernel
theorem dX11_meanFound_20 : decode cX11_meanFound 20 = .ok (.i2d, 1) := by decide +kernel
theorem dX11_meanFound_21 : decode cX11_meanFound 21 = .ok (.aload_n 0, 1) := by decide +kernel
theorem dX11_meanFound_22 : decode cX11_meanFound 22 = .ok (.invokevirtual 206, 3) := by decide +kernel
theorem dX11_meanFound_25 : decode cX11_meanFound 25 = .ok (.i2d, 1) := by decide +kernel
theorem dX11_meanFound_26 : decode cX11_meanFound 26 = .ok (.ddiv, 1) := by decide +kernel
theorem dX11_meanFound_27 : decode cX11_meanFound 27 = .ok (.dreturn, 1) := by decide +kernel
theorem dX11_isConform_0 : decode cX11_isConform 0 = .ok (.aload_n 0, 1) := by decide +kernel
theorem dX11_isConform_1 : decode cX11_isConform 1 = .ok (.iconst 0, 1) := by decide +kernel
theorem dX11_isConform_2 : decode cX11_isConform 2 = .ok (.putfield 52, 3) := by decide +kernel
theorem dX11_isConform_5 : decode cX11_isConform 5 = .ok (.aload_n 0, 1) := by decide +kernel
theorem dX11_isConform_6 : decode cX11_isConform 6 = .ok (.invokevirtual 217, 3) := by decide +kernel
theorem dX11_isConform_9 : decode cX11_isConform 9 = .ok (.ireturn, 1) := by decide +kernel
theorem dX11_thoughtNow_0 : decode cX11_thoughtNow 0 = .ok (.iconst 0, 1) := by decide +kernel
theorem dX11_thoughtNow_1 : decode cX11_thoughtNow 1 = .ok (.istore_n 2, 1) := by decide +kernel
theorem dX11_thoughtNow_2 : decode cX11_thoughtNow 2 = .ok (.iconst 0, 1) := by decide +kernel
theorem dX11_thoughtNow_3 : decode cX11_thoughtNow 3 = .ok (.istore_n 3, 1) := by decide +kernel
theorem dX11_thoughtNow_4 : decode cX11_thoughtNow 4 = .ok (.iconst 0, 1) := by decide +kernel
theorem dX11_thoughtNow_5 : decode cX11_thoughtNow 5 = .ok (.istore 4, 2) := by decide +kernel
theorem dX11_thoughtNow_7 : decode cX11_thoughtNow 7 = .ok (.iload 4, 2) := by decide +kernel
theorem dX11_thoughtNow_9 : decode cX11_thoughtNow 9 = .ok (.aload_n 0, 1) := by decide +kernel
theorem dX11_thoughtNow_10 : decode cX11_thoughtNow 10 = .ok (.getfield 24, 3) := by decide +kernel
theorem dX11_thoughtNow_13 : decode cX11_thoughtNow 13 = .ok (.invokeinterface 113 1, 5) := by decide +kernel
theorem dX11_thoughtNow_18 : decode cX11_thoughtNow 18 = .ok (.if_icmp .ge 68, 3) := by decide +kernel
theorem dX11_thoughtNow_21 : decode cX11_thoughtNow 21 = .ok (.aload_n 0, 1) := by decide +kernel
theorem dX11_thoughtNow_22 : decode cX11_thoughtNow 22 = .ok (.getfield 24, 3) := by decide +kernel
theorem dX11_thoughtNow_25 : decode cX11_thoughtNow 25 = .ok (.iload 4, 2) := by decide +kernel
theorem dX11_thoughtNow_27 : decode cX11_thoughtNow 27 = .ok (.invokeinterface 93 2, 5) := by decide +kernel
theorem dX11_thoughtNow_32 : decode cX11_thoughtNow 32 = .ok (.checkcast 97, 3) := by decide +kernel
theorem dX11_thoughtNow_35 : decode cX11_thoughtNow 35 = .ok (.getfield 212, 3) := by decide +kernel
theorem dX11_thoughtNow_38 : decode cX11_thoughtNow 38 = .ok (.astore 5, 2) := by decide +kernel
theorem dX11_thoughtNow_40 : decode cX11_thoughtNow 40 = .ok (.iload 4, 2) := by decide +kernel
theorem dX11_thoughtNow_42 : decode cX11_thoughtNow 42 = .ok (.iload_n 1, 1) := by decide +kernel
theorem dX11_thoughtNow_43 : decode cX11_thoughtNow 43 = .ok (.if_icmp .eq 37, 3) := by decide +kernel
theorem dX11_thoughtNow_46 : decode cX11_thoughtNow 46 = .ok (.aload 5, 2) := by decide +kernel
theorem dX11_thoughtNow_48 : decode cX11_thoughtNow 48 = .ok (.iconst 1, 1) := by decide +kernel
theorem dX11_thoughtNow_49 : decode cX11_thoughtNow 49 = .ok (.iaload, 1) := by decide +kernel
theorem dX11_thoughtNow_50 : decode cX11_thoughtNow 50 = .ok (.iconst (-1), 1) := by decide +kernel
theorem dX11_thoughtNow_51 : decode cX11_thoughtNow 51 = .ok (.if_icmp .eq 29, 3) := by decide +kernel
theorem dX11_thoughtNow_54 : decode cX11_thoughtNow 54 = .ok (.aload 5, 2) := by decide +kernel
theorem dX11_thoughtNow_56 : decode cX11_thoughtNow 56 = .ok (.iconst 2, 1) := by decide +kernel
theorem dX11_thoughtNow_57 : decode cX11_thoughtNow 57 = .ok (.iaload, 1) := by decide +kernel
theorem dX11_thoughtNow_58 : decode cX11_thoughtNow 58 = .ok (.iconst (-1), 1) := by decide +kernel
theorem dX11_thoughtNow_59 : decode cX11_thoughtNow 59 = .ok (.if_icmp .ne 6, 3) := by decide +kernel
theorem dX11_thoughtNow_62 : decode cX11_thoughtNow 62 = .ok (.goto 18, 3) := by decide +kernel
theorem dX11_thoughtNow_65 : decode cX11_thoughtNow 65 = .ok (.iload_n 2, 1) := by decide +kernel
theorem dX11_thoughtNow_66 : decode cX11_thoughtNow 66 = .ok (.aload 5, 2) := by decide +kernel
theorem dX11_thoughtNow_68 : decode cX11_thoughtNow 68 = .ok (.iconst 2, 1) := by decide +kernel
theorem dX11_thoughtNow_69 : decode cX11_thoughtNow 69 = .ok (.iaload, 1) := by decide +kernel
theorem dX11_thoughtNow_70 : decode cX11_thoughtNow 70 = .ok (.aload 5, 2) := by decide +kernel
theorem dX11_thoughtNow_72 : decode cX11_thoughtNow 72 = .ok (.iconst 1, 1) := by decide +kernel
theorem dX11_thoughtNow_73 : decode cX11_thoughtNow 73 = .ok (.iaload, 1) := by decide +kernel
theorem dX11_thoughtNow_74 : decode cX11_thoughtNow 74 = .ok (.isub, 1) := by decide +kernel
theorem dX11_thoughtNow_75 : decode cX11_thoughtNow 75 = .ok (.iadd, 1) := by decide +kernel
theorem dX11_thoughtNow_76 : decode cX11_thoughtNow 76 = .ok (.istore_n 2, 1) := by decide +kernel
theorem dX11_thoughtNow_77 : decode cX11_thoughtNow 77 = .ok (.iinc 3 1, 3) := by decide +kernel
theorem dX11_thoughtNow_80 : decode cX11_thoughtNow 80 = .ok (.iinc 4 1, 3) := by decide +kernel
theorem dX11_thoughtNow_83 : decode cX11_thoughtNow 83 = .ok (.goto (-76), 3) := by decide +kernel
theorem dX11_thoughtNow_86 : decode cX11_thoughtNow 86 = .ok (.aload_n 0, 1) := by decide +kernel
theorem dX11_thoughtNow_87 : decode cX11_thoughtNow 87 = .ok (.getfield 24, 3) := by decide +kernel
theorem dX11_thoughtNow_90 : decode cX11_thoughtNow 90 = .ok (.iload_n 1, 1) := by decide +kernel
theorem dX11_thoughtNow_91 : decode cX11_thoughtNow 91 = .ok (.invokeinterface 93 2, 5) := by decide +kernel
theorem dX11_thoughtNow_96 : decode cX11_thoughtNow 96 = .ok (.checkcast 97, 3) := by decide +kernel
theorem dX11_thoughtNow_99 : decode cX11_thoughtNow 99 = .ok (.getfield 212, 3) := by decide +kernel
theorem dX11_thoughtNow_102 : decode cX11_thoughtNow 102 = .ok (.iconst 1, 1) := by decide +kernel
theorem dX11_thoughtNow_103 : decode cX11_thoughtNow 103 = .ok (.iaload, 1) := by decide +kernel
theorem dX11_thoughtNow_104 : decode cX11_thoughtNow 104 = .ok (.iload_n 3, 1) := by decide +kernel
theorem dX11_thoughtNow_105 : decode cX11_thoughtNow 105 = .ok (.ifCond .ne 8, 3) := by decide +kernel
theorem dX11_thoughtNow_108 : decode cX11_thoughtNow 108 = .ok (.bipush 10, 2) := by decide +kernel
theorem dX11_thoughtNow_110 : decode cX11_thoughtNow 110 = .ok (.goto 8, 3) := by decide +kernel
theorem dX11_thoughtNow_113 : decode cX11_thoughtNow 113 = .ok (.iload_n 2, 1) := by decide +kernel
theorem dX11_thoughtNow_114 : decode cX11_thoughtNow 114 = .ok (.iload_n 3, 1) := by decide +kernel
theorem dX11_thoughtNow_115 : decode cX11_thoughtNow 115 = .ok (.invokestatic 269, 3) := by decide +kernel
theorem dX11_thoughtNow_118 : decode cX11_thoughtNow 118 = .ok (.iadd, 1) := by decide +kernel
theorem dX11_thoughtNow_119 : decode cX11_thoughtNow 119 = .ok (.ireturn, 1) := by decide +kernel
theorem dX11_thought_0 : decode cX11_thought 0 = .ok (.aload_n 0, 1) := by decide +kernel
theorem dX11_thought_1 : decode cX11_thought 1 = .ok (.iconst 0, 1) := by decide +kernel
theorem dX11_thought_2 : decode cX11_thought 2 = .ok (.putfield 52, 3) := by decide +kernel
theorem dX11_thought_5 : decode cX11_thought 5 = .ok (.aload_n 0, 1) := by decide +kernel
theorem dX11_thought_6 : decode cX11_thought 6 = .ok (.iload_n 1, 1) := by decide +kernel
theorem dX11_thought_7 : decode cX11_thought 7 = .ok (.invokevirtual 179, 3) := by decide +kernel
theorem dX11_thought_10 : decode cX11_thought 10 = .ok (.ifCond .ne 9, 3) := by decide +kernel
theorem dX11_thought_13 : decode cX11_thought 13 = .ok (.aload_n 0, 1) := by decide +kernel
theorem dX11_thought_14 : decode cX11_thought 14 = .ok (.iconst 1, 1) := by decide +kernel
theorem dX11_thought_15 : decode cX11_thought 15 = .ok (.invokevirtual 119, 3) := by decide +kernel
theorem dX11_thought_18 : decode cX11_thought 18 = .ok (.ireturn, 1) := by decide +kernel
theorem dX11_thought_19 : decode cX11_thought 19 = .ok (.aload_n 0, 1) := by decide +kernel
theorem dX11_thought_20 : decode cX11_thought 20 = .ok (.getfield 24, 3) := by decide +kernel
theorem dX11_thought_23 : decode cX11_thought 23 = .ok (.iload_n 1, 1) := by decide +kernel
theorem dX11_thought_24 : decode cX11_thought 24 = .ok (.invokeinterface 93 2, 5) := by decide +kernel
theorem dX11_thought_29 : decode cX11_thought 29 = .ok (.checkcast 97, 3) := by decide +kernel
theorem dX11_thought_32 : decode cX11_thought 32 = .ok (.getfield 212, 3) := by decide +kernel
theorem dX11_thought_35 : decode cX11_thought 35 = .ok (.iconst 1, 1) := by decide +kernel
theorem dX11_thought_36 : decode cX11_thought 36 = .ok (.iaload, 1) := by decide +kernel
theorem dX11_thought_37 : decode cX11_thought 37 = .ok (.iconst (-1), 1) := by decide +kernel
theorem dX11_thought_38 : decode cX11_thought 38 = .ok (.if_icmp .ne 9, 3) := by decide +kernel
theorem dX11_thought_41 : decode cX11_thought 41 = .ok (.aload_n 0, 1) := by decide +kernel
theorem dX11_thought_42 : decode cX11_thought 42 = .ok (.iconst 2, 1) := by decide +kernel
theorem dX11_thought_43 : decode cX11_thought 43 = .ok (.invokevirtual 119, 3) := by decide +kernel
theorem dX11_thought_46 : decode cX11_thought 46 = .ok (.ireturn, 1) := by decide +kernel
theorem dX11_thought_47 : decode cX11_thought 47 = .ok (.aload_n 0, 1) := by decide +kernel
theorem dX11_thought_48 : decode cX11_thought 48 = .ok (.iload_n 1, 1) := by decide +kernel
theorem dX11_thought_49 : decode cX11_thought 49 = .ok (.invokevirtual 272, 3) := by decide +kernel
theorem dX11_thought_52 : decode cX11_thought 52 = .ok (.ireturn, 1) := by decide +kernel
theorem dX11_bestNow_0 : decode cX11_bestNow 0 = .ok (.aload_n 0, 1) := by decide +kernel
theorem dX11_bestNow_1 : decode cX11_bestNow 1 = .ok (.iload_n 1, 1) := by decide +kernel
theorem dX11_bestNow_2 : decode cX11_bestNow 2 = .ok (.invokevirtual 141, 3) := by decide +kernel
theorem dX11_bestNow_5 : decode cX11_bestNow 5 = .ok (.astore_n 2, 1) := by decide +kernel
theorem dX11_bestNow_6 : decode cX11_bestNow 6 = .ok (.iconst 4, 1) := by decide +kernel
theorem dX11_bestNow_7 : decode cX11_bestNow 7 = .ok (.newarray .int, 2) := by decide +kernel
theorem dX11_bestNow_9 : decode cX11_bestNow 9 = .ok (.astore_n 3, 1) := by decide +kernel
theorem dX11_bestNow_10 : decode cX11_bestNow 10 = .ok (.iconst (-1), 1) := by decide +kernel
theorem dX11_bestNow_11 : decode cX11_bestNow 11 = .ok (.istore 4, 2) := by decide +kernel
theorem dX11_bestNow_13 : decode cX11_bestNow 13 = .ok (.bipush 99, 2) := by decide +kernel
theorem dX11_bestNow_15 : decode cX11_bestNow 15 = .ok (.istore 5, 2) := by decide +kernel
theorem dX11_bestNow_17 : decode cX11_bestNow 17 = .ok (.iconst 0, 1) := by decide +kernel
theorem dX11_bestNow_18 : decode cX11_bestNow 18 = .ok (.istore 6, 2) := by decide +kernel
theorem dX11_bestNow_20 : decode cX11_bestNow 20 = .ok (.iload 6, 2) := by decide +kernel
theorem dX11_bestNow_22 : decode cX11_bestNow 22 = .ok (.bipush 64, 2) := by decide +kernel
theorem dX11_bestNow_24 : decode cX11_bestNow 24 = .ok (.if_icmp .ge 115, 3) := by decide +kernel
theorem dX11_bestNow_27 : decode cX11_bestNow 27 = .ok (.iload 6, 2) := by decide +kernel
theorem dX11_bestNow_29 : decode cX11_bestNow 29 = .ok (.bipush 16, 2) := by decide +kernel
theorem dX11_bestNow_31 : decode cX11_bestNow 31 = .ok (.idiv, 1) := by decide +kernel
theorem dX11_bestNow_32 : decode cX11_bestNow 32 = .ok (.istore 7, 2) := by decide +kernel
theorem dX11_bestNow_34 : decode cX11_bestNow 34 = .ok (.iload 6, 2) := by decide +kernel
theorem dX11_bestNow_36 : decode cX11_bestNow 36 = .ok (.iconst 4, 1) := by decide +kernel
theorem dX11_bestNow_37 : decode cX11_bestNow 37 = .ok (.idiv, 1) := by decide +kernel
theorem dX11_bestNow_38 : decode cX11_bestNow 38 = .ok (.iconst 4, 1) := by decide +kernel
theorem dX11_bestNow_39 : decode cX11_bestNow 39 = .ok (.irem, 1) := by decide +kernel
theorem dX11_bestNow_40 : decode cX11_bestNow 40 = .ok (.istore 8, 2) := by decide +kernel
theorem dX11_bestNow_42 : decode cX11_bestNow 42 = .ok (.iload 6, 2) := by decide +kernel
theorem dX11_bestNow_44 : decode cX11_bestNow 44 = .ok (.iconst 4, 1) := by decide +kernel
theorem dX11_bestNow_45 : decode cX11_bestNow 45 = .ok (.irem, 1) := by decide +kernel
theorem dX11_bestNow_46 : decode cX11_bestNow 46 = .ok (.istore 9, 2) := by decide +kernel
theorem dX11_bestNow_48 : decode cX11_bestNow 48 = .ok (.iload 7, 2) := by decide +kernel
theorem dX11_bestNow_50 : decode cX11_bestNow 50 = .ok (.iload 8, 2) := by decide +kernel
theorem dX11_bestNow_52 : decode cX11_bestNow 52 = .ok (.iadd, 1) := by decide +kernel
theorem dX11_bestNow_53 : decode cX11_bestNow 53 = .ok (.iload 9, 2) := by decide +kernel
theorem dX11_bestNow_55 : decode cX11_bestNow 55 = .ok (.iadd, 1) := by decide +kernel
theorem dX11_bestNow_56 : decode cX11_bestNow 56 = .ok (.iload 5, 2) := by decide +kernel
theorem dX11_bestNow_58 : decode cX11_bestNow 58 = .ok (.if_icmp .lt 6, 3) := by decide +kernel
theorem dX11_bestNow_61 : decode cX11_bestNow 61 = .ok (.goto 72, 3) := by decide +kernel
theorem dX11_bestNow_64 : decode cX11_bestNow 64 = .ok (.iconst 0, 1) := by decide +kernel
theorem dX11_bestNow_65 : decode cX11_bestNow 65 = .ok (.istore 10, 2) := by decide +kernel
theorem dX11_bestNow_67 : decode cX11_bestNow 67 = .ok (.iload 10, 2) := by decide +kernel
theorem dX11_bestNow_69 : decode cX11_bestNow 69 = .ok (.iconst 4, 1) := by decide +kernel
theorem dX11_bestNow_70 : decode cX11_bestNow 70 = .ok (.if_icmp .ge 14, 3) := by decide +kernel
theorem dX11_bestNow_73 : decode cX11_bestNow 73 = .ok (.aload_n 3, 1) := by decide +kernel
theorem dX11_bestNow_74 : decode cX11_bestNow 74 = .ok (.iload 10, 2) := by decide +kernel
theorem dX11_bestNow_76 : decode cX11_bestNow 76 = .ok (.iconst 0, 1) := by decide +kernel
theorem dX11_bestNow_77 : decode cX11_bestNow 77 = .ok (.iastore, 1) := by decide +kernel
theorem dX11_bestNow_78 : decode cX11_bestNow 78 = .ok (.iinc 10 1, 3) := by decide +kernel
theorem dX11_bestNow_81 : decode cX11_bestNow 81 = .ok (.goto (-14), 3) := by decide +kernel
theorem dX11_bestNow_84 : decode cX11_bestNow 84 = .ok (.aload_n 0, 1) := by decide +kernel
theorem dX11_bestNow_85 : decode cX11_bestNow 85 = .ok (.aload_n 3, 1) := by decide +kernel
theorem dX11_bestNow_86 : decode cX11_bestNow 86 = .ok (.aload_n 2, 1) := by decide +kernel
theorem dX11_bestNow_87 : decode cX11_bestNow 87 = .ok (.iload 7, 2) := by decide +kernel
theorem dX11_bestNow_89 : decode cX11_bestNow 89 = .ok (.iload 8, 2) := by decide +kernel
theorem dX11_bestNow_91 : decode cX11_bestNow 91 = .ok (.iload 9, 2) := by decide +kernel
theorem dX11_bestNow_93 : decode cX11_bestNow 93 = .ok (.invokevirtual 149, 3) := by decide +kernel
theorem dX11_bestNow_96 : decode cX11_bestNow 96 = .ok (.aload_n 3, 1) := by decide +kernel
theorem dX11_bestNow_97 : decode cX11_bestNow 97 = .ok (.iconst 3, 1) := by decide +kernel
theorem dX11_bestNow_98 : decode cX11_bestNow 98 = .ok (.invokestatic 159, 3) := by decide +kernel
theorem dX11_bestNow_101 : decode cX11_bestNow 101 = .ok (.ifCond .ne 6, 3) := by decide +kernel
theorem dX11_bestNow_104 : decode cX11_bestNow 104 = .ok (.goto 29, 3) := by decide +kernel
theorem dX11_bestNow_107 : decode cX11_bestNow 107 = .ok (.bipush 100, 2) := by decide +kernel
theorem dX11_bestNow_109 : decode cX11_bestNow 109 = .ok (.iload 7, 2) := by decide +kernel
theorem dX11_bestNow_111 : decode cX11_bestNow 111 = .ok (.imul, 1) := by decide +kernel
theorem dX11_bestNow_112 : decode cX11_bestNow 112 = .ok (.bipush 10, 2) := by decide +kernel
theorem dX11_bestNow_114 : decode cX11_bestNow 114 = .ok (.iload 8, 2) := by decide +kernel
theorem dX11_bestNow_116 : decode cX11_bestNow 116 = .ok (.imul, 1) := by decide +kernel
theorem dX11_bestNow_117 : decode cX11_bestNow 117 = .ok (.iadd, 1) := by decide +kernel
theorem dX11_bestNow_118 : decode cX11_bestNow 118 = .ok (.iload 9, 2) := by decide +kernel
theorem dX11_bestNow_120 : decode cX11_bestNow 120 = .ok (.iadd, 1) := by decide +kernel
theorem dX11_bestNow_121 : decode cX11_bestNow 121 = .ok (.istore 4, 2) := by decide +kernel
theorem dX11_bestNow_123 : decode cX11_bestNow 123 = .ok (.iload 7, 2) := by decide +kernel
theorem dX11_bestNow_125 : decode cX11_bestNow 125 = .ok (.iload 8, 2) := by decide +kernel
theorem dX11_bestNow_127 : decode cX11_bestNow 127 = .ok (.iadd, 1) := by decide +kernel
theorem dX11_bestNow_128 : decode cX11_bestNow 128 = .ok (.iload 9, 2) := by decide +kernel
theorem dX11_bestNow_130 : decode cX11_bestNow 130 = .ok (.iadd, 1) := by decide +kernel
theorem dX11_bestNow_131 : decode cX11_bestNow 131 = .ok (.istore 5, 2) := by decide +kernel
theorem dX11_bestNow_133 : decode cX11_bestNow 133 = .ok (.iinc 6 1, 3) := by decide +kernel
theorem dX11_bestNow_136 : decode cX11_bestNow 136 = .ok (.goto (-116), 3) := by decide +kernel
theorem dX11_bestNow_139 : decode cX11_bestNow 139 = .ok (.iload 4, 2) := by decide +kernel
theorem dX11_bestNow_141 : decode cX11_bestNow 141 = .ok (.ireturn, 1) := by decide +kernel
theorem dX11_bestCharge_0 : decode cX11_bestCharge 0 = .ok (.aload_n 0, 1) := by decide +kernel
theorem dX11_bestCharge_1 : decode cX11_bestCharge 1 = .ok (.iconst 0, 1) := by decide +kernel
theorem dX11_bestCharge_2 : decode cX11_bestCharge 2 = .ok (.putfield 52, 3) := by decide +kernel
theorem dX11_bestCharge_5 : decode cX11_bestCharge 5 = .ok (.iload_n 1, 1) := by decide +kernel
theorem dX11_bestCharge_6 : decode cX11_bestCharge 6 = .ok (.iconst 1, 1) := by decide +kernel
theorem dX11_bestCharge_7 : decode cX11_bestCharge 7 = .ok (.bipush 9, 2) := by decide +kernel
theorem dX11_bestCharge_9 : decode cX11_bestCharge 9 = .ok (.invokestatic 59, 3) := by decide +kernel
theorem dX11_bestCharge_12 : decode cX11_bestCharge 12 = .ok (.ifCond .ne 9, 3) := by decide +kernel
theorem dX11_bestCharge_15 : decode cX11_bestCharge 15 = .ok (.aload_n 0, 1) := by decide +kernel
theorem dX11_bestCharge_16 : decode cX11_bestCharge 16 = .ok (.iconst 1, 1) := by decide +kernel
theorem dX11_bestCharge_17 : decode cX11_bestCharge 17 = .ok (.invokevirtual 119, 3) := by decide +kernel
theorem dX11_bestCharge_20 : decode cX11_bestCharge 20 = .ok (.ireturn, 1) := by decide +kernel
theorem dX11_bestCharge_21 : decode cX11_bestCharge 21 = .ok (.aload_n 0, 1) := by decide +kernel
theorem dX11_bestCharge_22 : decode cX11_bestCharge 22 = .ok (.invokevirtual 138, 3) := by decide +kernel
theorem dX11_bestCharge_25 : decode cX11_bestCharge 25 = .ok (.iload_n 1, 1) := by decide +kernel
theorem dX11_bestCharge_26 : decode cX11_bestCharge 26 = .ok (.if_icmp .ge 9, 3) := by decide +kernel
theorem dX11_bestCharge_29 : decode cX11_bestCharge 29 = .ok (.aload_n 0, 1) := by decide +kernel
theorem dX11_bestCharge_30 : decode cX11_bestCharge 30 = .ok (.iconst 2, 1) := by decide +kernel
theorem dX11_bestCharge_31 : decode cX11_bestCharge 31 = .ok (.invokevirtual 119, 3) := by decide +kernel
theorem dX11_bestCharge_34 : decode cX11_bestCharge 34 = .ok (.ireturn, 1) := by decide +kernel
theorem dX11_bestCharge_35 : decode cX11_bestCharge 35 = .ok (.aload_n 0, 1) := by decide +kernel
theorem dX11_bestCharge_36 : decode cX11_bestCharge 36 = .ok (.iload_n 1, 1) := by decide +kernel
theorem dX11_bestCharge_37 : decode cX11_bestCharge 37 = .ok (.invokevirtual 275, 3) := by decide +kernel
theorem dX11_bestCharge_40 : decode cX11_bestCharge 40 = .ok (.ireturn, 1) := by decide +kernel
theorem dX11_copies_0 : decode cX11_copies 0 = .ok (.new 17, 3) := by decide +kernel
theorem dX11_copies_3 : decode cX11_copies 3 = .ok (.dup, 1) := by decide +kernel
theorem dX11_copies_4 : decode cX11_copies 4 = .ok (.invokespecial 19, 3) := by decide +kernel
theorem dX11_copies_7 : decode cX11_copies 7 = .ok (.astore_n 1, 1) := by decide +kernel
theorem dX11_copies_8 : decode cX11_copies 8 = .ok (.iconst 0, 1) := by decide +kernel
theorem dX11_copies_9 : decode cX11_copies 9 = .ok (.istore_n 2, 1) := by decide +kernel
theorem dX11_copies_10 : decode cX11_copies 10 = .ok (.iload_n 2, 1) := by decide +kernel
theorem dX11_copies_11 : decode cX11_copies 11 = .ok (.aload_n 0, 1) := by decide +kernel
theorem dX11_copies_12 : decode cX11_copies 12 = .ok (.getfield 20, 3) := by decide +kernel
theorem dX11_copies_15 : decode cX11_copies 15 = .ok (.invokeinterface 113 1, 5) := by decide +kernel
theorem dX11_copies_20 : decode cX11_copies 20 = .ok (.if_icmp .ge 32, 3) := by decide +kernel
theorem dX11_copies_23 : decode cX11_copies 23 = .ok (.aload_n 1, 1) := by decide +kernel
theorem dX11_copies_24 : decode cX11_copies 24 = .ok (.aload_n 0, 1) := by decide +kernel
theorem dX11_copies_25 : decode cX11_copies 25 = .ok (.getfield 20, 3) := by decide +kernel
theorem dX11_copies_28 : decode cX11_copies 28 = .ok (.iload_n 2, 1) := by decide +kernel
theorem dX11_copies_29 : decode cX11_copies 29 = .ok (.invokeinterface 93 2, 5) := by decide +kernel
theorem dX11_copies_34 : decode cX11_copies 34 = .ok (.checkcast 97, 3) := by decide +kernel
theorem dX11_copies_37 : decode cX11_copies 37 = .ok (.invokevirtual 278, 3) := by decide +kernel
theorem dX11_copies_40 : decode cX11_copies 40 = .ok (.invokeinterface 84 2, 5) := by decide +kernel
theorem dX11_copies_45 : decode cX11_copies 45 = .ok (.pop, 1) := by decide +kernel
theorem dX11_copies_46 : decode cX11_copies 46 = .ok (.iinc 2 1, 3) := by decide +kernel
theorem dX11_copies_49 : decode cX11_copies 49 = .ok (.goto (-39), 3) := by decide +kernel
theorem dX11_copies_52 : decode cX11_copies 52 = .ok (.aload_n 1, 1) := by decide +kernel
theorem dX11_copies_53 : decode cX11_copies 53 = .ok (.areturn, 1) := by decide +kernel
theorem dX11_freeNow_0 : decode cX11_freeNow 0 = .ok (.aload_n 0, 1) := by decide +kernel
theorem dX11_freeNow_1 : decode cX11_freeNow 1 = .ok (.getfield 44, 3) := by decide +kernel
theorem dX11_freeNow_4 : decode cX11_freeNow 4 = .ok (.invokevirtual 281, 3) := by decide +kernel
theorem dX11_freeNow_7 : decode cX11_freeNow 7 = .ok (.astore_n 3, 1) := by decide +kernel
theorem dX11_freeNow_8 : decode cX11_freeNow 8 = .ok (.aload_n 0, 1) := by decide +kernel
theorem dX11_freeNow_9 : decode cX11_freeNow 9 = .ok (.invokevirtual 284, 3) := by decide +kernel
theorem dX11_freeNow_12 : decode cX11_freeNow 12 = .ok (.astore 4, 2) := by decide +kernel
theorem dX11_freeNow_14 : decode cX11_freeNow 14 = .ok (.new 17, 3) := by decide +kernel
theorem dX11_freeNow_17 : decode cX11_freeNow 17 = .ok (.dup, 1) := by decide +kernel
theorem dX11_freeNow_18 : decode cX11_freeNow 18 = .ok (.invokespecial 19, 3) := by decide +kernel
theorem dX11_freeNow_21 : decode cX11_freeNow 21 = .ok (.astore 5, 2) := by decide +kernel
theorem dX11_freeNow_23 : decode cX11_freeNow 23 = .ok (.aload_n 3, 1) := by decide +kernel
theorem dX11_freeNow_24 : decode cX11_freeNow 24 = .ok (.iload_n 2, 1) := by decide +kernel
theorem dX11_freeNow_25 : decode cX11_freeNow 25 = .ok (.putfield 163, 3) := by decide +kernel
theorem dX11_freeNow_28 : decode cX11_freeNow 28 = .ok (.iconst 0, 1) := by decide +kernel
theorem dX11_freeNow_29 : decode cX11_freeNow 29 = .ok (.istore 6, 2) := by decide +kernel
theorem dX11_freeNow_31 : decode cX11_freeNow 31 = .ok (.iload 6, 2) := by decide +kernel
theorem dX11_freeNow_33 : decode cX11_freeNow 33 = .ok (.iload_n 1, 1) := by decide +kernel
theorem dX11_freeNow_34 : decode cX11_freeNow 34 = .ok (.if_icmp .ge 17, 3) := by decide +kernel
theorem dX11_freeNow_37 : decode cX11_freeNow 37 = .ok (.aload_n 3, 1) := by decide +kernel
theorem dX11_freeNow_38 : decode cX11_freeNow 38 = .ok (.aload 4, 2) := by decide +kernel
theorem dX11_freeNow_40 : decode cX11_freeNow 40 = .ok (.aload 5, 2) := by decide +kernel
theorem dX11_freeNow_42 : decode cX11_freeNow 42 = .ok (.invokestatic 169, 3) := by decide +kernel
theorem dX11_freeNow_45 : decode cX11_freeNow 45 = .ok (.iinc 6 1, 3) := by decide +kernel
theorem dX11_freeNow_48 : decode cX11_freeNow 48 = .ok (.goto (-17), 3) := by decide +kernel
theorem dX11_freeNow_51 : decode cX11_freeNow 51 = .ok (.aload 5, 2) := by decide +kernel
theorem dX11_freeNow_53 : decode cX11_freeNow 53 = .ok (.invokeinterface 90 1, 5) := by decide +kernel
theorem dX11_freeNow_58 : decode cX11_freeNow 58 = .ok (.ifCond .eq 7, 3) := by decide +kernel
theorem dX11_freeNow_61 : decode cX11_freeNow 61 = .ok (.iconst (-1), 1) := by decide +kernel
theorem dX11_freeNow_62 : decode cX11_freeNow 62 = .ok (.goto 25, 3) := by decide +kernel
theorem dX11_freeNow_65 : decode cX11_freeNow 65 = .ok (.aload 5, 2) := by decide +kernel
theorem dX11_freeNow_67 : decode cX11_freeNow 67 = .ok (.aload 5, 2) := by decide +kernel
theorem dX11_freeNow_69 : decode cX11_freeNow 69 = .ok (.invokeinterface 113 1, 5) := by decide +kernel
theorem dX11_freeNow_74 : decode cX11_freeNow 74 = .ok (.iconst 1, 1) := by decide +kernel
theorem dX11_freeNow_75 : decode cX11_freeNow 75 = .ok (.isub, 1) := by decide +kernel
theorem dX11_freeNow_76 : decode cX11_freeNow 76 = .ok (.invokeinterface 93 2, 5) := by decide +kernel
theorem dX11_freeNow_81 : decode cX11_freeNow 81 = .ok (.checkcast 97, 3) := by decide +kernel
theorem dX11_freeNow_84 : decode cX11_freeNow 84 = .ok (.getfield 236, 3) := by decide +kernel
theorem dX11_freeNow_87 : decode cX11_freeNow 87 = .ok (.ireturn, 1) := by decide +kernel
theorem dX11_freeAfter_0 : decode cX11_freeAfter 0 = .ok (.aload_n 0, 1) := by decide +kernel
theorem dX11_freeAfter_1 : decode cX11_freeAfter 1 = .ok (.iconst 0, 1) := by decide +kernel
theorem dX11_freeAfter_2 : decode cX11_freeAfter 2 = .ok (.putfield 52, 3) := by decide +kernel
theorem dX11_freeAfter_5 : decode cX11_freeAfter 5 = .ok (.iload_n 1, 1) := by decide +kernel
theorem dX11_freeAfter_6 : decode cX11_freeAfter 6 = .ok (.iconst 1, 1) := by decide +kernel
theorem dX11_freeAfter_7 : decode cX11_freeAfter 7 = .ok (.bipush 12, 2) := by decide +kernel
theorem dX11_freeAfter_9 : decode cX11_freeAfter 9 = .ok (.invokestatic 59, 3) := by decide +kernel
theorem dX11_freeAfter_12 : decode cX11_freeAfter 12 = .ok (.ifCond .eq 13, 3) := by decide +kernel
theorem dX11_freeAfter_15 : decode cX11_freeAfter 15 = .ok (.iload_n 2, 1) := by decide +kernel
theorem dX11_freeAfter_16 : decode cX11_freeAfter 16 = .ok (.iconst 0, 1) := by decide +kernel
theorem dX11_freeAfter_17 : decode cX11_freeAfter 17 = .ok (.bipush 9, 2) := by decide +kernel
theorem dX11_freeAfter_19 : decode cX11_freeAfter 19 = .ok (.invokestatic 59, 3) := by decide +kernel
theorem dX11_freeAfter_22 : decode cX11_freeAfter 22 = .ok (.ifCond .ne 9, 3) := by decide +kernel
theorem dX11_freeAfter_25 : decode cX11_freeAfter 25 = .ok (.aload_n 0, 1) := by decide +kernel
theorem dX11_freeAfter_26 : decode cX11_freeAfter 26 = .ok (.iconst 1, 1) := by decide +kernel
theorem dX11_freeAfter_27 : decode cX11_freeAfter 27 = .ok (.invokevirtual 119, 3) := by decide +kernel
theorem dX11_freeAfter_30 : decode cX11_freeAfter 30 = .ok (.ireturn, 1) := by decide +kernel
theorem dX11_freeAfter_31 : decode cX11_freeAfter 31 = .ok (.aload_n 0, 1) := by decide +kernel
theorem dX11_freeAfter_32 : decode cX11_freeAfter 32 = .ok (.iload_n 1, 1) := by decide +kernel
theorem dX11_freeAfter_33 : decode cX11_freeAfter 33 = .ok (.iload_n 2, 1) := by decide +kernel
theorem dX11_freeAfter_34 : decode cX11_freeAfter 34 = .ok (.invokevirtual 288, 3) := by decide +kernel
theorem dX11_freeAfter_37 : decode cX11_freeAfter 37 = .ok (.ireturn, 1) := by decide +kernel
theorem dX11_fallNow_0 : decode cX11_fallNow 0 = .ok (.iconst 0, 1) := by decide +kernel
theorem dX11_fallNow_1 : decode cX11_fallNow 1 = .ok (.istore_n 2, 1) := by decide +kernel
theorem dX11_fallNow_2 : decode cX11_fallNow 2 = .ok (.iload_n 2, 1) := by decide +kernel
theorem dX11_fallNow_3 : decode cX11_fallNow 3 = .ok (.bipush 9, 2) := by decide +kernel
theorem dX11_fallNow_5 : decode cX11_fallNow 5 = .ok (.if_icmp .gt 86, 3) := by decide +kernel
theorem dX11_fallNow_8 : decode cX11_fallNow 8 = .ok (.aload_n 0, 1) := by decide +kernel
theorem dX11_fallNow_9 : decode cX11_fallNow 9 = .ok (.getfield 44, 3) := by decide +kernel
theorem dX11_fallNow_12 : decode cX11_fallNow 12 = .ok (.getfield 176, 3) := by decide +kernel
theorem dX11_fallNow_15 : decode cX11_fallNow 15 = .ok (.ifCond .le 76, 3) := by decide +kernel
theorem dX11_fallNow_18 : decode cX11_fallNow 18 = .ok (.aload_n 0, 1) := by decide +kernel
theorem dX11_fallNow_19 : decode cX11_fallNow 19 = .ok (.getfield 44, 3) := by decide +kernel
theorem dX11_fallNow_22 : decode cX11_fallNow 22 = .ok (.invokevirtual 281, 3) := by decide +kernel
theorem dX11_fallNow_25 : decode cX11_fallNow 25 = .ok (.astore_n 3, 1) := by decide +kernel
theorem dX11_fallNow_26 : decode cX11_fallNow 26 = .ok (.aload_n 0, 1) := by decide +kernel
theorem dX11_fallNow_27 : decode cX11_fallNow 27 = .ok (.invokevirtual 284, 3) := by decide +kernel
theorem dX11_fallNow_30 : decode cX11_fallNow 30 = .ok (.astore 4, 2) := by decide +kernel
theorem dX11_fallNow_32 : decode cX11_fallNow 32 = .ok (.new 17, 3) := by decide +kernel
theorem dX11_fallNow_35 : decode cX11_fallNow 35 = .ok (.dup, 1) := by decide +kernel
theorem dX11_fallNow_36 : decode cX11_fallNow 36 = .ok (.invokespecial 19, 3) := by decide +kernel
theorem dX11_fallNow_39 : decode cX11_fallNow 39 = .ok (.astore 5, 2) := by decide +kernel
theorem dX11_fallNow_41 : decode cX11_fallNow 41 = .ok (.aload_n 3, 1) := by decide +kernel
theorem dX11_fallNow_42 : decode cX11_fallNow 42 = .ok (.iload_n 2, 1) := by decide +kernel
theorem dX11_fallNow_43 : decode cX11_fallNow 43 = .ok (.putfield 163, 3) := by decide +kernel
theorem dX11_fallNow_46 : decode cX11_fallNow 46 = .ok (.iconst 0, 1) := by decide +kernel
theorem dX11_fallNow_47 : decode cX11_fallNow 47 = .ok (.istore 6, 2) := by decide +kernel
theorem dX11_fallNow_49 : decode cX11_fallNow 49 = .ok (.iload 6, 2) := by decide +kernel
theorem dX11_fallNow_51 : decode cX11_fallNow 51 = .ok (.iload_n 1, 1) := by decide +kernel
theorem dX11_fallNow_52 : decode cX11_fallNow 52 = .ok (.if_icmp .ge 17, 3) := by decide +kernel
theorem dX11_fallNow_55 : decode cX11_fallNow 55 = .ok (.aload_n 3, 1) := by decide +kernel
theorem dX11_fallNow_56 : decode cX11_fallNow 56 = .ok (.aload 4, 2) := by decide +kernel
theorem dX11_fallNow_58 : decode cX11_fallNow 58 = .ok (.aload 5, 2) := by decide +kernel
theorem dX11_fallNow_60 : decode cX11_fallNow 60 = .ok (.invokestatic 169, 3) := by decide +kernel
theorem dX11_fallNow_63 : decode cX11_fallNow 63 = .ok (.iinc 6 1, 3) := by decide +kernel
theorem dX11_fallNow_66 : decode cX11_fallNow 66 = .ok (.goto (-17), 3) := by decide +kernel
theorem dX11_fallNow_69 : decode cX11_fallNow 69 = .ok (.aload_n 3, 1) := by decide +kernel
theorem dX11_fallNow_70 : decode cX11_fallNow 70 = .ok (.getfield 260, 3) := by decide +kernel
theorem dX11_fallNow_73 : decode cX11_fallNow 73 = .ok (.aload_n 0, 1) := by decide +kernel
theorem dX11_fallNow_74 : decode cX11_fallNow 74 = .ok (.getfield 44, 3) := by decide +kernel
theorem dX11_fallNow_77 : decode cX11_fallNow 77 = .ok (.getfield 260, 3) := by decide +kernel
theorem dX11_fallNow_80 : decode cX11_fallNow 80 = .ok (.if_icmp .le 5, 3) := by decide +kernel
theorem dX11_fallNow_83 : decode cX11_fallNow 83 = .ok (.iload_n 2, 1) := by decide +kernel
theorem dX11_fallNow_84 : decode cX11_fallNow 84 = .ok (.ireturn, 1) := by decide +kernel
theorem dX11_fallNow_85 : decode cX11_fallNow 85 = .ok (.iinc 2 1, 3) := by decide +kernel
theorem dX11_fallNow_88 : decode cX11_fallNow 88 = .ok (.goto (-86), 3) := by decide +kernel
theorem dX11_fallNow_91 : decode cX11_fallNow 91 = .ok (.iconst (-1), 1) := by decide +kernel
theorem dX11_fallNow_92 : decode cX11_fallNow 92 = .ok (.ireturn, 1) := by decide +kernel
theorem dX11_letFall_0 : decode cX11_letFall 0 = .ok (.aload_n 0, 1) := by decide +kernel
theorem dX11_letFall_1 : decode cX11_letFall 1 = .ok (.iconst 0, 1) := by decide +kernel
theorem dX11_letFall_2 : decode cX11_letFall 2 = .ok (.putfield 52, 3) := by decide +kernel
theorem dX11_letFall_5 : decode cX11_letFall 5 = .ok (.iload_n 1, 1) := by decide +kernel
theorem dX11_letFall_6 : decode cX11_letFall 6 = .ok (.iconst 1, 1) := by decide +kernel
theorem dX11_letFall_7 : decode cX11_letFall 7 = .ok (.bipush 12, 2) := by decide +kernel
theorem dX11_letFall_9 : decode cX11_letFall 9 = .ok (.invokestatic 59, 3) := by decide +kernel
theorem dX11_letFall_12 : decode cX11_letFall 12 = .ok (.ifCond .ne 9, 3) := by decide +kernel
theorem dX11_letFall_15 : decode cX11_letFall 15 = .ok (.aload_n 0, 1) := by decide +kernel
theorem dX11_letFall_16 : decode cX11_letFall 16 = .ok (.iconst 1, 1) := by decide +kernel
theorem dX11_letFall_17 : decode cX11_letFall 17 = .ok (.invokevirtual 119, 3) := by decide +kernel
theorem dX11_letFall_20 : decode cX11_letFall 20 = .ok (.ireturn, 1) := by decide +kernel
theorem dX11_letFall_21 : decode cX11_letFall 21 = .ok (.aload_n 0, 1) := by decide +kernel
theorem dX11_letFall_22 : decode cX11_letFall 22 = .ok (.iload_n 1, 1) := by decide +kernel
theorem dX11_letFall_23 : decode cX11_letFall 23 = .ok (.invokevirtual 291, 3) := by decide +kernel
theorem dX11_letFall_26 : decode cX11_letFall 26 = .ok (.ireturn, 1) := by decide +kernel
theorem dX11_digest_0 : decode cX11_digest 0 = .ok (.aload_n 0, 1) := by decide +kernel
theorem dX11_digest_1 : decode cX11_digest 1 = .ok (.iconst 0, 1) := by decide +kernel
theorem dX11_digest_2 : decode cX11_digest 2 = .ok (.putfield 52, 3) := by decide +kernel
theorem dX11_digest_5 : decode cX11_digest 5 = .ok (.ldc2_w 294, 3) := by decide +kernel
theorem dX11_digest_8 : decode cX11_digest 8 = .ok (.lstore_n 1, 1) := by decide +kernel
theorem dX11_digest_9 : decode cX11_digest 9 = .ok (.iconst 0, 1) := by decide +kernel
theorem dX11_digest_10 : decode cX11_digest 10 = .ok (.istore_n 3, 1) := by decide +kernel
theorem dX11_digest_11 : decode cX11_digest 11 = .ok (.iload_n 3, 1) := by decide +kernel
theorem dX11_digest_12 : decode cX11_digest 12 = .ok (.bipush 17, 2) := by decide +kernel
theorem dX11_digest_14 : decode cX11_digest 14 = .ok (.if_icmp .gt 22, 3) := by decide +kernel
theorem dX11_digest_17 : decode cX11_digest 17 = .ok (.lload_n 1, 1) := by decide +kernel
theorem dX11_digest_18 : decode cX11_digest 18 = .ok (.ldc2_w 296, 3) := by decide +kernel
theorem dX11_digest_21 : decode cX11_digest 21 = .ok (.lmul, 1) := by decide +kernel
theorem dX11_digest_22 : decode cX11_digest 22 = .ok (.aload_n 0, 1) := by decide +kernel
theorem dX11_digest_23 : decode cX11_digest 23 = .ok (.iload_n 3, 1) := by decide +kernel
theorem dX11_digest_24 : decode cX11_digest 24 = .ok (.invokevirtual 266, 3) := by decide +kernel
theorem dX11_digest_27 : decode cX11_digest 27 = .ok (.i2l, 1) := by decide +kernel
theorem dX11_digest_28 : decode cX11_digest 28 = .ok (.ladd, 1) := by decide +kernel
theorem dX11_digest_29 : decode cX11_digest 29 = .ok (.lstore_n 1, 1) := by decide +kernel
theorem dX11_digest_30 : decode cX11_digest 30 = .ok (.iinc 3 1, 3) := by decide +kernel
theorem dX11_digest_33 : decode cX11_digest 33 = .ok (.goto (-22), 3) := by decide +kernel
theorem dX11_digest_36 : decode cX11_digest 36 = .ok (.iconst 0, 1) := by decide +kernel
theorem dX11_digest_37 : decode cX11_digest 37 = .ok (.istore_n 3, 1) := by decide +kernel
theorem dX11_digest_38 : decode cX11_digest 38 = .ok (.iload_n 3, 1) := by decide +kernel
theorem dX11_digest_39 : decode cX11_digest 39 = .ok (.aload_n 0, 1) := by decide +kernel
theorem dX11_digest_40 : decode cX11_digest 40 = .ok (.getfield 110, 3) := by decide +kernel
theorem dX11_digest_43 : decode cX11_digest 43 = .ok (.if_icmp .ge 39, 3) := by decide +kernel
theorem dX11_digest_46 : decode cX11_digest 46 = .ok (.iconst 0, 1) := by decide +kernel
theorem dX11_digest_47 : decode cX11_digest 47 = .ok (.istore 4, 2) := by decide +kernel
theorem dX11_digest_49 : decode cX11_digest 49 = .ok (.iload 4, 2) := by decide +kernel
theorem dX11_digest_51 : decode cX11_digest 51 = .ok (.iconst 5, 1) := by decide +kernel
theorem dX11_digest_52 : decode cX11_digest 52 = .ok (.if_icmp .gt 24, 3) := by decide +kernel
theorem dX11_digest_55 : decode cX11_digest 55 = .ok (.lload_n 1, 1) := by decide +kernel
theorem dX11_digest_56 : decode cX11_digest 56 = .ok (.ldc2_w 296, 3) := by decide +kernel
theorem dX11_digest_59 : decode cX11_digest 59 = .ok (.lmul, 1) := by decide +kernel
theorem dX11_digest_60 : decode cX11_digest 60 = .ok (.aload_n 0, 1) := by decide +kernel
theorem dX11_digest_61 : decode cX11_digest 61 = .ok (.iload_n 3, 1) := by decide +kernel
theorem dX11_digest_62 : decode cX11_digest 62 = .ok (.iload 4, 2) := by decide +kernel
theorem dX11_digest_64 : decode cX11_digest 64 = .ok (.invokevirtual 223, 3) := by decide +kernel
theorem dX11_digest_67 : decode cX11_digest 67 = .ok (.i2l, 1) := by decide +kernel
theorem dX11_digest_68 : decode cX11_digest 68 = .ok (.ladd, 1) := by decide +kernel
theorem dX11_digest_69 : decode cX11_digest 69 = .ok (.lstore_n 1, 1) := by decide +kernel
theorem dX11_digest_70 : decode cX11_digest 70 = .ok (.iinc 4 1, 3) := by decide +kernel
theorem dX11_digest_73 : decode cX11_digest 73 = .ok (.goto (-24), 3) := by decide +kernel
theorem dX11_digest_76 : decode cX11_digest 76 = .ok (.iinc 3 1, 3) := by decide +kernel
theorem dX11_digest_79 : decode cX11_digest 79 = .ok (.goto (-41), 3) := by decide +kernel
theorem dX11_digest_82 : decode cX11_digest 82 = .ok (.iconst 0, 1) := by decide +kernel
theorem dX11_digest_83 : decode cX11_digest 83 = .ok (.istore_n 3, 1) := by decide +kernel
theorem dX11_digest_84 : decode cX11_digest 84 = .ok (.iload_n 3, 1) := by decide +kernel
theorem dX11_digest_85 : decode cX11_digest 85 = .ok (.aload_n 0, 1) := by decide +kernel
theorem dX11_digest_86 : decode cX11_digest 86 = .ok (.getfield 116, 3) := by decide +kernel
theorem dX11_digest_89 : decode cX11_digest 89 = .ok (.if_icmp .ge 39, 3) := by decide +kernel
theorem dX11_digest_92 : decode cX11_digest 92 = .ok (.lload_n 1, 1) := by decide +kernel
theorem dX11_digest_93 : decode cX11_digest 93 = .ok (.ldc2_w 296, 3) := by decide +kernel
theorem dX11_digest_96 : decode cX11_digest 96 = .ok (.lmul, 1) := by decide +kernel
theorem dX11_digest_97 : decode cX11_digest 97 = .ok (.aload_n 0, 1) := by decide +kernel
theorem dX11_digest_98 : decode cX11_digest 98 = .ok (.getfield 14, 3) := by decide +kernel
theorem dX11_digest_101 : decode cX11_digest 101 = .ok (.iload_n 3, 1) := by decide +kernel
theorem dX11_digest_102 : decode cX11_digest 102 = .ok (.aaload, 1) := by decide +kernel
theorem dX11_digest_103 : decode cX11_digest 103 = .ok (.iconst 0, 1) := by decide +kernel
theorem dX11_digest_104 : decode cX11_digest 104 = .ok (.iaload, 1) := by decide +kernel
theorem dX11_digest_105 : decode cX11_digest 105 = .ok (.i2l, 1) := by decide +kernel
theorem dX11_digest_106 : decode cX11_digest 106 = .ok (.ladd, 1) := by decide +kernel
theorem dX11_digest_107 : decode cX11_digest 107 = .ok (.ldc2_w 296, 3) := by decide +kernel
theorem dX11_digest_110 : decode cX11_digest 110 = .ok (.lmul, 1) := by decide +kernel
theorem dX11_digest_111 : decode cX11_digest 111 = .ok (.aload_n 0, 1) := by decide +kernel
theorem dX11_digest_112 : decode cX11_digest 112 = .ok (.getfield 14, 3) := by decide +kernel
theorem dX11_digest_115 : decode cX11_digest 115 = .ok (.iload_n 3, 1) := by decide +kernel
theorem dX11_digest_116 : decode cX11_digest 116 = .ok (.aaload, 1) := by decide +kernel
theorem dX11_digest_117 : decode cX11_digest 117 = .ok (.iconst 1, 1) := by decide +kernel
theorem dX11_digest_118 : decode cX11_digest 118 = .ok (.iaload, 1) := by decide +kernel
theorem dX11_digest_119 : decode cX11_digest 119 = .ok (.i2l, 1) := by decide +kernel
theorem dX11_digest_120 : decode cX11_digest 120 = .ok (.ladd, 1) := by decide +kernel
theorem dX11_digest_121 : decode cX11_digest 121 = .ok (.lstore_n 1, 1) := by decide +kernel
theorem dX11_digest_122 : decode cX11_digest 122 = .ok (.iinc 3 1, 3) := by decide +kernel
theorem dX11_digest_125 : decode cX11_digest 125 = .ok (.goto (-41), 3) := by decide +kernel
theorem dX11_digest_128 : decode cX11_digest 128 = .ok (.iconst 0, 1) := by decide +kernel
theorem dX11_digest_129 : decode cX11_digest 129 = .ok (.istore_n 3, 1) := by decide +kernel
theorem dX11_digest_130 : decode cX11_digest 130 = .ok (.iload_n 3, 1) := by decide +kernel
theorem dX11_digest_131 : decode cX11_digest 131 = .ok (.iconst 5, 1) := by decide +kernel
theorem dX11_digest_132 : decode cX11_digest 132 = .ok (.if_icmp .ge 40, 3) := by decide +kernel
theorem dX11_digest_135 : decode cX11_digest 135 = .ok (.iconst 0, 1) := by decide +kernel
theorem dX11_digest_136 : decode cX11_digest 136 = .ok (.istore 4, 2) := by decide +kernel
theorem dX11_digest_138 : decode cX11_digest 138 = .ok (.iload 4, 2) := by decide +kernel
theorem dX11_digest_140 : decode cX11_digest 140 = .ok (.bipush 7, 2) := by decide +kernel
theorem dX11_digest_142 : decode cX11_digest 142 = .ok (.if_icmp .gt 24, 3) := by decide +kernel
theorem dX11_digest_145 : decode cX11_digest 145 = .ok (.lload_n 1, 1) := by decide +kernel
theorem dX11_digest_146 : decode cX11_digest 146 = .ok (.ldc2_w 296, 3) := by decide +kernel
theorem dX11_digest_149 : decode cX11_digest 149 = .ok (.lmul, 1) := by decide +kernel
theorem dX11_digest_150 : decode cX11_digest 150 = .ok (.aload_n 0, 1) := by decide +kernel
theorem dX11_digest_151 : decode cX11_digest 151 = .ok (.iload_n 3, 1) := by decide +kernel
theorem dX11_digest_152 : decode cX11_digest 152 = .ok (.iload 4, 2) := by decide +kernel
theorem dX11_digest_154 : decode cX11_digest 154 = .ok (.invokevirtual 251, 3) := by decide +kernel
theorem dX11_digest_157 : decode cX11_digest 157 = .ok (.i2l, 1) := by decide +kernel
theorem dX11_digest_158 : decode cX11_digest 158 = .ok (.ladd, 1) := by decide +kernel
theorem dX11_digest_159 : decode cX11_digest 159 = .ok (.lstore_n 1, 1) := by decide +kernel
theorem dX11_digest_160 : decode cX11_digest 160 = .ok (.iinc 4 1, 3) := by decide +kernel
theorem dX11_digest_163 : decode cX11_digest 163 = .ok (.goto (-25), 3) := by decide +kernel
theorem dX11_digest_166 : decode cX11_digest 166 = .ok (.iinc 3 1, 3) := by decide +kernel
theorem dX11_digest_169 : decode cX11_digest 169 = .ok (.goto (-39), 3) := by decide +kernel
theorem dX11_digest_172 : decode cX11_digest 172 = .ok (.iconst 0, 1) := by decide +kernel
theorem dX11_digest_173 : decode cX11_digest 173 = .ok (.istore_n 3, 1) := by decide +kernel
theorem dX11_digest_174 : decode cX11_digest 174 = .ok (.iload_n 3, 1) := by decide +kernel
theorem dX11_digest_175 : decode cX11_digest 175 = .ok (.aload_n 0, 1) := by decide +kernel
theorem dX11_digest_176 : decode cX11_digest 176 = .ok (.getfield 20, 3) := by decide +kernel
theorem dX11_digest_179 : decode cX11_digest 179 = .ok (.invokeinterface 113 1, 5) := by decide +kernel
theorem dX11_digest_184 : decode cX11_digest 184 = .ok (.if_icmp .ge 53, 3) := by decide +kernel
theorem dX11_digest_187 : decode cX11_digest 187 = .ok (.iconst 0, 1) := by decide +kernel
theorem dX11_digest_188 : decode cX11_digest 188 = .ok (.istore 4, 2) := by decide +kernel
theorem dX11_digest_190 : decode cX11_digest 190 = .ok (.iload 4, 2) := by decide +kernel
theorem dX11_digest_192 : decode cX11_digest 192 = .ok (.iconst 3, 1) := by decide +kernel
theorem dX11_digest_193 : decode cX11_digest 193 = .ok (.if_icmp .gt 38, 3) := by decide +kernel
theorem dX11_digest_196 : decode cX11_digest 196 = .ok (.lload_n 1, 1) := by decide +kernel
theorem dX11_digest_197 : decode cX11_digest 197 = .ok (.ldc2_w 296, 3) := by decide +kernel
theorem dX11_digest_200 : decode cX11_digest 200 = .ok (.lmul, 1) := by decide +kernel
theorem dX11_digest_201 : decode cX11_digest 201 = .ok (.aload_n 0, 1) := by decide +kernel
theorem dX11_digest_202 : decode cX11_digest 202 = .ok (.getfield 20, 3) := by decide +kernel
theorem dX11_digest_205 : decode cX11_digest 205 = .ok (.iload_n 3, 1) := by decide +kernel
theorem dX11_digest_206 : decode cX11_digest 206 = .ok (.invokeinterface 93 2, 5) := by decide +kernel
theorem dX11_digest_211 : decode cX11_digest 211 = .ok (.checkcast 97, 3) := by decide +kernel
theorem dX11_digest_214 : decode cX11_digest 214 = .ok (.getfield 146, 3) := by decide +kernel
theorem dX11_digest_217 : decode cX11_digest 217 = .ok (.iload 4, 2) := by decide +kernel
theorem dX11_digest_219 : decode cX11_digest 219 = .ok (.invokestatic 159, 3) := by decide +kernel
theorem dX11_digest_222 : decode cX11_digest 222 = .ok (.i2l, 1) := by decide +kernel
theorem dX11_digest_223 : decode cX11_digest 223 = .ok (.ladd, 1) := by decide +kernel
theorem dX11_digest_224 : decode cX11_digest 224 = .ok (.lstore_n 1, 1) := by decide +kernel
theorem dX11_digest_225 : decode cX11_digest 225 = .ok (.iinc 4 1, 3) := by decide +kernel
theorem dX11_digest_228 : decode cX11_digest 228 = .ok (.goto (-38), 3) := by decide +kernel
theorem dX11_digest_231 : decode cX11_digest 231 = .ok (.iinc 3 1, 3) := by decide +kernel
theorem dX11_digest_234 : decode cX11_digest 234 = .ok (.goto (-60), 3) := by decide +kernel
theorem dX11_digest_237 : decode cX11_digest 237 = .ok (.iconst 0, 1) := by decide +kernel
theorem dX11_digest_238 : decode cX11_digest 238 = .ok (.istore_n 3, 1) := by decide +kernel
theorem dX11_digest_239 : decode cX11_digest 239 = .ok (.iload_n 3, 1) := by decide +kernel
theorem dX11_digest_240 : decode cX11_digest 240 = .ok (.aload_n 0, 1) := by decide +kernel
theorem dX11_digest_241 : decode cX11_digest 241 = .ok (.getfield 24, 3) := by decide +kernel
theorem dX11_digest_244 : decode cX11_digest 244 = .ok (.invokeinterface 113 1, 5) := by decide +kernel
theorem dX11_digest_249 : decode cX11_digest 249 = .ok (.if_icmp .ge 86, 3) := by decide +kernel
theorem dX11_digest_252 : decode cX11_digest 252 = .ok (.iconst 0, 1) := by decide +kernel
theorem dX11_digest_253 : decode cX11_digest 253 = .ok (.istore 4, 2) := by decide +kernel
theorem dX11_digest_255 : decode cX11_digest 255 = .ok (.iload 4, 2) := by decide +kernel
theorem dX11_digest_257 : decode cX11_digest 257 = .ok (.bipush 21, 2) := by decide +kernel
theorem dX11_digest_259 : decode cX11_digest 259 = .ok (.if_icmp .gt 35, 3) := by decide +kernel
theorem dX11_digest_262 : decode cX11_digest 262 = .ok (.lload_n 1, 1) := by decide +kernel
theorem dX11_digest_263 : decode cX11_digest 263 = .ok (.ldc2_w 296, 3) := by decide +kernel
theorem dX11_digest_266 : decode cX11_digest 266 = .ok (.lmul, 1) := by decide +kernel
theorem dX11_digest_267 : decode cX11_digest 267 = .ok (.aload_n 0, 1) := by decide +kernel
theorem dX11_digest_268 : decode cX11_digest 268 = .ok (.getfield 24, 3) := by decide +kernel
theorem dX11_digest_271 : decode cX11_digest 271 = .ok (.iload_n 3, 1) := by decide +kernel
theorem dX11_digest_272 : decode cX11_digest 272 = .ok (.invokeinterface 93 2, 5) := by decide +kernel
theorem dX11_digest_277 : decode cX11_digest 277 = .ok (.checkcast 97, 3) := by decide +kernel
theorem dX11_digest_280 : decode cX11_digest 280 = .ok (.iload 4, 2) := by decide +kernel
theorem dX11_digest_282 : decode cX11_digest 282 = .ok (.invokevirtual 254, 3) := by decide +kernel
theorem dX11_digest_285 : decode cX11_digest 285 = .ok (.i2l, 1) := by decide +kernel
theorem dX11_digest_286 : decode cX11_digest 286 = .ok (.ladd, 1) := by decide +kernel
theorem dX11_digest_287 : decode cX11_digest 287 = .ok (.lstore_n 1, 1) := by decide +kernel
theorem dX11_digest_288 : decode cX11_digest 288 = .ok (.iinc 4 1, 3) := by decide +kernel
theorem dX11_digest_291 : decode cX11_digest 291 = .ok (.goto (-36), 3) := by decide +kernel
theorem dX11_digest_294 : decode cX11_digest 294 = .ok (.aload_n 0, 1) := by decide +kernel
theorem dX11_digest_295 : decode cX11_digest 295 = .ok (.getfield 24, 3) := by decide +kernel
theorem dX11_digest_298 : decode cX11_digest 298 = .ok (.iload_n 3, 1) := by decide +kernel
theorem dX11_digest_299 : decode cX11_digest 299 = .ok (.invokeinterface 93 2, 5) := by decide +kernel
theorem dX11_digest_304 : decode cX11_digest 304 = .ok (.checkcast 97, 3) := by decide +kernel
theorem dX11_digest_307 : decode cX11_digest 307 = .ok (.getfield 212, 3) := by decide +kernel
theorem dX11_digest_310 : decode cX11_digest 310 = .ok (.iconst 1, 1) := by decide +kernel
theorem dX11_digest_311 : decode cX11_digest 311 = .ok (.iaload, 1) := by decide +kernel
theorem dX11_digest_312 : decode cX11_digest 312 = .ok (.iconst (-1), 1) := by decide +kernel
theorem dX11_digest_313 : decode cX11_digest 313 = .ok (.if_icmp .eq 16, 3) := by decide +kernel
theorem dX11_digest_316 : decode cX11_digest 316 = .ok (.lload_n 1, 1) := by decide +kernel
theorem dX11_digest_317 : decode cX11_digest 317 = .ok (.ldc2_w 296, 3) := by decide +kernel
theorem dX11_digest_320 : decode cX11_digest 320 = .ok (.lmul, 1) := by decide +kernel
theorem dX11_digest_321 : decode cX11_digest 321 = .ok (.aload_n 0, 1) := by decide +kernel
theorem dX11_digest_322 : decode cX11_digest 322 = .ok (.iload_n 3, 1) := by decide +kernel
theorem dX11_digest_323 : decode cX11_digest 323 = .ok (.invokevirtual 272, 3) := by decide +kernel
theorem dX11_digest_326 : decode cX11_digest 326 = .ok (.i2l, 1) := by decide +kernel
theorem dX11_digest_327 : decode cX11_digest 327 = .ok (.ladd, 1) := by decide +kernel
theorem dX11_digest_328 : decode cX11_digest 328 = .ok (.lstore_n 1, 1) := by decide +kernel
theorem dX11_digest_329 : decode cX11_digest 329 = .ok (.iinc 3 1, 3) := by decide +kernel
theorem dX11_digest_332 : decode cX11_digest 332 = .ok (.goto (-93), 3) := by decide +kernel
theorem dX11_digest_335 : decode cX11_digest 335 = .ok (.iconst 0, 1) := by decide +kernel
theorem dX11_digest_336 : decode cX11_digest 336 = .ok (.istore_n 3, 1) := by decide +kernel
theorem dX11_digest_337 : decode cX11_digest 337 = .ok (.iload_n 3, 1) := by decide +kernel
theorem dX11_digest_338 : decode cX11_digest 338 = .ok (.iconst 2, 1) := by decide +kernel
theorem dX11_digest_339 : decode cX11_digest 339 = .ok (.if_icmp .ge 39, 3) := by decide +kernel
theorem dX11_digest_342 : decode cX11_digest 342 = .ok (.iconst 0, 1) := by decide +kernel
theorem dX11_digest_343 : decode cX11_digest 343 = .ok (.istore 4, 2) := by decide +kernel
theorem dX11_digest_345 : decode cX11_digest 345 = .ok (.iload 4, 2) := by decide +kernel
theorem dX11_digest_347 : decode cX11_digest 347 = .ok (.iconst 3, 1) := by decide +kernel
theorem dX11_digest_348 : decode cX11_digest 348 = .ok (.if_icmp .ge 24, 3) := by decide +kernel
theorem dX11_digest_351 : decode cX11_digest 351 = .ok (.lload_n 1, 1) := by decide +kernel
theorem dX11_digest_352 : decode cX11_digest 352 = .ok (.ldc2_w 296, 3) := by decide +kernel
theorem dX11_digest_355 : decode cX11_digest 355 = .ok (.lmul, 1) := by decide +kernel
theorem dX11_digest_356 : decode cX11_digest 356 = .ok (.aload_n 0, 1) := by decide +kernel
theorem dX11_digest_357 : decode cX11_digest 357 = .ok (.iload_n 3, 1) := by decide +kernel
theorem dX11_digest_358 : decode cX11_digest 358 = .ok (.iload 4, 2) := by decide +kernel
theorem dX11_digest_360 : decode cX11_digest 360 = .ok (.invokevirtual 257, 3) := by decide +kernel
theorem dX11_digest_363 : decode cX11_digest 363 = .ok (.i2l, 1) := by decide +kernel
theorem dX11_digest_364 : decode cX11_digest 364 = .ok (.ladd, 1) := by decide +kernel
theorem dX11_digest_365 : decode cX11_digest 365 = .ok (.lstore_n 1, 1) := by decide +kernel
theorem dX11_digest_366 : decode cX11_digest 366 = .ok (.iinc 4 1, 3) := by decide +kernel
theorem dX11_digest_369 : decode cX11_digest 369 = .ok (.goto (-24), 3) := by decide +kernel
theorem dX11_digest_372 : decode cX11_digest 372 = .ok (.iinc 3 1, 3) := by decide +kernel
theorem dX11_digest_375 : decode cX11_digest 375 = .ok (.goto (-38), 3) := by decide +kernel
theorem dX11_digest_378 : decode cX11_digest 378 = .ok (.lload_n 1, 1) := by decide +kernel
theorem dX11_digest_379 : decode cX11_digest 379 = .ok (.ldc2_w 296, 3) := by decide +kernel
theorem dX11_digest_382 : decode cX11_digest 382 = .ok (.lmul, 1) := by decide +kernel
theorem dX11_digest_383 : decode cX11_digest 383 = .ok (.aload_n 0, 1) := by decide +kernel
theorem dX11_digest_384 : decode cX11_digest 384 = .ok (.invokevirtual 217, 3) := by decide +kernel
theorem dX11_digest_387 : decode cX11_digest 387 = .ok (.ifCond .eq 7, 3) := by decide +kernel
theorem dX11_digest_390 : decode cX11_digest 390 = .ok (.iconst 1, 1) := by decide +kernel
theorem dX11_digest_391 : decode cX11_digest 391 = .ok (.goto 4, 3) := by decide +kernel
theorem dX11_digest_394 : decode cX11_digest 394 = .ok (.iconst 0, 1) := by decide +kernel
theorem dX11_digest_395 : decode cX11_digest 395 = .ok (.i2l, 1) := by decide +kernel
theorem dX11_digest_396 : decode cX11_digest 396 = .ok (.ladd, 1) := by decide +kernel
theorem dX11_digest_397 : decode cX11_digest 397 = .ok (.lstore_n 1, 1) := by decide +kernel
theorem dX11_digest_398 : decode cX11_digest 398 = .ok (.aload_n 0, 1) := by decide +kernel
theorem dX11_digest_399 : decode cX11_digest 399 = .ok (.invokevirtual 138, 3) := by decide +kernel
theorem dX11_digest_402 : decode cX11_digest 402 = .ok (.iconst 3, 1) := by decide +kernel
theorem dX11_digest_403 : decode cX11_digest 403 = .ok (.if_icmp .lt 16, 3) := by decide +kernel
theorem dX11_digest_406 : decode cX11_digest 406 = .ok (.lload_n 1, 1) := by decide +kernel
theorem dX11_digest_407 : decode cX11_digest 407 = .ok (.ldc2_w 296, 3) := by decide +kernel
theorem dX11_digest_410 : decode cX11_digest 410 = .ok (.lmul, 1) := by decide +kernel
theorem dX11_digest_411 : decode cX11_digest 411 = .ok (.aload_n 0, 1) := by decide +kernel
theorem dX11_digest_412 : decode cX11_digest 412 = .ok (.iconst 3, 1) := by decide +kernel
theorem dX11_digest_413 : decode cX11_digest 413 = .ok (.invokevirtual 275, 3) := by decide +kernel
theorem dX11_digest_416 : decode cX11_digest 416 = .ok (.i2l, 1) := by decide +kernel
theorem dX11_digest_417 : decode cX11_digest 417 = .ok (.ladd, 1) := by decide +kernel
theorem dX11_digest_418 : decode cX11_digest 418 = .ok (.lstore_n 1, 1) := by decide +kernel
theorem dX11_digest_419 : decode cX11_digest 419 = .ok (.lload_n 1, 1) := by decide +kernel
theorem dX11_digest_420 : decode cX11_digest 420 = .ok (.ldc2_w 296, 3) := by decide +kernel
theorem dX11_digest_423 : decode cX11_digest 423 = .ok (.lmul, 1) := by decide +kernel
theorem dX11_digest_424 : decode cX11_digest 424 = .ok (.aload_n 0, 1) := by decide +kernel
theorem dX11_digest_425 : decode cX11_digest 425 = .ok (.iconst 5, 1) := by decide +kernel
theorem dX11_digest_426 : decode cX11_digest 426 = .ok (.bipush 6, 2) := by decide +kernel
theorem dX11_digest_428 : decode cX11_digest 428 = .ok (.invokevirtual 288, 3) := by decide +kernel
theorem dX11_digest_431 : decode cX11_digest 431 = .ok (.i2l, 1) := by decide +kernel
theorem dX11_digest_432 : decode cX11_digest 432 = .ok (.ladd, 1) := by decide +kernel
theorem dX11_digest_433 : decode cX11_digest 433 = .ok (.lstore_n 1, 1) := by decide +kernel
theorem dX11_digest_434 : decode cX11_digest 434 = .ok (.lload_n 1, 1) := by decide +kernel
theorem dX11_digest_435 : decode cX11_digest 435 = .ok (.ldc2_w 296, 3) := by decide +kernel
theorem dX11_digest_438 : decode cX11_digest 438 = .ok (.lmul, 1) := by decide +kernel
theorem dX11_digest_439 : decode cX11_digest 439 = .ok (.aload_n 0, 1) := by decide +kernel
theorem dX11_digest_440 : decode cX11_digest 440 = .ok (.iconst 5, 1) := by decide +kernel
theorem dX11_digest_441 : decode cX11_digest 441 = .ok (.invokevirtual 291, 3) := by decide +kernel
theorem dX11_digest_444 : decode cX11_digest 444 = .ok (.i2l, 1) := by decide +kernel
theorem dX11_digest_445 : decode cX11_digest 445 = .ok (.ladd, 1) := by decide +kernel
theorem dX11_digest_446 : decode cX11_digest 446 = .ok (.lreturn, 1) := by decide +kernel
