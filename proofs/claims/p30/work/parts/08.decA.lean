theorem dX0_init_0 : decode cX0_init 0 = .ok (.aload_n 0, 1) := by decide +kernel
theorem dX0_init_1 : decode cX0_init 1 = .ok (.invokespecial 3, 3) := by decide +kernel
theorem dX0_init_4 : decode cX0_init 4 = .ok (.aload_n 0, 1) := by decide +kernel
theorem dX0_init_5 : decode cX0_init 5 = .ok (.iconst 0, 1) := by decide +kernel
theorem dX0_init_6 : decode cX0_init 6 = .ok (.putfield 9, 3) := by decide +kernel
theorem dX0_init_9 : decode cX0_init 9 = .ok (.aload_n 0, 1) := by decide +kernel
theorem dX0_init_10 : decode cX0_init 10 = .ok (.iconst 0, 1) := by decide +kernel
theorem dX0_init_11 : decode cX0_init 11 = .ok (.putfield 15, 3) := by decide +kernel
theorem dX0_init_14 : decode cX0_init 14 = .ok (.aload_n 0, 1) := by decide +kernel
theorem dX0_init_15 : decode cX0_init 15 = .ok (.iconst 4, 1) := by decide +kernel
theorem dX0_init_16 : decode cX0_init 16 = .ok (.newarray .int, 2) := by decide +kernel
theorem dX0_init_18 : decode cX0_init 18 = .ok (.putfield 19, 3) := by decide +kernel
theorem dX0_init_21 : decode cX0_init 21 = .ok (.return_, 1) := by decide +kernel
theorem dX0_tell_0 : decode cX0_tell 0 = .ok (.aload_n 0, 1) := by decide +kernel
theorem dX0_tell_1 : decode cX0_tell 1 = .ok (.iload_n 1, 1) := by decide +kernel
theorem dX0_tell_2 : decode cX0_tell 2 = .ok (.putfield 9, 3) := by decide +kernel
theorem dX0_tell_5 : decode cX0_tell 5 = .ok (.aload_n 0, 1) := by decide +kernel
theorem dX0_tell_6 : decode cX0_tell 6 = .ok (.getfield 19, 3) := by decide +kernel
theorem dX0_tell_9 : decode cX0_tell 9 = .ok (.iconst 0, 1) := by decide +kernel
theorem dX0_tell_10 : decode cX0_tell 10 = .ok (.iload_n 2, 1) := by decide +kernel
theorem dX0_tell_11 : decode cX0_tell 11 = .ok (.iastore, 1) := by decide +kernel
theorem dX0_tell_12 : decode cX0_tell 12 = .ok (.aload_n 0, 1) := by decide +kernel
theorem dX0_tell_13 : decode cX0_tell 13 = .ok (.getfield 19, 3) := by decide +kernel
theorem dX0_tell_16 : decode cX0_tell 16 = .ok (.iconst 1, 1) := by decide +kernel
theorem dX0_tell_17 : decode cX0_tell 17 = .ok (.iload_n 3, 1) := by decide +kernel
theorem dX0_tell_18 : decode cX0_tell 18 = .ok (.iastore, 1) := by decide +kernel
theorem dX0_tell_19 : decode cX0_tell 19 = .ok (.aload_n 0, 1) := by decide +kernel
theorem dX0_tell_20 : decode cX0_tell 20 = .ok (.getfield 19, 3) := by decide +kernel
theorem dX0_tell_23 : decode cX0_tell 23 = .ok (.iconst 2, 1) := by decide +kernel
theorem dX0_tell_24 : decode cX0_tell 24 = .ok (.iload 4, 2) := by decide +kernel
theorem dX0_tell_26 : decode cX0_tell 26 = .ok (.iastore, 1) := by decide +kernel
theorem dX0_tell_27 : decode cX0_tell 27 = .ok (.aload_n 0, 1) := by decide +kernel
theorem dX0_tell_28 : decode cX0_tell 28 = .ok (.getfield 19, 3) := by decide +kernel
theorem dX0_tell_31 : decode cX0_tell 31 = .ok (.iconst 3, 1) := by decide +kernel
theorem dX0_tell_32 : decode cX0_tell 32 = .ok (.iload 5, 2) := by decide +kernel
theorem dX0_tell_34 : decode cX0_tell 34 = .ok (.iastore, 1) := by decide +kernel
theorem dX0_tell_35 : decode cX0_tell 35 = .ok (.return_, 1) := by decide +kernel
theorem dX0_believed_0 : decode cX0_believed 0 = .ok (.iload_n 1, 1) := by decide +kernel
theorem dX0_believed_1 : decode cX0_believed 1 = .ok (.iconst 4, 1) := by decide +kernel
theorem dX0_believed_2 : decode cX0_believed 2 = .ok (.invokestatic 23, 3) := by decide +kernel
theorem dX0_believed_5 : decode cX0_believed 5 = .ok (.ifCond .ne 5, 3) := by decide +kernel
theorem dX0_believed_8 : decode cX0_believed 8 = .ok (.iconst 0, 1) := by decide +kernel
theorem dX0_believed_9 : decode cX0_believed 9 = .ok (.ireturn, 1) := by decide +kernel
theorem dX0_believed_10 : decode cX0_believed 10 = .ok (.aload_n 0, 1) := by decide +kernel
theorem dX0_believed_11 : decode cX0_believed 11 = .ok (.getfield 15, 3) := by decide +kernel
theorem dX0_believed_14 : decode cX0_believed 14 = .ok (.ifCond .eq 12, 3) := by decide +kernel
theorem dX0_believed_17 : decode cX0_believed 17 = .ok (.aload_n 0, 1) := by decide +kernel
theorem dX0_believed_18 : decode cX0_believed 18 = .ok (.getfield 19, 3) := by decide +kernel
theorem dX0_believed_21 : decode cX0_believed 21 = .ok (.iload_n 1, 1) := by decide +kernel
theorem dX0_believed_22 : decode cX0_believed 22 = .ok (.iaload, 1) := by decide +kernel
theorem dX0_believed_23 : decode cX0_believed 23 = .ok (.goto 8, 3) := by decide +kernel
theorem dX0_believed_26 : decode cX0_believed 26 = .ok (.getstatic 27, 3) := by decide +kernel
theorem dX0_believed_29 : decode cX0_believed 29 = .ok (.iload_n 1, 1) := by decide +kernel
theorem dX0_believed_30 : decode cX0_believed 30 = .ok (.iaload, 1) := by decide +kernel
theorem dX0_believed_31 : decode cX0_believed 31 = .ok (.ireturn, 1) := by decide +kernel
theorem dX1_init_0 : decode cX1_init 0 = .ok (.aload_n 0, 1) := by decide +kernel
theorem dX1_init_1 : decode cX1_init 1 = .ok (.invokespecial 3, 3) := by decide +kernel
theorem dX1_init_4 : decode cX1_init 4 = .ok (.aload_n 0, 1) := by decide +kernel
theorem dX1_init_5 : decode cX1_init 5 = .ok (.iconst 0, 1) := by decide +kernel
theorem dX1_init_6 : decode cX1_init 6 = .ok (.putfield 9, 3) := by decide +kernel
theorem dX1_init_9 : decode cX1_init 9 = .ok (.aload_n 0, 1) := by decide +kernel
theorem dX1_init_10 : decode cX1_init 10 = .ok (.new 15, 3) := by decide +kernel
theorem dX1_init_13 : decode cX1_init 13 = .ok (.dup, 1) := by decide +kernel
theorem dX1_init_14 : decode cX1_init 14 = .ok (.invokespecial 17, 3) := by decide +kernel
theorem dX1_init_17 : decode cX1_init 17 = .ok (.putfield 18, 3) := by decide +kernel
theorem dX1_init_20 : decode cX1_init 20 = .ok (.aload_n 0, 1) := by decide +kernel
theorem dX1_init_21 : decode cX1_init 21 = .ok (.bipush 6, 2) := by decide +kernel
theorem dX1_init_23 : decode cX1_init 23 = .ok (.newarray .int, 2) := by decide +kernel
theorem dX1_init_25 : decode cX1_init 25 = .ok (.putfield 22, 3) := by decide +kernel
theorem dX1_init_28 : decode cX1_init 28 = .ok (.aload_n 0, 1) := by decide +kernel
theorem dX1_init_29 : decode cX1_init 29 = .ok (.iconst 0, 1) := by decide +kernel
theorem dX1_init_30 : decode cX1_init 30 = .ok (.putfield 26, 3) := by decide +kernel
theorem dX1_init_33 : decode cX1_init 33 = .ok (.aload_n 0, 1) := by decide +kernel
theorem dX1_init_34 : decode cX1_init 34 = .ok (.iconst 0, 1) := by decide +kernel
theorem dX1_init_35 : decode cX1_init 35 = .ok (.putfield 30, 3) := by decide +kernel
theorem dX1_init_38 : decode cX1_init 38 = .ok (.aload_n 0, 1) := by decide +kernel
theorem dX1_init_39 : decode cX1_init 39 = .ok (.iconst 0, 1) := by decide +kernel
theorem dX1_init_40 : decode cX1_init 40 = .ok (.putfield 33, 3) := by decide +kernel
theorem dX1_init_43 : decode cX1_init 43 = .ok (.aload_n 0, 1) := by decide +kernel
theorem dX1_init_44 : decode cX1_init 44 = .ok (.iconst 0, 1) := by decide +kernel
theorem dX1_init_45 : decode cX1_init 45 = .ok (.putfield 36, 3) := by decide +kernel
theorem dX1_init_48 : decode cX1_init 48 = .ok (.aload_n 0, 1) := by decide +kernel
theorem dX1_init_49 : decode cX1_init 49 = .ok (.iconst 0, 1) := by decide +kernel
theorem dX1_init_50 : decode cX1_init 50 = .ok (.putfield 39, 3) := by decide +kernel
theorem dX1_init_53 : decode cX1_init 53 = .ok (.return_, 1) := by decide +kernel
theorem dX1_begin_0 : decode cX1_begin 0 = .ok (.aload_n 0, 1) := by decide +kernel
theorem dX1_begin_1 : decode cX1_begin 1 = .ok (.iconst 1, 1) := by decide +kernel
theorem dX1_begin_2 : decode cX1_begin 2 = .ok (.putfield 9, 3) := by decide +kernel
theorem dX1_begin_5 : decode cX1_begin 5 = .ok (.aload_n 0, 1) := by decide +kernel
theorem dX1_begin_6 : decode cX1_begin 6 = .ok (.getfield 18, 3) := by decide +kernel
theorem dX1_begin_9 : decode cX1_begin 9 = .ok (.aload_n 1, 1) := by decide +kernel
theorem dX1_begin_10 : decode cX1_begin 10 = .ok (.invokevirtual 42, 3) := by decide +kernel
theorem dX1_begin_13 : decode cX1_begin 13 = .ok (.iconst 0, 1) := by decide +kernel
theorem dX1_begin_14 : decode cX1_begin 14 = .ok (.istore_n 2, 1) := by decide +kernel
theorem dX1_begin_15 : decode cX1_begin 15 = .ok (.iload_n 2, 1) := by decide +kernel
theorem dX1_begin_16 : decode cX1_begin 16 = .ok (.bipush 6, 2) := by decide +kernel
theorem dX1_begin_18 : decode cX1_begin 18 = .ok (.if_icmp .ge 16, 3) := by decide +kernel
theorem dX1_begin_21 : decode cX1_begin 21 = .ok (.aload_n 0, 1) := by decide +kernel
theorem dX1_begin_22 : decode cX1_begin 22 = .ok (.getfield 22, 3) := by decide +kernel
theorem dX1_begin_25 : decode cX1_begin 25 = .ok (.iload_n 2, 1) := by decide +kernel
theorem dX1_begin_26 : decode cX1_begin 26 = .ok (.iconst 0, 1) := by decide +kernel
theorem dX1_begin_27 : decode cX1_begin 27 = .ok (.iastore, 1) := by decide +kernel
theorem dX1_begin_28 : decode cX1_begin 28 = .ok (.iinc 2 1, 3) := by decide +kernel
theorem dX1_begin_31 : decode cX1_begin 31 = .ok (.goto (-16), 3) := by decide +kernel
theorem dX1_begin_34 : decode cX1_begin 34 = .ok (.aload_n 0, 1) := by decide +kernel
theorem dX1_begin_35 : decode cX1_begin 35 = .ok (.aload_n 0, 1) := by decide +kernel
theorem dX1_begin_36 : decode cX1_begin 36 = .ok (.getfield 18, 3) := by decide +kernel
theorem dX1_begin_39 : decode cX1_begin 39 = .ok (.getfield 46, 3) := by decide +kernel
theorem dX1_begin_42 : decode cX1_begin 42 = .ok (.iconst 0, 1) := by decide +kernel
theorem dX1_begin_43 : decode cX1_begin 43 = .ok (.iaload, 1) := by decide +kernel
theorem dX1_begin_44 : decode cX1_begin 44 = .ok (.putfield 26, 3) := by decide +kernel
theorem dX1_begin_47 : decode cX1_begin 47 = .ok (.aload_n 0, 1) := by decide +kernel
theorem dX1_begin_48 : decode cX1_begin 48 = .ok (.iconst 0, 1) := by decide +kernel
theorem dX1_begin_49 : decode cX1_begin 49 = .ok (.putfield 30, 3) := by decide +kernel
theorem dX1_begin_52 : decode cX1_begin 52 = .ok (.aload_n 0, 1) := by decide +kernel
theorem dX1_begin_53 : decode cX1_begin 53 = .ok (.aload_n 0, 1) := by decide +kernel
theorem dX1_begin_54 : decode cX1_begin 54 = .ok (.getfield 18, 3) := by decide +kernel
theorem dX1_begin_57 : decode cX1_begin 57 = .ok (.getfield 46, 3) := by decide +kernel
theorem dX1_begin_60 : decode cX1_begin 60 = .ok (.iconst 1, 1) := by decide +kernel
theorem dX1_begin_61 : decode cX1_begin 61 = .ok (.iaload, 1) := by decide +kernel
theorem dX1_begin_62 : decode cX1_begin 62 = .ok (.putfield 33, 3) := by decide +kernel
theorem dX1_begin_65 : decode cX1_begin 65 = .ok (.aload_n 0, 1) := by decide +kernel
theorem dX1_begin_66 : decode cX1_begin 66 = .ok (.iconst 0, 1) := by decide +kernel
theorem dX1_begin_67 : decode cX1_begin 67 = .ok (.putfield 36, 3) := by decide +kernel
theorem dX1_begin_70 : decode cX1_begin 70 = .ok (.aload_n 0, 1) := by decide +kernel
theorem dX1_begin_71 : decode cX1_begin 71 = .ok (.iconst 0, 1) := by decide +kernel
theorem dX1_begin_72 : decode cX1_begin 72 = .ok (.putfield 39, 3) := by decide +kernel
theorem dX1_begin_75 : decode cX1_begin 75 = .ok (.return_, 1) := by decide +kernel
theorem dX1_copyFrom_0 : decode cX1_copyFrom 0 = .ok (.aload_n 0, 1) := by decide +kernel
theorem dX1_copyFrom_1 : decode cX1_copyFrom 1 = .ok (.aload_n 1, 1) := by decide +kernel
theorem dX1_copyFrom_2 : decode cX1_copyFrom 2 = .ok (.getfield 9, 3) := by decide +kernel
theorem dX1_copyFrom_5 : decode cX1_copyFrom 5 = .ok (.putfield 9, 3) := by decide +kernel
theorem dX1_copyFrom_8 : decode cX1_copyFrom 8 = .ok (.aload_n 0, 1) := by decide +kernel
theorem dX1_copyFrom_9 : decode cX1_copyFrom 9 = .ok (.getfield 18, 3) := by decide +kernel
theorem dX1_copyFrom_12 : decode cX1_copyFrom 12 = .ok (.aload_n 1, 1) := by decide +kernel
theorem dX1_copyFrom_13 : decode cX1_copyFrom 13 = .ok (.getfield 18, 3) := by decide +kernel
theorem dX1_copyFrom_16 : decode cX1_copyFrom 16 = .ok (.invokevirtual 42, 3) := by decide +kernel
theorem dX1_copyFrom_19 : decode cX1_copyFrom 19 = .ok (.iconst 0, 1) := by decide +kernel
theorem dX1_copyFrom_20 : decode cX1_copyFrom 20 = .ok (.istore_n 2, 1) := by decide +kernel
theorem dX1_copyFrom_21 : decode cX1_copyFrom 21 = .ok (.iload_n 2, 1) := by decide +kernel
theorem dX1_copyFrom_22 : decode cX1_copyFrom 22 = .ok (.bipush 6, 2) := by decide +kernel
theorem dX1_copyFrom_24 : decode cX1_copyFrom 24 = .ok (.if_icmp .ge 21, 3) := by decide +kernel
theorem dX1_copyFrom_27 : decode cX1_copyFrom 27 = .ok (.aload_n 0, 1) := by decide +kernel
theorem dX1_copyFrom_28 : decode cX1_copyFrom 28 = .ok (.getfield 22, 3) := by decide +kernel
theorem dX1_copyFrom_31 : decode cX1_copyFrom 31 = .ok (.iload_n 2, 1) := by decide +kernel
theorem dX1_copyFrom_32 : decode cX1_copyFrom 32 = .ok (.aload_n 1, 1) := by decide +kernel
theorem dX1_copyFrom_33 : decode cX1_copyFrom 33 = .ok (.getfield 22, 3) := by decide +kernel
theorem dX1_copyFrom_36 : decode cX1_copyFrom 36 = .ok (.iload_n 2, 1) := by decide +kernel
theorem dX1_copyFrom_37 : decode cX1_copyFrom 37 = .ok (.iaload, 1) := by decide +kernel
theorem dX1_copyFrom_38 : decode cX1_copyFrom 38 = .ok (.iastore, 1) := by decide +kernel
theorem dX1_copyFrom_39 : decode cX1_copyFrom 39 = .ok (.iinc 2 1, 3) := by decide +kernel
theorem dX1_copyFrom_42 : decode cX1_copyFrom 42 = .ok (.goto (-21), 3) := by decide +kernel
theorem dX1_copyFrom_45 : decode cX1_copyFrom 45 = .ok (.aload_n 0, 1) := by decide +kernel
theorem dX1_copyFrom_46 : decode cX1_copyFrom 46 = .ok (.aload_n 1, 1) := by decide +kernel
theorem dX1_copyFrom_47 : decode cX1_copyFrom 47 = .ok (.getfield 26, 3) := by decide +kernel
theorem dX1_copyFrom_50 : decode cX1_copyFrom 50 = .ok (.putfield 26, 3) := by decide +kernel
theorem dX1_copyFrom_53 : decode cX1_copyFrom 53 = .ok (.aload_n 0, 1) := by decide +kernel
theorem dX1_copyFrom_54 : decode cX1_copyFrom 54 = .ok (.aload_n 1, 1) := by decide +kernel
theorem dX1_copyFrom_55 : decode cX1_copyFrom 55 = .ok (.getfield 30, 3) := by decide +kernel
theorem dX1_copyFrom_58 : decode cX1_copyFrom 58 = .ok (.putfield 30, 3) := by decide +kernel
theorem dX1_copyFrom_61 : decode cX1_copyFrom 61 = .ok (.aload_n 0, 1) := by decide +kernel
theorem dX1_copyFrom_62 : decode cX1_copyFrom 62 = .ok (.aload_n 1, 1) := by decide +kernel
theorem dX1_copyFrom_63 : decode cX1_copyFrom 63 = .ok (.getfield 33, 3) := by decide +kernel
theorem dX1_copyFrom_66 : decode cX1_copyFrom 66 = .ok (.putfield 33, 3) := by decide +kernel
theorem dX1_copyFrom_69 : decode cX1_copyFrom 69 = .ok (.aload_n 0, 1) := by decide +kernel
theorem dX1_copyFrom_70 : decode cX1_copyFrom 70 = .ok (.aload_n 1, 1) := by decide +kernel
theorem dX1_copyFrom_71 : decode cX1_copyFrom 71 = .ok (.getfield 36, 3) := by decide +kernel
theorem dX1_copyFrom_74 : decode cX1_copyFrom 74 = .ok (.putfield 36, 3) := by decide +kernel
theorem dX1_copyFrom_77 : decode cX1_copyFrom 77 = .ok (.aload_n 0, 1) := by decide +kernel
theorem dX1_copyFrom_78 : decode cX1_copyFrom 78 = .ok (.aload_n 1, 1) := by decide +kernel
theorem dX1_copyFrom_79 : decode cX1_copyFrom 79 = .ok (.getfield 39, 3) := by decide +kernel
theorem dX1_copyFrom_82 : decode cX1_copyFrom 82 = .ok (.putfield 39, 3) := by decide +kernel
theorem dX1_copyFrom_85 : decode cX1_copyFrom 85 = .ok (.return_, 1) := by decide +kernel
theorem dX1_melt_0 : decode cX1_melt 0 = .ok (.aload_n 0, 1) := by decide +kernel
theorem dX1_melt_1 : decode cX1_melt 1 = .ok (.getfield 18, 3) := by decide +kernel
theorem dX1_melt_4 : decode cX1_melt 4 = .ok (.invokevirtual 49, 3) := by decide +kernel
theorem dX1_melt_7 : decode cX1_melt 7 = .ok (.ireturn, 1) := by decide +kernel
theorem dX1_burn_0 : decode cX1_burn 0 = .ok (.iconst 0, 1) := by decide +kernel
theorem dX1_burn_1 : decode cX1_burn 1 = .ok (.istore_n 2, 1) := by decide +kernel
theorem dX1_burn_2 : decode cX1_burn 2 = .ok (.iload_n 1, 1) := by decide +kernel
theorem dX1_burn_3 : decode cX1_burn 3 = .ok (.iconst 5, 1) := by decide +kernel
theorem dX1_burn_4 : decode cX1_burn 4 = .ok (.if_icmp .lt 34, 3) := by decide +kernel
theorem dX1_burn_7 : decode cX1_burn 7 = .ok (.aload_n 0, 1) := by decide +kernel
theorem dX1_burn_8 : decode cX1_burn 8 = .ok (.getfield 26, 3) := by decide +kernel
theorem dX1_burn_11 : decode cX1_burn 11 = .ok (.iload_n 1, 1) := by decide +kernel
theorem dX1_burn_12 : decode cX1_burn 12 = .ok (.iconst 4, 1) := by decide +kernel
theorem dX1_burn_13 : decode cX1_burn 13 = .ok (.isub, 1) := by decide +kernel
theorem dX1_burn_14 : decode cX1_burn 14 = .ok (.invokestatic 53, 3) := by decide +kernel
theorem dX1_burn_17 : decode cX1_burn 17 = .ok (.istore_n 2, 1) := by decide +kernel
theorem dX1_burn_18 : decode cX1_burn 18 = .ok (.aload_n 0, 1) := by decide +kernel
theorem dX1_burn_19 : decode cX1_burn 19 = .ok (.dup, 1) := by decide +kernel
theorem dX1_burn_20 : decode cX1_burn 20 = .ok (.getfield 26, 3) := by decide +kernel
theorem dX1_burn_23 : decode cX1_burn 23 = .ok (.iload_n 2, 1) := by decide +kernel
theorem dX1_burn_24 : decode cX1_burn 24 = .ok (.isub, 1) := by decide +kernel
theorem dX1_burn_25 : decode cX1_burn 25 = .ok (.putfield 26, 3) := by decide +kernel
theorem dX1_burn_28 : decode cX1_burn 28 = .ok (.aload_n 0, 1) := by decide +kernel
theorem dX1_burn_29 : decode cX1_burn 29 = .ok (.dup, 1) := by decide +kernel
theorem dX1_burn_30 : decode cX1_burn 30 = .ok (.getfield 30, 3) := by decide +kernel
theorem dX1_burn_33 : decode cX1_burn 33 = .ok (.iload_n 2, 1) := by decide +kernel
theorem dX1_burn_34 : decode cX1_burn 34 = .ok (.iadd, 1) := by decide +kernel
theorem dX1_burn_35 : decode cX1_burn 35 = .ok (.putfield 30, 3) := by decide +kernel
theorem dX1_burn_38 : decode cX1_burn 38 = .ok (.iload_n 1, 1) := by decide +kernel
theorem dX1_burn_39 : decode cX1_burn 39 = .ok (.bipush 7, 2) := by decide +kernel
theorem dX1_burn_41 : decode cX1_burn 41 = .ok (.if_icmp .lt 56, 3) := by decide +kernel
theorem dX1_burn_44 : decode cX1_burn 44 = .ok (.iload_n 1, 1) := by decide +kernel
theorem dX1_burn_45 : decode cX1_burn 45 = .ok (.bipush 6, 2) := by decide +kernel
theorem dX1_burn_47 : decode cX1_burn 47 = .ok (.isub, 1) := by decide +kernel
theorem dX1_burn_48 : decode cX1_burn 48 = .ok (.aload_n 0, 1) := by decide +kernel
theorem dX1_burn_49 : decode cX1_burn 49 = .ok (.getfield 30, 3) := by decide +kernel
theorem dX1_burn_52 : decode cX1_burn 52 = .ok (.iconst 2, 1) := by decide +kernel
theorem dX1_burn_53 : decode cX1_burn 53 = .ok (.idiv, 1) := by decide +kernel
theorem dX1_burn_54 : decode cX1_burn 54 = .ok (.aload_n 0, 1) := by decide +kernel
theorem dX1_burn_55 : decode cX1_burn 55 = .ok (.getfield 33, 3) := by decide +kernel
theorem dX1_burn_58 : decode cX1_burn 58 = .ok (.invokestatic 53, 3) := by decide +kernel
theorem dX1_burn_61 : decode cX1_burn 61 = .ok (.invokestatic 53, 3) := by decide +kernel
theorem dX1_burn_64 : decode cX1_burn 64 = .ok (.istore_n 3, 1) := by decide +kernel
theorem dX1_burn_65 : decode cX1_burn 65 = .ok (.aload_n 0, 1) := by decide +kernel
theorem dX1_burn_66 : decode cX1_burn 66 = .ok (.dup, 1) := by decide +kernel
theorem dX1_burn_67 : decode cX1_burn 67 = .ok (.getfield 30, 3) := by decide +kernel
theorem dX1_burn_70 : decode cX1_burn 70 = .ok (.iconst 2, 1) := by decide +kernel
theorem dX1_burn_71 : decode cX1_burn 71 = .ok (.iload_n 3, 1) := by decide +kernel
theorem dX1_burn_72 : decode cX1_burn 72 = .ok (.imul, 1) := by decide +kernel
theorem dX1_burn_73 : decode cX1_burn 73 = .ok (.isub, 1) := by decide +kernel
theorem dX1_burn_74 : decode cX1_burn 74 = .ok (.putfield 30, 3) := by decide +kernel
theorem dX1_burn_77 : decode cX1_burn 77 = .ok (.aload_n 0, 1) := by decide +kernel
theorem dX1_burn_78 : decode cX1_burn 78 = .ok (.dup, 1) := by decide +kernel
theorem dX1_burn_79 : decode cX1_burn 79 = .ok (.getfield 33, 3) := by decide +kernel
theorem dX1_burn_82 : decode cX1_burn 82 = .ok (.iload_n 3, 1) := by decide +kernel
theorem dX1_burn_83 : decode cX1_burn 83 = .ok (.isub, 1) := by decide +kernel
theorem dX1_burn_84 : decode cX1_burn 84 = .ok (.putfield 33, 3) := by decide +kernel
theorem dX1_burn_87 : decode cX1_burn 87 = .ok (.aload_n 0, 1) := by decide +kernel
theorem dX1_burn_88 : decode cX1_burn 88 = .ok (.dup, 1) := by decide +kernel
theorem dX1_burn_89 : decode cX1_burn 89 = .ok (.getfield 36, 3) := by decide +kernel
theorem dX1_burn_92 : decode cX1_burn 92 = .ok (.iload_n 3, 1) := by decide +kernel
theorem dX1_burn_93 : decode cX1_burn 93 = .ok (.iadd, 1) := by decide +kernel
theorem dX1_burn_94 : decode cX1_burn 94 = .ok (.putfield 36, 3) := by decide +kernel
theorem dX1_burn_97 : decode cX1_burn 97 = .ok (.iload_n 1, 1) := by decide +kernel
theorem dX1_burn_98 : decode cX1_burn 98 = .ok (.bipush 9, 2) := by decide +kernel
theorem dX1_burn_100 : decode cX1_burn 100 = .ok (.if_icmp .lt 59, 3) := by decide +kernel
theorem dX1_burn_103 : decode cX1_burn 103 = .ok (.iload_n 1, 1) := by decide +kernel
theorem dX1_burn_104 : decode cX1_burn 104 = .ok (.bipush 8, 2) := by decide +kernel
theorem dX1_burn_106 : decode cX1_burn 106 = .ok (.isub, 1) := by decide +kernel
theorem dX1_burn_107 : decode cX1_burn 107 = .ok (.aload_n 0, 1) := by decide +kernel
theorem dX1_burn_108 : decode cX1_burn 108 = .ok (.invokevirtual 59, 3) := by decide +kernel
theorem dX1_burn_111 : decode cX1_burn 111 = .ok (.iconst 4, 1) := by decide +kernel
theorem dX1_burn_112 : decode cX1_burn 112 = .ok (.idiv, 1) := by decide +kernel
theorem dX1_burn_113 : decode cX1_burn 113 = .ok (.iadd, 1) := by decide +kernel
theorem dX1_burn_114 : decode cX1_burn 114 = .ok (.aload_n 0, 1) := by decide +kernel
theorem dX1_burn_115 : decode cX1_burn 115 = .ok (.getfield 30, 3) := by decide +kernel
theorem dX1_burn_118 : decode cX1_burn 118 = .ok (.aload_n 0, 1) := by decide +kernel
theorem dX1_burn_119 : decode cX1_burn 119 = .ok (.getfield 36, 3) := by decide +kernel
theorem dX1_burn_122 : decode cX1_burn 122 = .ok (.invokestatic 53, 3) := by decide +kernel
theorem dX1_burn_125 : decode cX1_burn 125 = .ok (.invokestatic 53, 3) := by decide +kernel
theorem dX1_burn_128 : decode cX1_burn 128 = .ok (.istore_n 3, 1) := by decide +kernel
theorem dX1_burn_129 : decode cX1_burn 129 = .ok (.aload_n 0, 1) := by decide +kernel
theorem dX1_burn_130 : decode cX1_burn 130 = .ok (.dup, 1) := by decide +kernel
theorem dX1_burn_131 : decode cX1_burn 131 = .ok (.getfield 30, 3) := by decide +kernel
theorem dX1_burn_134 : decode cX1_burn 134 = .ok (.iload_n 3, 1) := by decide +kernel
theorem dX1_burn_135 : decode cX1_burn 135 = .ok (.isub, 1) := by decide +kernel
theorem dX1_burn_136 : decode cX1_burn 136 = .ok (.putfield 30, 3) := by decide +kernel
theorem dX1_burn_139 : decode cX1_burn 139 = .ok (.aload_n 0, 1) := by decide +kernel
theorem dX1_burn_140 : decode cX1_burn 140 = .ok (.dup, 1) := by decide +kernel
theorem dX1_burn_141 : decode cX1_burn 141 = .ok (.getfield 36, 3) := by decide +kernel
theorem dX1_burn_144 : decode cX1_burn 144 = .ok (.iload_n 3, 1) := by decide +kernel
theorem dX1_burn_145 : decode cX1_burn 145 = .ok (.isub, 1) := by decide +kernel
theorem dX1_burn_146 : decode cX1_burn 146 = .ok (.putfield 36, 3) := by decide +kernel
theorem dX1_burn_149 : decode cX1_burn 149 = .ok (.aload_n 0, 1) := by decide +kernel
theorem dX1_burn_150 : decode cX1_burn 150 = .ok (.dup, 1) := by decide +kernel
theorem dX1_burn_151 : decode cX1_burn 151 = .ok (.getfield 39, 3) := by decide +kernel
theorem dX1_burn_154 : decode cX1_burn 154 = .ok (.iload_n 3, 1) := by decide +kernel
theorem dX1_burn_155 : decode cX1_burn 155 = .ok (.iadd, 1) := by decide +kernel
theorem dX1_burn_156 : decode cX1_burn 156 = .ok (.putfield 39, 3) := by decide +kernel
theorem dX1_burn_159 : decode cX1_burn 159 = .ok (.iload_n 2, 1) := by decide +kernel
theorem dX1_burn_160 : decode cX1_burn 160 = .ok (.ireturn, 1) := by decide +kernel
theorem dX2_init_0 : decode cX2_init 0 = .ok (.aload_n 0, 1) := by decide +kernel
theorem dX2_init_1 : decode cX2_init 1 = .ok (.invokespecial 3, 3) := by decide +kernel
theorem dX2_init_4 : decode cX2_init 4 = .ok (.aload_n 0, 1) := by decide +kernel
theorem dX2_init_5 : decode cX2_init 5 = .ok (.iconst 5, 1) := by decide +kernel
theorem dX2_init_6 : decode cX2_init 6 = .ok (.anewarray 9, 3) := by decide +kernel
theorem dX2_init_9 : decode cX2_init 9 = .ok (.putfield 11, 3) := by decide +kernel
theorem dX2_init_12 : decode cX2_init 12 = .ok (.aload_n 0, 1) := by decide +kernel
theorem dX2_init_13 : decode cX2_init 13 = .ok (.iconst 5, 1) := by decide +kernel
theorem dX2_init_14 : decode cX2_init 14 = .ok (.newarray .int, 2) := by decide +kernel
theorem dX2_init_16 : decode cX2_init 16 = .ok (.putfield 15, 3) := by decide +kernel
theorem dX2_init_19 : decode cX2_init 19 = .ok (.aload_n 0, 1) := by decide +kernel
theorem dX2_init_20 : decode cX2_init 20 = .ok (.iconst 3, 1) := by decide +kernel
theorem dX2_init_21 : decode cX2_init 21 = .ok (.anewarray 9, 3) := by decide +kernel
theorem dX2_init_24 : decode cX2_init 24 = .ok (.putfield 19, 3) := by decide +kernel
theorem dX2_init_27 : decode cX2_init 27 = .ok (.aload_n 0, 1) := by decide +kernel
theorem dX2_init_28 : decode cX2_init 28 = .ok (.iconst 0, 1) := by decide +kernel
theorem dX2_init_29 : decode cX2_init 29 = .ok (.putfield 22, 3) := by decide +kernel
theorem dX2_init_32 : decode cX2_init 32 = .ok (.aload_n 0, 1) := by decide +kernel
theorem dX2_init_33 : decode cX2_init 33 = .ok (.new 9, 3) := by decide +kernel
theorem dX2_init_36 : decode cX2_init 36 = .ok (.dup, 1) := by decide +kernel
theorem dX2_init_37 : decode cX2_init 37 = .ok (.invokespecial 26, 3) := by decide +kernel
theorem dX2_init_40 : decode cX2_init 40 = .ok (.putfield 27, 3) := by decide +kernel
theorem dX2_init_43 : decode cX2_init 43 = .ok (.aload_n 0, 1) := by decide +kernel
theorem dX2_init_44 : decode cX2_init 44 = .ok (.iconst 0, 1) := by decide +kernel
theorem dX2_init_45 : decode cX2_init 45 = .ok (.putfield 31, 3) := by decide +kernel
theorem dX2_init_48 : decode cX2_init 48 = .ok (.aload_n 0, 1) := by decide +kernel
theorem dX2_init_49 : decode cX2_init 49 = .ok (.iconst 0, 1) := by decide +kernel
theorem dX2_init_50 : decode cX2_init 50 = .ok (.putfield 34, 3) := by decide +kernel
theorem dX2_init_53 : decode cX2_init 53 = .ok (.aload_n 0, 1) := by decide +kernel
theorem dX2_init_54 : decode cX2_init 54 = .ok (.iconst 0, 1) := by decide +kernel
theorem dX2_init_55 : decode cX2_init 55 = .ok (.putfield 37, 3) := by decide +kernel
theorem dX2_init_58 : decode cX2_init 58 = .ok (.aload_n 0, 1) := by decide +kernel
theorem dX2_init_59 : decode cX2_init 59 = .ok (.iconst 0, 1) := by decide +kernel
theorem dX2_init_60 : decode cX2_init 60 = .ok (.putfield 40, 3) := by decide +kernel
theorem dX2_init_63 : decode cX2_init 63 = .ok (.aload_n 0, 1) := by decide +kernel
theorem dX2_init_64 : decode cX2_init 64 = .ok (.iconst 0, 1) := by decide +kernel
theorem dX2_init_65 : decode cX2_init 65 = .ok (.putfield 43, 3) := by decide +kernel
theorem dX2_init_68 : decode cX2_init 68 = .ok (.aload_n 0, 1) := by decide +kernel
theorem dX2_init_69 : decode cX2_init 69 = .ok (.iconst 0, 1) := by decide +kernel
theorem dX2_init_70 : decode cX2_init 70 = .ok (.putfield 46, 3) := by decide +kernel
theorem dX2_init_73 : decode cX2_init 73 = .ok (.aload_n 0, 1) := by decide +kernel
theorem dX2_init_74 : decode cX2_init 74 = .ok (.iconst 0, 1) := by decide +kernel
theorem dX2_init_75 : decode cX2_init 75 = .ok (.putfield 49, 3) := by decide +kernel
theorem dX2_init_78 : decode cX2_init 78 = .ok (.iconst 0, 1) := by decide +kernel
theorem dX2_init_79 : decode cX2_init 79 = .ok (.istore_n 1, 1) := by decide +kernel
theorem dX2_init_80 : decode cX2_init 80 = .ok (.iload_n 1, 1) := by decide +kernel
theorem dX2_init_81 : decode cX2_init 81 = .ok (.iconst 5, 1) := by decide +kernel
theorem dX2_init_82 : decode cX2_init 82 = .ok (.if_icmp .ge 22, 3) := by decide +kernel
theorem dX2_init_85 : decode cX2_init 85 = .ok (.aload_n 0, 1) := by decide +kernel
theorem dX2_init_86 : decode cX2_init 86 = .ok (.getfield 11, 3) := by decide +kernel
theorem dX2_init_89 : decode cX2_init 89 = .ok (.iload_n 1, 1) := by decide +kernel
theorem dX2_init_90 : decode cX2_init 90 = .ok (.new 9, 3) := by decide +kernel
theorem dX2_init_93 : decode cX2_init 93 = .ok (.dup, 1) := by decide +kernel
theorem dX2_init_94 : decode cX2_init 94 = .ok (.invokespecial 26, 3) := by decide +kernel
theorem dX2_init_97 : decode cX2_init 97 = .ok (.aastore, 1) := by decide +kernel
theorem dX2_init_98 : decode cX2_init 98 = .ok (.iinc 1 1, 3) := by decide +kernel
theorem dX2_init_101 : decode cX2_init 101 = .ok (.goto (-21), 3) := by decide +kernel
theorem dX2_init_104 : decode cX2_init 104 = .ok (.iconst 0, 1) := by decide +kernel
theorem dX2_init_105 : decode cX2_init 105 = .ok (.istore_n 1, 1) := by decide +kernel
theorem dX2_init_106 : decode cX2_init 106 = .ok (.iload_n 1, 1) := by decide +kernel
theorem dX2_init_107 : decode cX2_init 107 = .ok (.iconst 3, 1) := by decide +kernel
theorem dX2_init_108 : decode cX2_init 108 = .ok (.if_icmp .ge 22, 3) := by decide +kernel
theorem dX2_init_111 : decode cX2_init 111 = .ok (.aload_n 0, 1) := by decide +kernel
theorem dX2_init_112 : decode cX2_init 112 = .ok (.getfield 19, 3) := by decide +kernel
theorem dX2_init_115 : decode cX2_init 115 = .ok (.iload_n 1, 1) := by decide +kernel
theorem dX2_init_116 : decode cX2_init 116 = .ok (.new 9, 3) := by decide +kernel
theorem dX2_init_119 : decode cX2_init 119 = .ok (.dup, 1) := by decide +kernel
theorem dX2_init_120 : decode cX2_init 120 = .ok (.invokespecial 26, 3) := by decide +kernel
theorem dX2_init_123 : decode cX2_init 123 = .ok (.aastore, 1) := by decide +kernel
theorem dX2_init_124 : decode cX2_init 124 = .ok (.iinc 1 1, 3) := by decide +kernel
theorem dX2_init_127 : decode cX2_init 127 = .ok (.goto (-21), 3) := by decide +kernel
theorem dX2_init_130 : decode cX2_init 130 = .ok (.return_, 1) := by decide +kernel
theorem dX2_copyFrom_0 : decode cX2_copyFrom 0 = .ok (.iconst 0, 1) := by decide +kernel
theorem dX2_copyFrom_1 : decode cX2_copyFrom 1 = .ok (.istore_n 2, 1) := by decide +kernel
theorem dX2_copyFrom_2 : decode cX2_copyFrom 2 = .ok (.iload_n 2, 1) := by decide +kernel
theorem dX2_copyFrom_3 : decode cX2_copyFrom 3 = .ok (.iconst 5, 1) := by decide +kernel
theorem dX2_copyFrom_4 : decode cX2_copyFrom 4 = .ok (.if_icmp .ge 36, 3) := by decide +kernel
theorem dX2_copyFrom_7 : decode cX2_copyFrom 7 = .ok (.aload_n 0, 1) := by decide +kernel
theorem dX2_copyFrom_8 : decode cX2_copyFrom 8 = .ok (.getfield 11, 3) := by decide +kernel
theorem dX2_copyFrom_11 : decode cX2_copyFrom 11 = .ok (.iload_n 2, 1) := by decide +kernel
theorem dX2_copyFrom_12 : decode cX2_copyFrom 12 = .ok (.aaload, 1) := by decide +kernel
theorem dX2_copyFrom_13 : decode cX2_copyFrom 13 = .ok (.aload_n 1, 1) := by decide +kernel
theorem dX2_copyFrom_14 : decode cX2_copyFrom 14 = .ok (.getfield 11, 3) := by decide +kernel
theorem dX2_copyFrom_17 : decode cX2_copyFrom 17 = .ok (.iload_n 2, 1) := by decide +kernel
theorem dX2_copyFrom_18 : decode cX2_copyFrom 18 = .ok (.aaload, 1) := by decide +kernel
theorem dX2_copyFrom_19 : decode cX2_copyFrom 19 = .ok (.invokevirtual 52, 3) := by decide +kernel
theorem dX2_copyFrom_22 : decode cX2_copyFrom 22 = .ok (.aload_n 0, 1) := by decide +kernel
theorem dX2_copyFrom_23 : decode cX2_copyFrom 23 = .ok (.getfield 15, 3) := by decide +kernel
theorem dX2_copyFrom_26 : decode cX2_copyFrom 26 = .ok (.iload_n 2, 1) := by decide +kernel
theorem dX2_copyFrom_27 : decode cX2_copyFrom 27 = .ok (.aload_n 1, 1) := by decide +kernel
theorem dX2_copyFrom_28 : decode cX2_copyFrom 28 = .ok (.getfield 15, 3) := by decide +kernel
theorem dX2_copyFrom_31 : decode cX2_copyFrom 31 = .ok (.iload_n 2, 1) := by decide +kernel
theorem dX2_copyFrom_32 : decode cX2_copyFrom 32 = .ok (.iaload, 1) := by decide +kernel
theorem dX2_copyFrom_33 : decode cX2_copyFrom 33 = .ok (.iastore, 1) := by decide +kernel
theorem dX2_copyFrom_34 : decode cX2_copyFrom 34 = .ok (.iinc 2 1, 3) := by decide +kernel
theorem dX2_copyFrom_37 : decode cX2_copyFrom 37 = .ok (.goto (-35), 3) := by decide +kernel
theorem dX2_copyFrom_40 : decode cX2_copyFrom 40 = .ok (.iconst 0, 1) := by decide +kernel
theorem dX2_copyFrom_41 : decode cX2_copyFrom 41 = .ok (.istore_n 2, 1) := by decide +kernel
theorem dX2_copyFrom_42 : decode cX2_copyFrom 42 = .ok (.iload_n 2, 1) := by decide +kernel
theorem dX2_copyFrom_43 : decode cX2_copyFrom 43 = .ok (.iconst 3, 1) := by decide +kernel
theorem dX2_copyFrom_44 : decode cX2_copyFrom 44 = .ok (.if_icmp .ge 24, 3) := by decide +kernel
theorem dX2_copyFrom_47 : decode cX2_copyFrom 47 = .ok (.aload_n 0, 1) := by decide +kernel
theorem dX2_copyFrom_48 : decode cX2_copyFrom 48 = .ok (.getfield 19, 3) := by decide +kernel
theorem dX2_copyFrom_51 : decode cX2_copyFrom 51 = .ok (.iload_n 2, 1) := by decide +kernel
theorem dX2_copyFrom_52 : decode cX2_copyFrom 52 = .ok (.aaload, 1) := by decide +kernel
theorem dX2_copyFrom_53 : decode cX2_copyFrom 53 = .ok (.aload_n 1, 1) := by decide +kernel
theorem dX2_copyFrom_54 : decode cX2_copyFrom 54 = .ok (.getfield 19, 3) := by decide +kernel
theorem dX2_copyFrom_57 : decode cX2_copyFrom 57 = .ok (.iload_n 2, 1) := by decide +kernel
theorem dX2_copyFrom_58 : decode cX2_copyFrom 58 = .ok (.aaload, 1) := by decide +kernel
theorem dX2_copyFrom_59 : decode cX2_copyFrom 59 = .ok (.invokevirtual 52, 3) := by decide +kernel
theorem dX2_copyFrom_62 : decode cX2_copyFrom 62 = .ok (.iinc 2 1, 3) := by decide +kernel
theorem dX2_copyFrom_65 : decode cX2_copyFrom 65 = .ok (.goto (-23), 3) := by decide +kernel
theorem dX2_copyFrom_68 : decode cX2_copyFrom 68 = .ok (.aload_n 0, 1) := by decide +kernel
theorem dX2_copyFrom_69 : decode cX2_copyFrom 69 = .ok (.aload_n 1, 1) := by decide +kernel
theorem dX2_copyFrom_70 : decode cX2_copyFrom 70 = .ok (.getfield 22, 3) := by decide +kernel
theorem dX2_copyFrom_73 : decode cX2_copyFrom 73 = .ok (.putfield 22, 3) := by decide +kernel
theorem dX2_copyFrom_76 : decode cX2_copyFrom 76 = .ok (.aload_n 0, 1) := by decide +kernel
theorem dX2_copyFrom_77 : decode cX2_copyFrom 77 = .ok (.aload_n 1, 1) := by decide +kernel
theorem dX2_copyFrom_78 : decode cX2_copyFrom 78 = .ok (.getfield 31, 3) := by decide +kernel
theorem dX2_copyFrom_81 : decode cX2_copyFrom 81 = .ok (.putfield 31, 3) := by decide +kernel
theorem dX2_copyFrom_84 : decode cX2_copyFrom 84 = .ok (.aload_n 0, 1) := by decide +kernel
theorem dX2_copyFrom_85 : decode cX2_copyFrom 85 = .ok (.aload_n 1, 1) := by decide +kernel
theorem dX2_copyFrom_86 : decode cX2_copyFrom 86 = .ok (.getfield 34, 3) := by decide +kernel
theorem dX2_copyFrom_89 : decode cX2_copyFrom 89 = .ok (.putfield 34, 3) := by decide +kernel
theorem dX2_copyFrom_92 : decode cX2_copyFrom 92 = .ok (.aload_n 0, 1) := by decide +kernel
theorem dX2_copyFrom_93 : decode cX2_copyFrom 93 = .ok (.aload_n 1, 1) := by decide +kernel
theorem dX2_copyFrom_94 : decode cX2_copyFrom 94 = .ok (.getfield 37, 3) := by decide +kernel
theorem dX2_copyFrom_97 : decode cX2_copyFrom 97 = .ok (.putfield 37, 3) := by decide +kernel
theorem dX2_copyFrom_100 : decode cX2_copyFrom 100 = .ok (.aload_n 0, 1) := by decide +kernel
theorem dX2_copyFrom_101 : decode cX2_copyFrom 101 = .ok (.aload_n 1, 1) := by decide +kernel
theorem dX2_copyFrom_102 : decode cX2_copyFrom 102 = .ok (.getfield 40, 3) := by decide +kernel
theorem dX2_copyFrom_105 : decode cX2_copyFrom 105 = .ok (.putfield 40, 3) := by decide +kernel
theorem dX2_copyFrom_108 : decode cX2_copyFrom 108 = .ok (.aload_n 0, 1) := by decide +kernel
theorem dX2_copyFrom_109 : decode cX2_copyFrom 109 = .ok (.aload_n 1, 1) := by decide +kernel
theorem dX2_copyFrom_110 : decode cX2_copyFrom 110 = .ok (.getfield 43, 3) := by decide +kernel
theorem dX2_copyFrom_113 : decode cX2_copyFrom 113 = .ok (.putfield 43, 3) := by decide +kernel
theorem dX2_copyFrom_116 : decode cX2_copyFrom 116 = .ok (.aload_n 0, 1) := by decide +kernel
theorem dX2_copyFrom_117 : decode cX2_copyFrom 117 = .ok (.aload_n 1, 1) := by decide +kernel
theorem dX2_copyFrom_118 : decode cX2_copyFrom 118 = .ok (.getfield 46, 3) := by decide +kernel
theorem dX2_copyFrom_121 : decode cX2_copyFrom 121 = .ok (.putfield 46, 3) := by decide +kernel
theorem dX2_copyFrom_124 : decode cX2_copyFrom 124 = .ok (.aload_n 0, 1) := by decide +kernel
theorem dX2_copyFrom_125 : decode cX2_copyFrom 125 = .ok (.aload_n 1, 1) := by decide +kernel
theorem dX2_copyFrom_126 : decode cX2_copyFrom 126 = .ok (.getfield 49, 3) := by decide +kernel
theorem dX2_copyFrom_129 : decode cX2_copyFrom 129 = .ok (.putfield 49, 3) := by decide +kernel
theorem dX2_copyFrom_132 : decode cX2_copyFrom 132 = .ok (.return_, 1) := by decide +kernel
theorem dX2_isQueueFull_0 : decode cX2_isQueueFull 0 = .ok (.aload_n 0, 1) := by decide +kernel
theorem dX2_isQueueFull_1 : decode cX2_isQueueFull 1 = .ok (.getfield 22, 3) := by decide +kernel
theorem dX2_isQueueFull_4 : decode cX2_isQueueFull 4 = .ok (.iconst 3, 1) := by decide +kernel
theorem dX2_isQueueFull_5 : decode cX2_isQueueFull 5 = .ok (.if_icmp .lt 7, 3) := by decide +kernel
theorem dX2_isQueueFull_8 : decode cX2_isQueueFull 8 = .ok (.iconst 1, 1) := by decide +kernel
theorem dX2_isQueueFull_9 : decode cX2_isQueueFull 9 = .ok (.goto 4, 3) := by decide +kernel
theorem dX2_isQueueFull_12 : decode cX2_isQueueFull 12 = .ok (.iconst 0, 1) := by decide +kernel
theorem dX2_isQueueFull_13 : decode cX2_isQueueFull 13 = .ok (.ireturn, 1) := by decide +kernel
theorem dX2_addWaiting_0 : decode cX2_addWaiting 0 = .ok (.aload_n 0, 1) := by decide +kernel
theorem dX2_addWaiting_1 : decode cX2_addWaiting 1 = .ok (.getfield 22, 3) := by decide +kernel
theorem dX2_addWaiting_4 : decode cX2_addWaiting 4 = .ok (.iconst 2, 1) := by decide +kernel
theorem dX2_addWaiting_5 : decode cX2_addWaiting 5 = .ok (.invokestatic 56, 3) := by decide +kernel
theorem dX2_addWaiting_8 : decode cX2_addWaiting 8 = .ok (.istore_n 2, 1) := by decide +kernel
theorem dX2_addWaiting_9 : decode cX2_addWaiting 9 = .ok (.aload_n 0, 1) := by decide +kernel
theorem dX2_addWaiting_10 : decode cX2_addWaiting 10 = .ok (.getfield 19, 3) := by decide +kernel
theorem dX2_addWaiting_13 : decode cX2_addWaiting 13 = .ok (.iload_n 2, 1) := by decide +kernel
theorem dX2_addWaiting_14 : decode cX2_addWaiting 14 = .ok (.aaload, 1) := by decide +kernel
theorem dX2_addWaiting_15 : decode cX2_addWaiting 15 = .ok (.aload_n 1, 1) := by decide +kernel
theorem dX2_addWaiting_16 : decode cX2_addWaiting 16 = .ok (.invokevirtual 62, 3) := by decide +kernel
theorem dX2_addWaiting_19 : decode cX2_addWaiting 19 = .ok (.aload_n 0, 1) := by decide +kernel
theorem dX2_addWaiting_20 : decode cX2_addWaiting 20 = .ok (.iload_n 2, 1) := by decide +kernel
theorem dX2_addWaiting_21 : decode cX2_addWaiting 21 = .ok (.iconst 1, 1) := by decide +kernel
theorem dX2_addWaiting_22 : decode cX2_addWaiting 22 = .ok (.iadd, 1) := by decide +kernel
theorem dX2_addWaiting_23 : decode cX2_addWaiting 23 = .ok (.putfield 22, 3) := by decide +kernel
theorem dX2_addWaiting_26 : decode cX2_addWaiting 26 = .ok (.aload_n 0, 1) := by decide +kernel
theorem dX2_addWaiting_27 : decode cX2_addWaiting 27 = .ok (.getfield 19, 3) := by decide +kernel
theorem dX2_addWaiting_30 : decode cX2_addWaiting 30 = .ok (.iload_n 2, 1) := by decide +kernel
theorem dX2_addWaiting_31 : decode cX2_addWaiting 31 = .ok (.aaload, 1) := by decide +kernel
theorem dX2_addWaiting_32 : decode cX2_addWaiting 32 = .ok (.areturn, 1) := by decide +kernel
theorem dX2_step_0 : decode cX2_step 0 = .ok (.aload_n 0, 1) := by decide +kernel
theorem dX2_step_1 : decode cX2_step 1 = .ok (.dup, 1) := by decide +kernel
theorem dX2_step_2 : decode cX2_step 2 = .ok (.getfield 40, 3) := by decide +kernel
theorem dX2_step_5 : decode cX2_step 5 = .ok (.iconst 1, 1) := by decide +kernel
theorem dX2_step_6 : decode cX2_step 6 = .ok (.iadd, 1) := by decide +kernel
theorem dX2_step_7 : decode cX2_step 7 = .ok (.putfield 40, 3) := by decide +kernel
theorem dX2_step_10 : decode cX2_step 10 = .ok (.aload_n 0, 1) := by decide +kernel
theorem dX2_step_11 : decode cX2_step 11 = .ok (.invokevirtual 66, 3) := by decide +kernel
theorem dX2_step_14 : decode cX2_step 14 = .ok (.istore_n 1, 1) := by decide +kernel
theorem dX2_step_15 : decode cX2_step 15 = .ok (.aload_n 0, 1) := by decide +kernel
theorem dX2_step_16 : decode cX2_step 16 = .ok (.invokevirtual 70, 3) := by decide +kernel
theorem dX2_step_19 : decode cX2_step 19 = .ok (.istore_n 2, 1) := by decide +kernel
theorem dX2_step_20 : decode cX2_step 20 = .ok (.aload_n 0, 1) := by decide +kernel
theorem dX2_step_21 : decode cX2_step 21 = .ok (.iload_n 1, 1) := by decide +kernel
theorem dX2_step_22 : decode cX2_step 22 = .ok (.invokevirtual 74, 3) := by decide +kernel
theorem dX2_step_25 : decode cX2_step 25 = .ok (.iconst 0, 1) := by decide +kernel
theorem dX2_step_26 : decode cX2_step 26 = .ok (.istore_n 3, 1) := by decide +kernel
theorem dX2_step_27 : decode cX2_step 27 = .ok (.iload_n 3, 1) := by decide +kernel
theorem dX2_step_28 : decode cX2_step 28 = .ok (.iconst 5, 1) := by decide +kernel
theorem dX2_step_29 : decode cX2_step 29 = .ok (.if_icmp .ge 45, 3) := by decide +kernel
theorem dX2_step_32 : decode cX2_step 32 = .ok (.aload_n 0, 1) := by decide +kernel
theorem dX2_step_33 : decode cX2_step 33 = .ok (.getfield 11, 3) := by decide +kernel
theorem dX2_step_36 : decode cX2_step 36 = .ok (.iload_n 3, 1) := by decide +kernel
theorem dX2_step_37 : decode cX2_step 37 = .ok (.aaload, 1) := by decide +kernel
theorem dX2_step_38 : decode cX2_step 38 = .ok (.getfield 78, 3) := by decide +kernel
theorem dX2_step_41 : decode cX2_step 41 = .ok (.ifCond .eq 27, 3) := by decide +kernel
theorem dX2_step_44 : decode cX2_step 44 = .ok (.aload_n 0, 1) := by decide +kernel
theorem dX2_step_45 : decode cX2_step 45 = .ok (.dup, 1) := by decide +kernel
theorem dX2_step_46 : decode cX2_step 46 = .ok (.getfield 49, 3) := by decide +kernel
theorem dX2_step_49 : decode cX2_step 49 = .ok (.aload_n 0, 1) := by decide +kernel
theorem dX2_step_50 : decode cX2_step 50 = .ok (.getfield 11, 3) := by decide +kernel
theorem dX2_step_53 : decode cX2_step 53 = .ok (.iload_n 3, 1) := by decide +kernel
theorem dX2_step_54 : decode cX2_step 54 = .ok (.aaload, 1) := by decide +kernel
theorem dX2_step_55 : decode cX2_step 55 = .ok (.aload_n 0, 1) := by decide +kernel
theorem dX2_step_56 : decode cX2_step 56 = .ok (.getfield 15, 3) := by decide +kernel
theorem dX2_step_59 : decode cX2_step 59 = .ok (.iload_n 3, 1) := by decide +kernel
theorem dX2_step_60 : decode cX2_step 60 = .ok (.iaload, 1) := by decide +kernel
theorem dX2_step_61 : decode cX2_step 61 = .ok (.invokevirtual 82, 3) := by decide +kernel
theorem dX2_step_64 : decode cX2_step 64 = .ok (.iadd, 1) := by decide +kernel
theorem dX2_step_65 : decode cX2_step 65 = .ok (.putfield 49, 3) := by decide +kernel
theorem dX2_step_68 : decode cX2_step 68 = .ok (.iinc 3 1, 3) := by decide +kernel
theorem dX2_step_71 : decode cX2_step 71 = .ok (.goto (-44), 3) := by decide +kernel
theorem dX2_step_74 : decode cX2_step 74 = .ok (.aload_n 0, 1) := by decide +kernel
theorem dX2_step_75 : decode cX2_step 75 = .ok (.invokevirtual 86, 3) := by decide +kernel
theorem dX2_step_78 : decode cX2_step 78 = .ok (.iload_n 2, 1) := by decide +kernel
theorem dX2_step_79 : decode cX2_step 79 = .ok (.ireturn, 1) := by decide +kernel
theorem dX2_burnCoal_0 : decode cX2_burnCoal 0 = .ok (.aload_n 0, 1) := by decide +kernel
theorem dX2_burnCoal_1 : decode cX2_burnCoal 1 = .ok (.getfield 34, 3) := by decide +kernel
theorem dX2_burnCoal_4 : decode cX2_burnCoal 4 = .ok (.aload_n 0, 1) := by decide +kernel
theorem dX2_burnCoal_5 : decode cX2_burnCoal 5 = .ok (.getfield 31, 3) := by decide +kernel
theorem dX2_burnCoal_8 : decode cX2_burnCoal 8 = .ok (.if_icmp .ge 5, 3) := by decide +kernel
theorem dX2_burnCoal_11 : decode cX2_burnCoal 11 = .ok (.iconst 0, 1) := by decide +kernel
theorem dX2_burnCoal_12 : decode cX2_burnCoal 12 = .ok (.ireturn, 1) := by decide +kernel
theorem dX2_burnCoal_13 : decode cX2_burnCoal 13 = .ok (.aload_n 0, 1) := by decide +kernel
theorem dX2_burnCoal_14 : decode cX2_burnCoal 14 = .ok (.dup, 1) := by decide +kernel
theorem dX2_burnCoal_15 : decode cX2_burnCoal 15 = .ok (.getfield 34, 3) := by decide +kernel
theorem dX2_burnCoal_18 : decode cX2_burnCoal 18 = .ok (.aload_n 0, 1) := by decide +kernel
theorem dX2_burnCoal_19 : decode cX2_burnCoal 19 = .ok (.getfield 31, 3) := by decide +kernel
theorem dX2_burnCoal_22 : decode cX2_burnCoal 22 = .ok (.isub, 1) := by decide +kernel
theorem dX2_burnCoal_23 : decode cX2_burnCoal 23 = .ok (.putfield 34, 3) := by decide +kernel
theorem dX2_burnCoal_26 : decode cX2_burnCoal 26 = .ok (.aload_n 0, 1) := by decide +kernel
theorem dX2_burnCoal_27 : decode cX2_burnCoal 27 = .ok (.dup, 1) := by decide +kernel
theorem dX2_burnCoal_28 : decode cX2_burnCoal 28 = .ok (.getfield 49, 3) := by decide +kernel
theorem dX2_burnCoal_31 : decode cX2_burnCoal 31 = .ok (.iconst 2, 1) := by decide +kernel
theorem dX2_burnCoal_32 : decode cX2_burnCoal 32 = .ok (.aload_n 0, 1) := by decide +kernel
theorem dX2_burnCoal_33 : decode cX2_burnCoal 33 = .ok (.getfield 31, 3) := by decide +kernel
theorem dX2_burnCoal_36 : decode cX2_burnCoal 36 = .ok (.imul, 1) := by decide +kernel
theorem dX2_burnCoal_37 : decode cX2_burnCoal 37 = .ok (.iadd, 1) := by decide +kernel
theorem dX2_burnCoal_38 : decode cX2_burnCoal 38 = .ok (.putfield 49, 3) := by decide +kernel
theorem dX2_burnCoal_41 : decode cX2_burnCoal 41 = .ok (.aload_n 0, 1) := by decide +kernel
theorem dX2_burnCoal_42 : decode cX2_burnCoal 42 = .ok (.getfield 31, 3) := by decide +kernel
theorem dX2_burnCoal_45 : decode cX2_burnCoal 45 = .ok (.ireturn, 1) := by decide +kernel
theorem dX2_moveOn_0 : decode cX2_moveOn 0 = .ok (.aload_n 0, 1) := by decide +kernel
theorem dX2_moveOn_1 : decode cX2_moveOn 1 = .ok (.getfield 37, 3) := by decide +kernel
theorem dX2_moveOn_4 : decode cX2_moveOn 4 = .ok (.bipush 6, 2) := by decide +kernel
theorem dX2_moveOn_6 : decode cX2_moveOn 6 = .ok (.if_icmp .lt 15, 3) := by decide +kernel
theorem dX2_moveOn_9 : decode cX2_moveOn 9 = .ok (.aload_n 0, 1) := by decide +kernel
theorem dX2_moveOn_10 : decode cX2_moveOn 10 = .ok (.dup, 1) := by decide +kernel
theorem dX2_moveOn_11 : decode cX2_moveOn 11 = .ok (.getfield 46, 3) := by decide +kernel
theorem dX2_moveOn_14 : decode cX2_moveOn 14 = .ok (.iconst 1, 1) := by decide +kernel
theorem dX2_moveOn_15 : decode cX2_moveOn 15 = .ok (.iadd, 1) := by decide +kernel
theorem dX2_moveOn_16 : decode cX2_moveOn 16 = .ok (.putfield 46, 3) := by decide +kernel
theorem dX2_moveOn_19 : decode cX2_moveOn 19 = .ok (.iconst 0, 1) := by decide +kernel
theorem dX2_moveOn_20 : decode cX2_moveOn 20 = .ok (.ireturn, 1) := by decide +kernel
theorem dX2_moveOn_21 : decode cX2_moveOn 21 = .ok (.aload_n 0, 1) := by decide +kernel
theorem dX2_moveOn_22 : decode cX2_moveOn 22 = .ok (.getfield 27, 3) := by decide +kernel
theorem dX2_moveOn_25 : decode cX2_moveOn 25 = .ok (.astore_n 1, 1) := by decide +kernel
theorem dX2_moveOn_26 : decode cX2_moveOn 26 = .ok (.aload_n 0, 1) := by decide +kernel
theorem dX2_moveOn_27 : decode cX2_moveOn 27 = .ok (.aload_n 0, 1) := by decide +kernel
theorem dX2_moveOn_28 : decode cX2_moveOn 28 = .ok (.getfield 11, 3) := by decide +kernel
theorem dX2_moveOn_31 : decode cX2_moveOn 31 = .ok (.iconst 4, 1) := by decide +kernel
theorem dX2_moveOn_32 : decode cX2_moveOn 32 = .ok (.aaload, 1) := by decide +kernel
theorem dX2_moveOn_33 : decode cX2_moveOn 33 = .ok (.putfield 27, 3) := by decide +kernel
theorem dX2_moveOn_36 : decode cX2_moveOn 36 = .ok (.iconst 4, 1) := by decide +kernel
theorem dX2_moveOn_37 : decode cX2_moveOn 37 = .ok (.istore_n 2, 1) := by decide +kernel
theorem dX2_moveOn_38 : decode cX2_moveOn 38 = .ok (.iload_n 2, 1) := by decide +kernel
theorem dX2_moveOn_39 : decode cX2_moveOn 39 = .ok (.ifCond .le 23, 3) := by decide +kernel
theorem dX2_moveOn_42 : decode cX2_moveOn 42 = .ok (.aload_n 0, 1) := by decide +kernel
theorem dX2_moveOn_43 : decode cX2_moveOn 43 = .ok (.getfield 11, 3) := by decide +kernel
theorem dX2_moveOn_46 : decode cX2_moveOn 46 = .ok (.iload_n 2, 1) := by decide +kernel
theorem dX2_moveOn_47 : decode cX2_moveOn 47 = .ok (.aload_n 0, 1) := by decide +kernel
theorem dX2_moveOn_48 : decode cX2_moveOn 48 = .ok (.getfield 11, 3) := by decide +kernel
theorem dX2_moveOn_51 : decode cX2_moveOn 51 = .ok (.iload_n 2, 1) := by decide +kernel
theorem dX2_moveOn_52 : decode cX2_moveOn 52 = .ok (.iconst 1, 1) := by decide +kernel
theorem dX2_moveOn_53 : decode cX2_moveOn 53 = .ok (.isub, 1) := by decide +kernel
theorem dX2_moveOn_54 : decode cX2_moveOn 54 = .ok (.aaload, 1) := by decide +kernel
theorem dX2_moveOn_55 : decode cX2_moveOn 55 = .ok (.aastore, 1) := by decide +kernel
theorem dX2_moveOn_56 : decode cX2_moveOn 56 = .ok (.iinc 2 (-1), 3) := by decide +kernel
theorem dX2_moveOn_59 : decode cX2_moveOn 59 = .ok (.goto (-21), 3) := by decide +kernel
theorem dX2_moveOn_62 : decode cX2_moveOn 62 = .ok (.aload_n 0, 1) := by decide +kernel
theorem dX2_moveOn_63 : decode cX2_moveOn 63 = .ok (.getfield 11, 3) := by decide +kernel
theorem dX2_moveOn_66 : decode cX2_moveOn 66 = .ok (.iconst 0, 1) := by decide +kernel
theorem dX2_moveOn_67 : decode cX2_moveOn 67 = .ok (.aload_n 0, 1) := by decide +kernel
theorem dX2_moveOn_68 : decode cX2_moveOn 68 = .ok (.aload_n 1, 1) := by decide +kernel
theorem dX2_moveOn_69 : decode cX2_moveOn 69 = .ok (.invokevirtual 89, 3) := by decide +kernel
theorem dX2_moveOn_72 : decode cX2_moveOn 72 = .ok (.aastore, 1) := by decide +kernel
theorem dX2_moveOn_73 : decode cX2_moveOn 73 = .ok (.aload_n 0, 1) := by decide +kernel
theorem dX2_moveOn_74 : decode cX2_moveOn 74 = .ok (.getfield 27, 3) := by decide +kernel
theorem dX2_moveOn_77 : decode cX2_moveOn 77 = .ok (.getfield 78, 3) := by decide +kernel
theorem dX2_moveOn_80 : decode cX2_moveOn 80 = .ok (.ireturn, 1) := by decide +kernel
theorem dX2_nextWaiting_0 : decode cX2_nextWaiting 0 = .ok (.aload_n 0, 1) := by decide +kernel
theorem dX2_nextWaiting_1 : decode cX2_nextWaiting 1 = .ok (.getfield 22, 3) := by decide +kernel
theorem dX2_nextWaiting_4 : decode cX2_nextWaiting 4 = .ok (.ifCond .ne 10, 3) := by decide +kernel
theorem dX2_nextWaiting_7 : decode cX2_nextWaiting 7 = .ok (.aload_n 1, 1) := by decide +kernel
theorem dX2_nextWaiting_8 : decode cX2_nextWaiting 8 = .ok (.iconst 0, 1) := by decide +kernel
theorem dX2_nextWaiting_9 : decode cX2_nextWaiting 9 = .ok (.putfield 78, 3) := by decide +kernel
theorem dX2_nextWaiting_12 : decode cX2_nextWaiting 12 = .ok (.aload_n 1, 1) := by decide +kernel
theorem dX2_nextWaiting_13 : decode cX2_nextWaiting 13 = .ok (.areturn, 1) := by decide +kernel
theorem dX2_nextWaiting_14 : decode cX2_nextWaiting 14 = .ok (.aload_n 0, 1) := by decide +kernel
theorem dX2_nextWaiting_15 : decode cX2_nextWaiting 15 = .ok (.getfield 19, 3) := by decide +kernel
theorem dX2_nextWaiting_18 : decode cX2_nextWaiting 18 = .ok (.iconst 0, 1) := by decide +kernel
theorem dX2_nextWaiting_19 : decode cX2_nextWaiting 19 = .ok (.aaload, 1) := by decide +kernel
theorem dX2_nextWaiting_20 : decode cX2_nextWaiting 20 = .ok (.astore_n 2, 1) := by decide +kernel
theorem dX2_nextWaiting_21 : decode cX2_nextWaiting 21 = .ok (.iconst 1, 1) := by decide +kernel
theorem dX2_nextWaiting_22 : decode cX2_nextWaiting 22 = .ok (.istore_n 3, 1) := by decide +kernel
theorem dX2_nextWaiting_23 : decode cX2_nextWaiting 23 = .ok (.iload_n 3, 1) := by decide +kernel
theorem dX2_nextWaiting_24 : decode cX2_nextWaiting 24 = .ok (.iconst 3, 1) := by decide +kernel
theorem dX2_nextWaiting_25 : decode cX2_nextWaiting 25 = .ok (.if_icmp .ge 23, 3) := by decide +kernel
theorem dX2_nextWaiting_28 : decode cX2_nextWaiting 28 = .ok (.aload_n 0, 1) := by decide +kernel
theorem dX2_nextWaiting_29 : decode cX2_nextWaiting 29 = .ok (.getfield 19, 3) := by decide +kernel
theorem dX2_nextWaiting_32 : decode cX2_nextWaiting 32 = .ok (.iload_n 3, 1) := by decide +kernel
theorem dX2_nextWaiting_33 : decode cX2_nextWaiting 33 = .ok (.iconst 1, 1) := by decide +kernel
theorem dX2_nextWaiting_34 : decode cX2_nextWaiting 34 = .ok (.isub, 1) := by decide +kernel
theorem dX2_nextWaiting_35 : decode cX2_nextWaiting 35 = .ok (.aload_n 0, 1) := by decide +kernel
theorem dX2_nextWaiting_36 : decode cX2_nextWaiting 36 = .ok (.getfield 19, 3) := by decide +kernel
theorem dX2_nextWaiting_39 : decode cX2_nextWaiting 39 = .ok (.iload_n 3, 1) := by decide +kernel
theorem dX2_nextWaiting_40 : decode cX2_nextWaiting 40 = .ok (.aaload, 1) := by decide +kernel
theorem dX2_nextWaiting_41 : decode cX2_nextWaiting 41 = .ok (.aastore, 1) := by decide +kernel
theorem dX2_nextWaiting_42 : decode cX2_nextWaiting 42 = .ok (.iinc 3 1, 3) := by decide +kernel
theorem dX2_nextWaiting_45 : decode cX2_nextWaiting 45 = .ok (.goto (-22), 3) := by decide +kernel
theorem dX2_nextWaiting_48 : decode cX2_nextWaiting 48 = .ok (.aload_n 0, 1) := by decide +kernel
theorem dX2_nextWaiting_49 : decode cX2_nextWaiting 49 = .ok (.getfield 19, 3) := by decide +kernel
theorem dX2_nextWaiting_52 : decode cX2_nextWaiting 52 = .ok (.iconst 2, 1) := by decide +kernel
theorem dX2_nextWaiting_53 : decode cX2_nextWaiting 53 = .ok (.aload_n 1, 1) := by decide +kernel
theorem dX2_nextWaiting_54 : decode cX2_nextWaiting 54 = .ok (.aastore, 1) := by decide +kernel
theorem dX2_nextWaiting_55 : decode cX2_nextWaiting 55 = .ok (.aload_n 0, 1) := by decide +kernel
theorem dX2_nextWaiting_56 : decode cX2_nextWaiting 56 = .ok (.dup, 1) := by decide +kernel
theorem dX2_nextWaiting_57 : decode cX2_nextWaiting 57 = .ok (.getfield 22, 3) := by decide +kernel
theorem dX2_nextWaiting_60 : decode cX2_nextWaiting 60 = .ok (.iconst 1, 1) := by decide +kernel
theorem dX2_nextWaiting_61 : decode cX2_nextWaiting 61 = .ok (.isub, 1) := by decide +kernel
theorem dX2_nextWaiting_62 : decode cX2_nextWaiting 62 = .ok (.putfield 22, 3) := by decide +kernel
theorem dX2_nextWaiting_65 : decode cX2_nextWaiting 65 = .ok (.aload_n 2, 1) := by decide +kernel
theorem dX2_nextWaiting_66 : decode cX2_nextWaiting 66 = .ok (.areturn, 1) := by decide +kernel
theorem dX2_warmCells_0 : decode cX2_warmCells 0 = .ok (.aload_n 0, 1) := by decide +kernel
theorem dX2_warmCells_1 : decode cX2_warmCells 1 = .ok (.getfield 15, 3) := by decide +kernel
theorem dX2_warmCells_4 : decode cX2_warmCells 4 = .ok (.iconst 4, 1) := by decide +kernel
theorem dX2_warmCells_5 : decode cX2_warmCells 5 = .ok (.aload_n 0, 1) := by decide +kernel
theorem dX2_warmCells_6 : decode cX2_warmCells 6 = .ok (.getfield 15, 3) := by decide +kernel
theorem dX2_warmCells_9 : decode cX2_warmCells 9 = .ok (.iconst 4, 1) := by decide +kernel
theorem dX2_warmCells_10 : decode cX2_warmCells 10 = .ok (.iaload, 1) := by decide +kernel
theorem dX2_warmCells_11 : decode cX2_warmCells 11 = .ok (.iconst 3, 1) := by decide +kernel
theorem dX2_warmCells_12 : decode cX2_warmCells 12 = .ok (.iload_n 1, 1) := by decide +kernel
theorem dX2_warmCells_13 : decode cX2_warmCells 13 = .ok (.imul, 1) := by decide +kernel
theorem dX2_warmCells_14 : decode cX2_warmCells 14 = .ok (.iadd, 1) := by decide +kernel
theorem dX2_warmCells_15 : decode cX2_warmCells 15 = .ok (.iconst 2, 1) := by decide +kernel
theorem dX2_warmCells_16 : decode cX2_warmCells 16 = .ok (.idiv, 1) := by decide +kernel
theorem dX2_warmCells_17 : decode cX2_warmCells 17 = .ok (.iastore, 1) := by decide +kernel
theorem dX2_warmCells_18 : decode cX2_warmCells 18 = .ok (.iconst 3, 1) := by decide +kernel
theorem dX2_warmCells_19 : decode cX2_warmCells 19 = .ok (.istore_n 2, 1) := by decide +kernel
theorem dX2_warmCells_20 : decode cX2_warmCells 20 = .ok (.iload_n 2, 1) := by decide +kernel
theorem dX2_warmCells_21 : decode cX2_warmCells 21 = .ok (.ifCond .lt 67, 3) := by decide +kernel
theorem dX2_warmCells_24 : decode cX2_warmCells 24 = .ok (.aload_n 0, 1) := by decide +kernel
theorem dX2_warmCells_25 : decode cX2_warmCells 25 = .ok (.getfield 15, 3) := by decide +kernel
theorem dX2_warmCells_28 : decode cX2_warmCells 28 = .ok (.iload_n 2, 1) := by decide +kernel
theorem dX2_warmCells_29 : decode cX2_warmCells 29 = .ok (.iaload, 1) := by decide +kernel
theorem dX2_warmCells_30 : decode cX2_warmCells 30 = .ok (.iconst 2, 1) := by decide +kernel
theorem dX2_warmCells_31 : decode cX2_warmCells 31 = .ok (.aload_n 0, 1) := by decide +kernel
theorem dX2_warmCells_32 : decode cX2_warmCells 32 = .ok (.getfield 15, 3) := by decide +kernel
theorem dX2_warmCells_35 : decode cX2_warmCells 35 = .ok (.iload_n 2, 1) := by decide +kernel
theorem dX2_warmCells_36 : decode cX2_warmCells 36 = .ok (.iconst 1, 1) := by decide +kernel
theorem dX2_warmCells_37 : decode cX2_warmCells 37 = .ok (.iadd, 1) := by decide +kernel
theorem dX2_warmCells_38 : decode cX2_warmCells 38 = .ok (.iaload, 1) := by decide +kernel
theorem dX2_warmCells_39 : decode cX2_warmCells 39 = .ok (.imul, 1) := by decide +kernel
theorem dX2_warmCells_40 : decode cX2_warmCells 40 = .ok (.iadd, 1) := by decide +kernel
theorem dX2_warmCells_41 : decode cX2_warmCells 41 = .ok (.iconst 3, 1) := by decide +kernel
theorem dX2_warmCells_42 : decode cX2_warmCells 42 = .ok (.idiv, 1) := by decide +kernel
theorem dX2_warmCells_43 : decode cX2_warmCells 43 = .ok (.istore_n 3, 1) := by decide +kernel
theorem dX2_warmCells_44 : decode cX2_warmCells 44 = .ok (.aload_n 0, 1) := by decide +kernel
theorem dX2_warmCells_45 : decode cX2_warmCells 45 = .ok (.getfield 11, 3) := by decide +kernel
theorem dX2_warmCells_48 : decode cX2_warmCells 48 = .ok (.iload_n 2, 1) := by decide +kernel
theorem dX2_warmCells_49 : decode cX2_warmCells 49 = .ok (.aaload, 1) := by decide +kernel
theorem dX2_warmCells_50 : decode cX2_warmCells 50 = .ok (.getfield 78, 3) := by decide +kernel
theorem dX2_warmCells_53 : decode cX2_warmCells 53 = .ok (.ifCond .eq 18, 3) := by decide +kernel
theorem dX2_warmCells_56 : decode cX2_warmCells 56 = .ok (.aload_n 0, 1) := by decide +kernel
theorem dX2_warmCells_57 : decode cX2_warmCells 57 = .ok (.getfield 11, 3) := by decide +kernel
theorem dX2_warmCells_60 : decode cX2_warmCells 60 = .ok (.iload_n 2, 1) := by decide +kernel
theorem dX2_warmCells_61 : decode cX2_warmCells 61 = .ok (.aaload, 1) := by decide +kernel
theorem dX2_warmCells_62 : decode cX2_warmCells 62 = .ok (.getfield 93, 3) := by decide +kernel
theorem dX2_warmCells_65 : decode cX2_warmCells 65 = .ok (.ifCond .le 6, 3) := by decide +kernel
theorem dX2_warmCells_68 : decode cX2_warmCells 68 = .ok (.iinc 3 (-1), 3) := by decide +kernel
theorem dX2_warmCells_71 : decode cX2_warmCells 71 = .ok (.aload_n 0, 1) := by decide +kernel
theorem dX2_warmCells_72 : decode cX2_warmCells 72 = .ok (.getfield 15, 3) := by decide +kernel
theorem dX2_warmCells_75 : decode cX2_warmCells 75 = .ok (.iload_n 2, 1) := by decide +kernel
theorem dX2_warmCells_76 : decode cX2_warmCells 76 = .ok (.iconst 0, 1) := by decide +kernel
theorem dX2_warmCells_77 : decode cX2_warmCells 77 = .ok (.iload_n 3, 1) := by decide +kernel
theorem dX2_warmCells_78 : decode cX2_warmCells 78 = .ok (.invokestatic 96, 3) := by decide +kernel
theorem dX2_warmCells_81 : decode cX2_warmCells 81 = .ok (.iastore, 1) := by decide +kernel
theorem dX2_warmCells_82 : decode cX2_warmCells 82 = .ok (.iinc 2 (-1), 3) := by decide +kernel
theorem dX2_warmCells_85 : decode cX2_warmCells 85 = .ok (.goto (-65), 3) := by decide +kernel
theorem dX2_warmCells_88 : decode cX2_warmCells 88 = .ok (.return_, 1) := by decide +kernel
theorem dX2_changeRing_0 : decode cX2_changeRing 0 = .ok (.aload_n 0, 1) := by decide +kernel
theorem dX2_changeRing_1 : decode cX2_changeRing 1 = .ok (.getfield 11, 3) := by decide +kernel
theorem dX2_changeRing_4 : decode cX2_changeRing 4 = .ok (.iconst 3, 1) := by decide +kernel
theorem dX2_changeRing_5 : decode cX2_changeRing 5 = .ok (.aaload, 1) := by decide +kernel
theorem dX2_changeRing_6 : decode cX2_changeRing 6 = .ok (.astore_n 1, 1) := by decide +kernel
theorem dX2_changeRing_7 : decode cX2_changeRing 7 = .ok (.aload_n 1, 1) := by decide +kernel
theorem dX2_changeRing_8 : decode cX2_changeRing 8 = .ok (.getfield 78, 3) := by decide +kernel
theorem dX2_changeRing_11 : decode cX2_changeRing 11 = .ok (.ifCond .eq 33, 3) := by decide +kernel
theorem dX2_changeRing_14 : decode cX2_changeRing 14 = .ok (.aload_n 1, 1) := by decide +kernel
theorem dX2_changeRing_15 : decode cX2_changeRing 15 = .ok (.invokevirtual 99, 3) := by decide +kernel
theorem dX2_changeRing_18 : decode cX2_changeRing 18 = .ok (.bipush 6, 2) := by decide +kernel
theorem dX2_changeRing_20 : decode cX2_changeRing 20 = .ok (.if_icmp .lt 24, 3) := by decide +kernel
theorem dX2_changeRing_23 : decode cX2_changeRing 23 = .ok (.aload_n 0, 1) := by decide +kernel
theorem dX2_changeRing_24 : decode cX2_changeRing 24 = .ok (.getfield 15, 3) := by decide +kernel
theorem dX2_changeRing_27 : decode cX2_changeRing 27 = .ok (.iconst 3, 1) := by decide +kernel
theorem dX2_changeRing_28 : decode cX2_changeRing 28 = .ok (.iaload, 1) := by decide +kernel
theorem dX2_changeRing_29 : decode cX2_changeRing 29 = .ok (.bipush 8, 2) := by decide +kernel
theorem dX2_changeRing_31 : decode cX2_changeRing 31 = .ok (.if_icmp .lt 13, 3) := by decide +kernel
theorem dX2_changeRing_34 : decode cX2_changeRing 34 = .ok (.aload_n 0, 1) := by decide +kernel
theorem dX2_changeRing_35 : decode cX2_changeRing 35 = .ok (.dup, 1) := by decide +kernel
theorem dX2_changeRing_36 : decode cX2_changeRing 36 = .ok (.getfield 37, 3) := by decide +kernel
theorem dX2_changeRing_39 : decode cX2_changeRing 39 = .ok (.iconst 1, 1) := by decide +kernel
theorem dX2_changeRing_40 : decode cX2_changeRing 40 = .ok (.iadd, 1) := by decide +kernel
theorem dX2_changeRing_41 : decode cX2_changeRing 41 = .ok (.putfield 37, 3) := by decide +kernel
theorem dX2_changeRing_44 : decode cX2_changeRing 44 = .ok (.aload_n 0, 1) := by decide +kernel
theorem dX2_changeRing_45 : decode cX2_changeRing 45 = .ok (.getfield 15, 3) := by decide +kernel
theorem dX2_changeRing_48 : decode cX2_changeRing 48 = .ok (.iconst 3, 1) := by decide +kernel
theorem dX2_changeRing_49 : decode cX2_changeRing 49 = .ok (.iaload, 1) := by decide +kernel
theorem dX2_changeRing_50 : decode cX2_changeRing 50 = .ok (.iconst 5, 1) := by decide +kernel
theorem dX2_changeRing_51 : decode cX2_changeRing 51 = .ok (.if_icmp .ge 25, 3) := by decide +kernel
theorem dX2_changeRing_54 : decode cX2_changeRing 54 = .ok (.aload_n 0, 1) := by decide +kernel
theorem dX2_changeRing_55 : decode cX2_changeRing 55 = .ok (.getfield 37, 3) := by decide +kernel
theorem dX2_changeRing_58 : decode cX2_changeRing 58 = .ok (.ifCond .le 18, 3) := by decide +kernel
theorem dX2_changeRing_61 : decode cX2_changeRing 61 = .ok (.aload_n 0, 1) := by decide +kernel
theorem dX2_changeRing_62 : decode cX2_changeRing 62 = .ok (.iconst 0, 1) := by decide +kernel
theorem dX2_changeRing_63 : decode cX2_changeRing 63 = .ok (.putfield 37, 3) := by decide +kernel
theorem dX2_changeRing_66 : decode cX2_changeRing 66 = .ok (.aload_n 0, 1) := by decide +kernel
theorem dX2_changeRing_67 : decode cX2_changeRing 67 = .ok (.dup, 1) := by decide +kernel
theorem dX2_changeRing_68 : decode cX2_changeRing 68 = .ok (.getfield 43, 3) := by decide +kernel
theorem dX2_changeRing_71 : decode cX2_changeRing 71 = .ok (.iconst 1, 1) := by decide +kernel
theorem dX2_changeRing_72 : decode cX2_changeRing 72 = .ok (.iadd, 1) := by decide +kernel
theorem dX2_changeRing_73 : decode cX2_changeRing 73 = .ok (.putfield 43, 3) := by decide +kernel
theorem dX2_changeRing_76 : decode cX2_changeRing 76 = .ok (.return_, 1) := by decide +kernel
theorem dX3_init_0 : decode cX3_init 0 = .ok (.aload_n 0, 1) := by decide +kernel
theorem dX3_init_1 : decode cX3_init 1 = .ok (.invokespecial 3, 3) := by decide +kernel
theorem dX3_init_4 : decode cX3_init 4 = .ok (.aload_n 0, 1) := by decide +kernel
theorem dX3_init_5 : decode cX3_init 5 = .ok (.new 9, 3) := by decide +kernel
theorem dX3_init_8 : decode cX3_init 8 = .ok (.dup, 1) := by decide +kernel
theorem dX3_init_9 : decode cX3_init 9 = .ok (.invokespecial 11, 3) := by decide +kernel
theorem dX3_init_12 : decode cX3_init 12 = .ok (.putfield 12, 3) := by decide +kernel
theorem dX3_init_15 : decode cX3_init 15 = .ok (.aload_n 0, 1) := by decide +kernel
theorem dX3_init_16 : decode cX3_init 16 = .ok (.iconst (-1), 1) := by decide +kernel
theorem dX3_init_17 : decode cX3_init 17 = .ok (.putfield 18, 3) := by decide +kernel
theorem dX3_init_20 : decode cX3_init 20 = .ok (.aload_n 0, 1) := by decide +kernel
theorem dX3_init_21 : decode cX3_init 21 = .ok (.iconst (-1), 1) := by decide +kernel
theorem dX3_init_22 : decode cX3_init 22 = .ok (.putfield 22, 3) := by decide +kernel
theorem dX3_init_25 : decode cX3_init 25 = .ok (.aload_n 0, 1) := by decide +kernel
theorem dX3_init_26 : decode cX3_init 26 = .ok (.iconst (-1), 1) := by decide +kernel
theorem dX3_init_27 : decode cX3_init 27 = .ok (.putfield 25, 3) := by decide +kernel
theorem dX3_init_30 : decode cX3_init 30 = .ok (.aload_n 0, 1) := by decide +kernel
theorem dX3_init_31 : decode cX3_init 31 = .ok (.iconst 0, 1) := by decide +kernel
theorem dX3_init_32 : decode cX3_init 32 = .ok (.putfield 28, 3) := by decide +kernel
theorem dX3_init_35 : decode cX3_init 35 = .ok (.aload_n 0, 1) := by decide +kernel
theorem dX3_init_36 : decode cX3_init 36 = .ok (.iconst 0, 1) := by decide +kernel
theorem dX3_init_37 : decode cX3_init 37 = .ok (.putfield 31, 3) := by decide +kernel
theorem dX3_init_40 : decode cX3_init 40 = .ok (.aload_n 0, 1) := by decide +kernel
theorem dX3_init_41 : decode cX3_init 41 = .ok (.iconst 3, 1) := by decide +kernel
theorem dX3_init_42 : decode cX3_init 42 = .ok (.newarray .int, 2) := by decide +kernel
theorem dX3_init_44 : decode cX3_init 44 = .ok (.dup, 1) := by decide +kernel
theorem dX3_init_45 : decode cX3_init 45 = .ok (.iconst 0, 1) := by decide +kernel
theorem dX3_init_46 : decode cX3_init 46 = .ok (.iconst (-1), 1) := by decide +kernel
theorem dX3_init_47 : decode cX3_init 47 = .ok (.iastore, 1) := by decide +kernel
theorem dX3_init_48 : decode cX3_init 48 = .ok (.dup, 1) := by decide +kernel
theorem dX3_init_49 : decode cX3_init 49 = .ok (.iconst 1, 1) := by decide +kernel
theorem dX3_init_50 : decode cX3_init 50 = .ok (.iconst (-1), 1) := by decide +kernel
theorem dX3_init_51 : decode cX3_init 51 = .ok (.iastore, 1) := by decide +kernel
theorem dX3_init_52 : decode cX3_init 52 = .ok (.dup, 1) := by decide +kernel
theorem dX3_init_53 : decode cX3_init 53 = .ok (.iconst 2, 1) := by decide +kernel
theorem dX3_init_54 : decode cX3_init 54 = .ok (.iconst (-1), 1) := by decide +kernel
theorem dX3_init_55 : decode cX3_init 55 = .ok (.iastore, 1) := by decide +kernel
theorem dX3_init_56 : decode cX3_init 56 = .ok (.putfield 34, 3) := by decide +kernel
theorem dX3_init_59 : decode cX3_init 59 = .ok (.return_, 1) := by decide +kernel
theorem dX3_isFound_0 : decode cX3_isFound 0 = .ok (.iload_n 1, 1) := by decide +kernel
theorem dX3_isFound_1 : decode cX3_isFound 1 = .ok (.iconst 3, 1) := by decide +kernel
theorem dX3_isFound_2 : decode cX3_isFound 2 = .ok (.invokestatic 38, 3) := by decide +kernel
theorem dX3_isFound_5 : decode cX3_isFound 5 = .ok (.ifCond .eq 17, 3) := by decide +kernel
theorem dX3_isFound_8 : decode cX3_isFound 8 = .ok (.aload_n 0, 1) := by decide +kernel
theorem dX3_isFound_9 : decode cX3_isFound 9 = .ok (.getfield 34, 3) := by decide +kernel
theorem dX3_isFound_12 : decode cX3_isFound 12 = .ok (.iload_n 1, 1) := by decide +kernel
theorem dX3_isFound_13 : decode cX3_isFound 13 = .ok (.iaload, 1) := by decide +kernel
theorem dX3_isFound_14 : decode cX3_isFound 14 = .ok (.iconst (-1), 1) := by decide +kernel
theorem dX3_isFound_15 : decode cX3_isFound 15 = .ok (.if_icmp .eq 7, 3) := by decide +kernel
theorem dX3_isFound_18 : decode cX3_isFound 18 = .ok (.iconst 1, 1) := by decide +kernel
theorem dX3_isFound_19 : decode cX3_isFound 19 = .ok (.goto 4, 3) := by decide +kernel
theorem dX3_isFound_22 : decode cX3_isFound 22 = .ok (.iconst 0, 1) := by decide +kernel
theorem dX3_isFound_23 : decode cX3_isFound 23 = .ok (.ireturn, 1) := by decide +kernel
theorem dX4_init_0 : decode cX4_init 0 = .ok (.aload_n 0, 1) := by decide +kernel
theorem dX4_init_1 : decode cX4_init 1 = .ok (.invokespecial 3, 3) := by decide +kernel
theorem dX4_init_4 : decode cX4_init 4 = .ok (.aload_n 0, 1) := by decide +kernel
theorem dX4_init_5 : decode cX4_init 5 = .ok (.iconst 4, 1) := by decide +kernel
theorem dX4_init_6 : decode cX4_init 6 = .ok (.newarray .int, 2) := by decide +kernel
theorem dX4_init_8 : decode cX4_init 8 = .ok (.putfield 9, 3) := by decide +kernel
theorem dX4_init_11 : decode cX4_init 11 = .ok (.return_, 1) := by decide +kernel
theorem dX4_clear_0 : decode cX4_clear 0 = .ok (.iconst 0, 1) := by decide +kernel
theorem dX4_clear_1 : decode cX4_clear 1 = .ok (.istore_n 1, 1) := by decide +kernel
theorem dX4_clear_2 : decode cX4_clear 2 = .ok (.iload_n 1, 1) := by decide +kernel
theorem dX4_clear_3 : decode cX4_clear 3 = .ok (.iconst 4, 1) := by decide +kernel
theorem dX4_clear_4 : decode cX4_clear 4 = .ok (.if_icmp .ge 16, 3) := by decide +kernel
theorem dX4_clear_7 : decode cX4_clear 7 = .ok (.aload_n 0, 1) := by decide +kernel
theorem dX4_clear_8 : decode cX4_clear 8 = .ok (.getfield 9, 3) := by decide +kernel
theorem dX4_clear_11 : decode cX4_clear 11 = .ok (.iload_n 1, 1) := by decide +kernel
theorem dX4_clear_12 : decode cX4_clear 12 = .ok (.iconst 0, 1) := by decide +kernel
theorem dX4_clear_13 : decode cX4_clear 13 = .ok (.iastore, 1) := by decide +kernel
theorem dX4_clear_14 : decode cX4_clear 14 = .ok (.iinc 1 1, 3) := by decide +kernel
theorem dX4_clear_17 : decode cX4_clear 17 = .ok (.goto (-15), 3) := by decide +kernel
theorem dX4_clear_20 : decode cX4_clear 20 = .ok (.return_, 1) := by decide +kernel
theorem dX4_copyFrom_0 : decode cX4_copyFrom 0 = .ok (.iconst 0, 1) := by decide +kernel
theorem dX4_copyFrom_1 : decode cX4_copyFrom 1 = .ok (.istore_n 2, 1) := by decide +kernel
theorem dX4_copyFrom_2 : decode cX4_copyFrom 2 = .ok (.iload_n 2, 1) := by decide +kernel
theorem dX4_copyFrom_3 : decode cX4_copyFrom 3 = .ok (.iconst 4, 1) := by decide +kernel
theorem dX4_copyFrom_4 : decode cX4_copyFrom 4 = .ok (.if_icmp .ge 21, 3) := by decide +kernel
theorem dX4_copyFrom_7 : decode cX4_copyFrom 7 = .ok (.aload_n 0, 1) := by decide +kernel
theorem dX4_copyFrom_8 : decode cX4_copyFrom 8 = .ok (.getfield 9, 3) := by decide +kernel
theorem dX4_copyFrom_11 : decode cX4_copyFrom 11 = .ok (.iload_n 2, 1) := by decide +kernel
theorem dX4_copyFrom_12 : decode cX4_copyFrom 12 = .ok (.aload_n 1, 1) := by decide +kernel
theorem dX4_copyFrom_13 : decode cX4_copyFrom 13 = .ok (.getfield 9, 3) := by decide +kernel
theorem dX4_copyFrom_16 : decode cX4_copyFrom 16 = .ok (.iload_n 2, 1) := by decide +kernel
theorem dX4_copyFrom_17 : decode cX4_copyFrom 17 = .ok (.iaload, 1) := by decide +kernel
theorem dX4_copyFrom_18 : decode cX4_copyFrom 18 = .ok (.iastore, 1) := by decide +kernel
theorem dX4_copyFrom_19 : decode cX4_copyFrom 19 = .ok (.iinc 2 1, 3) := by decide +kernel
theorem dX4_copyFrom_22 : decode cX4_copyFrom 22 = .ok (.goto (-20), 3) := by decide +kernel
theorem dX4_copyFrom_25 : decode cX4_copyFrom 25 = .ok (.return_, 1) := by decide +kernel
theorem dX4_addStone_0 : decode cX4_addStone 0 = .ok (.iconst 0, 1) := by decide +kernel
theorem dX4_addStone_1 : decode cX4_addStone 1 = .ok (.istore_n 3, 1) := by decide +kernel
theorem dX4_addStone_2 : decode cX4_addStone 2 = .ok (.iload_n 3, 1) := by decide +kernel
theorem dX4_addStone_3 : decode cX4_addStone 3 = .ok (.iconst 4, 1) := by decide +kernel
theorem dX4_addStone_4 : decode cX4_addStone 4 = .ok (.if_icmp .ge 25, 3) := by decide +kernel
theorem dX4_addStone_7 : decode cX4_addStone 7 = .ok (.aload_n 0, 1) := by decide +kernel
theorem dX4_addStone_8 : decode cX4_addStone 8 = .ok (.getfield 9, 3) := by decide +kernel
theorem dX4_addStone_11 : decode cX4_addStone 11 = .ok (.iload_n 3, 1) := by decide +kernel
theorem dX4_addStone_12 : decode cX4_addStone 12 = .ok (.dup2, 1) := by decide +kernel
theorem dX4_addStone_13 : decode cX4_addStone 13 = .ok (.iaload, 1) := by decide +kernel
theorem dX4_addStone_14 : decode cX4_addStone 14 = .ok (.iload_n 2, 1) := by decide +kernel
theorem dX4_addStone_15 : decode cX4_addStone 15 = .ok (.aload_n 1, 1) := by decide +kernel
theorem dX4_addStone_16 : decode cX4_addStone 16 = .ok (.iload_n 3, 1) := by decide +kernel
theorem dX4_addStone_17 : decode cX4_addStone 17 = .ok (.invokevirtual 15, 3) := by decide +kernel
theorem dX4_addStone_20 : decode cX4_addStone 20 = .ok (.imul, 1) := by decide +kernel
theorem dX4_addStone_21 : decode cX4_addStone 21 = .ok (.iadd, 1) := by decide +kernel
theorem dX4_addStone_22 : decode cX4_addStone 22 = .ok (.iastore, 1) := by decide +kernel
theorem dX4_addStone_23 : decode cX4_addStone 23 = .ok (.iinc 3 1, 3) := by decide +kernel
theorem dX4_addStone_26 : decode cX4_addStone 26 = .ok (.goto (-24), 3) := by decide +kernel
theorem dX4_addStone_29 : decode cX4_addStone 29 = .ok (.return_, 1) := by decide +kernel
theorem dX4_addBins_0 : decode cX4_addBins 0 = .ok (.aload_n 0, 1) := by decide +kernel
theorem dX4_addBins_1 : decode cX4_addBins 1 = .ok (.getfield 9, 3) := by decide +kernel
theorem dX4_addBins_4 : decode cX4_addBins 4 = .ok (.iconst 1, 1) := by decide +kernel
theorem dX4_addBins_5 : decode cX4_addBins 5 = .ok (.dup2, 1) := by decide +kernel
theorem dX4_addBins_6 : decode cX4_addBins 6 = .ok (.iaload, 1) := by decide +kernel
theorem dX4_addBins_7 : decode cX4_addBins 7 = .ok (.bipush 9, 2) := by decide +kernel
theorem dX4_addBins_9 : decode cX4_addBins 9 = .ok (.iload_n 1, 1) := by decide +kernel
theorem dX4_addBins_10 : decode cX4_addBins 10 = .ok (.imul, 1) := by decide +kernel
theorem dX4_addBins_11 : decode cX4_addBins 11 = .ok (.iconst 3, 1) := by decide +kernel
theorem dX4_addBins_12 : decode cX4_addBins 12 = .ok (.iload_n 2, 1) := by decide +kernel
theorem dX4_addBins_13 : decode cX4_addBins 13 = .ok (.imul, 1) := by decide +kernel
theorem dX4_addBins_14 : decode cX4_addBins 14 = .ok (.iadd, 1) := by decide +kernel
theorem dX4_addBins_15 : decode cX4_addBins 15 = .ok (.iadd, 1) := by decide +kernel
theorem dX4_addBins_16 : decode cX4_addBins 16 = .ok (.iastore, 1) := by decide +kernel
theorem dX4_addBins_17 : decode cX4_addBins 17 = .ok (.aload_n 0, 1) := by decide +kernel
theorem dX4_addBins_18 : decode cX4_addBins 18 = .ok (.getfield 9, 3) := by decide +kernel
theorem dX4_addBins_21 : decode cX4_addBins 21 = .ok (.iconst 2, 1) := by decide +kernel
theorem dX4_addBins_22 : decode cX4_addBins 22 = .ok (.dup2, 1) := by decide +kernel
theorem dX4_addBins_23 : decode cX4_addBins 23 = .ok (.iaload, 1) := by decide +kernel
theorem dX4_addBins_24 : decode cX4_addBins 24 = .ok (.bipush 6, 2) := by decide +kernel
theorem dX4_addBins_26 : decode cX4_addBins 26 = .ok (.iload_n 2, 1) := by decide +kernel
theorem dX4_addBins_27 : decode cX4_addBins 27 = .ok (.imul, 1) := by decide +kernel
theorem dX4_addBins_28 : decode cX4_addBins 28 = .ok (.iadd, 1) := by decide +kernel
theorem dX4_addBins_29 : decode cX4_addBins 29 = .ok (.iastore, 1) := by decide +kernel
theorem dX4_addBins_30 : decode cX4_addBins 30 = .ok (.aload_n 0, 1) := by decide +kernel
theorem dX4_addBins_31 : decode cX4_addBins 31 = .ok (.getfield 9, 3) := by decide +kernel
theorem dX4_addBins_34 : decode cX4_addBins 34 = .ok (.iconst 3, 1) := by decide +kernel
theorem dX4_addBins_35 : decode cX4_addBins 35 = .ok (.dup2, 1) := by decide +kernel
theorem dX4_addBins_36 : decode cX4_addBins 36 = .ok (.iaload, 1) := by decide +kernel
theorem dX4_addBins_37 : decode cX4_addBins 37 = .ok (.bipush 9, 2) := by decide +kernel
theorem dX4_addBins_39 : decode cX4_addBins 39 = .ok (.iload_n 3, 1) := by decide +kernel
theorem dX4_addBins_40 : decode cX4_addBins 40 = .ok (.imul, 1) := by decide +kernel
theorem dX4_addBins_41 : decode cX4_addBins 41 = .ok (.iadd, 1) := by decide +kernel
theorem dX4_addBins_42 : decode cX4_addBins 42 = .ok (.iastore, 1) := by decide +kernel
theorem dX4_addBins_43 : decode cX4_addBins 43 = .ok (.return_, 1) := by decide +kernel
theorem dX4_melt_0 : decode cX4_melt 0 = .ok (.aload_n 0, 1) := by decide +kernel
theorem dX4_melt_1 : decode cX4_melt 1 = .ok (.getfield 9, 3) := by decide +kernel
theorem dX4_melt_4 : decode cX4_melt 4 = .ok (.iconst 2, 1) := by decide +kernel
theorem dX4_melt_5 : decode cX4_melt 5 = .ok (.iaload, 1) := by decide +kernel
theorem dX4_melt_6 : decode cX4_melt 6 = .ok (.aload_n 0, 1) := by decide +kernel
theorem dX4_melt_7 : decode cX4_melt 7 = .ok (.getfield 9, 3) := by decide +kernel
theorem dX4_melt_10 : decode cX4_melt 10 = .ok (.iconst 3, 1) := by decide +kernel
theorem dX4_melt_11 : decode cX4_melt 11 = .ok (.iaload, 1) := by decide +kernel
theorem dX4_melt_12 : decode cX4_melt 12 = .ok (.iadd, 1) := by decide +kernel
theorem dX4_melt_13 : decode cX4_melt 13 = .ok (.ireturn, 1) := by decide +kernel
theorem dX4_saturation_0 : decode cX4_saturation 0 = .ok (.bipush 100, 2) := by decide +kernel
theorem dX4_saturation_2 : decode cX4_saturation 2 = .ok (.aload_n 0, 1) := by decide +kernel
theorem dX4_saturation_3 : decode cX4_saturation 3 = .ok (.getfield 9, 3) := by decide +kernel
theorem dX4_saturation_6 : decode cX4_saturation 6 = .ok (.iconst 0, 1) := by decide +kernel
theorem dX4_saturation_7 : decode cX4_saturation 7 = .ok (.iaload, 1) := by decide +kernel
theorem dX4_saturation_8 : decode cX4_saturation 8 = .ok (.imul, 1) := by decide +kernel
theorem dX4_saturation_9 : decode cX4_saturation 9 = .ok (.iconst 3, 1) := by decide +kernel
theorem dX4_saturation_10 : decode cX4_saturation 10 = .ok (.aload_n 0, 1) := by decide +kernel
theorem dX4_saturation_11 : decode cX4_saturation 11 = .ok (.getfield 9, 3) := by decide +kernel
theorem dX4_saturation_14 : decode cX4_saturation 14 = .ok (.iconst 1, 1) := by decide +kernel
theorem dX4_saturation_15 : decode cX4_saturation 15 = .ok (.iaload, 1) := by decide +kernel
theorem dX4_saturation_16 : decode cX4_saturation 16 = .ok (.imul, 1) := by decide +kernel
theorem dX4_saturation_17 : decode cX4_saturation 17 = .ok (.iconst 2, 1) := by decide +kernel
theorem dX4_saturation_18 : decode cX4_saturation 18 = .ok (.aload_n 0, 1) := by decide +kernel
theorem dX4_saturation_19 : decode cX4_saturation 19 = .ok (.getfield 9, 3) := by decide +kernel
theorem dX4_saturation_22 : decode cX4_saturation 22 = .ok (.iconst 2, 1) := by decide +kernel
theorem dX4_saturation_23 : decode cX4_saturation 23 = .ok (.iaload, 1) := by decide +kernel
theorem dX4_saturation_24 : decode cX4_saturation 24 = .ok (.imul, 1) := by decide +kernel
theorem dX4_saturation_25 : decode cX4_saturation 25 = .ok (.iadd, 1) := by decide +kernel
theorem dX4_saturation_26 : decode cX4_saturation 26 = .ok (.aload_n 0, 1) := by decide +kernel
theorem dX4_saturation_27 : decode cX4_saturation 27 = .ok (.getfield 9, 3) := by decide +kernel
theorem dX4_saturation_30 : decode cX4_saturation 30 = .ok (.iconst 3, 1) := by decide +kernel
theorem dX4_saturation_31 : decode cX4_saturation 31 = .ok (.iaload, 1) := by decide +kernel
theorem dX4_saturation_32 : decode cX4_saturation 32 = .ok (.iadd, 1) := by decide +kernel
theorem dX4_saturation_33 : decode cX4_saturation 33 = .ok (.invokestatic 25, 3) := by decide +kernel
theorem dX4_saturation_36 : decode cX4_saturation 36 = .ok (.ireturn, 1) := by decide +kernel
theorem dX4_silicaModulus_0 : decode cX4_silicaModulus 0 = .ok (.bipush 10, 2) := by decide +kernel
theorem dX4_silicaModulus_2 : decode cX4_silicaModulus 2 = .ok (.aload_n 0, 1) := by decide +kernel
theorem dX4_silicaModulus_3 : decode cX4_silicaModulus 3 = .ok (.getfield 9, 3) := by decide +kernel
theorem dX4_silicaModulus_6 : decode cX4_silicaModulus 6 = .ok (.iconst 1, 1) := by decide +kernel
theorem dX4_silicaModulus_7 : decode cX4_silicaModulus 7 = .ok (.iaload, 1) := by decide +kernel
theorem dX4_silicaModulus_8 : decode cX4_silicaModulus 8 = .ok (.imul, 1) := by decide +kernel
theorem dX4_silicaModulus_9 : decode cX4_silicaModulus 9 = .ok (.aload_n 0, 1) := by decide +kernel
theorem dX4_silicaModulus_10 : decode cX4_silicaModulus 10 = .ok (.invokevirtual 21, 3) := by decide +kernel
theorem dX4_silicaModulus_13 : decode cX4_silicaModulus 13 = .ok (.invokestatic 25, 3) := by decide +kernel
theorem dX4_silicaModulus_16 : decode cX4_silicaModulus 16 = .ok (.ireturn, 1) := by decide +kernel
theorem dX4_aluminaModulus_0 : decode cX4_aluminaModulus 0 = .ok (.bipush 10, 2) := by decide +kernel
theorem dX4_aluminaModulus_2 : decode cX4_aluminaModulus 2 = .ok (.aload_n 0, 1) := by decide +kernel
theorem dX4_aluminaModulus_3 : decode cX4_aluminaModulus 3 = .ok (.getfield 9, 3) := by decide +kernel
theorem dX4_aluminaModulus_6 : decode cX4_aluminaModulus 6 = .ok (.iconst 2, 1) := by decide +kernel
theorem dX4_aluminaModulus_7 : decode cX4_aluminaModulus 7 = .ok (.iaload, 1) := by decide +kernel
theorem dX4_aluminaModulus_8 : decode cX4_aluminaModulus 8 = .ok (.imul, 1) := by decide +kernel
theorem dX4_aluminaModulus_9 : decode cX4_aluminaModulus 9 = .ok (.aload_n 0, 1) := by decide +kernel
theorem dX4_aluminaModulus_10 : decode cX4_aluminaModulus 10 = .ok (.getfield 9, 3) := by decide +kernel
theorem dX4_aluminaModulus_13 : decode cX4_aluminaModulus 13 = .ok (.iconst 3, 1) := by decide +kernel
theorem dX4_aluminaModulus_14 : decode cX4_aluminaModulus 14 = .ok (.iaload, 1) := by decide +kernel
theorem dX4_aluminaModulus_15 : decode cX4_aluminaModulus 15 = .ok (.invokestatic 25, 3) := by decide +kernel
theorem dX4_aluminaModulus_18 : decode cX4_aluminaModulus 18 = .ok (.ireturn, 1) := by decide +kernel
theorem dX4_isRight_0 : decode cX4_isRight 0 = .ok (.aload_n 0, 1) := by decide +kernel
theorem dX4_isRight_1 : decode cX4_isRight 1 = .ok (.invokevirtual 29, 3) := by decide +kernel
theorem dX4_isRight_4 : decode cX4_isRight 4 = .ok (.bipush 80, 2) := by decide +kernel
theorem dX4_isRight_6 : decode cX4_isRight 6 = .ok (.bipush 110, 2) := by decide +kernel
theorem dX4_isRight_8 : decode cX4_isRight 8 = .ok (.invokestatic 32, 3) := by decide +kernel
theorem dX4_isRight_11 : decode cX4_isRight 11 = .ok (.ifCond .eq 34, 3) := by decide +kernel
theorem dX4_isRight_14 : decode cX4_isRight 14 = .ok (.aload_n 0, 1) := by decide +kernel
theorem dX4_isRight_15 : decode cX4_isRight 15 = .ok (.invokevirtual 36, 3) := by decide +kernel
theorem dX4_isRight_18 : decode cX4_isRight 18 = .ok (.bipush 12, 2) := by decide +kernel
theorem dX4_isRight_20 : decode cX4_isRight 20 = .ok (.bipush 40, 2) := by decide +kernel
theorem dX4_isRight_22 : decode cX4_isRight 22 = .ok (.invokestatic 32, 3) := by decide +kernel
theorem dX4_isRight_25 : decode cX4_isRight 25 = .ok (.ifCond .eq 20, 3) := by decide +kernel
theorem dX4_isRight_28 : decode cX4_isRight 28 = .ok (.aload_n 0, 1) := by decide +kernel
theorem dX4_isRight_29 : decode cX4_isRight 29 = .ok (.invokevirtual 39, 3) := by decide +kernel
theorem dX4_isRight_32 : decode cX4_isRight 32 = .ok (.iconst 5, 1) := by decide +kernel
theorem dX4_isRight_33 : decode cX4_isRight 33 = .ok (.bipush 40, 2) := by decide +kernel
theorem dX4_isRight_35 : decode cX4_isRight 35 = .ok (.invokestatic 32, 3) := by decide +kernel
theorem dX4_isRight_38 : decode cX4_isRight 38 = .ok (.ifCond .eq 7, 3) := by decide +kernel
theorem dX4_isRight_41 : decode cX4_isRight 41 = .ok (.iconst 1, 1) := by decide +kernel
theorem dX4_isRight_42 : decode cX4_isRight 42 = .ok (.goto 4, 3) := by decide +kernel
theorem dX4_isRight_45 : decode cX4_isRight 45 = .ok (.iconst 0, 1) := by decide +kernel
theorem dX4_isRight_46 : decode cX4_isRight 46 = .ok (.ireturn, 1) := by decide +kernel
theorem dX4_isWithin_0 : decode cX4_isWithin 0 = .ok (.iload_n 0, 1) := by decide +kernel
theorem dX4_isWithin_1 : decode cX4_isWithin 1 = .ok (.iload_n 1, 1) := by decide +kernel
theorem dX4_isWithin_2 : decode cX4_isWithin 2 = .ok (.if_icmp .lt 12, 3) := by decide +kernel
theorem dX4_isWithin_5 : decode cX4_isWithin 5 = .ok (.iload_n 0, 1) := by decide +kernel
theorem dX4_isWithin_6 : decode cX4_isWithin 6 = .ok (.iload_n 2, 1) := by decide +kernel
theorem dX4_isWithin_7 : decode cX4_isWithin 7 = .ok (.if_icmp .gt 7, 3) := by decide +kernel
theorem dX4_isWithin_10 : decode cX4_isWithin 10 = .ok (.iconst 1, 1) := by decide +kernel
theorem dX4_isWithin_11 : decode cX4_isWithin 11 = .ok (.goto 4, 3) := by decide +kernel
theorem dX4_isWithin_14 : decode cX4_isWithin 14 = .ok (.iconst 0, 1) := by decide +kernel
theorem dX4_isWithin_15 : decode cX4_isWithin 15 = .ok (.ireturn, 1) := by decide +kernel
theorem dX4_quotient_0 : decode cX4_quotient 0 = .ok (.iload_n 1, 1) := by decide +kernel
theorem dX4_quotient_1 : decode cX4_quotient 1 = .ok (.ifCond .ne 9, 3) := by decide +kernel
theorem dX4_quotient_4 : decode cX4_quotient 4 = .ok (.sipush 999, 3) := by decide +kernel
theorem dX4_quotient_7 : decode cX4_quotient 7 = .ok (.goto 6, 3) := by decide +kernel
theorem dX4_quotient_10 : decode cX4_quotient 10 = .ok (.iload_n 0, 1) := by decide +kernel
theorem dX4_quotient_11 : decode cX4_quotient 11 = .ok (.iload_n 1, 1) := by decide +kernel
theorem dX4_quotient_12 : decode cX4_quotient 12 = .ok (.idiv, 1) := by decide +kernel
theorem dX4_quotient_13 : decode cX4_quotient 13 = .ok (.ireturn, 1) := by decide +kernel
theorem dX5_init_0 : decode cX5_init 0 = .ok (.aload_n 0, 1) := by decide +kernel
theorem dX5_init_1 : decode cX5_init 1 = .ok (.invokespecial 1, 3) := by decide +kernel
theorem dX5_init_4 : decode cX5_init 4 = .ok (.aload_n 0, 1) := by decide +kernel
theorem dX5_init_5 : decode cX5_init 5 = .ok (.iconst 0, 1) := by decide +kernel
theorem dX5_init_6 : decode cX5_init 6 = .ok (.putfield 7, 3) := by decide +kernel
theorem dX5_init_9 : decode cX5_init 9 = .ok (.aload_n 0, 1) := by decide +kernel
theorem dX5_init_10 : decode cX5_init 10 = .ok (.bipush 8, 2) := by decide +kernel
theorem dX5_init_12 : decode cX5_init 12 = .ok (.newarray .int, 2) := by decide +kernel
theorem dX5_init_14 : decode cX5_init 14 = .ok (.putfield 13, 3) := by decide +kernel
theorem dX5_init_17 : decode cX5_init 17 = .ok (.aload_n 0, 1) := by decide +kernel
theorem dX5_init_18 : decode cX5_init 18 = .ok (.bipush 8, 2) := by decide +kernel
theorem dX5_init_20 : decode cX5_init 20 = .ok (.newarray .int, 2) := by decide +kernel
theorem dX5_init_22 : decode cX5_init 22 = .ok (.putfield 17, 3) := by decide +kernel
theorem dX5_init_25 : decode cX5_init 25 = .ok (.aload_n 0, 1) := by decide +kernel
theorem dX5_init_26 : decode cX5_init 26 = .ok (.bipush 8, 2) := by decide +kernel
theorem dX5_init_28 : decode cX5_init 28 = .ok (.newarray .int, 2) := by decide +kernel
theorem dX5_init_30 : decode cX5_init 30 = .ok (.putfield 20, 3) := by decide +kernel
theorem dX5_init_33 : decode cX5_init 33 = .ok (.return_, 1) := by decide +kernel
theorem dX5_isFull_0 : decode cX5_isFull 0 = .ok (.aload_n 0, 1) := by decide +kernel
theorem dX5_isFull_1 : decode cX5_isFull 1 = .ok (.getfield 7, 3) := by decide +kernel
theorem dX5_isFull_4 : decode cX5_isFull 4 = .ok (.bipush 8, 2) := by decide +kernel
theorem dX5_isFull_6 : decode cX5_isFull 6 = .ok (.if_icmp .lt 7, 3) := by decide +kernel
theorem dX5_isFull_9 : decode cX5_isFull 9 = .ok (.iconst 1, 1) := by decide +kernel
theorem dX5_isFull_10 : decode cX5_isFull 10 = .ok (.goto 4, 3) := by decide +kernel
theorem dX5_isFull_13 : decode cX5_isFull 13 = .ok (.iconst 0, 1) := by decide +kernel
theorem dX5_isFull_14 : decode cX5_isFull 14 = .ok (.ireturn, 1) := by decide +kernel
theorem dX5_total_0 : decode cX5_total 0 = .ok (.iconst 0, 1) := by decide +kernel
theorem dX5_total_1 : decode cX5_total 1 = .ok (.istore_n 1, 1) := by decide +kernel
theorem dX5_total_2 : decode cX5_total 2 = .ok (.iconst 0, 1) := by decide +kernel
theorem dX5_total_3 : decode cX5_total 3 = .ok (.istore_n 2, 1) := by decide +kernel
theorem dX5_total_4 : decode cX5_total 4 = .ok (.iload_n 2, 1) := by decide +kernel
theorem dX5_total_5 : decode cX5_total 5 = .ok (.aload_n 0, 1) := by decide +kernel
theorem dX5_total_6 : decode cX5_total 6 = .ok (.getfield 7, 3) := by decide +kernel
theorem dX5_total_9 : decode cX5_total 9 = .ok (.if_icmp .ge 18, 3) := by decide +kernel
theorem dX5_total_12 : decode cX5_total 12 = .ok (.iload_n 1, 1) := by decide +kernel
theorem dX5_total_13 : decode cX5_total 13 = .ok (.aload_n 0, 1) := by decide +kernel
theorem dX5_total_14 : decode cX5_total 14 = .ok (.getfield 17, 3) := by decide +kernel
theorem dX5_total_17 : decode cX5_total 17 = .ok (.iload_n 2, 1) := by decide +kernel
theorem dX5_total_18 : decode cX5_total 18 = .ok (.iaload, 1) := by decide +kernel
theorem dX5_total_19 : decode cX5_total 19 = .ok (.iadd, 1) := by decide +kernel
theorem dX5_total_20 : decode cX5_total 20 = .ok (.istore_n 1, 1) := by decide +kernel
theorem dX5_total_21 : decode cX5_total 21 = .ok (.iinc 2 1, 3) := by decide +kernel
theorem dX5_total_24 : decode cX5_total 24 = .ok (.goto (-20), 3) := by decide +kernel
theorem dX5_total_27 : decode cX5_total 27 = .ok (.iload_n 1, 1) := by decide +kernel
theorem dX5_total_28 : decode cX5_total 28 = .ok (.ireturn, 1) := by decide +kernel
theorem dX5_addLayer_0 : decode cX5_addLayer 0 = .ok (.aload_n 0, 1) := by decide +kernel
theorem dX5_addLayer_1 : decode cX5_addLayer 1 = .ok (.invokevirtual 23, 3) := by decide +kernel
theorem dX5_addLayer_4 : decode cX5_addLayer 4 = .ok (.ifCond .eq 4, 3) := by decide +kernel
theorem dX5_addLayer_7 : decode cX5_addLayer 7 = .ok (.return_, 1) := by decide +kernel
theorem dX5_addLayer_8 : decode cX5_addLayer 8 = .ok (.aload_n 0, 1) := by decide +kernel
theorem dX5_addLayer_9 : decode cX5_addLayer 9 = .ok (.getfield 13, 3) := by decide +kernel
theorem dX5_addLayer_12 : decode cX5_addLayer 12 = .ok (.aload_n 0, 1) := by decide +kernel
theorem dX5_addLayer_13 : decode cX5_addLayer 13 = .ok (.getfield 7, 3) := by decide +kernel
theorem dX5_addLayer_16 : decode cX5_addLayer 16 = .ok (.iload_n 1, 1) := by decide +kernel
theorem dX5_addLayer_17 : decode cX5_addLayer 17 = .ok (.iastore, 1) := by decide +kernel
theorem dX5_addLayer_18 : decode cX5_addLayer 18 = .ok (.aload_n 0, 1) := by decide +kernel
theorem dX5_addLayer_19 : decode cX5_addLayer 19 = .ok (.getfield 17, 3) := by decide +kernel
theorem dX5_addLayer_22 : decode cX5_addLayer 22 = .ok (.aload_n 0, 1) := by decide +kernel
theorem dX5_addLayer_23 : decode cX5_addLayer 23 = .ok (.getfield 7, 3) := by decide +kernel
theorem dX5_addLayer_26 : decode cX5_addLayer 26 = .ok (.iload_n 2, 1) := by decide +kernel
theorem dX5_addLayer_27 : decode cX5_addLayer 27 = .ok (.iastore, 1) := by decide +kernel
theorem dX5_addLayer_28 : decode cX5_addLayer 28 = .ok (.aload_n 0, 1) := by decide +kernel
theorem dX5_addLayer_29 : decode cX5_addLayer 29 = .ok (.dup, 1) := by decide +kernel
theorem dX5_addLayer_30 : decode cX5_addLayer 30 = .ok (.getfield 7, 3) := by decide +kernel
theorem dX5_addLayer_33 : decode cX5_addLayer 33 = .ok (.iconst 1, 1) := by decide +kernel
theorem dX5_addLayer_34 : decode cX5_addLayer 34 = .ok (.iadd, 1) := by decide +kernel
theorem dX5_addLayer_35 : decode cX5_addLayer 35 = .ok (.putfield 7, 3) := by decide +kernel
theorem dX5_addLayer_38 : decode cX5_addLayer 38 = .ok (.return_, 1) := by decide +kernel
theorem dX5_shareOut_0 : decode cX5_shareOut 0 = .ok (.aload_n 0, 1) := by decide +kernel
theorem dX5_shareOut_1 : decode cX5_shareOut 1 = .ok (.invokevirtual 27, 3) := by decide +kernel
theorem dX5_shareOut_4 : decode cX5_shareOut 4 = .ok (.istore_n 2, 1) := by decide +kernel
theorem dX5_shareOut_5 : decode cX5_shareOut 5 = .ok (.iload_n 2, 1) := by decide +kernel
theorem dX5_shareOut_6 : decode cX5_shareOut 6 = .ok (.ifCond .ne 4, 3) := by decide +kernel
theorem dX5_shareOut_9 : decode cX5_shareOut 9 = .ok (.return_, 1) := by decide +kernel
theorem dX5_shareOut_10 : decode cX5_shareOut 10 = .ok (.iload_n 1, 1) := by decide +kernel
theorem dX5_shareOut_11 : decode cX5_shareOut 11 = .ok (.iload_n 2, 1) := by decide +kernel
theorem dX5_shareOut_12 : decode cX5_shareOut 12 = .ok (.invokestatic 31, 3) := by decide +kernel
theorem dX5_shareOut_15 : decode cX5_shareOut 15 = .ok (.istore_n 3, 1) := by decide +kernel
theorem dX5_shareOut_16 : decode cX5_shareOut 16 = .ok (.iconst 0, 1) := by decide +kernel
theorem dX5_shareOut_17 : decode cX5_shareOut 17 = .ok (.istore 4, 2) := by decide +kernel
theorem dX5_shareOut_19 : decode cX5_shareOut 19 = .ok (.iload 4, 2) := by decide +kernel
theorem dX5_shareOut_21 : decode cX5_shareOut 21 = .ok (.aload_n 0, 1) := by decide +kernel
theorem dX5_shareOut_22 : decode cX5_shareOut 22 = .ok (.getfield 7, 3) := by decide +kernel
theorem dX5_shareOut_25 : decode cX5_shareOut 25 = .ok (.if_icmp .ge 37, 3) := by decide +kernel
theorem dX5_shareOut_28 : decode cX5_shareOut 28 = .ok (.aload_n 0, 1) := by decide +kernel
theorem dX5_shareOut_29 : decode cX5_shareOut 29 = .ok (.getfield 20, 3) := by decide +kernel
theorem dX5_shareOut_32 : decode cX5_shareOut 32 = .ok (.iload 4, 2) := by decide +kernel
theorem dX5_shareOut_34 : decode cX5_shareOut 34 = .ok (.aload_n 0, 1) := by decide +kernel
theorem dX5_shareOut_35 : decode cX5_shareOut 35 = .ok (.getfield 17, 3) := by decide +kernel
theorem dX5_shareOut_38 : decode cX5_shareOut 38 = .ok (.iload 4, 2) := by decide +kernel
theorem dX5_shareOut_40 : decode cX5_shareOut 40 = .ok (.iaload, 1) := by decide +kernel
theorem dX5_shareOut_41 : decode cX5_shareOut 41 = .ok (.iload_n 1, 1) := by decide +kernel
theorem dX5_shareOut_42 : decode cX5_shareOut 42 = .ok (.imul, 1) := by decide +kernel
theorem dX5_shareOut_43 : decode cX5_shareOut 43 = .ok (.iload_n 2, 1) := by decide +kernel
theorem dX5_shareOut_44 : decode cX5_shareOut 44 = .ok (.idiv, 1) := by decide +kernel
theorem dX5_shareOut_45 : decode cX5_shareOut 45 = .ok (.iastore, 1) := by decide +kernel
theorem dX5_shareOut_46 : decode cX5_shareOut 46 = .ok (.iload_n 3, 1) := by decide +kernel
theorem dX5_shareOut_47 : decode cX5_shareOut 47 = .ok (.aload_n 0, 1) := by decide +kernel
theorem dX5_shareOut_48 : decode cX5_shareOut 48 = .ok (.getfield 20, 3) := by decide +kernel
theorem dX5_shareOut_51 : decode cX5_shareOut 51 = .ok (.iload 4, 2) := by decide +kernel
theorem dX5_shareOut_53 : decode cX5_shareOut 53 = .ok (.iaload, 1) := by decide +kernel
theorem dX5_shareOut_54 : decode cX5_shareOut 54 = .ok (.isub, 1) := by decide +kernel
theorem dX5_shareOut_55 : decode cX5_shareOut 55 = .ok (.istore_n 3, 1) := by decide +kernel
theorem dX5_shareOut_56 : decode cX5_shareOut 56 = .ok (.iinc 4 1, 3) := by decide +kernel
theorem dX5_shareOut_59 : decode cX5_shareOut 59 = .ok (.goto (-40), 3) := by decide +kernel
theorem dX5_shareOut_62 : decode cX5_shareOut 62 = .ok (.iconst 0, 1) := by decide +kernel
theorem dX5_shareOut_63 : decode cX5_shareOut 63 = .ok (.istore 4, 2) := by decide +kernel
theorem dX5_shareOut_65 : decode cX5_shareOut 65 = .ok (.iload 4, 2) := by decide +kernel
theorem dX5_shareOut_67 : decode cX5_shareOut 67 = .ok (.iload_n 1, 1) := by decide +kernel
theorem dX5_shareOut_68 : decode cX5_shareOut 68 = .ok (.if_icmp .ge 21, 3) := by decide +kernel
theorem dX5_shareOut_71 : decode cX5_shareOut 71 = .ok (.iload_n 3, 1) := by decide +kernel
theorem dX5_shareOut_72 : decode cX5_shareOut 72 = .ok (.ifCond .le 17, 3) := by decide +kernel
theorem dX5_shareOut_75 : decode cX5_shareOut 75 = .ok (.iload_n 3, 1) := by decide +kernel
theorem dX5_shareOut_76 : decode cX5_shareOut 76 = .ok (.aload_n 0, 1) := by decide +kernel
theorem dX5_shareOut_77 : decode cX5_shareOut 77 = .ok (.iload_n 3, 1) := by decide +kernel
theorem dX5_shareOut_78 : decode cX5_shareOut 78 = .ok (.invokevirtual 37, 3) := by decide +kernel
theorem dX5_shareOut_81 : decode cX5_shareOut 81 = .ok (.isub, 1) := by decide +kernel
theorem dX5_shareOut_82 : decode cX5_shareOut 82 = .ok (.istore_n 3, 1) := by decide +kernel
theorem dX5_shareOut_83 : decode cX5_shareOut 83 = .ok (.iinc 4 1, 3) := by decide +kernel
theorem dX5_shareOut_86 : decode cX5_shareOut 86 = .ok (.goto (-21), 3) := by decide +kernel
theorem dX5_shareOut_89 : decode cX5_shareOut 89 = .ok (.return_, 1) := by decide +kernel
theorem dX5_shareRound_0 : decode cX5_shareRound 0 = .ok (.iconst 0, 1) := by decide +kernel
theorem dX5_shareRound_1 : decode cX5_shareRound 1 = .ok (.istore_n 2, 1) := by decide +kernel
theorem dX5_shareRound_2 : decode cX5_shareRound 2 = .ok (.iconst 0, 1) := by decide +kernel
theorem dX5_shareRound_3 : decode cX5_shareRound 3 = .ok (.istore_n 3, 1) := by decide +kernel
theorem dX5_shareRound_4 : decode cX5_shareRound 4 = .ok (.iload_n 3, 1) := by decide +kernel
theorem dX5_shareRound_5 : decode cX5_shareRound 5 = .ok (.aload_n 0, 1) := by decide +kernel
theorem dX5_shareRound_6 : decode cX5_shareRound 6 = .ok (.getfield 7, 3) := by decide +kernel
theorem dX5_shareRound_9 : decode cX5_shareRound 9 = .ok (.if_icmp .ge 42, 3) := by decide +kernel
theorem dX5_shareRound_12 : decode cX5_shareRound 12 = .ok (.iload_n 2, 1) := by decide +kernel
theorem dX5_shareRound_13 : decode cX5_shareRound 13 = .ok (.iload_n 1, 1) := by decide +kernel
theorem dX5_shareRound_14 : decode cX5_shareRound 14 = .ok (.if_icmp .ge 37, 3) := by decide +kernel
theorem dX5_shareRound_17 : decode cX5_shareRound 17 = .ok (.aload_n 0, 1) := by decide +kernel
theorem dX5_shareRound_18 : decode cX5_shareRound 18 = .ok (.getfield 20, 3) := by decide +kernel
theorem dX5_shareRound_21 : decode cX5_shareRound 21 = .ok (.iload_n 3, 1) := by decide +kernel
theorem dX5_shareRound_22 : decode cX5_shareRound 22 = .ok (.iaload, 1) := by decide +kernel
theorem dX5_shareRound_23 : decode cX5_shareRound 23 = .ok (.aload_n 0, 1) := by decide +kernel
theorem dX5_shareRound_24 : decode cX5_shareRound 24 = .ok (.getfield 17, 3) := by decide +kernel
theorem dX5_shareRound_27 : decode cX5_shareRound 27 = .ok (.iload_n 3, 1) := by decide +kernel
theorem dX5_shareRound_28 : decode cX5_shareRound 28 = .ok (.iaload, 1) := by decide +kernel
theorem dX5_shareRound_29 : decode cX5_shareRound 29 = .ok (.if_icmp .ge 16, 3) := by decide +kernel
theorem dX5_shareRound_32 : decode cX5_shareRound 32 = .ok (.aload_n 0, 1) := by decide +kernel
theorem dX5_shareRound_33 : decode cX5_shareRound 33 = .ok (.getfield 20, 3) := by decide +kernel
theorem dX5_shareRound_36 : decode cX5_shareRound 36 = .ok (.iload_n 3, 1) := by decide +kernel
theorem dX5_shareRound_37 : decode cX5_shareRound 37 = .ok (.dup2, 1) := by decide +kernel
theorem dX5_shareRound_38 : decode cX5_shareRound 38 = .ok (.iaload, 1) := by decide +kernel
theorem dX5_shareRound_39 : decode cX5_shareRound 39 = .ok (.iconst 1, 1) := by decide +kernel
theorem dX5_shareRound_40 : decode cX5_shareRound 40 = .ok (.iadd, 1) := by decide +kernel
theorem dX5_shareRound_41 : decode cX5_shareRound 41 = .ok (.iastore, 1) := by decide +kernel
theorem dX5_shareRound_42 : decode cX5_shareRound 42 = .ok (.iinc 2 1, 3) := by decide +kernel
theorem dX5_shareRound_45 : decode cX5_shareRound 45 = .ok (.iinc 3 1, 3) := by decide +kernel
theorem dX5_shareRound_48 : decode cX5_shareRound 48 = .ok (.goto (-44), 3) := by decide +kernel
theorem dX5_shareRound_51 : decode cX5_shareRound 51 = .ok (.iload_n 2, 1) := by decide +kernel
theorem dX5_shareRound_52 : decode cX5_shareRound 52 = .ok (.ireturn, 1) := by decide +kernel
theorem dX5_takeShares_0 : decode cX5_takeShares 0 = .ok (.iconst 0, 1) := by decide +kernel
theorem dX5_takeShares_1 : decode cX5_takeShares 1 = .ok (.istore_n 2, 1) := by decide +kernel
theorem dX5_takeShares_2 : decode cX5_takeShares 2 = .ok (.iconst 0, 1) := by decide +kernel
theorem dX5_takeShares_3 : decode cX5_takeShares 3 = .ok (.istore_n 3, 1) := by decide +kernel
theorem dX5_takeShares_4 : decode cX5_takeShares 4 = .ok (.iload_n 3, 1) := by decide +kernel
theorem dX5_takeShares_5 : decode cX5_takeShares 5 = .ok (.aload_n 0, 1) := by decide +kernel
theorem dX5_takeShares_6 : decode cX5_takeShares 6 = .ok (.getfield 7, 3) := by decide +kernel
theorem dX5_takeShares_9 : decode cX5_takeShares 9 = .ok (.if_icmp .ge 83, 3) := by decide +kernel
theorem dX5_takeShares_12 : decode cX5_takeShares 12 = .ok (.aload_n 0, 1) := by decide +kernel
theorem dX5_takeShares_13 : decode cX5_takeShares 13 = .ok (.getfield 13, 3) := by decide +kernel
theorem dX5_takeShares_16 : decode cX5_takeShares 16 = .ok (.iload_n 3, 1) := by decide +kernel
theorem dX5_takeShares_17 : decode cX5_takeShares 17 = .ok (.iaload, 1) := by decide +kernel
theorem dX5_takeShares_18 : decode cX5_takeShares 18 = .ok (.aload_n 1, 1) := by decide +kernel
theorem dX5_takeShares_19 : decode cX5_takeShares 19 = .ok (.arraylength, 1) := by decide +kernel
theorem dX5_takeShares_20 : decode cX5_takeShares 20 = .ok (.invokestatic 41, 3) := by decide +kernel
theorem dX5_takeShares_23 : decode cX5_takeShares 23 = .ok (.ifCond .eq 20, 3) := by decide +kernel
theorem dX5_takeShares_26 : decode cX5_takeShares 26 = .ok (.aload_n 1, 1) := by decide +kernel
theorem dX5_takeShares_27 : decode cX5_takeShares 27 = .ok (.aload_n 0, 1) := by decide +kernel
theorem dX5_takeShares_28 : decode cX5_takeShares 28 = .ok (.getfield 13, 3) := by decide +kernel
theorem dX5_takeShares_31 : decode cX5_takeShares 31 = .ok (.iload_n 3, 1) := by decide +kernel
theorem dX5_takeShares_32 : decode cX5_takeShares 32 = .ok (.iaload, 1) := by decide +kernel
theorem dX5_takeShares_33 : decode cX5_takeShares 33 = .ok (.dup2, 1) := by decide +kernel
theorem dX5_takeShares_34 : decode cX5_takeShares 34 = .ok (.iaload, 1) := by decide +kernel
theorem dX5_takeShares_35 : decode cX5_takeShares 35 = .ok (.aload_n 0, 1) := by decide +kernel
theorem dX5_takeShares_36 : decode cX5_takeShares 36 = .ok (.getfield 20, 3) := by decide +kernel
theorem dX5_takeShares_39 : decode cX5_takeShares 39 = .ok (.iload_n 3, 1) := by decide +kernel
theorem dX5_takeShares_40 : decode cX5_takeShares 40 = .ok (.iaload, 1) := by decide +kernel
theorem dX5_takeShares_41 : decode cX5_takeShares 41 = .ok (.iadd, 1) := by decide +kernel
theorem dX5_takeShares_42 : decode cX5_takeShares 42 = .ok (.iastore, 1) := by decide +kernel
theorem dX5_takeShares_43 : decode cX5_takeShares 43 = .ok (.aload_n 0, 1) := by decide +kernel
theorem dX5_takeShares_44 : decode cX5_takeShares 44 = .ok (.getfield 17, 3) := by decide +kernel
theorem dX5_takeShares_47 : decode cX5_takeShares 47 = .ok (.iload_n 3, 1) := by decide +kernel
theorem dX5_takeShares_48 : decode cX5_takeShares 48 = .ok (.iaload, 1) := by decide +kernel
theorem dX5_takeShares_49 : decode cX5_takeShares 49 = .ok (.aload_n 0, 1) := by decide +kernel
theorem dX5_takeShares_50 : decode cX5_takeShares 50 = .ok (.getfield 20, 3) := by decide +kernel
theorem dX5_takeShares_53 : decode cX5_takeShares 53 = .ok (.iload_n 3, 1) := by decide +kernel
theorem dX5_takeShares_54 : decode cX5_takeShares 54 = .ok (.iaload, 1) := by decide +kernel
theorem dX5_takeShares_55 : decode cX5_takeShares 55 = .ok (.isub, 1) := by decide +kernel
theorem dX5_takeShares_56 : decode cX5_takeShares 56 = .ok (.istore 4, 2) := by decide +kernel
theorem dX5_takeShares_58 : decode cX5_takeShares 58 = .ok (.iload 4, 2) := by decide +kernel
theorem dX5_takeShares_60 : decode cX5_takeShares 60 = .ok (.ifCond .le 26, 3) := by decide +kernel
theorem dX5_takeShares_63 : decode cX5_takeShares 63 = .ok (.aload_n 0, 1) := by decide +kernel
theorem dX5_takeShares_64 : decode cX5_takeShares 64 = .ok (.getfield 13, 3) := by decide +kernel
theorem dX5_takeShares_67 : decode cX5_takeShares 67 = .ok (.iload_n 2, 1) := by decide +kernel
theorem dX5_takeShares_68 : decode cX5_takeShares 68 = .ok (.aload_n 0, 1) := by decide +kernel
theorem dX5_takeShares_69 : decode cX5_takeShares 69 = .ok (.getfield 13, 3) := by decide +kernel
theorem dX5_takeShares_72 : decode cX5_takeShares 72 = .ok (.iload_n 3, 1) := by decide +kernel
theorem dX5_takeShares_73 : decode cX5_takeShares 73 = .ok (.iaload, 1) := by decide +kernel
theorem dX5_takeShares_74 : decode cX5_takeShares 74 = .ok (.iastore, 1) := by decide +kernel
theorem dX5_takeShares_75 : decode cX5_takeShares 75 = .ok (.aload_n 0, 1) := by decide +kernel
theorem dX5_takeShares_76 : decode cX5_takeShares 76 = .ok (.getfield 17, 3) := by decide +kernel
theorem dX5_takeShares_79 : decode cX5_takeShares 79 = .ok (.iload_n 2, 1) := by decide +kernel
theorem dX5_takeShares_80 : decode cX5_takeShares 80 = .ok (.iload 4, 2) := by decide +kernel
theorem dX5_takeShares_82 : decode cX5_takeShares 82 = .ok (.iastore, 1) := by decide +kernel
theorem dX5_takeShares_83 : decode cX5_takeShares 83 = .ok (.iinc 2 1, 3) := by decide +kernel
theorem dX5_takeShares_86 : decode cX5_takeShares 86 = .ok (.iinc 3 1, 3) := by decide +kernel
theorem dX5_takeShares_89 : decode cX5_takeShares 89 = .ok (.goto (-85), 3) := by decide +kernel
theorem dX5_takeShares_92 : decode cX5_takeShares 92 = .ok (.aload_n 0, 1) := by decide +kernel
theorem dX5_takeShares_93 : decode cX5_takeShares 93 = .ok (.iload_n 2, 1) := by decide +kernel
theorem dX5_takeShares_94 : decode cX5_takeShares 94 = .ok (.putfield 7, 3) := by decide +kernel
theorem dX5_takeShares_97 : decode cX5_takeShares 97 = .ok (.return_, 1) := by decide +kernel
theorem dX6_init_0 : decode cX6_init 0 = .ok (.aload_n 0, 1) := by decide +kernel
theorem dX6_init_1 : decode cX6_init 1 = .ok (.invokespecial 3, 3) := by decide +kernel
theorem dX6_init_4 : decode cX6_init 4 = .ok (.aload_n 0, 1) := by decide +kernel
theorem dX6_init_5 : decode cX6_init 5 = .ok (.bipush 12, 2) := by decide +kernel
theorem dX6_init_7 : decode cX6_init 7 = .ok (.newarray .int, 2) := by decide +kernel
theorem dX6_init_9 : decode cX6_init 9 = .ok (.putfield 9, 3) := by decide +kernel
theorem dX6_init_12 : decode cX6_init 12 = .ok (.aload_n 0, 1) := by decide +kernel
theorem dX6_init_13 : decode cX6_init 13 = .ok (.iconst 0, 1) := by decide +kernel
theorem dX6_init_14 : decode cX6_init 14 = .ok (.putfield 15, 3) := by decide +kernel
theorem dX6_init_17 : decode cX6_init 17 = .ok (.aload_n 0, 1) := by decide +kernel
theorem dX6_init_18 : decode cX6_init 18 = .ok (.iconst 0, 1) := by decide +kernel
theorem dX6_init_19 : decode cX6_init 19 = .ok (.putfield 19, 3) := by decide +kernel
theorem dX6_init_22 : decode cX6_init 22 = .ok (.return_, 1) := by decide +kernel
theorem dX6_lotAt_0 : decode cX6_lotAt 0 = .ok (.iload_n 1, 1) := by decide +kernel
theorem dX6_lotAt_1 : decode cX6_lotAt 1 = .ok (.aload_n 0, 1) := by decide +kernel
theorem dX6_lotAt_2 : decode cX6_lotAt 2 = .ok (.getfield 15, 3) := by decide +kernel
theorem dX6_lotAt_5 : decode cX6_lotAt 5 = .ok (.invokestatic 23, 3) := by decide +kernel
theorem dX6_lotAt_8 : decode cX6_lotAt 8 = .ok (.ifCond .eq 12, 3) := by decide +kernel
theorem dX6_lotAt_11 : decode cX6_lotAt 11 = .ok (.aload_n 0, 1) := by decide +kernel
theorem dX6_lotAt_12 : decode cX6_lotAt 12 = .ok (.getfield 9, 3) := by decide +kernel
theorem dX6_lotAt_15 : decode cX6_lotAt 15 = .ok (.iload_n 1, 1) := by decide +kernel
theorem dX6_lotAt_16 : decode cX6_lotAt 16 = .ok (.iaload, 1) := by decide +kernel
theorem dX6_lotAt_17 : decode cX6_lotAt 17 = .ok (.goto 4, 3) := by decide +kernel
theorem dX6_lotAt_20 : decode cX6_lotAt 20 = .ok (.iconst (-1), 1) := by decide +kernel
theorem dX6_lotAt_21 : decode cX6_lotAt 21 = .ok (.ireturn, 1) := by decide +kernel
theorem dX7_init_0 : decode cX7_init 0 = .ok (.aload_n 0, 1) := by decide +kernel
theorem dX7_init_1 : decode cX7_init 1 = .ok (.invokespecial 1, 3) := by decide +kernel
theorem dX7_init_4 : decode cX7_init 4 = .ok (.aload_n 0, 1) := by decide +kernel
theorem dX7_init_5 : decode cX7_init 5 = .ok (.bipush 6, 2) := by decide +kernel
theorem dX7_init_7 : decode cX7_init 7 = .ok (.newarray .int, 2) := by decide +kernel
theorem dX7_init_9 : decode cX7_init 9 = .ok (.putfield 9, 3) := by decide +kernel
theorem dX7_init_12 : decode cX7_init 12 = .ok (.aload_n 0, 1) := by decide +kernel
theorem dX7_init_13 : decode cX7_init 13 = .ok (.iconst 0, 1) := by decide +kernel
theorem dX7_init_14 : decode cX7_init 14 = .ok (.putfield 13, 3) := by decide +kernel
theorem dX7_init_17 : decode cX7_init 17 = .ok (.aload_n 0, 1) := by decide +kernel
theorem dX7_init_18 : decode cX7_init 18 = .ok (.bipush 6, 2) := by decide +kernel
theorem dX7_init_20 : decode cX7_init 20 = .ok (.putfield 17, 3) := by decide +kernel
theorem dX7_init_23 : decode cX7_init 23 = .ok (.return_, 1) := by decide +kernel
theorem dX7_sum_0 : decode cX7_sum 0 = .ok (.iconst 0, 1) := by decide +kernel
theorem dX7_sum_1 : decode cX7_sum 1 = .ok (.istore_n 1, 1) := by decide +kernel
theorem dX7_sum_2 : decode cX7_sum 2 = .ok (.iconst 0, 1) := by decide +kernel
theorem dX7_sum_3 : decode cX7_sum 3 = .ok (.istore_n 2, 1) := by decide +kernel
theorem dX7_sum_4 : decode cX7_sum 4 = .ok (.iload_n 2, 1) := by decide +kernel
theorem dX7_sum_5 : decode cX7_sum 5 = .ok (.aload_n 0, 1) := by decide +kernel
theorem dX7_sum_6 : decode cX7_sum 6 = .ok (.getfield 13, 3) := by decide +kernel
theorem dX7_sum_9 : decode cX7_sum 9 = .ok (.if_icmp .ge 18, 3) := by decide +kernel
theorem dX7_sum_12 : decode cX7_sum 12 = .ok (.iload_n 1, 1) := by decide +kernel
theorem dX7_sum_13 : decode cX7_sum 13 = .ok (.aload_n 0, 1) := by decide +kernel
theorem dX7_sum_14 : decode cX7_sum 14 = .ok (.getfield 9, 3) := by decide +kernel
theorem dX7_sum_17 : decode cX7_sum 17 = .ok (.iload_n 2, 1) := by decide +kernel
theorem dX7_sum_18 : decode cX7_sum 18 = .ok (.iaload, 1) := by decide +kernel
theorem dX7_sum_19 : decode cX7_sum 19 = .ok (.iadd, 1) := by decide +kernel
theorem dX7_sum_20 : decode cX7_sum 20 = .ok (.istore_n 1, 1) := by decide +kernel
theorem dX7_sum_21 : decode cX7_sum 21 = .ok (.iinc 2 1, 3) := by decide +kernel
theorem dX7_sum_24 : decode cX7_sum 24 = .ok (.goto (-20), 3) := by decide +kernel
theorem dX7_sum_27 : decode cX7_sum 27 = .ok (.iload_n 1, 1) := by decide +kernel
theorem dX7_sum_28 : decode cX7_sum 28 = .ok (.ireturn, 1) := by decide +kernel
theorem dX7_holds_0 : decode cX7_holds 0 = .ok (.iconst 0, 1) := by decide +kernel
theorem dX7_holds_1 : decode cX7_holds 1 = .ok (.istore_n 1, 1) := by decide +kernel
theorem dX7_holds_2 : decode cX7_holds 2 = .ok (.iload_n 1, 1) := by decide +kernel
theorem dX7_holds_3 : decode cX7_holds 3 = .ok (.aload_n 0, 1) := by decide +kernel
theorem dX7_holds_4 : decode cX7_holds 4 = .ok (.getfield 13, 3) := by decide +kernel
theorem dX7_holds_7 : decode cX7_holds 7 = .ok (.if_icmp .ge 26, 3) := by decide +kernel
theorem dX7_holds_10 : decode cX7_holds 10 = .ok (.aload_n 0, 1) := by decide +kernel
theorem dX7_holds_11 : decode cX7_holds 11 = .ok (.getfield 9, 3) := by decide +kernel
theorem dX7_holds_14 : decode cX7_holds 14 = .ok (.iload_n 1, 1) := by decide +kernel
theorem dX7_holds_15 : decode cX7_holds 15 = .ok (.iaload, 1) := by decide +kernel
theorem dX7_holds_16 : decode cX7_holds 16 = .ok (.aload_n 0, 1) := by decide +kernel
theorem dX7_holds_17 : decode cX7_holds 17 = .ok (.getfield 17, 3) := by decide +kernel
theorem dX7_holds_20 : decode cX7_holds 20 = .ok (.iconst 4, 1) := by decide +kernel
theorem dX7_holds_21 : decode cX7_holds 21 = .ok (.isub, 1) := by decide +kernel
theorem dX7_holds_22 : decode cX7_holds 22 = .ok (.if_icmp .ge 5, 3) := by decide +kernel
theorem dX7_holds_25 : decode cX7_holds 25 = .ok (.iconst 0, 1) := by decide +kernel
theorem dX7_holds_26 : decode cX7_holds 26 = .ok (.ireturn, 1) := by decide +kernel
theorem dX7_holds_27 : decode cX7_holds 27 = .ok (.iinc 1 1, 3) := by decide +kernel
theorem dX7_holds_30 : decode cX7_holds 30 = .ok (.goto (-28), 3) := by decide +kernel
theorem dX7_holds_33 : decode cX7_holds 33 = .ok (.aload_n 0, 1) := by decide +kernel
theorem dX7_holds_34 : decode cX7_holds 34 = .ok (.invokevirtual 20, 3) := by decide +kernel
theorem dX7_holds_37 : decode cX7_holds 37 = .ok (.aload_n 0, 1) := by decide +kernel
theorem dX7_holds_38 : decode cX7_holds 38 = .ok (.getfield 17, 3) := by decide +kernel
theorem dX7_holds_41 : decode cX7_holds 41 = .ok (.aload_n 0, 1) := by decide +kernel
theorem dX7_holds_42 : decode cX7_holds 42 = .ok (.getfield 13, 3) := by decide +kernel
theorem dX7_holds_45 : decode cX7_holds 45 = .ok (.imul, 1) := by decide +kernel
theorem dX7_holds_46 : decode cX7_holds 46 = .ok (.if_icmp .lt 7, 3) := by decide +kernel
theorem dX7_holds_49 : decode cX7_holds 49 = .ok (.iconst 1, 1) := by decide +kernel
theorem dX7_holds_50 : decode cX7_holds 50 = .ok (.goto 4, 3) := by decide +kernel
theorem dX7_holds_53 : decode cX7_holds 53 = .ok (.iconst 0, 1) := by decide +kernel
theorem dX7_holds_54 : decode cX7_holds 54 = .ok (.ireturn, 1) := by decide +kernel
