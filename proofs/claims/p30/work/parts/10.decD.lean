theorem dX9_init_0 : decode cX9_init 0 = .ok (.aload_n 0, 1) := by decide +kernel
theorem dX9_init_1 : decode cX9_init 1 = .ok (.invokespecial 1, 3) := by decide +kernel
theorem dX9_init_4 : decode cX9_init 4 = .ok (.aload_n 0, 1) := by decide +kernel
theorem dX9_init_5 : decode cX9_init 5 = .ok (.new 7, 3) := by decide +kernel
theorem dX9_init_8 : decode cX9_init 8 = .ok (.dup, 1) := by decide +kernel
theorem dX9_init_9 : decode cX9_init 9 = .ok (.invokespecial 9, 3) := by decide +kernel
theorem dX9_init_12 : decode cX9_init 12 = .ok (.putfield 10, 3) := by decide +kernel
theorem dX9_init_15 : decode cX9_init 15 = .ok (.aload_n 0, 1) := by decide +kernel
theorem dX9_init_16 : decode cX9_init 16 = .ok (.iconst 0, 1) := by decide +kernel
theorem dX9_init_17 : decode cX9_init 17 = .ok (.anewarray 16, 3) := by decide +kernel
theorem dX9_init_20 : decode cX9_init 20 = .ok (.putfield 18, 3) := by decide +kernel
theorem dX9_init_23 : decode cX9_init 23 = .ok (.aload_n 0, 1) := by decide +kernel
theorem dX9_init_24 : decode cX9_init 24 = .ok (.iconst 0, 1) := by decide +kernel
theorem dX9_init_25 : decode cX9_init 25 = .ok (.anewarray 16, 3) := by decide +kernel
theorem dX9_init_28 : decode cX9_init 28 = .ok (.putfield 22, 3) := by decide +kernel
theorem dX9_init_31 : decode cX9_init 31 = .ok (.aload_n 0, 1) := by decide +kernel
theorem dX9_init_32 : decode cX9_init 32 = .ok (.iconst 0, 1) := by decide +kernel
theorem dX9_init_33 : decode cX9_init 33 = .ok (.anewarray 16, 3) := by decide +kernel
theorem dX9_init_36 : decode cX9_init 36 = .ok (.putfield 25, 3) := by decide +kernel
theorem dX9_init_39 : decode cX9_init 39 = .ok (.aload_n 0, 1) := by decide +kernel
theorem dX9_init_40 : decode cX9_init 40 = .ok (.aload_n 1, 1) := by decide +kernel
theorem dX9_init_41 : decode cX9_init 41 = .ok (.putfield 28, 3) := by decide +kernel
theorem dX9_init_44 : decode cX9_init 44 = .ok (.aload_n 0, 1) := by decide +kernel
theorem dX9_init_45 : decode cX9_init 45 = .ok (.iload_n 2, 1) := by decide +kernel
theorem dX9_init_46 : decode cX9_init 46 = .ok (.putfield 31, 3) := by decide +kernel
theorem dX9_init_49 : decode cX9_init 49 = .ok (.return_, 1) := by decide +kernel
theorem dX9_draw_0 : decode cX9_draw 0 = .ok (.aload_n 0, 1) := by decide +kernel
theorem dX9_draw_1 : decode cX9_draw 1 = .ok (.getfield 28, 3) := by decide +kernel
theorem dX9_draw_4 : decode cX9_draw 4 = .ok (.aload_n 0, 1) := by decide +kernel
theorem dX9_draw_5 : decode cX9_draw 5 = .ok (.getfield 31, 3) := by decide +kernel
theorem dX9_draw_8 : decode cX9_draw 8 = .ok (.bipush 24, 2) := by decide +kernel
theorem dX9_draw_10 : decode cX9_draw 10 = .ok (.irem, 1) := by decide +kernel
theorem dX9_draw_11 : decode cX9_draw 11 = .ok (.invokestatic 35, 3) := by decide +kernel
theorem dX9_draw_14 : decode cX9_draw 14 = .ok (.aload_n 0, 1) := by decide +kernel
theorem dX9_draw_15 : decode cX9_draw 15 = .ok (.getfield 31, 3) := by decide +kernel
theorem dX9_draw_18 : decode cX9_draw 18 = .ok (.bipush 24, 2) := by decide +kernel
theorem dX9_draw_20 : decode cX9_draw 20 = .ok (.idiv, 1) := by decide +kernel
theorem dX9_draw_21 : decode cX9_draw 21 = .ok (.bipush 8, 2) := by decide +kernel
theorem dX9_draw_23 : decode cX9_draw 23 = .ok (.irem, 1) := by decide +kernel
theorem dX9_draw_24 : decode cX9_draw 24 = .ok (.ishr, 1) := by decide +kernel
theorem dX9_draw_25 : decode cX9_draw 25 = .ok (.sipush 277, 3) := by decide +kernel
theorem dX9_draw_28 : decode cX9_draw 28 = .ok (.aload_n 0, 1) := by decide +kernel
theorem dX9_draw_29 : decode cX9_draw 29 = .ok (.getfield 31, 3) := by decide +kernel
theorem dX9_draw_32 : decode cX9_draw 32 = .ok (.imul, 1) := by decide +kernel
theorem dX9_draw_33 : decode cX9_draw 33 = .ok (.iadd, 1) := by decide +kernel
theorem dX9_draw_34 : decode cX9_draw 34 = .ok (.iload_n 1, 1) := by decide +kernel
theorem dX9_draw_35 : decode cX9_draw 35 = .ok (.invokestatic 41, 3) := by decide +kernel
theorem dX9_draw_38 : decode cX9_draw 38 = .ok (.istore_n 2, 1) := by decide +kernel
theorem dX9_draw_39 : decode cX9_draw 39 = .ok (.aload_n 0, 1) := by decide +kernel
theorem dX9_draw_40 : decode cX9_draw 40 = .ok (.dup, 1) := by decide +kernel
theorem dX9_draw_41 : decode cX9_draw 41 = .ok (.getfield 31, 3) := by decide +kernel
theorem dX9_draw_44 : decode cX9_draw 44 = .ok (.iconst 1, 1) := by decide +kernel
theorem dX9_draw_45 : decode cX9_draw 45 = .ok (.iadd, 1) := by decide +kernel
theorem dX9_draw_46 : decode cX9_draw 46 = .ok (.putfield 31, 3) := by decide +kernel
theorem dX9_draw_49 : decode cX9_draw 49 = .ok (.iload_n 2, 1) := by decide +kernel
theorem dX9_draw_50 : decode cX9_draw 50 = .ok (.ireturn, 1) := by decide +kernel
theorem dX9_plus_0 : decode cX9_plus 0 = .ok (.aload_n 0, 1) := by decide +kernel
theorem dX9_plus_1 : decode cX9_plus 1 = .ok (.arraylength, 1) := by decide +kernel
theorem dX9_plus_2 : decode cX9_plus 2 = .ok (.iconst 1, 1) := by decide +kernel
theorem dX9_plus_3 : decode cX9_plus 3 = .ok (.iadd, 1) := by decide +kernel
theorem dX9_plus_4 : decode cX9_plus 4 = .ok (.anewarray 16, 3) := by decide +kernel
theorem dX9_plus_7 : decode cX9_plus 7 = .ok (.astore_n 2, 1) := by decide +kernel
theorem dX9_plus_8 : decode cX9_plus 8 = .ok (.aload_n 0, 1) := by decide +kernel
theorem dX9_plus_9 : decode cX9_plus 9 = .ok (.iconst 0, 1) := by decide +kernel
theorem dX9_plus_10 : decode cX9_plus 10 = .ok (.aload_n 2, 1) := by decide +kernel
theorem dX9_plus_11 : decode cX9_plus 11 = .ok (.iconst 0, 1) := by decide +kernel
theorem dX9_plus_12 : decode cX9_plus 12 = .ok (.aload_n 0, 1) := by decide +kernel
theorem dX9_plus_13 : decode cX9_plus 13 = .ok (.arraylength, 1) := by decide +kernel
theorem dX9_plus_14 : decode cX9_plus 14 = .ok (.invokestatic 45, 3) := by decide +kernel
theorem dX9_plus_17 : decode cX9_plus 17 = .ok (.aload_n 2, 1) := by decide +kernel
theorem dX9_plus_18 : decode cX9_plus 18 = .ok (.aload_n 0, 1) := by decide +kernel
theorem dX9_plus_19 : decode cX9_plus 19 = .ok (.arraylength, 1) := by decide +kernel
theorem dX9_plus_20 : decode cX9_plus 20 = .ok (.aload_n 1, 1) := by decide +kernel
theorem dX9_plus_21 : decode cX9_plus 21 = .ok (.aastore, 1) := by decide +kernel
theorem dX9_plus_22 : decode cX9_plus 22 = .ok (.aload_n 2, 1) := by decide +kernel
theorem dX9_plus_23 : decode cX9_plus 23 = .ok (.areturn, 1) := by decide +kernel
theorem dX9_block_0 : decode cX9_block 0 = .ok (.aload_n 0, 1) := by decide +kernel
theorem dX9_block_1 : decode cX9_block 1 = .ok (.aload_n 0, 1) := by decide +kernel
theorem dX9_block_2 : decode cX9_block 2 = .ok (.getfield 18, 3) := by decide +kernel
theorem dX9_block_5 : decode cX9_block 5 = .ok (.iconst 5, 1) := by decide +kernel
theorem dX9_block_6 : decode cX9_block 6 = .ok (.newarray .int, 2) := by decide +kernel
theorem dX9_block_8 : decode cX9_block 8 = .ok (.dup, 1) := by decide +kernel
theorem dX9_block_9 : decode cX9_block 9 = .ok (.iconst 0, 1) := by decide +kernel
theorem dX9_block_10 : decode cX9_block 10 = .ok (.iload_n 1, 1) := by decide +kernel
theorem dX9_block_11 : decode cX9_block 11 = .ok (.iastore, 1) := by decide +kernel
theorem dX9_block_12 : decode cX9_block 12 = .ok (.dup, 1) := by decide +kernel
theorem dX9_block_13 : decode cX9_block 13 = .ok (.iconst 1, 1) := by decide +kernel
theorem dX9_block_14 : decode cX9_block 14 = .ok (.iload_n 2, 1) := by decide +kernel
theorem dX9_block_15 : decode cX9_block 15 = .ok (.iastore, 1) := by decide +kernel
theorem dX9_block_16 : decode cX9_block 16 = .ok (.dup, 1) := by decide +kernel
theorem dX9_block_17 : decode cX9_block 17 = .ok (.iconst 2, 1) := by decide +kernel
theorem dX9_block_18 : decode cX9_block 18 = .ok (.iload_n 3, 1) := by decide +kernel
theorem dX9_block_19 : decode cX9_block 19 = .ok (.iastore, 1) := by decide +kernel
theorem dX9_block_20 : decode cX9_block 20 = .ok (.dup, 1) := by decide +kernel
theorem dX9_block_21 : decode cX9_block 21 = .ok (.iconst 3, 1) := by decide +kernel
theorem dX9_block_22 : decode cX9_block 22 = .ok (.iload 4, 2) := by decide +kernel
theorem dX9_block_24 : decode cX9_block 24 = .ok (.iastore, 1) := by decide +kernel
theorem dX9_block_25 : decode cX9_block 25 = .ok (.dup, 1) := by decide +kernel
theorem dX9_block_26 : decode cX9_block 26 = .ok (.iconst 4, 1) := by decide +kernel
theorem dX9_block_27 : decode cX9_block 27 = .ok (.iload 5, 2) := by decide +kernel
theorem dX9_block_29 : decode cX9_block 29 = .ok (.iastore, 1) := by decide +kernel
theorem dX9_block_30 : decode cX9_block 30 = .ok (.invokestatic 51, 3) := by decide +kernel
theorem dX9_block_33 : decode cX9_block 33 = .ok (.putfield 18, 3) := by decide +kernel
theorem dX9_block_36 : decode cX9_block 36 = .ok (.aload_n 0, 1) := by decide +kernel
theorem dX9_block_37 : decode cX9_block 37 = .ok (.getfield 10, 3) := by decide +kernel
theorem dX9_block_40 : decode cX9_block 40 = .ok (.iload_n 1, 1) := by decide +kernel
theorem dX9_block_41 : decode cX9_block 41 = .ok (.iload_n 2, 1) := by decide +kernel
theorem dX9_block_42 : decode cX9_block 42 = .ok (.iload_n 3, 1) := by decide +kernel
theorem dX9_block_43 : decode cX9_block 43 = .ok (.iload 4, 2) := by decide +kernel
theorem dX9_block_45 : decode cX9_block 45 = .ok (.iload 5, 2) := by decide +kernel
theorem dX9_block_47 : decode cX9_block 47 = .ok (.invokevirtual 55, 3) := by decide +kernel
theorem dX9_block_50 : decode cX9_block 50 = .ok (.aload_n 0, 1) := by decide +kernel
theorem dX9_block_51 : decode cX9_block 51 = .ok (.getfield 18, 3) := by decide +kernel
theorem dX9_block_54 : decode cX9_block 54 = .ok (.arraylength, 1) := by decide +kernel
theorem dX9_block_55 : decode cX9_block 55 = .ok (.iconst 1, 1) := by decide +kernel
theorem dX9_block_56 : decode cX9_block 56 = .ok (.isub, 1) := by decide +kernel
theorem dX9_block_57 : decode cX9_block 57 = .ok (.if_icmp .ne 7, 3) := by decide +kernel
theorem dX9_block_60 : decode cX9_block 60 = .ok (.iconst 1, 1) := by decide +kernel
theorem dX9_block_61 : decode cX9_block 61 = .ok (.goto 4, 3) := by decide +kernel
theorem dX9_block_64 : decode cX9_block 64 = .ok (.iconst 0, 1) := by decide +kernel
theorem dX9_block_65 : decode cX9_block 65 = .ok (.ireturn, 1) := by decide +kernel
theorem dX9_blast_0 : decode cX9_blast 0 = .ok (.iload_n 2, 1) := by decide +kernel
theorem dX9_blast_1 : decode cX9_blast 1 = .ok (.aload_n 0, 1) := by decide +kernel
theorem dX9_blast_2 : decode cX9_blast 2 = .ok (.getfield 18, 3) := by decide +kernel
theorem dX9_blast_5 : decode cX9_blast 5 = .ok (.iload_n 1, 1) := by decide +kernel
theorem dX9_blast_6 : decode cX9_blast 6 = .ok (.aaload, 1) := by decide +kernel
theorem dX9_blast_7 : decode cX9_blast 7 = .ok (.iconst 0, 1) := by decide +kernel
theorem dX9_blast_8 : decode cX9_blast 8 = .ok (.iaload, 1) := by decide +kernel
theorem dX9_blast_9 : decode cX9_blast 9 = .ok (.invokestatic 59, 3) := by decide +kernel
theorem dX9_blast_12 : decode cX9_blast 12 = .ok (.istore_n 3, 1) := by decide +kernel
theorem dX9_blast_13 : decode cX9_blast 13 = .ok (.iload_n 3, 1) := by decide +kernel
theorem dX9_blast_14 : decode cX9_blast 14 = .ok (.ifCond .eq 13, 3) := by decide +kernel
theorem dX9_blast_17 : decode cX9_blast 17 = .ok (.aload_n 0, 1) := by decide +kernel
theorem dX9_blast_18 : decode cX9_blast 18 = .ok (.getfield 22, 3) := by decide +kernel
theorem dX9_blast_21 : decode cX9_blast 21 = .ok (.arraylength, 1) := by decide +kernel
theorem dX9_blast_22 : decode cX9_blast 22 = .ok (.bipush 8, 2) := by decide +kernel
theorem dX9_blast_24 : decode cX9_blast 24 = .ok (.if_icmp .ne 5, 3) := by decide +kernel
theorem dX9_blast_27 : decode cX9_blast 27 = .ok (.iconst 1, 1) := by decide +kernel
theorem dX9_blast_28 : decode cX9_blast 28 = .ok (.ireturn, 1) := by decide +kernel
theorem dX9_blast_29 : decode cX9_blast 29 = .ok (.aload_n 0, 1) := by decide +kernel
theorem dX9_blast_30 : decode cX9_blast 30 = .ok (.getfield 18, 3) := by decide +kernel
theorem dX9_blast_33 : decode cX9_blast 33 = .ok (.iload_n 1, 1) := by decide +kernel
theorem dX9_blast_34 : decode cX9_blast 34 = .ok (.aaload, 1) := by decide +kernel
theorem dX9_blast_35 : decode cX9_blast 35 = .ok (.iconst 0, 1) := by decide +kernel
theorem dX9_blast_36 : decode cX9_blast 36 = .ok (.dup2, 1) := by decide +kernel
theorem dX9_blast_37 : decode cX9_blast 37 = .ok (.iaload, 1) := by decide +kernel
theorem dX9_blast_38 : decode cX9_blast 38 = .ok (.iload_n 3, 1) := by decide +kernel
theorem dX9_blast_39 : decode cX9_blast 39 = .ok (.isub, 1) := by decide +kernel
theorem dX9_blast_40 : decode cX9_blast 40 = .ok (.iastore, 1) := by decide +kernel
theorem dX9_blast_41 : decode cX9_blast 41 = .ok (.aload_n 0, 1) := by decide +kernel
theorem dX9_blast_42 : decode cX9_blast 42 = .ok (.aload_n 0, 1) := by decide +kernel
theorem dX9_blast_43 : decode cX9_blast 43 = .ok (.getfield 22, 3) := by decide +kernel
theorem dX9_blast_46 : decode cX9_blast 46 = .ok (.iconst 2, 1) := by decide +kernel
theorem dX9_blast_47 : decode cX9_blast 47 = .ok (.newarray .int, 2) := by decide +kernel
theorem dX9_blast_49 : decode cX9_blast 49 = .ok (.dup, 1) := by decide +kernel
theorem dX9_blast_50 : decode cX9_blast 50 = .ok (.iconst 0, 1) := by decide +kernel
theorem dX9_blast_51 : decode cX9_blast 51 = .ok (.iload_n 1, 1) := by decide +kernel
theorem dX9_blast_52 : decode cX9_blast 52 = .ok (.iastore, 1) := by decide +kernel
theorem dX9_blast_53 : decode cX9_blast 53 = .ok (.dup, 1) := by decide +kernel
theorem dX9_blast_54 : decode cX9_blast 54 = .ok (.iconst 1, 1) := by decide +kernel
theorem dX9_blast_55 : decode cX9_blast 55 = .ok (.iload_n 3, 1) := by decide +kernel
theorem dX9_blast_56 : decode cX9_blast 56 = .ok (.iastore, 1) := by decide +kernel
theorem dX9_blast_57 : decode cX9_blast 57 = .ok (.invokestatic 51, 3) := by decide +kernel
theorem dX9_blast_60 : decode cX9_blast 60 = .ok (.putfield 22, 3) := by decide +kernel
theorem dX9_blast_63 : decode cX9_blast 63 = .ok (.aload_n 0, 1) := by decide +kernel
theorem dX9_blast_64 : decode cX9_blast 64 = .ok (.getfield 10, 3) := by decide +kernel
theorem dX9_blast_67 : decode cX9_blast 67 = .ok (.iload_n 1, 1) := by decide +kernel
theorem dX9_blast_68 : decode cX9_blast 68 = .ok (.iload_n 2, 1) := by decide +kernel
theorem dX9_blast_69 : decode cX9_blast 69 = .ok (.invokevirtual 64, 3) := by decide +kernel
theorem dX9_blast_72 : decode cX9_blast 72 = .ok (.iload_n 3, 1) := by decide +kernel
theorem dX9_blast_73 : decode cX9_blast 73 = .ok (.if_icmp .ne 7, 3) := by decide +kernel
theorem dX9_blast_76 : decode cX9_blast 76 = .ok (.iconst 1, 1) := by decide +kernel
theorem dX9_blast_77 : decode cX9_blast 77 = .ok (.goto 4, 3) := by decide +kernel
theorem dX9_blast_80 : decode cX9_blast 80 = .ok (.iconst 0, 1) := by decide +kernel
theorem dX9_blast_81 : decode cX9_blast 81 = .ok (.ireturn, 1) := by decide +kernel
theorem dX9_pile_0 : decode cX9_pile 0 = .ok (.iconst 0, 1) := by decide +kernel
theorem dX9_pile_1 : decode cX9_pile 1 = .ok (.istore_n 1, 1) := by decide +kernel
theorem dX9_pile_2 : decode cX9_pile 2 = .ok (.aload_n 0, 1) := by decide +kernel
theorem dX9_pile_3 : decode cX9_pile 3 = .ok (.getfield 22, 3) := by decide +kernel
theorem dX9_pile_6 : decode cX9_pile 6 = .ok (.astore_n 2, 1) := by decide +kernel
theorem dX9_pile_7 : decode cX9_pile 7 = .ok (.aload_n 2, 1) := by decide +kernel
theorem dX9_pile_8 : decode cX9_pile 8 = .ok (.arraylength, 1) := by decide +kernel
theorem dX9_pile_9 : decode cX9_pile 9 = .ok (.istore_n 3, 1) := by decide +kernel
theorem dX9_pile_10 : decode cX9_pile 10 = .ok (.iconst 0, 1) := by decide +kernel
theorem dX9_pile_11 : decode cX9_pile 11 = .ok (.istore 4, 2) := by decide +kernel
theorem dX9_pile_13 : decode cX9_pile 13 = .ok (.iload 4, 2) := by decide +kernel
theorem dX9_pile_15 : decode cX9_pile 15 = .ok (.iload_n 3, 1) := by decide +kernel
theorem dX9_pile_16 : decode cX9_pile 16 = .ok (.if_icmp .ge 22, 3) := by decide +kernel
theorem dX9_pile_19 : decode cX9_pile 19 = .ok (.aload_n 2, 1) := by decide +kernel
theorem dX9_pile_20 : decode cX9_pile 20 = .ok (.iload 4, 2) := by decide +kernel
theorem dX9_pile_22 : decode cX9_pile 22 = .ok (.aaload, 1) := by decide +kernel
theorem dX9_pile_23 : decode cX9_pile 23 = .ok (.astore 5, 2) := by decide +kernel
theorem dX9_pile_25 : decode cX9_pile 25 = .ok (.iload_n 1, 1) := by decide +kernel
theorem dX9_pile_26 : decode cX9_pile 26 = .ok (.aload 5, 2) := by decide +kernel
theorem dX9_pile_28 : decode cX9_pile 28 = .ok (.iconst 1, 1) := by decide +kernel
theorem dX9_pile_29 : decode cX9_pile 29 = .ok (.iaload, 1) := by decide +kernel
theorem dX9_pile_30 : decode cX9_pile 30 = .ok (.iadd, 1) := by decide +kernel
theorem dX9_pile_31 : decode cX9_pile 31 = .ok (.istore_n 1, 1) := by decide +kernel
theorem dX9_pile_32 : decode cX9_pile 32 = .ok (.iinc 4 1, 3) := by decide +kernel
theorem dX9_pile_35 : decode cX9_pile 35 = .ok (.goto (-22), 3) := by decide +kernel
theorem dX9_pile_38 : decode cX9_pile 38 = .ok (.iload_n 1, 1) := by decide +kernel
theorem dX9_pile_39 : decode cX9_pile 39 = .ok (.ireturn, 1) := by decide +kernel
theorem dX9_cut_0 : decode cX9_cut 0 = .ok (.aload_n 0, 1) := by decide +kernel
theorem dX9_cut_1 : decode cX9_cut 1 = .ok (.getfield 22, 3) := by decide +kernel
theorem dX9_cut_4 : decode cX9_cut 4 = .ok (.arraylength, 1) := by decide +kernel
theorem dX9_cut_5 : decode cX9_cut 5 = .ok (.newarray .int, 2) := by decide +kernel
theorem dX9_cut_7 : decode cX9_cut 7 = .ok (.astore_n 2, 1) := by decide +kernel
theorem dX9_cut_8 : decode cX9_cut 8 = .ok (.iload_n 1, 1) := by decide +kernel
theorem dX9_cut_9 : decode cX9_cut 9 = .ok (.istore_n 3, 1) := by decide +kernel
theorem dX9_cut_10 : decode cX9_cut 10 = .ok (.iconst 0, 1) := by decide +kernel
theorem dX9_cut_11 : decode cX9_cut 11 = .ok (.istore 4, 2) := by decide +kernel
theorem dX9_cut_13 : decode cX9_cut 13 = .ok (.iload 4, 2) := by decide +kernel
theorem dX9_cut_15 : decode cX9_cut 15 = .ok (.aload_n 2, 1) := by decide +kernel
theorem dX9_cut_16 : decode cX9_cut 16 = .ok (.arraylength, 1) := by decide +kernel
theorem dX9_cut_17 : decode cX9_cut 17 = .ok (.if_icmp .ge 36, 3) := by decide +kernel
theorem dX9_cut_20 : decode cX9_cut 20 = .ok (.aload_n 2, 1) := by decide +kernel
theorem dX9_cut_21 : decode cX9_cut 21 = .ok (.iload 4, 2) := by decide +kernel
theorem dX9_cut_23 : decode cX9_cut 23 = .ok (.aload_n 0, 1) := by decide +kernel
theorem dX9_cut_24 : decode cX9_cut 24 = .ok (.getfield 22, 3) := by decide +kernel
theorem dX9_cut_27 : decode cX9_cut 27 = .ok (.iload 4, 2) := by decide +kernel
theorem dX9_cut_29 : decode cX9_cut 29 = .ok (.aaload, 1) := by decide +kernel
theorem dX9_cut_30 : decode cX9_cut 30 = .ok (.iconst 1, 1) := by decide +kernel
theorem dX9_cut_31 : decode cX9_cut 31 = .ok (.iaload, 1) := by decide +kernel
theorem dX9_cut_32 : decode cX9_cut 32 = .ok (.iload_n 1, 1) := by decide +kernel
theorem dX9_cut_33 : decode cX9_cut 33 = .ok (.imul, 1) := by decide +kernel
theorem dX9_cut_34 : decode cX9_cut 34 = .ok (.aload_n 0, 1) := by decide +kernel
theorem dX9_cut_35 : decode cX9_cut 35 = .ok (.invokevirtual 67, 3) := by decide +kernel
theorem dX9_cut_38 : decode cX9_cut 38 = .ok (.idiv, 1) := by decide +kernel
theorem dX9_cut_39 : decode cX9_cut 39 = .ok (.iastore, 1) := by decide +kernel
theorem dX9_cut_40 : decode cX9_cut 40 = .ok (.iload_n 3, 1) := by decide +kernel
theorem dX9_cut_41 : decode cX9_cut 41 = .ok (.aload_n 2, 1) := by decide +kernel
theorem dX9_cut_42 : decode cX9_cut 42 = .ok (.iload 4, 2) := by decide +kernel
theorem dX9_cut_44 : decode cX9_cut 44 = .ok (.iaload, 1) := by decide +kernel
theorem dX9_cut_45 : decode cX9_cut 45 = .ok (.isub, 1) := by decide +kernel
theorem dX9_cut_46 : decode cX9_cut 46 = .ok (.istore_n 3, 1) := by decide +kernel
theorem dX9_cut_47 : decode cX9_cut 47 = .ok (.iinc 4 1, 3) := by decide +kernel
theorem dX9_cut_50 : decode cX9_cut 50 = .ok (.goto (-37), 3) := by decide +kernel
theorem dX9_cut_53 : decode cX9_cut 53 = .ok (.iload_n 3, 1) := by decide +kernel
theorem dX9_cut_54 : decode cX9_cut 54 = .ok (.ifCond .le 56, 3) := by decide +kernel
theorem dX9_cut_57 : decode cX9_cut 57 = .ok (.iconst 0, 1) := by decide +kernel
theorem dX9_cut_58 : decode cX9_cut 58 = .ok (.istore 4, 2) := by decide +kernel
theorem dX9_cut_60 : decode cX9_cut 60 = .ok (.iload 4, 2) := by decide +kernel
theorem dX9_cut_62 : decode cX9_cut 62 = .ok (.aload_n 2, 1) := by decide +kernel
theorem dX9_cut_63 : decode cX9_cut 63 = .ok (.arraylength, 1) := by decide +kernel
theorem dX9_cut_64 : decode cX9_cut 64 = .ok (.if_icmp .ge 43, 3) := by decide +kernel
theorem dX9_cut_67 : decode cX9_cut 67 = .ok (.iload_n 3, 1) := by decide +kernel
theorem dX9_cut_68 : decode cX9_cut 68 = .ok (.ifCond .eq 33, 3) := by decide +kernel
theorem dX9_cut_71 : decode cX9_cut 71 = .ok (.aload_n 2, 1) := by decide +kernel
theorem dX9_cut_72 : decode cX9_cut 72 = .ok (.iload 4, 2) := by decide +kernel
theorem dX9_cut_74 : decode cX9_cut 74 = .ok (.iaload, 1) := by decide +kernel
theorem dX9_cut_75 : decode cX9_cut 75 = .ok (.aload_n 0, 1) := by decide +kernel
theorem dX9_cut_76 : decode cX9_cut 76 = .ok (.getfield 22, 3) := by decide +kernel
theorem dX9_cut_79 : decode cX9_cut 79 = .ok (.iload 4, 2) := by decide +kernel
theorem dX9_cut_81 : decode cX9_cut 81 = .ok (.aaload, 1) := by decide +kernel
theorem dX9_cut_82 : decode cX9_cut 82 = .ok (.iconst 1, 1) := by decide +kernel
theorem dX9_cut_83 : decode cX9_cut 83 = .ok (.iaload, 1) := by decide +kernel
theorem dX9_cut_84 : decode cX9_cut 84 = .ok (.if_icmp .ne 6, 3) := by decide +kernel
theorem dX9_cut_87 : decode cX9_cut 87 = .ok (.goto 14, 3) := by decide +kernel
theorem dX9_cut_90 : decode cX9_cut 90 = .ok (.aload_n 2, 1) := by decide +kernel
theorem dX9_cut_91 : decode cX9_cut 91 = .ok (.iload 4, 2) := by decide +kernel
theorem dX9_cut_93 : decode cX9_cut 93 = .ok (.dup2, 1) := by decide +kernel
theorem dX9_cut_94 : decode cX9_cut 94 = .ok (.iaload, 1) := by decide +kernel
theorem dX9_cut_95 : decode cX9_cut 95 = .ok (.iconst 1, 1) := by decide +kernel
theorem dX9_cut_96 : decode cX9_cut 96 = .ok (.iadd, 1) := by decide +kernel
theorem dX9_cut_97 : decode cX9_cut 97 = .ok (.iastore, 1) := by decide +kernel
theorem dX9_cut_98 : decode cX9_cut 98 = .ok (.iinc 3 (-1), 3) := by decide +kernel
theorem dX9_cut_101 : decode cX9_cut 101 = .ok (.iinc 4 1, 3) := by decide +kernel
theorem dX9_cut_104 : decode cX9_cut 104 = .ok (.goto (-44), 3) := by decide +kernel
theorem dX9_cut_107 : decode cX9_cut 107 = .ok (.goto (-54), 3) := by decide +kernel
theorem dX9_cut_110 : decode cX9_cut 110 = .ok (.aload_n 2, 1) := by decide +kernel
theorem dX9_cut_111 : decode cX9_cut 111 = .ok (.areturn, 1) := by decide +kernel
theorem dX9_oxides_0 : decode cX9_oxides 0 = .ok (.iconst 4, 1) := by decide +kernel
theorem dX9_oxides_1 : decode cX9_oxides 1 = .ok (.newarray .int, 2) := by decide +kernel
theorem dX9_oxides_3 : decode cX9_oxides 3 = .ok (.dup, 1) := by decide +kernel
theorem dX9_oxides_4 : decode cX9_oxides 4 = .ok (.iconst 0, 1) := by decide +kernel
theorem dX9_oxides_5 : decode cX9_oxides 5 = .ok (.iconst 0, 1) := by decide +kernel
theorem dX9_oxides_6 : decode cX9_oxides 6 = .ok (.iastore, 1) := by decide +kernel
theorem dX9_oxides_7 : decode cX9_oxides 7 = .ok (.dup, 1) := by decide +kernel
theorem dX9_oxides_8 : decode cX9_oxides 8 = .ok (.iconst 1, 1) := by decide +kernel
theorem dX9_oxides_9 : decode cX9_oxides 9 = .ok (.bipush 9, 2) := by decide +kernel
theorem dX9_oxides_11 : decode cX9_oxides 11 = .ok (.iload_n 2, 1) := by decide +kernel
theorem dX9_oxides_12 : decode cX9_oxides 12 = .ok (.imul, 1) := by decide +kernel
theorem dX9_oxides_13 : decode cX9_oxides 13 = .ok (.iconst 3, 1) := by decide +kernel
theorem dX9_oxides_14 : decode cX9_oxides 14 = .ok (.iload_n 3, 1) := by decide +kernel
theorem dX9_oxides_15 : decode cX9_oxides 15 = .ok (.imul, 1) := by decide +kernel
theorem dX9_oxides_16 : decode cX9_oxides 16 = .ok (.iadd, 1) := by decide +kernel
theorem dX9_oxides_17 : decode cX9_oxides 17 = .ok (.iastore, 1) := by decide +kernel
theorem dX9_oxides_18 : decode cX9_oxides 18 = .ok (.dup, 1) := by decide +kernel
theorem dX9_oxides_19 : decode cX9_oxides 19 = .ok (.iconst 2, 1) := by decide +kernel
theorem dX9_oxides_20 : decode cX9_oxides 20 = .ok (.bipush 6, 2) := by decide +kernel
theorem dX9_oxides_22 : decode cX9_oxides 22 = .ok (.iload_n 3, 1) := by decide +kernel
theorem dX9_oxides_23 : decode cX9_oxides 23 = .ok (.imul, 1) := by decide +kernel
theorem dX9_oxides_24 : decode cX9_oxides 24 = .ok (.iastore, 1) := by decide +kernel
theorem dX9_oxides_25 : decode cX9_oxides 25 = .ok (.dup, 1) := by decide +kernel
theorem dX9_oxides_26 : decode cX9_oxides 26 = .ok (.iconst 3, 1) := by decide +kernel
theorem dX9_oxides_27 : decode cX9_oxides 27 = .ok (.bipush 9, 2) := by decide +kernel
theorem dX9_oxides_29 : decode cX9_oxides 29 = .ok (.iload 4, 2) := by decide +kernel
theorem dX9_oxides_31 : decode cX9_oxides 31 = .ok (.imul, 1) := by decide +kernel
theorem dX9_oxides_32 : decode cX9_oxides 32 = .ok (.iastore, 1) := by decide +kernel
theorem dX9_oxides_33 : decode cX9_oxides 33 = .ok (.astore 5, 2) := by decide +kernel
theorem dX9_oxides_35 : decode cX9_oxides 35 = .ok (.iconst 0, 1) := by decide +kernel
theorem dX9_oxides_36 : decode cX9_oxides 36 = .ok (.istore 6, 2) := by decide +kernel
theorem dX9_oxides_38 : decode cX9_oxides 38 = .ok (.iload 6, 2) := by decide +kernel
theorem dX9_oxides_40 : decode cX9_oxides 40 = .ok (.aload_n 1, 1) := by decide +kernel
theorem dX9_oxides_41 : decode cX9_oxides 41 = .ok (.arraylength, 1) := by decide +kernel
theorem dX9_oxides_42 : decode cX9_oxides 42 = .ok (.if_icmp .ge 56, 3) := by decide +kernel
theorem dX9_oxides_45 : decode cX9_oxides 45 = .ok (.iconst 0, 1) := by decide +kernel
theorem dX9_oxides_46 : decode cX9_oxides 46 = .ok (.istore 7, 2) := by decide +kernel
theorem dX9_oxides_48 : decode cX9_oxides 48 = .ok (.iload 7, 2) := by decide +kernel
theorem dX9_oxides_50 : decode cX9_oxides 50 = .ok (.iconst 4, 1) := by decide +kernel
theorem dX9_oxides_51 : decode cX9_oxides 51 = .ok (.if_icmp .ge 41, 3) := by decide +kernel
theorem dX9_oxides_54 : decode cX9_oxides 54 = .ok (.aload 5, 2) := by decide +kernel
theorem dX9_oxides_56 : decode cX9_oxides 56 = .ok (.iload 7, 2) := by decide +kernel
theorem dX9_oxides_58 : decode cX9_oxides 58 = .ok (.dup2, 1) := by decide +kernel
theorem dX9_oxides_59 : decode cX9_oxides 59 = .ok (.iaload, 1) := by decide +kernel
theorem dX9_oxides_60 : decode cX9_oxides 60 = .ok (.aload_n 1, 1) := by decide +kernel
theorem dX9_oxides_61 : decode cX9_oxides 61 = .ok (.iload 6, 2) := by decide +kernel
theorem dX9_oxides_63 : decode cX9_oxides 63 = .ok (.iaload, 1) := by decide +kernel
theorem dX9_oxides_64 : decode cX9_oxides 64 = .ok (.aload_n 0, 1) := by decide +kernel
theorem dX9_oxides_65 : decode cX9_oxides 65 = .ok (.getfield 18, 3) := by decide +kernel
theorem dX9_oxides_68 : decode cX9_oxides 68 = .ok (.aload_n 0, 1) := by decide +kernel
theorem dX9_oxides_69 : decode cX9_oxides 69 = .ok (.getfield 22, 3) := by decide +kernel
theorem dX9_oxides_72 : decode cX9_oxides 72 = .ok (.iload 6, 2) := by decide +kernel
theorem dX9_oxides_74 : decode cX9_oxides 74 = .ok (.aaload, 1) := by decide +kernel
theorem dX9_oxides_75 : decode cX9_oxides 75 = .ok (.iconst 0, 1) := by decide +kernel
theorem dX9_oxides_76 : decode cX9_oxides 76 = .ok (.iaload, 1) := by decide +kernel
theorem dX9_oxides_77 : decode cX9_oxides 77 = .ok (.aaload, 1) := by decide +kernel
theorem dX9_oxides_78 : decode cX9_oxides 78 = .ok (.iconst 1, 1) := by decide +kernel
theorem dX9_oxides_79 : decode cX9_oxides 79 = .ok (.iload 7, 2) := by decide +kernel
theorem dX9_oxides_81 : decode cX9_oxides 81 = .ok (.iadd, 1) := by decide +kernel
theorem dX9_oxides_82 : decode cX9_oxides 82 = .ok (.iaload, 1) := by decide +kernel
theorem dX9_oxides_83 : decode cX9_oxides 83 = .ok (.imul, 1) := by decide +kernel
theorem dX9_oxides_84 : decode cX9_oxides 84 = .ok (.iadd, 1) := by decide +kernel
theorem dX9_oxides_85 : decode cX9_oxides 85 = .ok (.iastore, 1) := by decide +kernel
theorem dX9_oxides_86 : decode cX9_oxides 86 = .ok (.iinc 7 1, 3) := by decide +kernel
theorem dX9_oxides_89 : decode cX9_oxides 89 = .ok (.goto (-41), 3) := by decide +kernel
theorem dX9_oxides_92 : decode cX9_oxides 92 = .ok (.iinc 6 1, 3) := by decide +kernel
theorem dX9_oxides_95 : decode cX9_oxides 95 = .ok (.goto (-57), 3) := by decide +kernel
theorem dX9_oxides_98 : decode cX9_oxides 98 = .ok (.aload 5, 2) := by decide +kernel
theorem dX9_oxides_100 : decode cX9_oxides 100 = .ok (.areturn, 1) := by decide +kernel
theorem dX9_charge_0 : decode cX9_charge 0 = .ok (.aload_n 0, 1) := by decide +kernel
theorem dX9_charge_1 : decode cX9_charge 1 = .ok (.iload_n 1, 1) := by decide +kernel
theorem dX9_charge_2 : decode cX9_charge 2 = .ok (.invokevirtual 71, 3) := by decide +kernel
theorem dX9_charge_5 : decode cX9_charge 5 = .ok (.astore 5, 2) := by decide +kernel
theorem dX9_charge_7 : decode cX9_charge 7 = .ok (.aload_n 0, 1) := by decide +kernel
theorem dX9_charge_8 : decode cX9_charge 8 = .ok (.aload 5, 2) := by decide +kernel
theorem dX9_charge_10 : decode cX9_charge 10 = .ok (.iload_n 2, 1) := by decide +kernel
theorem dX9_charge_11 : decode cX9_charge 11 = .ok (.iload_n 3, 1) := by decide +kernel
theorem dX9_charge_12 : decode cX9_charge 12 = .ok (.iload 4, 2) := by decide +kernel
theorem dX9_charge_14 : decode cX9_charge 14 = .ok (.invokevirtual 75, 3) := by decide +kernel
theorem dX9_charge_17 : decode cX9_charge 17 = .ok (.astore 6, 2) := by decide +kernel
theorem dX9_charge_19 : decode cX9_charge 19 = .ok (.bipush 10, 2) := by decide +kernel
theorem dX9_charge_21 : decode cX9_charge 21 = .ok (.newarray .int, 2) := by decide +kernel
theorem dX9_charge_23 : decode cX9_charge 23 = .ok (.dup, 1) := by decide +kernel
theorem dX9_charge_24 : decode cX9_charge 24 = .ok (.iconst 0, 1) := by decide +kernel
theorem dX9_charge_25 : decode cX9_charge 25 = .ok (.aload 6, 2) := by decide +kernel
theorem dX9_charge_27 : decode cX9_charge 27 = .ok (.iconst 0, 1) := by decide +kernel
theorem dX9_charge_28 : decode cX9_charge 28 = .ok (.iaload, 1) := by decide +kernel
theorem dX9_charge_29 : decode cX9_charge 29 = .ok (.iastore, 1) := by decide +kernel
theorem dX9_charge_30 : decode cX9_charge 30 = .ok (.dup, 1) := by decide +kernel
theorem dX9_charge_31 : decode cX9_charge 31 = .ok (.iconst 1, 1) := by decide +kernel
theorem dX9_charge_32 : decode cX9_charge 32 = .ok (.aload 6, 2) := by decide +kernel
theorem dX9_charge_34 : decode cX9_charge 34 = .ok (.iconst 1, 1) := by decide +kernel
theorem dX9_charge_35 : decode cX9_charge 35 = .ok (.iaload, 1) := by decide +kernel
theorem dX9_charge_36 : decode cX9_charge 36 = .ok (.iastore, 1) := by decide +kernel
theorem dX9_charge_37 : decode cX9_charge 37 = .ok (.dup, 1) := by decide +kernel
theorem dX9_charge_38 : decode cX9_charge 38 = .ok (.iconst 2, 1) := by decide +kernel
theorem dX9_charge_39 : decode cX9_charge 39 = .ok (.aload 6, 2) := by decide +kernel
theorem dX9_charge_41 : decode cX9_charge 41 = .ok (.iconst 2, 1) := by decide +kernel
theorem dX9_charge_42 : decode cX9_charge 42 = .ok (.iaload, 1) := by decide +kernel
theorem dX9_charge_43 : decode cX9_charge 43 = .ok (.iastore, 1) := by decide +kernel
theorem dX9_charge_44 : decode cX9_charge 44 = .ok (.dup, 1) := by decide +kernel
theorem dX9_charge_45 : decode cX9_charge 45 = .ok (.iconst 3, 1) := by decide +kernel
theorem dX9_charge_46 : decode cX9_charge 46 = .ok (.aload 6, 2) := by decide +kernel
theorem dX9_charge_48 : decode cX9_charge 48 = .ok (.iconst 3, 1) := by decide +kernel
theorem dX9_charge_49 : decode cX9_charge 49 = .ok (.iaload, 1) := by decide +kernel
theorem dX9_charge_50 : decode cX9_charge 50 = .ok (.iastore, 1) := by decide +kernel
theorem dX9_charge_51 : decode cX9_charge 51 = .ok (.dup, 1) := by decide +kernel
theorem dX9_charge_52 : decode cX9_charge 52 = .ok (.iconst 4, 1) := by decide +kernel
theorem dX9_charge_53 : decode cX9_charge 53 = .ok (.iconst 0, 1) := by decide +kernel
theorem dX9_charge_54 : decode cX9_charge 54 = .ok (.iastore, 1) := by decide +kernel
theorem dX9_charge_55 : decode cX9_charge 55 = .ok (.dup, 1) := by decide +kernel
theorem dX9_charge_56 : decode cX9_charge 56 = .ok (.iconst 5, 1) := by decide +kernel
theorem dX9_charge_57 : decode cX9_charge 57 = .ok (.iconst 0, 1) := by decide +kernel
theorem dX9_charge_58 : decode cX9_charge 58 = .ok (.iastore, 1) := by decide +kernel
theorem dX9_charge_59 : decode cX9_charge 59 = .ok (.dup, 1) := by decide +kernel
theorem dX9_charge_60 : decode cX9_charge 60 = .ok (.bipush 6, 2) := by decide +kernel
theorem dX9_charge_62 : decode cX9_charge 62 = .ok (.iconst 0, 1) := by decide +kernel
theorem dX9_charge_63 : decode cX9_charge 63 = .ok (.iastore, 1) := by decide +kernel
theorem dX9_charge_64 : decode cX9_charge 64 = .ok (.dup, 1) := by decide +kernel
theorem dX9_charge_65 : decode cX9_charge 65 = .ok (.bipush 7, 2) := by decide +kernel
theorem dX9_charge_67 : decode cX9_charge 67 = .ok (.iconst 0, 1) := by decide +kernel
theorem dX9_charge_68 : decode cX9_charge 68 = .ok (.iastore, 1) := by decide +kernel
theorem dX9_charge_69 : decode cX9_charge 69 = .ok (.dup, 1) := by decide +kernel
theorem dX9_charge_70 : decode cX9_charge 70 = .ok (.bipush 8, 2) := by decide +kernel
theorem dX9_charge_72 : decode cX9_charge 72 = .ok (.iconst 0, 1) := by decide +kernel
theorem dX9_charge_73 : decode cX9_charge 73 = .ok (.iastore, 1) := by decide +kernel
theorem dX9_charge_74 : decode cX9_charge 74 = .ok (.dup, 1) := by decide +kernel
theorem dX9_charge_75 : decode cX9_charge 75 = .ok (.bipush 9, 2) := by decide +kernel
theorem dX9_charge_77 : decode cX9_charge 77 = .ok (.iconst 0, 1) := by decide +kernel
theorem dX9_charge_78 : decode cX9_charge 78 = .ok (.iastore, 1) := by decide +kernel
theorem dX9_charge_79 : decode cX9_charge 79 = .ok (.astore 7, 2) := by decide +kernel
theorem dX9_charge_81 : decode cX9_charge 81 = .ok (.iconst 0, 1) := by decide +kernel
theorem dX9_charge_82 : decode cX9_charge 82 = .ok (.anewarray 16, 3) := by decide +kernel
theorem dX9_charge_85 : decode cX9_charge 85 = .ok (.astore 8, 2) := by decide +kernel
theorem dX9_charge_87 : decode cX9_charge 87 = .ok (.iconst 0, 1) := by decide +kernel
theorem dX9_charge_88 : decode cX9_charge 88 = .ok (.istore 9, 2) := by decide +kernel
theorem dX9_charge_90 : decode cX9_charge 90 = .ok (.iload 9, 2) := by decide +kernel
theorem dX9_charge_92 : decode cX9_charge 92 = .ok (.aload 5, 2) := by decide +kernel
theorem dX9_charge_94 : decode cX9_charge 94 = .ok (.arraylength, 1) := by decide +kernel
theorem dX9_charge_95 : decode cX9_charge 95 = .ok (.if_icmp .ge 88, 3) := by decide +kernel
theorem dX9_charge_98 : decode cX9_charge 98 = .ok (.aload 7, 2) := by decide +kernel
theorem dX9_charge_100 : decode cX9_charge 100 = .ok (.iconst 4, 1) := by decide +kernel
theorem dX9_charge_101 : decode cX9_charge 101 = .ok (.aload_n 0, 1) := by decide +kernel
theorem dX9_charge_102 : decode cX9_charge 102 = .ok (.getfield 22, 3) := by decide +kernel
theorem dX9_charge_105 : decode cX9_charge 105 = .ok (.iload 9, 2) := by decide +kernel
theorem dX9_charge_107 : decode cX9_charge 107 = .ok (.aaload, 1) := by decide +kernel
theorem dX9_charge_108 : decode cX9_charge 108 = .ok (.iconst 0, 1) := by decide +kernel
theorem dX9_charge_109 : decode cX9_charge 109 = .ok (.iaload, 1) := by decide +kernel
theorem dX9_charge_110 : decode cX9_charge 110 = .ok (.iadd, 1) := by decide +kernel
theorem dX9_charge_111 : decode cX9_charge 111 = .ok (.dup2, 1) := by decide +kernel
theorem dX9_charge_112 : decode cX9_charge 112 = .ok (.iaload, 1) := by decide +kernel
theorem dX9_charge_113 : decode cX9_charge 113 = .ok (.aload 5, 2) := by decide +kernel
theorem dX9_charge_115 : decode cX9_charge 115 = .ok (.iload 9, 2) := by decide +kernel
theorem dX9_charge_117 : decode cX9_charge 117 = .ok (.iaload, 1) := by decide +kernel
theorem dX9_charge_118 : decode cX9_charge 118 = .ok (.iadd, 1) := by decide +kernel
theorem dX9_charge_119 : decode cX9_charge 119 = .ok (.iastore, 1) := by decide +kernel
theorem dX9_charge_120 : decode cX9_charge 120 = .ok (.aload_n 0, 1) := by decide +kernel
theorem dX9_charge_121 : decode cX9_charge 121 = .ok (.getfield 22, 3) := by decide +kernel
theorem dX9_charge_124 : decode cX9_charge 124 = .ok (.iload 9, 2) := by decide +kernel
theorem dX9_charge_126 : decode cX9_charge 126 = .ok (.aaload, 1) := by decide +kernel
theorem dX9_charge_127 : decode cX9_charge 127 = .ok (.iconst 1, 1) := by decide +kernel
theorem dX9_charge_128 : decode cX9_charge 128 = .ok (.iaload, 1) := by decide +kernel
theorem dX9_charge_129 : decode cX9_charge 129 = .ok (.aload 5, 2) := by decide +kernel
theorem dX9_charge_131 : decode cX9_charge 131 = .ok (.iload 9, 2) := by decide +kernel
theorem dX9_charge_133 : decode cX9_charge 133 = .ok (.iaload, 1) := by decide +kernel
theorem dX9_charge_134 : decode cX9_charge 134 = .ok (.if_icmp .le 43, 3) := by decide +kernel
theorem dX9_charge_137 : decode cX9_charge 137 = .ok (.aload 8, 2) := by decide +kernel
theorem dX9_charge_139 : decode cX9_charge 139 = .ok (.iconst 2, 1) := by decide +kernel
theorem dX9_charge_140 : decode cX9_charge 140 = .ok (.newarray .int, 2) := by decide +kernel
theorem dX9_charge_142 : decode cX9_charge 142 = .ok (.dup, 1) := by decide +kernel
theorem dX9_charge_143 : decode cX9_charge 143 = .ok (.iconst 0, 1) := by decide +kernel
theorem dX9_charge_144 : decode cX9_charge 144 = .ok (.aload_n 0, 1) := by decide +kernel
theorem dX9_charge_145 : decode cX9_charge 145 = .ok (.getfield 22, 3) := by decide +kernel
theorem dX9_charge_148 : decode cX9_charge 148 = .ok (.iload 9, 2) := by decide +kernel
theorem dX9_charge_150 : decode cX9_charge 150 = .ok (.aaload, 1) := by decide +kernel
theorem dX9_charge_151 : decode cX9_charge 151 = .ok (.iconst 0, 1) := by decide +kernel
theorem dX9_charge_152 : decode cX9_charge 152 = .ok (.iaload, 1) := by decide +kernel
theorem dX9_charge_153 : decode cX9_charge 153 = .ok (.iastore, 1) := by decide +kernel
theorem dX9_charge_154 : decode cX9_charge 154 = .ok (.dup, 1) := by decide +kernel
theorem dX9_charge_155 : decode cX9_charge 155 = .ok (.iconst 1, 1) := by decide +kernel
theorem dX9_charge_156 : decode cX9_charge 156 = .ok (.aload_n 0, 1) := by decide +kernel
theorem dX9_charge_157 : decode cX9_charge 157 = .ok (.getfield 22, 3) := by decide +kernel
theorem dX9_charge_160 : decode cX9_charge 160 = .ok (.iload 9, 2) := by decide +kernel
theorem dX9_charge_162 : decode cX9_charge 162 = .ok (.aaload, 1) := by decide +kernel
theorem dX9_charge_163 : decode cX9_charge 163 = .ok (.iconst 1, 1) := by decide +kernel
theorem dX9_charge_164 : decode cX9_charge 164 = .ok (.iaload, 1) := by decide +kernel
theorem dX9_charge_165 : decode cX9_charge 165 = .ok (.aload 5, 2) := by decide +kernel
theorem dX9_charge_167 : decode cX9_charge 167 = .ok (.iload 9, 2) := by decide +kernel
theorem dX9_charge_169 : decode cX9_charge 169 = .ok (.iaload, 1) := by decide +kernel
theorem dX9_charge_170 : decode cX9_charge 170 = .ok (.isub, 1) := by decide +kernel
theorem dX9_charge_171 : decode cX9_charge 171 = .ok (.iastore, 1) := by decide +kernel
theorem dX9_charge_172 : decode cX9_charge 172 = .ok (.invokestatic 51, 3) := by decide +kernel
theorem dX9_charge_175 : decode cX9_charge 175 = .ok (.astore 8, 2) := by decide +kernel
theorem dX9_charge_177 : decode cX9_charge 177 = .ok (.iinc 9 1, 3) := by decide +kernel
theorem dX9_charge_180 : decode cX9_charge 180 = .ok (.goto (-90), 3) := by decide +kernel
theorem dX9_charge_183 : decode cX9_charge 183 = .ok (.aload_n 0, 1) := by decide +kernel
theorem dX9_charge_184 : decode cX9_charge 184 = .ok (.aload 8, 2) := by decide +kernel
theorem dX9_charge_186 : decode cX9_charge 186 = .ok (.putfield 22, 3) := by decide +kernel
theorem dX9_charge_189 : decode cX9_charge 189 = .ok (.aload_n 0, 1) := by decide +kernel
theorem dX9_charge_190 : decode cX9_charge 190 = .ok (.aload_n 0, 1) := by decide +kernel
theorem dX9_charge_191 : decode cX9_charge 191 = .ok (.getfield 25, 3) := by decide +kernel
theorem dX9_charge_194 : decode cX9_charge 194 = .ok (.aload 7, 2) := by decide +kernel
theorem dX9_charge_196 : decode cX9_charge 196 = .ok (.invokestatic 51, 3) := by decide +kernel
theorem dX9_charge_199 : decode cX9_charge 199 = .ok (.putfield 25, 3) := by decide +kernel
theorem dX9_charge_202 : decode cX9_charge 202 = .ok (.aload_n 0, 1) := by decide +kernel
theorem dX9_charge_203 : decode cX9_charge 203 = .ok (.getfield 10, 3) := by decide +kernel
theorem dX9_charge_206 : decode cX9_charge 206 = .ok (.iload_n 1, 1) := by decide +kernel
theorem dX9_charge_207 : decode cX9_charge 207 = .ok (.iload_n 2, 1) := by decide +kernel
theorem dX9_charge_208 : decode cX9_charge 208 = .ok (.iload_n 3, 1) := by decide +kernel
theorem dX9_charge_209 : decode cX9_charge 209 = .ok (.iload 4, 2) := by decide +kernel
theorem dX9_charge_211 : decode cX9_charge 211 = .ok (.invokevirtual 79, 3) := by decide +kernel
theorem dX9_charge_214 : decode cX9_charge 214 = .ok (.aload 6, 2) := by decide +kernel
theorem dX9_charge_216 : decode cX9_charge 216 = .ok (.iconst 0, 1) := by decide +kernel
theorem dX9_charge_217 : decode cX9_charge 217 = .ok (.invokestatic 83, 3) := by decide +kernel
theorem dX9_charge_220 : decode cX9_charge 220 = .ok (.if_icmp .ne 7, 3) := by decide +kernel
theorem dX9_charge_223 : decode cX9_charge 223 = .ok (.iconst 1, 1) := by decide +kernel
theorem dX9_charge_224 : decode cX9_charge 224 = .ok (.goto 4, 3) := by decide +kernel
theorem dX9_charge_227 : decode cX9_charge 227 = .ok (.iconst 0, 1) := by decide +kernel
theorem dX9_charge_228 : decode cX9_charge 228 = .ok (.ireturn, 1) := by decide +kernel
theorem dX9_found_0 : decode cX9_found 0 = .ok (.iconst 0, 1) := by decide +kernel
theorem dX9_found_1 : decode cX9_found 1 = .ok (.istore_n 1, 1) := by decide +kernel
theorem dX9_found_2 : decode cX9_found 2 = .ok (.iload_n 1, 1) := by decide +kernel
theorem dX9_found_3 : decode cX9_found 3 = .ok (.iconst 4, 1) := by decide +kernel
theorem dX9_found_4 : decode cX9_found 4 = .ok (.if_icmp .ge 51, 3) := by decide +kernel
theorem dX9_found_7 : decode cX9_found 7 = .ok (.aload_n 0, 1) := by decide +kernel
theorem dX9_found_8 : decode cX9_found 8 = .ok (.bipush 40, 2) := by decide +kernel
theorem dX9_found_10 : decode cX9_found 10 = .ok (.aload_n 0, 1) := by decide +kernel
theorem dX9_found_11 : decode cX9_found 11 = .ok (.bipush 120, 2) := by decide +kernel
theorem dX9_found_13 : decode cX9_found 13 = .ok (.invokevirtual 86, 3) := by decide +kernel
theorem dX9_found_16 : decode cX9_found 16 = .ok (.iadd, 1) := by decide +kernel
theorem dX9_found_17 : decode cX9_found 17 = .ok (.iconst 4, 1) := by decide +kernel
theorem dX9_found_18 : decode cX9_found 18 = .ok (.aload_n 0, 1) := by decide +kernel
theorem dX9_found_19 : decode cX9_found 19 = .ok (.bipush 6, 2) := by decide +kernel
theorem dX9_found_21 : decode cX9_found 21 = .ok (.invokevirtual 86, 3) := by decide +kernel
theorem dX9_found_24 : decode cX9_found 24 = .ok (.iadd, 1) := by decide +kernel
theorem dX9_found_25 : decode cX9_found 25 = .ok (.aload_n 0, 1) := by decide +kernel
theorem dX9_found_26 : decode cX9_found 26 = .ok (.bipush 7, 2) := by decide +kernel
theorem dX9_found_28 : decode cX9_found 28 = .ok (.invokevirtual 86, 3) := by decide +kernel
theorem dX9_found_31 : decode cX9_found 31 = .ok (.aload_n 0, 1) := by decide +kernel
theorem dX9_found_32 : decode cX9_found 32 = .ok (.iconst 4, 1) := by decide +kernel
theorem dX9_found_33 : decode cX9_found 33 = .ok (.invokevirtual 86, 3) := by decide +kernel
theorem dX9_found_36 : decode cX9_found 36 = .ok (.aload_n 0, 1) := by decide +kernel
theorem dX9_found_37 : decode cX9_found 37 = .ok (.iconst 3, 1) := by decide +kernel
theorem dX9_found_38 : decode cX9_found 38 = .ok (.invokevirtual 86, 3) := by decide +kernel
theorem dX9_found_41 : decode cX9_found 41 = .ok (.invokevirtual 90, 3) := by decide +kernel
theorem dX9_found_44 : decode cX9_found 44 = .ok (.ifCond .ne 5, 3) := by decide +kernel
theorem dX9_found_47 : decode cX9_found 47 = .ok (.iconst 0, 1) := by decide +kernel
theorem dX9_found_48 : decode cX9_found 48 = .ok (.ireturn, 1) := by decide +kernel
theorem dX9_found_49 : decode cX9_found 49 = .ok (.iinc 1 1, 3) := by decide +kernel
theorem dX9_found_52 : decode cX9_found 52 = .ok (.goto (-50), 3) := by decide +kernel
theorem dX9_found_55 : decode cX9_found 55 = .ok (.iconst 0, 1) := by decide +kernel
theorem dX9_found_56 : decode cX9_found 56 = .ok (.istore_n 1, 1) := by decide +kernel
theorem dX9_found_57 : decode cX9_found 57 = .ok (.iload_n 1, 1) := by decide +kernel
theorem dX9_found_58 : decode cX9_found 58 = .ok (.iconst 4, 1) := by decide +kernel
theorem dX9_found_59 : decode cX9_found 59 = .ok (.if_icmp .ge 31, 3) := by decide +kernel
theorem dX9_found_62 : decode cX9_found 62 = .ok (.aload_n 0, 1) := by decide +kernel
theorem dX9_found_63 : decode cX9_found 63 = .ok (.aload_n 0, 1) := by decide +kernel
theorem dX9_found_64 : decode cX9_found 64 = .ok (.iconst 4, 1) := by decide +kernel
theorem dX9_found_65 : decode cX9_found 65 = .ok (.invokevirtual 86, 3) := by decide +kernel
theorem dX9_found_68 : decode cX9_found 68 = .ok (.iconst 5, 1) := by decide +kernel
theorem dX9_found_69 : decode cX9_found 69 = .ok (.aload_n 0, 1) := by decide +kernel
theorem dX9_found_70 : decode cX9_found 70 = .ok (.bipush 30, 2) := by decide +kernel
theorem dX9_found_72 : decode cX9_found 72 = .ok (.invokevirtual 86, 3) := by decide +kernel
theorem dX9_found_75 : decode cX9_found 75 = .ok (.iadd, 1) := by decide +kernel
theorem dX9_found_76 : decode cX9_found 76 = .ok (.invokevirtual 93, 3) := by decide +kernel
theorem dX9_found_79 : decode cX9_found 79 = .ok (.ifCond .ne 5, 3) := by decide +kernel
theorem dX9_found_82 : decode cX9_found 82 = .ok (.iconst 0, 1) := by decide +kernel
theorem dX9_found_83 : decode cX9_found 83 = .ok (.ireturn, 1) := by decide +kernel
theorem dX9_found_84 : decode cX9_found 84 = .ok (.iinc 1 1, 3) := by decide +kernel
theorem dX9_found_87 : decode cX9_found 87 = .ok (.goto (-30), 3) := by decide +kernel
theorem dX9_found_90 : decode cX9_found 90 = .ok (.iconst 1, 1) := by decide +kernel
theorem dX9_found_91 : decode cX9_found 91 = .ok (.ireturn, 1) := by decide +kernel
theorem dL_below_0 : decode cL_below 0 = .ok (.iload_n 0, 1) := by decide +kernel
theorem dL_below_1 : decode cL_below 1 = .ok (.ldc 7, 2) := by decide +kernel
theorem dL_below_3 : decode cL_below 3 = .ok (.iand, 1) := by decide +kernel
theorem dL_below_4 : decode cL_below 4 = .ok (.iload_n 1, 1) := by decide +kernel
theorem dL_below_5 : decode cL_below 5 = .ok (.irem, 1) := by decide +kernel
theorem dL_below_6 : decode cL_below 6 = .ok (.ireturn, 1) := by decide +kernel
theorem dL_cell_0 : decode cL_cell 0 = .ok (.iload_n 1, 1) := by decide +kernel
theorem dL_cell_1 : decode cL_cell 1 = .ok (.aload_n 0, 1) := by decide +kernel
theorem dL_cell_2 : decode cL_cell 2 = .ok (.arraylength, 1) := by decide +kernel
theorem dL_cell_3 : decode cL_cell 3 = .ok (.if_icmp .ge 9, 3) := by decide +kernel
theorem dL_cell_6 : decode cL_cell 6 = .ok (.aload_n 0, 1) := by decide +kernel
theorem dL_cell_7 : decode cL_cell 7 = .ok (.iload_n 1, 1) := by decide +kernel
theorem dL_cell_8 : decode cL_cell 8 = .ok (.iaload, 1) := by decide +kernel
theorem dL_cell_9 : decode cL_cell 9 = .ok (.goto 9, 3) := by decide +kernel
theorem dL_cell_12 : decode cL_cell 12 = .ok (.ldc 8, 2) := by decide +kernel
theorem dL_cell_14 : decode cL_cell 14 = .ok (.iload_n 1, 1) := by decide +kernel
theorem dL_cell_15 : decode cL_cell 15 = .ok (.iconst 3, 1) := by decide +kernel
theorem dL_cell_16 : decode cL_cell 16 = .ok (.iadd, 1) := by decide +kernel
theorem dL_cell_17 : decode cL_cell 17 = .ok (.imul, 1) := by decide +kernel
theorem dL_cell_18 : decode cL_cell 18 = .ok (.ireturn, 1) := by decide +kernel
theorem dL_part_0 : decode cL_part 0 = .ok (.iload_n 1, 1) := by decide +kernel
theorem dL_part_1 : decode cL_part 1 = .ok (.ifCond .ne 9, 3) := by decide +kernel
theorem dL_part_4 : decode cL_part 4 = .ok (.sipush 999, 3) := by decide +kernel
theorem dL_part_7 : decode cL_part 7 = .ok (.goto 6, 3) := by decide +kernel
theorem dL_part_10 : decode cL_part 10 = .ok (.iload_n 0, 1) := by decide +kernel
theorem dL_part_11 : decode cL_part 11 = .ok (.iload_n 1, 1) := by decide +kernel
theorem dL_part_12 : decode cL_part 12 = .ok (.idiv, 1) := by decide +kernel
theorem dL_part_13 : decode cL_part 13 = .ok (.ireturn, 1) := by decide +kernel
theorem dL_isIn_0 : decode cL_isIn 0 = .ok (.iload_n 0, 1) := by decide +kernel
theorem dL_isIn_1 : decode cL_isIn 1 = .ok (.iload_n 1, 1) := by decide +kernel
theorem dL_isIn_2 : decode cL_isIn 2 = .ok (.if_icmp .lt 12, 3) := by decide +kernel
theorem dL_isIn_5 : decode cL_isIn 5 = .ok (.iload_n 0, 1) := by decide +kernel
theorem dL_isIn_6 : decode cL_isIn 6 = .ok (.iload_n 2, 1) := by decide +kernel
theorem dL_isIn_7 : decode cL_isIn 7 = .ok (.if_icmp .gt 7, 3) := by decide +kernel
theorem dL_isIn_10 : decode cL_isIn 10 = .ok (.iconst 1, 1) := by decide +kernel
theorem dL_isIn_11 : decode cL_isIn 11 = .ok (.goto 4, 3) := by decide +kernel
theorem dL_isIn_14 : decode cL_isIn 14 = .ok (.iconst 0, 1) := by decide +kernel
theorem dL_isIn_15 : decode cL_isIn 15 = .ok (.ireturn, 1) := by decide +kernel
theorem dL_modulus_0 : decode cL_modulus 0 = .ok (.bipush 100, 2) := by decide +kernel
theorem dL_modulus_2 : decode cL_modulus 2 = .ok (.aload_n 0, 1) := by decide +kernel
theorem dL_modulus_3 : decode cL_modulus 3 = .ok (.iconst 0, 1) := by decide +kernel
theorem dL_modulus_4 : decode cL_modulus 4 = .ok (.iaload, 1) := by decide +kernel
theorem dL_modulus_5 : decode cL_modulus 5 = .ok (.imul, 1) := by decide +kernel
theorem dL_modulus_6 : decode cL_modulus 6 = .ok (.iconst 3, 1) := by decide +kernel
theorem dL_modulus_7 : decode cL_modulus 7 = .ok (.aload_n 0, 1) := by decide +kernel
theorem dL_modulus_8 : decode cL_modulus 8 = .ok (.iconst 1, 1) := by decide +kernel
theorem dL_modulus_9 : decode cL_modulus 9 = .ok (.iaload, 1) := by decide +kernel
theorem dL_modulus_10 : decode cL_modulus 10 = .ok (.imul, 1) := by decide +kernel
theorem dL_modulus_11 : decode cL_modulus 11 = .ok (.iconst 2, 1) := by decide +kernel
theorem dL_modulus_12 : decode cL_modulus 12 = .ok (.aload_n 0, 1) := by decide +kernel
theorem dL_modulus_13 : decode cL_modulus 13 = .ok (.iconst 2, 1) := by decide +kernel
theorem dL_modulus_14 : decode cL_modulus 14 = .ok (.iaload, 1) := by decide +kernel
theorem dL_modulus_15 : decode cL_modulus 15 = .ok (.imul, 1) := by decide +kernel
theorem dL_modulus_16 : decode cL_modulus 16 = .ok (.iadd, 1) := by decide +kernel
theorem dL_modulus_17 : decode cL_modulus 17 = .ok (.aload_n 0, 1) := by decide +kernel
theorem dL_modulus_18 : decode cL_modulus 18 = .ok (.iconst 3, 1) := by decide +kernel
theorem dL_modulus_19 : decode cL_modulus 19 = .ok (.iaload, 1) := by decide +kernel
theorem dL_modulus_20 : decode cL_modulus 20 = .ok (.iadd, 1) := by decide +kernel
theorem dL_modulus_21 : decode cL_modulus 21 = .ok (.invokestatic 9, 3) := by decide +kernel
theorem dL_modulus_24 : decode cL_modulus 24 = .ok (.istore_n 2, 1) := by decide +kernel
theorem dL_modulus_25 : decode cL_modulus 25 = .ok (.bipush 10, 2) := by decide +kernel
theorem dL_modulus_27 : decode cL_modulus 27 = .ok (.aload_n 0, 1) := by decide +kernel
theorem dL_modulus_28 : decode cL_modulus 28 = .ok (.iconst 1, 1) := by decide +kernel
theorem dL_modulus_29 : decode cL_modulus 29 = .ok (.iaload, 1) := by decide +kernel
theorem dL_modulus_30 : decode cL_modulus 30 = .ok (.imul, 1) := by decide +kernel
theorem dL_modulus_31 : decode cL_modulus 31 = .ok (.aload_n 0, 1) := by decide +kernel
theorem dL_modulus_32 : decode cL_modulus 32 = .ok (.iconst 2, 1) := by decide +kernel
theorem dL_modulus_33 : decode cL_modulus 33 = .ok (.iaload, 1) := by decide +kernel
theorem dL_modulus_34 : decode cL_modulus 34 = .ok (.aload_n 0, 1) := by decide +kernel
theorem dL_modulus_35 : decode cL_modulus 35 = .ok (.iconst 3, 1) := by decide +kernel
theorem dL_modulus_36 : decode cL_modulus 36 = .ok (.iaload, 1) := by decide +kernel
theorem dL_modulus_37 : decode cL_modulus 37 = .ok (.iadd, 1) := by decide +kernel
theorem dL_modulus_38 : decode cL_modulus 38 = .ok (.invokestatic 9, 3) := by decide +kernel
theorem dL_modulus_41 : decode cL_modulus 41 = .ok (.istore_n 3, 1) := by decide +kernel
theorem dL_modulus_42 : decode cL_modulus 42 = .ok (.bipush 10, 2) := by decide +kernel
theorem dL_modulus_44 : decode cL_modulus 44 = .ok (.aload_n 0, 1) := by decide +kernel
theorem dL_modulus_45 : decode cL_modulus 45 = .ok (.iconst 2, 1) := by decide +kernel
theorem dL_modulus_46 : decode cL_modulus 46 = .ok (.iaload, 1) := by decide +kernel
theorem dL_modulus_47 : decode cL_modulus 47 = .ok (.imul, 1) := by decide +kernel
theorem dL_modulus_48 : decode cL_modulus 48 = .ok (.aload_n 0, 1) := by decide +kernel
theorem dL_modulus_49 : decode cL_modulus 49 = .ok (.iconst 3, 1) := by decide +kernel
theorem dL_modulus_50 : decode cL_modulus 50 = .ok (.iaload, 1) := by decide +kernel
theorem dL_modulus_51 : decode cL_modulus 51 = .ok (.invokestatic 9, 3) := by decide +kernel
theorem dL_modulus_54 : decode cL_modulus 54 = .ok (.istore 4, 2) := by decide +kernel
theorem dL_modulus_56 : decode cL_modulus 56 = .ok (.iload_n 1, 1) := by decide +kernel
theorem dL_modulus_57 : decode cL_modulus 57 = .ok (.ifCond .ne 7, 3) := by decide +kernel
theorem dL_modulus_60 : decode cL_modulus 60 = .ok (.iload_n 2, 1) := by decide +kernel
theorem dL_modulus_61 : decode cL_modulus 61 = .ok (.goto 60, 3) := by decide +kernel
theorem dL_modulus_64 : decode cL_modulus 64 = .ok (.iload_n 1, 1) := by decide +kernel
theorem dL_modulus_65 : decode cL_modulus 65 = .ok (.iconst 1, 1) := by decide +kernel
theorem dL_modulus_66 : decode cL_modulus 66 = .ok (.if_icmp .ne 7, 3) := by decide +kernel
theorem dL_modulus_69 : decode cL_modulus 69 = .ok (.iload_n 3, 1) := by decide +kernel
theorem dL_modulus_70 : decode cL_modulus 70 = .ok (.goto 51, 3) := by decide +kernel
theorem dL_modulus_73 : decode cL_modulus 73 = .ok (.iload_n 1, 1) := by decide +kernel
theorem dL_modulus_74 : decode cL_modulus 74 = .ok (.iconst 2, 1) := by decide +kernel
theorem dL_modulus_75 : decode cL_modulus 75 = .ok (.if_icmp .ne 8, 3) := by decide +kernel
theorem dL_modulus_78 : decode cL_modulus 78 = .ok (.iload 4, 2) := by decide +kernel
theorem dL_modulus_80 : decode cL_modulus 80 = .ok (.goto 41, 3) := by decide +kernel
theorem dL_modulus_83 : decode cL_modulus 83 = .ok (.iload_n 2, 1) := by decide +kernel
theorem dL_modulus_84 : decode cL_modulus 84 = .ok (.bipush 80, 2) := by decide +kernel
theorem dL_modulus_86 : decode cL_modulus 86 = .ok (.bipush 110, 2) := by decide +kernel
theorem dL_modulus_88 : decode cL_modulus 88 = .ok (.invokestatic 15, 3) := by decide +kernel
theorem dL_modulus_91 : decode cL_modulus 91 = .ok (.ifCond .eq 29, 3) := by decide +kernel
theorem dL_modulus_94 : decode cL_modulus 94 = .ok (.iload_n 3, 1) := by decide +kernel
theorem dL_modulus_95 : decode cL_modulus 95 = .ok (.bipush 12, 2) := by decide +kernel
theorem dL_modulus_97 : decode cL_modulus 97 = .ok (.bipush 40, 2) := by decide +kernel
theorem dL_modulus_99 : decode cL_modulus 99 = .ok (.invokestatic 15, 3) := by decide +kernel
theorem dL_modulus_102 : decode cL_modulus 102 = .ok (.ifCond .eq 18, 3) := by decide +kernel
theorem dL_modulus_105 : decode cL_modulus 105 = .ok (.iload 4, 2) := by decide +kernel
theorem dL_modulus_107 : decode cL_modulus 107 = .ok (.iconst 5, 1) := by decide +kernel
theorem dL_modulus_108 : decode cL_modulus 108 = .ok (.bipush 40, 2) := by decide +kernel
theorem dL_modulus_110 : decode cL_modulus 110 = .ok (.invokestatic 15, 3) := by decide +kernel
theorem dL_modulus_113 : decode cL_modulus 113 = .ok (.ifCond .eq 7, 3) := by decide +kernel
theorem dL_modulus_116 : decode cL_modulus 116 = .ok (.iconst 1, 1) := by decide +kernel
theorem dL_modulus_117 : decode cL_modulus 117 = .ok (.goto 4, 3) := by decide +kernel
theorem dL_modulus_120 : decode cL_modulus 120 = .ok (.iconst 0, 1) := by decide +kernel
theorem dL_modulus_121 : decode cL_modulus 121 = .ok (.ireturn, 1) := by decide +kernel
theorem dL_law_0 : decode cL_law 0 = .ok (.iconst 0, 1) := by decide +kernel
theorem dL_law_1 : decode cL_law 1 = .ok (.istore_n 1, 1) := by decide +kernel
theorem dL_law_2 : decode cL_law 2 = .ok (.iload_n 1, 1) := by decide +kernel
theorem dL_law_3 : decode cL_law 3 = .ok (.iconst 2, 1) := by decide +kernel
theorem dL_law_4 : decode cL_law 4 = .ok (.if_icmp .ge 713, 3) := by decide +kernel
theorem dL_law_7 : decode cL_law 7 = .ok (.new 19, 3) := by decide +kernel
theorem dL_law_10 : decode cL_law 10 = .ok (.dup, 1) := by decide +kernel
theorem dL_law_11 : decode cL_law 11 = .ok (.aload_n 0, 1) := by decide +kernel
theorem dL_law_12 : decode cL_law 12 = .ok (.bipush 31, 2) := by decide +kernel
theorem dL_law_14 : decode cL_law 14 = .ok (.iload_n 1, 1) := by decide +kernel
theorem dL_law_15 : decode cL_law 15 = .ok (.imul, 1) := by decide +kernel
theorem dL_law_16 : decode cL_law 16 = .ok (.bipush 7, 2) := by decide +kernel
theorem dL_law_18 : decode cL_law 18 = .ok (.iadd, 1) := by decide +kernel
theorem dL_law_19 : decode cL_law 19 = .ok (.invokespecial 21, 3) := by decide +kernel
theorem dL_law_22 : decode cL_law 22 = .ok (.astore_n 2, 1) := by decide +kernel
theorem dL_law_23 : decode cL_law 23 = .ok (.new 24, 3) := by decide +kernel
theorem dL_law_26 : decode cL_law 26 = .ok (.dup, 1) := by decide +kernel
theorem dL_law_27 : decode cL_law 27 = .ok (.invokespecial 26, 3) := by decide +kernel
theorem dL_law_30 : decode cL_law 30 = .ok (.astore_n 3, 1) := by decide +kernel
theorem dL_law_31 : decode cL_law 31 = .ok (.aload_n 2, 1) := by decide +kernel
theorem dL_law_32 : decode cL_law 32 = .ok (.getfield 27, 3) := by decide +kernel
theorem dL_law_35 : decode cL_law 35 = .ok (.astore 4, 2) := by decide +kernel
theorem dL_law_37 : decode cL_law 37 = .ok (.aload_n 2, 1) := by decide +kernel
theorem dL_law_38 : decode cL_law 38 = .ok (.invokevirtual 31, 3) := by decide +kernel
theorem dL_law_41 : decode cL_law 41 = .ok (.ifCond .ne 5, 3) := by decide +kernel
theorem dL_law_44 : decode cL_law 44 = .ok (.iconst 0, 1) := by decide +kernel
theorem dL_law_45 : decode cL_law 45 = .ok (.ireturn, 1) := by decide +kernel
theorem dL_law_46 : decode cL_law 46 = .ok (.aload_n 2, 1) := by decide +kernel
theorem dL_law_47 : decode cL_law 47 = .ok (.aload_n 3, 1) := by decide +kernel
theorem dL_law_48 : decode cL_law 48 = .ok (.invokestatic 35, 3) := by decide +kernel
theorem dL_law_51 : decode cL_law 51 = .ok (.iconst 0, 1) := by decide +kernel
theorem dL_law_52 : decode cL_law 52 = .ok (.istore 5, 2) := by decide +kernel
theorem dL_law_54 : decode cL_law 54 = .ok (.iconst 0, 1) := by decide +kernel
theorem dL_law_55 : decode cL_law 55 = .ok (.istore 6, 2) := by decide +kernel
theorem dL_law_57 : decode cL_law 57 = .ok (.iload 6, 2) := by decide +kernel
theorem dL_law_59 : decode cL_law 59 = .ok (.bipush 9, 2) := by decide +kernel
theorem dL_law_61 : decode cL_law 61 = .ok (.if_icmp .ge 650, 3) := by decide +kernel
theorem dL_law_64 : decode cL_law 64 = .ok (.iconst 3, 1) := by decide +kernel
theorem dL_law_65 : decode cL_law 65 = .ok (.aload_n 2, 1) := by decide +kernel
theorem dL_law_66 : decode cL_law 66 = .ok (.bipush 7, 2) := by decide +kernel
theorem dL_law_68 : decode cL_law 68 = .ok (.invokevirtual 39, 3) := by decide +kernel
theorem dL_law_71 : decode cL_law 71 = .ok (.iadd, 1) := by decide +kernel
theorem dL_law_72 : decode cL_law 72 = .ok (.istore 7, 2) := by decide +kernel
theorem dL_law_74 : decode cL_law 74 = .ok (.aload_n 2, 1) := by decide +kernel
theorem dL_law_75 : decode cL_law 75 = .ok (.invokevirtual 43, 3) := by decide +kernel
theorem dL_law_78 : decode cL_law 78 = .ok (.iload 7, 2) := by decide +kernel
theorem dL_law_80 : decode cL_law 80 = .ok (.if_icmp .lt 197, 3) := by decide +kernel
theorem dL_law_83 : decode cL_law 83 = .ok (.aload_n 2, 1) := by decide +kernel
theorem dL_law_84 : decode cL_law 84 = .ok (.getfield 47, 3) := by decide +kernel
theorem dL_law_87 : decode cL_law 87 = .ok (.arraylength, 1) := by decide +kernel
theorem dL_law_88 : decode cL_law 88 = .ok (.iconst 3, 1) := by decide +kernel
theorem dL_law_89 : decode cL_law 89 = .ok (.if_icmp .ge 188, 3) := by decide +kernel
theorem dL_law_92 : decode cL_law 92 = .ok (.iload 5, 2) := by decide +kernel
theorem dL_law_94 : decode cL_law 94 = .ok (.bipush 12, 2) := by decide +kernel
theorem dL_law_96 : decode cL_law 96 = .ok (.if_icmp .ge 181, 3) := by decide +kernel
theorem dL_law_99 : decode cL_law 99 = .ok (.aload 4, 2) := by decide +kernel
theorem dL_law_101 : decode cL_law 101 = .ok (.iload 7, 2) := by decide +kernel
theorem dL_law_103 : decode cL_law 103 = .ok (.invokevirtual 51, 3) := by decide +kernel
theorem dL_law_106 : decode cL_law 106 = .ok (.istore 8, 2) := by decide +kernel
theorem dL_law_108 : decode cL_law 108 = .ok (.iload 8, 2) := by decide +kernel
theorem dL_law_110 : decode cL_law 110 = .ok (.ifCond .ge 7, 3) := by decide +kernel
theorem dL_law_113 : decode cL_law 113 = .ok (.iconst 0, 1) := by decide +kernel
theorem dL_law_114 : decode cL_law 114 = .ok (.goto 8, 3) := by decide +kernel
theorem dL_law_117 : decode cL_law 117 = .ok (.aload_n 2, 1) := by decide +kernel
theorem dL_law_118 : decode cL_law 118 = .ok (.iconst 2, 1) := by decide +kernel
theorem dL_law_119 : decode cL_law 119 = .ok (.invokevirtual 39, 3) := by decide +kernel
theorem dL_law_122 : decode cL_law 122 = .ok (.istore 9, 2) := by decide +kernel
theorem dL_law_124 : decode cL_law 124 = .ok (.iload 8, 2) := by decide +kernel
theorem dL_law_126 : decode cL_law 126 = .ok (.ifCond .ge 11, 3) := by decide +kernel
theorem dL_law_129 : decode cL_law 129 = .ok (.aload_n 2, 1) := by decide +kernel
theorem dL_law_130 : decode cL_law 130 = .ok (.iconst 4, 1) := by decide +kernel
theorem dL_law_131 : decode cL_law 131 = .ok (.invokevirtual 39, 3) := by decide +kernel
theorem dL_law_134 : decode cL_law 134 = .ok (.goto 15, 3) := by decide +kernel
theorem dL_law_137 : decode cL_law 137 = .ok (.iconst 3, 1) := by decide +kernel
theorem dL_law_138 : decode cL_law 138 = .ok (.iload 8, 2) := by decide +kernel
theorem dL_law_140 : decode cL_law 140 = .ok (.bipush 100, 2) := by decide +kernel
theorem dL_law_142 : decode cL_law 142 = .ok (.idiv, 1) := by decide +kernel
theorem dL_law_143 : decode cL_law 143 = .ok (.iload 9, 2) := by decide +kernel
theorem dL_law_145 : decode cL_law 145 = .ok (.iadd, 1) := by decide +kernel
theorem dL_law_146 : decode cL_law 146 = .ok (.invokestatic 54, 3) := by decide +kernel
theorem dL_law_149 : decode cL_law 149 = .ok (.istore 10, 2) := by decide +kernel
theorem dL_law_151 : decode cL_law 151 = .ok (.iload 8, 2) := by decide +kernel
theorem dL_law_153 : decode cL_law 153 = .ok (.ifCond .ge 11, 3) := by decide +kernel
theorem dL_law_156 : decode cL_law 156 = .ok (.aload_n 2, 1) := by decide +kernel
theorem dL_law_157 : decode cL_law 157 = .ok (.iconst 4, 1) := by decide +kernel
theorem dL_law_158 : decode cL_law 158 = .ok (.invokevirtual 39, 3) := by decide +kernel
theorem dL_law_161 : decode cL_law 161 = .ok (.goto 11, 3) := by decide +kernel
theorem dL_law_164 : decode cL_law 164 = .ok (.iload 8, 2) := by decide +kernel
theorem dL_law_166 : decode cL_law 166 = .ok (.bipush 10, 2) := by decide +kernel
theorem dL_law_168 : decode cL_law 168 = .ok (.idiv, 1) := by decide +kernel
theorem dL_law_169 : decode cL_law 169 = .ok (.bipush 10, 2) := by decide +kernel
theorem dL_law_171 : decode cL_law 171 = .ok (.irem, 1) := by decide +kernel
theorem dL_law_172 : decode cL_law 172 = .ok (.istore 11, 2) := by decide +kernel
theorem dL_law_174 : decode cL_law 174 = .ok (.iload 8, 2) := by decide +kernel
theorem dL_law_176 : decode cL_law 176 = .ok (.ifCond .ge 11, 3) := by decide +kernel
theorem dL_law_179 : decode cL_law 179 = .ok (.aload_n 2, 1) := by decide +kernel
theorem dL_law_180 : decode cL_law 180 = .ok (.iconst 4, 1) := by decide +kernel
theorem dL_law_181 : decode cL_law 181 = .ok (.invokevirtual 39, 3) := by decide +kernel
theorem dL_law_184 : decode cL_law 184 = .ok (.goto 8, 3) := by decide +kernel
theorem dL_law_187 : decode cL_law 187 = .ok (.iload 8, 2) := by decide +kernel
theorem dL_law_189 : decode cL_law 189 = .ok (.bipush 10, 2) := by decide +kernel
theorem dL_law_191 : decode cL_law 191 = .ok (.irem, 1) := by decide +kernel
theorem dL_law_192 : decode cL_law 192 = .ok (.istore 12, 2) := by decide +kernel
theorem dL_law_194 : decode cL_law 194 = .ok (.aload_n 3, 1) := by decide +kernel
theorem dL_law_195 : decode cL_law 195 = .ok (.iload 7, 2) := by decide +kernel
theorem dL_law_197 : decode cL_law 197 = .ok (.iload 10, 2) := by decide +kernel
theorem dL_law_199 : decode cL_law 199 = .ok (.iload 11, 2) := by decide +kernel
theorem dL_law_201 : decode cL_law 201 = .ok (.iload 12, 2) := by decide +kernel
theorem dL_law_203 : decode cL_law 203 = .ok (.invokevirtual 59, 3) := by decide +kernel
theorem dL_law_206 : decode cL_law 206 = .ok (.pop, 1) := by decide +kernel
theorem dL_law_207 : decode cL_law 207 = .ok (.aload_n 2, 1) := by decide +kernel
theorem dL_law_208 : decode cL_law 208 = .ok (.iload 7, 2) := by decide +kernel
theorem dL_law_210 : decode cL_law 210 = .ok (.iload 10, 2) := by decide +kernel
theorem dL_law_212 : decode cL_law 212 = .ok (.iload 11, 2) := by decide +kernel
theorem dL_law_214 : decode cL_law 214 = .ok (.iload 12, 2) := by decide +kernel
theorem dL_law_216 : decode cL_law 216 = .ok (.invokevirtual 63, 3) := by decide +kernel
theorem dL_law_219 : decode cL_law 219 = .ok (.ifCond .ne 5, 3) := by decide +kernel
theorem dL_law_222 : decode cL_law 222 = .ok (.iconst 0, 1) := by decide +kernel
theorem dL_law_223 : decode cL_law 223 = .ok (.ireturn, 1) := by decide +kernel
theorem dL_law_224 : decode cL_law 224 = .ok (.iinc 5 1, 3) := by decide +kernel
theorem dL_law_227 : decode cL_law 227 = .ok (.aload_n 2, 1) := by decide +kernel
theorem dL_law_228 : decode cL_law 228 = .ok (.getfield 47, 3) := by decide +kernel
theorem dL_law_231 : decode cL_law 231 = .ok (.arraylength, 1) := by decide +kernel
theorem dL_law_232 : decode cL_law 232 = .ok (.iconst 1, 1) := by decide +kernel
theorem dL_law_233 : decode cL_law 233 = .ok (.isub, 1) := by decide +kernel
theorem dL_law_234 : decode cL_law 234 = .ok (.istore 13, 2) := by decide +kernel
theorem dL_law_236 : decode cL_law 236 = .ok (.iload 8, 2) := by decide +kernel
theorem dL_law_238 : decode cL_law 238 = .ok (.ifCond .lt 20, 3) := by decide +kernel
theorem dL_law_241 : decode cL_law 241 = .ok (.iload 9, 2) := by decide +kernel
theorem dL_law_243 : decode cL_law 243 = .ok (.ifCond .ne 15, 3) := by decide +kernel
theorem dL_law_246 : decode cL_law 246 = .ok (.aload 4, 2) := by decide +kernel
theorem dL_law_248 : decode cL_law 248 = .ok (.iload 13, 2) := by decide +kernel
theorem dL_law_250 : decode cL_law 250 = .ok (.iconst 3, 1) := by decide +kernel
theorem dL_law_251 : decode cL_law 251 = .ok (.invokevirtual 66, 3) := by decide +kernel
theorem dL_law_254 : decode cL_law 254 = .ok (.iconst 1, 1) := by decide +kernel
theorem dL_law_255 : decode cL_law 255 = .ok (.if_icmp .ne 20, 3) := by decide +kernel
theorem dL_law_258 : decode cL_law 258 = .ok (.iload 8, 2) := by decide +kernel
theorem dL_law_260 : decode cL_law 260 = .ok (.ifCond .ge 17, 3) := by decide +kernel
theorem dL_law_263 : decode cL_law 263 = .ok (.aload 4, 2) := by decide +kernel
theorem dL_law_265 : decode cL_law 265 = .ok (.iload 13, 2) := by decide +kernel
theorem dL_law_267 : decode cL_law 267 = .ok (.iconst 3, 1) := by decide +kernel
theorem dL_law_268 : decode cL_law 268 = .ok (.invokevirtual 66, 3) := by decide +kernel
theorem dL_law_271 : decode cL_law 271 = .ok (.iconst 1, 1) := by decide +kernel
theorem dL_law_272 : decode cL_law 272 = .ok (.if_icmp .ne 5, 3) := by decide +kernel
theorem dL_law_275 : decode cL_law 275 = .ok (.iconst 0, 1) := by decide +kernel
theorem dL_law_276 : decode cL_law 276 = .ok (.ireturn, 1) := by decide +kernel
theorem dL_law_277 : decode cL_law 277 = .ok (.aload_n 2, 1) := by decide +kernel
theorem dL_law_278 : decode cL_law 278 = .ok (.iconst 4, 1) := by decide +kernel
theorem dL_law_279 : decode cL_law 279 = .ok (.invokevirtual 39, 3) := by decide +kernel
theorem dL_law_282 : decode cL_law 282 = .ok (.ifCond .ne 12, 3) := by decide +kernel
theorem dL_law_285 : decode cL_law 285 = .ok (.aload_n 2, 1) := by decide +kernel
theorem dL_law_286 : decode cL_law 286 = .ok (.bipush 10, 2) := by decide +kernel
theorem dL_law_288 : decode cL_law 288 = .ok (.invokevirtual 39, 3) := by decide +kernel
theorem dL_law_291 : decode cL_law 291 = .ok (.goto 5, 3) := by decide +kernel
theorem dL_law_294 : decode cL_law 294 = .ok (.bipush 9, 2) := by decide +kernel
theorem dL_law_296 : decode cL_law 296 = .ok (.istore 8, 2) := by decide +kernel
theorem dL_law_298 : decode cL_law 298 = .ok (.iconst 1, 1) := by decide +kernel
theorem dL_law_299 : decode cL_law 299 = .ok (.aload_n 2, 1) := by decide +kernel
theorem dL_law_300 : decode cL_law 300 = .ok (.bipush 80, 2) := by decide +kernel
theorem dL_law_302 : decode cL_law 302 = .ok (.invokevirtual 39, 3) := by decide +kernel
theorem dL_law_305 : decode cL_law 305 = .ok (.iadd, 1) := by decide +kernel
theorem dL_law_306 : decode cL_law 306 = .ok (.istore 9, 2) := by decide +kernel
theorem dL_law_308 : decode cL_law 308 = .ok (.aload 4, 2) := by decide +kernel
theorem dL_law_310 : decode cL_law 310 = .ok (.iconst 5, 1) := by decide +kernel
theorem dL_law_311 : decode cL_law 311 = .ok (.invokevirtual 69, 3) := by decide +kernel
theorem dL_law_314 : decode cL_law 314 = .ok (.sipush 900, 3) := by decide +kernel
theorem dL_law_317 : decode cL_law 317 = .ok (.if_icmp .ge 21, 3) := by decide +kernel
theorem dL_law_320 : decode cL_law 320 = .ok (.aload 4, 2) := by decide +kernel
theorem dL_law_322 : decode cL_law 322 = .ok (.iload 9, 2) := by decide +kernel
theorem dL_law_324 : decode cL_law 324 = .ok (.invokevirtual 72, 3) := by decide +kernel
theorem dL_law_327 : decode cL_law 327 = .ok (.aload_n 3, 1) := by decide +kernel
theorem dL_law_328 : decode cL_law 328 = .ok (.iload 9, 2) := by decide +kernel
theorem dL_law_330 : decode cL_law 330 = .ok (.invokevirtual 72, 3) := by decide +kernel
theorem dL_law_333 : decode cL_law 333 = .ok (.if_icmp .eq 5, 3) := by decide +kernel
theorem dL_law_336 : decode cL_law 336 = .ok (.iconst 0, 1) := by decide +kernel
theorem dL_law_337 : decode cL_law 337 = .ok (.ireturn, 1) := by decide +kernel
theorem dL_law_338 : decode cL_law 338 = .ok (.iconst 1, 1) := by decide +kernel
theorem dL_law_339 : decode cL_law 339 = .ok (.aload_n 2, 1) := by decide +kernel
theorem dL_law_340 : decode cL_law 340 = .ok (.iconst 5, 1) := by decide +kernel
theorem dL_law_341 : decode cL_law 341 = .ok (.invokevirtual 39, 3) := by decide +kernel
theorem dL_law_344 : decode cL_law 344 = .ok (.iadd, 1) := by decide +kernel
theorem dL_law_345 : decode cL_law 345 = .ok (.istore 10, 2) := by decide +kernel
theorem dL_law_347 : decode cL_law 347 = .ok (.aload 4, 2) := by decide +kernel
theorem dL_law_349 : decode cL_law 349 = .ok (.invokevirtual 75, 3) := by decide +kernel
theorem dL_law_352 : decode cL_law 352 = .ok (.lstore 11, 2) := by decide +kernel
theorem dL_law_354 : decode cL_law 354 = .ok (.aload 4, 2) := by decide +kernel
theorem dL_law_356 : decode cL_law 356 = .ok (.iload 10, 2) := by decide +kernel
theorem dL_law_358 : decode cL_law 358 = .ok (.iload 8, 2) := by decide +kernel
theorem dL_law_360 : decode cL_law 360 = .ok (.invokevirtual 79, 3) := by decide +kernel
theorem dL_law_363 : decode cL_law 363 = .ok (.istore 13, 2) := by decide +kernel
theorem dL_law_365 : decode cL_law 365 = .ok (.aload 4, 2) := by decide +kernel
theorem dL_law_367 : decode cL_law 367 = .ok (.iload 10, 2) := by decide +kernel
theorem dL_law_369 : decode cL_law 369 = .ok (.invokevirtual 82, 3) := by decide +kernel
theorem dL_law_372 : decode cL_law 372 = .ok (.istore 14, 2) := by decide +kernel
theorem dL_law_374 : decode cL_law 374 = .ok (.aload 4, 2) := by decide +kernel
theorem dL_law_376 : decode cL_law 376 = .ok (.invokevirtual 75, 3) := by decide +kernel
theorem dL_law_379 : decode cL_law 379 = .ok (.lload 11, 2) := by decide +kernel
theorem dL_law_381 : decode cL_law 381 = .ok (.lcmp, 1) := by decide +kernel
theorem dL_law_382 : decode cL_law 382 = .ok (.ifCond .ne 13, 3) := by decide +kernel
theorem dL_law_385 : decode cL_law 385 = .ok (.aload_n 3, 1) := by decide +kernel
theorem dL_law_386 : decode cL_law 386 = .ok (.invokevirtual 75, 3) := by decide +kernel
theorem dL_law_389 : decode cL_law 389 = .ok (.lload 11, 2) := by decide +kernel
theorem dL_law_391 : decode cL_law 391 = .ok (.lcmp, 1) := by decide +kernel
theorem dL_law_392 : decode cL_law 392 = .ok (.ifCond .eq 5, 3) := by decide +kernel
theorem dL_law_395 : decode cL_law 395 = .ok (.iconst 0, 1) := by decide +kernel
theorem dL_law_396 : decode cL_law 396 = .ok (.ireturn, 1) := by decide +kernel
theorem dL_law_397 : decode cL_law 397 = .ok (.aload 4, 2) := by decide +kernel
theorem dL_law_399 : decode cL_law 399 = .ok (.bipush 8, 2) := by decide +kernel
theorem dL_law_401 : decode cL_law 401 = .ok (.invokevirtual 69, 3) := by decide +kernel
theorem dL_law_404 : decode cL_law 404 = .ok (.istore 15, 2) := by decide +kernel
theorem dL_law_406 : decode cL_law 406 = .ok (.aload 4, 2) := by decide +kernel
theorem dL_law_408 : decode cL_law 408 = .ok (.bipush 7, 2) := by decide +kernel
theorem dL_law_410 : decode cL_law 410 = .ok (.invokevirtual 69, 3) := by decide +kernel
theorem dL_law_413 : decode cL_law 413 = .ok (.istore 16, 2) := by decide +kernel
theorem dL_law_415 : decode cL_law 415 = .ok (.aload 4, 2) := by decide +kernel
theorem dL_law_417 : decode cL_law 417 = .ok (.iload 8, 2) := by decide +kernel
theorem dL_law_419 : decode cL_law 419 = .ok (.invokevirtual 85, 3) := by decide +kernel
theorem dL_law_422 : decode cL_law 422 = .ok (.pop, 1) := by decide +kernel
theorem dL_law_423 : decode cL_law 423 = .ok (.aload_n 3, 1) := by decide +kernel
theorem dL_law_424 : decode cL_law 424 = .ok (.iload 8, 2) := by decide +kernel
theorem dL_law_426 : decode cL_law 426 = .ok (.invokevirtual 85, 3) := by decide +kernel
theorem dL_law_429 : decode cL_law 429 = .ok (.pop, 1) := by decide +kernel
theorem dL_law_430 : decode cL_law 430 = .ok (.iconst 0, 1) := by decide +kernel
theorem dL_law_431 : decode cL_law 431 = .ok (.istore 17, 2) := by decide +kernel
theorem dL_law_433 : decode cL_law 433 = .ok (.iconst 0, 1) := by decide +kernel
theorem dL_law_434 : decode cL_law 434 = .ok (.istore 18, 2) := by decide +kernel
theorem dL_law_436 : decode cL_law 436 = .ok (.iload 18, 2) := by decide +kernel
theorem dL_law_438 : decode cL_law 438 = .ok (.iload 10, 2) := by decide +kernel
theorem dL_law_440 : decode cL_law 440 = .ok (.if_icmp .ge 19, 3) := by decide +kernel
theorem dL_law_443 : decode cL_law 443 = .ok (.iload 17, 2) := by decide +kernel
theorem dL_law_445 : decode cL_law 445 = .ok (.aload_n 3, 1) := by decide +kernel
theorem dL_law_446 : decode cL_law 446 = .ok (.iconst 1, 1) := by decide +kernel
theorem dL_law_447 : decode cL_law 447 = .ok (.invokevirtual 88, 3) := by decide +kernel
theorem dL_law_450 : decode cL_law 450 = .ok (.iadd, 1) := by decide +kernel
theorem dL_law_451 : decode cL_law 451 = .ok (.istore 17, 2) := by decide +kernel
theorem dL_law_453 : decode cL_law 453 = .ok (.iinc 18 1, 3) := by decide +kernel
theorem dL_law_456 : decode cL_law 456 = .ok (.goto (-20), 3) := by decide +kernel
theorem dL_law_459 : decode cL_law 459 = .ok (.aload 4, 2) := by decide +kernel
theorem dL_law_461 : decode cL_law 461 = .ok (.iload 10, 2) := by decide +kernel
theorem dL_law_463 : decode cL_law 463 = .ok (.invokevirtual 88, 3) := by decide +kernel
theorem dL_law_466 : decode cL_law 466 = .ok (.iload 17, 2) := by decide +kernel
theorem dL_law_468 : decode cL_law 468 = .ok (.if_icmp .ne 16, 3) := by decide +kernel
theorem dL_law_471 : decode cL_law 471 = .ok (.aload 4, 2) := by decide +kernel
theorem dL_law_473 : decode cL_law 473 = .ok (.invokevirtual 75, 3) := by decide +kernel
theorem dL_law_476 : decode cL_law 476 = .ok (.aload_n 3, 1) := by decide +kernel
theorem dL_law_477 : decode cL_law 477 = .ok (.invokevirtual 75, 3) := by decide +kernel
theorem dL_law_480 : decode cL_law 480 = .ok (.lcmp, 1) := by decide +kernel
theorem dL_law_481 : decode cL_law 481 = .ok (.ifCond .eq 5, 3) := by decide +kernel
theorem dL_law_484 : decode cL_law 484 = .ok (.iconst 0, 1) := by decide +kernel
theorem dL_law_485 : decode cL_law 485 = .ok (.ireturn, 1) := by decide +kernel
theorem dL_law_486 : decode cL_law 486 = .ok (.iload 17, 2) := by decide +kernel
theorem dL_law_488 : decode cL_law 488 = .ok (.ifCond .ne 7, 3) := by decide +kernel
theorem dL_law_491 : decode cL_law 491 = .ok (.iconst 1, 1) := by decide +kernel
theorem dL_law_492 : decode cL_law 492 = .ok (.goto 4, 3) := by decide +kernel
theorem dL_law_495 : decode cL_law 495 = .ok (.iconst 0, 1) := by decide +kernel
theorem dL_law_496 : decode cL_law 496 = .ok (.iload 13, 2) := by decide +kernel
theorem dL_law_498 : decode cL_law 498 = .ok (.iconst (-1), 1) := by decide +kernel
theorem dL_law_499 : decode cL_law 499 = .ok (.if_icmp .ne 7, 3) := by decide +kernel
theorem dL_law_502 : decode cL_law 502 = .ok (.iconst 1, 1) := by decide +kernel
theorem dL_law_503 : decode cL_law 503 = .ok (.goto 4, 3) := by decide +kernel
theorem dL_law_506 : decode cL_law 506 = .ok (.iconst 0, 1) := by decide +kernel
theorem dL_law_507 : decode cL_law 507 = .ok (.if_icmp .ne 28, 3) := by decide +kernel
theorem dL_law_510 : decode cL_law 510 = .ok (.iload 17, 2) := by decide +kernel
theorem dL_law_512 : decode cL_law 512 = .ok (.ifCond .le 25, 3) := by decide +kernel
theorem dL_law_515 : decode cL_law 515 = .ok (.iload 13, 2) := by decide +kernel
theorem dL_law_517 : decode cL_law 517 = .ok (.aload 4, 2) := by decide +kernel
theorem dL_law_519 : decode cL_law 519 = .ok (.aload 4, 2) := by decide +kernel
theorem dL_law_521 : decode cL_law 521 = .ok (.bipush 10, 2) := by decide +kernel
theorem dL_law_523 : decode cL_law 523 = .ok (.invokevirtual 69, 3) := by decide +kernel
theorem dL_law_526 : decode cL_law 526 = .ok (.iconst 1, 1) := by decide +kernel
theorem dL_law_527 : decode cL_law 527 = .ok (.isub, 1) := by decide +kernel
theorem dL_law_528 : decode cL_law 528 = .ok (.iconst 5, 1) := by decide +kernel
theorem dL_law_529 : decode cL_law 529 = .ok (.invokevirtual 91, 3) := by decide +kernel
theorem dL_law_532 : decode cL_law 532 = .ok (.if_icmp .eq 5, 3) := by decide +kernel
theorem dL_law_535 : decode cL_law 535 = .ok (.iconst 0, 1) := by decide +kernel
theorem dL_law_536 : decode cL_law 536 = .ok (.ireturn, 1) := by decide +kernel
theorem dL_law_537 : decode cL_law 537 = .ok (.iload 16, 2) := by decide +kernel
theorem dL_law_539 : decode cL_law 539 = .ok (.ifCond .le 29, 3) := by decide +kernel
theorem dL_law_542 : decode cL_law 542 = .ok (.aload 4, 2) := by decide +kernel
theorem dL_law_544 : decode cL_law 544 = .ok (.bipush 8, 2) := by decide +kernel
theorem dL_law_546 : decode cL_law 546 = .ok (.invokevirtual 69, 3) := by decide +kernel
theorem dL_law_549 : decode cL_law 549 = .ok (.iload 15, 2) := by decide +kernel
theorem dL_law_551 : decode cL_law 551 = .ok (.if_icmp .le 17, 3) := by decide +kernel
theorem dL_law_554 : decode cL_law 554 = .ok (.iload 14, 2) := by decide +kernel
theorem dL_law_556 : decode cL_law 556 = .ok (.ifCond .lt 10, 3) := by decide +kernel
theorem dL_law_559 : decode cL_law 559 = .ok (.iload 14, 2) := by decide +kernel
theorem dL_law_561 : decode cL_law 561 = .ok (.iload 8, 2) := by decide +kernel
theorem dL_law_563 : decode cL_law 563 = .ok (.if_icmp .le 5, 3) := by decide +kernel
theorem dL_law_566 : decode cL_law 566 = .ok (.iconst 0, 1) := by decide +kernel
theorem dL_law_567 : decode cL_law 567 = .ok (.ireturn, 1) := by decide +kernel
theorem dL_law_568 : decode cL_law 568 = .ok (.iconst 0, 1) := by decide +kernel
theorem dL_law_569 : decode cL_law 569 = .ok (.anewarray 94, 3) := by decide +kernel
theorem dL_law_572 : decode cL_law 572 = .ok (.astore 18, 2) := by decide +kernel
theorem dL_law_574 : decode cL_law 574 = .ok (.aload_n 2, 1) := by decide +kernel
theorem dL_law_575 : decode cL_law 575 = .ok (.getfield 47, 3) := by decide +kernel
theorem dL_law_578 : decode cL_law 578 = .ok (.arraylength, 1) := by decide +kernel
theorem dL_law_579 : decode cL_law 579 = .ok (.aload 4, 2) := by decide +kernel
theorem dL_law_581 : decode cL_law 581 = .ok (.iconst 3, 1) := by decide +kernel
theorem dL_law_582 : decode cL_law 582 = .ok (.invokevirtual 69, 3) := by decide +kernel
theorem dL_law_585 : decode cL_law 585 = .ok (.isub, 1) := by decide +kernel
theorem dL_law_586 : decode cL_law 586 = .ok (.istore 19, 2) := by decide +kernel
theorem dL_law_588 : decode cL_law 588 = .ok (.iload 19, 2) := by decide +kernel
theorem dL_law_590 : decode cL_law 590 = .ok (.aload_n 2, 1) := by decide +kernel
theorem dL_law_591 : decode cL_law 591 = .ok (.getfield 47, 3) := by decide +kernel
theorem dL_law_594 : decode cL_law 594 = .ok (.arraylength, 1) := by decide +kernel
theorem dL_law_595 : decode cL_law 595 = .ok (.if_icmp .ge 23, 3) := by decide +kernel
theorem dL_law_598 : decode cL_law 598 = .ok (.aload 18, 2) := by decide +kernel
theorem dL_law_600 : decode cL_law 600 = .ok (.aload_n 2, 1) := by decide +kernel
theorem dL_law_601 : decode cL_law 601 = .ok (.getfield 47, 3) := by decide +kernel
theorem dL_law_604 : decode cL_law 604 = .ok (.iload 19, 2) := by decide +kernel
theorem dL_law_606 : decode cL_law 606 = .ok (.aaload, 1) := by decide +kernel
theorem dL_law_607 : decode cL_law 607 = .ok (.invokestatic 96, 3) := by decide +kernel
theorem dL_law_610 : decode cL_law 610 = .ok (.astore 18, 2) := by decide +kernel
theorem dL_law_612 : decode cL_law 612 = .ok (.iinc 19 1, 3) := by decide +kernel
theorem dL_law_615 : decode cL_law 615 = .ok (.goto (-27), 3) := by decide +kernel
theorem dL_law_618 : decode cL_law 618 = .ok (.aload_n 2, 1) := by decide +kernel
theorem dL_law_619 : decode cL_law 619 = .ok (.aload 18, 2) := by decide +kernel
theorem dL_law_621 : decode cL_law 621 = .ok (.putfield 47, 3) := by decide +kernel
theorem dL_law_624 : decode cL_law 624 = .ok (.iconst 0, 1) := by decide +kernel
theorem dL_law_625 : decode cL_law 625 = .ok (.istore 19, 2) := by decide +kernel
theorem dL_law_627 : decode cL_law 627 = .ok (.iload 19, 2) := by decide +kernel
theorem dL_law_629 : decode cL_law 629 = .ok (.aload 4, 2) := by decide +kernel
theorem dL_law_631 : decode cL_law 631 = .ok (.bipush 10, 2) := by decide +kernel
theorem dL_law_633 : decode cL_law 633 = .ok (.invokevirtual 69, 3) := by decide +kernel
theorem dL_law_636 : decode cL_law 636 = .ok (.if_icmp .ge 69, 3) := by decide +kernel
theorem dL_law_639 : decode cL_law 639 = .ok (.iconst 0, 1) := by decide +kernel
theorem dL_law_640 : decode cL_law 640 = .ok (.istore 20, 2) := by decide +kernel
theorem dL_law_642 : decode cL_law 642 = .ok (.iconst 0, 1) := by decide +kernel
theorem dL_law_643 : decode cL_law 643 = .ok (.istore 21, 2) := by decide +kernel
theorem dL_law_645 : decode cL_law 645 = .ok (.iload 21, 2) := by decide +kernel
theorem dL_law_647 : decode cL_law 647 = .ok (.iconst 4, 1) := by decide +kernel
theorem dL_law_648 : decode cL_law 648 = .ok (.if_icmp .ge 36, 3) := by decide +kernel
theorem dL_law_651 : decode cL_law 651 = .ok (.iload 20, 2) := by decide +kernel
theorem dL_law_653 : decode cL_law 653 = .ok (.aload 4, 2) := by decide +kernel
theorem dL_law_655 : decode cL_law 655 = .ok (.iload 19, 2) := by decide +kernel
theorem dL_law_657 : decode cL_law 657 = .ok (.bipush 16, 2) := by decide +kernel
theorem dL_law_659 : decode cL_law 659 = .ok (.iload 21, 2) := by decide +kernel
theorem dL_law_661 : decode cL_law 661 = .ok (.iadd, 1) := by decide +kernel
theorem dL_law_662 : decode cL_law 662 = .ok (.invokevirtual 91, 3) := by decide +kernel
theorem dL_law_665 : decode cL_law 665 = .ok (.aload_n 2, 1) := by decide +kernel
theorem dL_law_666 : decode cL_law 666 = .ok (.getfield 100, 3) := by decide +kernel
theorem dL_law_669 : decode cL_law 669 = .ok (.iload 21, 2) := by decide +kernel
theorem dL_law_671 : decode cL_law 671 = .ok (.aaload, 1) := by decide +kernel
theorem dL_law_672 : decode cL_law 672 = .ok (.iconst 1, 1) := by decide +kernel
theorem dL_law_673 : decode cL_law 673 = .ok (.iaload, 1) := by decide +kernel
theorem dL_law_674 : decode cL_law 674 = .ok (.imul, 1) := by decide +kernel
theorem dL_law_675 : decode cL_law 675 = .ok (.iadd, 1) := by decide +kernel
theorem dL_law_676 : decode cL_law 676 = .ok (.istore 20, 2) := by decide +kernel
theorem dL_law_678 : decode cL_law 678 = .ok (.iinc 21 1, 3) := by decide +kernel
theorem dL_law_681 : decode cL_law 681 = .ok (.goto (-36), 3) := by decide +kernel
theorem dL_law_684 : decode cL_law 684 = .ok (.iload 20, 2) := by decide +kernel
theorem dL_law_686 : decode cL_law 686 = .ok (.aload 4, 2) := by decide +kernel
theorem dL_law_688 : decode cL_law 688 = .ok (.iload 19, 2) := by decide +kernel
theorem dL_law_690 : decode cL_law 690 = .ok (.iconst 0, 1) := by decide +kernel
theorem dL_law_691 : decode cL_law 691 = .ok (.invokevirtual 91, 3) := by decide +kernel
theorem dL_law_694 : decode cL_law 694 = .ok (.if_icmp .eq 5, 3) := by decide +kernel
theorem dL_law_697 : decode cL_law 697 = .ok (.iconst 0, 1) := by decide +kernel
theorem dL_law_698 : decode cL_law 698 = .ok (.ireturn, 1) := by decide +kernel
theorem dL_law_699 : decode cL_law 699 = .ok (.iinc 19 1, 3) := by decide +kernel
theorem dL_law_702 : decode cL_law 702 = .ok (.goto (-75), 3) := by decide +kernel
theorem dL_law_705 : decode cL_law 705 = .ok (.iinc 6 1, 3) := by decide +kernel
theorem dL_law_708 : decode cL_law 708 = .ok (.goto (-651), 3) := by decide +kernel
theorem dL_law_711 : decode cL_law 711 = .ok (.iinc 1 1, 3) := by decide +kernel
theorem dL_law_714 : decode cL_law 714 = .ok (.goto (-712), 3) := by decide +kernel
theorem dL_law_717 : decode cL_law 717 = .ok (.iconst 1, 1) := by decide +kernel
theorem dL_law_718 : decode cL_law 718 = .ok (.ireturn, 1) := by decide +kernel
theorem dL_copy_0 : decode cL_copy 0 = .ok (.iconst 0, 1) := by decide +kernel
theorem dL_copy_1 : decode cL_copy 1 = .ok (.istore_n 2, 1) := by decide +kernel
theorem dL_copy_2 : decode cL_copy 2 = .ok (.iload_n 2, 1) := by decide +kernel
theorem dL_copy_3 : decode cL_copy 3 = .ok (.iconst 4, 1) := by decide +kernel
theorem dL_copy_4 : decode cL_copy 4 = .ok (.if_icmp .ge 109, 3) := by decide +kernel
theorem dL_copy_7 : decode cL_copy 7 = .ok (.aload_n 0, 1) := by decide +kernel
theorem dL_copy_8 : decode cL_copy 8 = .ok (.getfield 100, 3) := by decide +kernel
theorem dL_copy_11 : decode cL_copy 11 = .ok (.iload_n 2, 1) := by decide +kernel
theorem dL_copy_12 : decode cL_copy 12 = .ok (.aaload, 1) := by decide +kernel
theorem dL_copy_13 : decode cL_copy 13 = .ok (.iconst 0, 1) := by decide +kernel
theorem dL_copy_14 : decode cL_copy 14 = .ok (.iaload, 1) := by decide +kernel
theorem dL_copy_15 : decode cL_copy 15 = .ok (.istore_n 3, 1) := by decide +kernel
theorem dL_copy_16 : decode cL_copy 16 = .ok (.aload_n 0, 1) := by decide +kernel
theorem dL_copy_17 : decode cL_copy 17 = .ok (.getfield 103, 3) := by decide +kernel
theorem dL_copy_20 : decode cL_copy 20 = .ok (.astore 4, 2) := by decide +kernel
theorem dL_copy_22 : decode cL_copy 22 = .ok (.aload 4, 2) := by decide +kernel
theorem dL_copy_24 : decode cL_copy 24 = .ok (.arraylength, 1) := by decide +kernel
theorem dL_copy_25 : decode cL_copy 25 = .ok (.istore 5, 2) := by decide +kernel
theorem dL_copy_27 : decode cL_copy 27 = .ok (.iconst 0, 1) := by decide +kernel
theorem dL_copy_28 : decode cL_copy 28 = .ok (.istore 6, 2) := by decide +kernel
theorem dL_copy_30 : decode cL_copy 30 = .ok (.iload 6, 2) := by decide +kernel
theorem dL_copy_32 : decode cL_copy 32 = .ok (.iload 5, 2) := by decide +kernel
theorem dL_copy_34 : decode cL_copy 34 = .ok (.if_icmp .ge 35, 3) := by decide +kernel
theorem dL_copy_37 : decode cL_copy 37 = .ok (.aload 4, 2) := by decide +kernel
theorem dL_copy_39 : decode cL_copy 39 = .ok (.iload 6, 2) := by decide +kernel
theorem dL_copy_41 : decode cL_copy 41 = .ok (.aaload, 1) := by decide +kernel
theorem dL_copy_42 : decode cL_copy 42 = .ok (.astore 7, 2) := by decide +kernel
theorem dL_copy_44 : decode cL_copy 44 = .ok (.iload_n 3, 1) := by decide +kernel
theorem dL_copy_45 : decode cL_copy 45 = .ok (.aload 7, 2) := by decide +kernel
theorem dL_copy_47 : decode cL_copy 47 = .ok (.iconst 0, 1) := by decide +kernel
theorem dL_copy_48 : decode cL_copy 48 = .ok (.iaload, 1) := by decide +kernel
theorem dL_copy_49 : decode cL_copy 49 = .ok (.iload_n 2, 1) := by decide +kernel
theorem dL_copy_50 : decode cL_copy 50 = .ok (.if_icmp .ne 10, 3) := by decide +kernel
theorem dL_copy_53 : decode cL_copy 53 = .ok (.aload 7, 2) := by decide +kernel
theorem dL_copy_55 : decode cL_copy 55 = .ok (.iconst 1, 1) := by decide +kernel
theorem dL_copy_56 : decode cL_copy 56 = .ok (.iaload, 1) := by decide +kernel
theorem dL_copy_57 : decode cL_copy 57 = .ok (.goto 4, 3) := by decide +kernel
theorem dL_copy_60 : decode cL_copy 60 = .ok (.iconst 0, 1) := by decide +kernel
theorem dL_copy_61 : decode cL_copy 61 = .ok (.iadd, 1) := by decide +kernel
theorem dL_copy_62 : decode cL_copy 62 = .ok (.istore_n 3, 1) := by decide +kernel
theorem dL_copy_63 : decode cL_copy 63 = .ok (.iinc 6 1, 3) := by decide +kernel
theorem dL_copy_66 : decode cL_copy 66 = .ok (.goto (-36), 3) := by decide +kernel
theorem dL_copy_69 : decode cL_copy 69 = .ok (.aload_n 1, 1) := by decide +kernel
theorem dL_copy_70 : decode cL_copy 70 = .ok (.iload_n 3, 1) := by decide +kernel
theorem dL_copy_71 : decode cL_copy 71 = .ok (.aload_n 0, 1) := by decide +kernel
theorem dL_copy_72 : decode cL_copy 72 = .ok (.getfield 100, 3) := by decide +kernel
theorem dL_copy_75 : decode cL_copy 75 = .ok (.iload_n 2, 1) := by decide +kernel
theorem dL_copy_76 : decode cL_copy 76 = .ok (.aaload, 1) := by decide +kernel
theorem dL_copy_77 : decode cL_copy 77 = .ok (.iconst 1, 1) := by decide +kernel
theorem dL_copy_78 : decode cL_copy 78 = .ok (.iaload, 1) := by decide +kernel
theorem dL_copy_79 : decode cL_copy 79 = .ok (.aload_n 0, 1) := by decide +kernel
theorem dL_copy_80 : decode cL_copy 80 = .ok (.getfield 100, 3) := by decide +kernel
theorem dL_copy_83 : decode cL_copy 83 = .ok (.iload_n 2, 1) := by decide +kernel
theorem dL_copy_84 : decode cL_copy 84 = .ok (.aaload, 1) := by decide +kernel
theorem dL_copy_85 : decode cL_copy 85 = .ok (.iconst 2, 1) := by decide +kernel
theorem dL_copy_86 : decode cL_copy 86 = .ok (.iaload, 1) := by decide +kernel
theorem dL_copy_87 : decode cL_copy 87 = .ok (.aload_n 0, 1) := by decide +kernel
theorem dL_copy_88 : decode cL_copy 88 = .ok (.getfield 100, 3) := by decide +kernel
theorem dL_copy_91 : decode cL_copy 91 = .ok (.iload_n 2, 1) := by decide +kernel
theorem dL_copy_92 : decode cL_copy 92 = .ok (.aaload, 1) := by decide +kernel
theorem dL_copy_93 : decode cL_copy 93 = .ok (.iconst 3, 1) := by decide +kernel
theorem dL_copy_94 : decode cL_copy 94 = .ok (.iaload, 1) := by decide +kernel
theorem dL_copy_95 : decode cL_copy 95 = .ok (.aload_n 0, 1) := by decide +kernel
theorem dL_copy_96 : decode cL_copy 96 = .ok (.getfield 100, 3) := by decide +kernel
theorem dL_copy_99 : decode cL_copy 99 = .ok (.iload_n 2, 1) := by decide +kernel
theorem dL_copy_100 : decode cL_copy 100 = .ok (.aaload, 1) := by decide +kernel
theorem dL_copy_101 : decode cL_copy 101 = .ok (.iconst 4, 1) := by decide +kernel
theorem dL_copy_102 : decode cL_copy 102 = .ok (.iaload, 1) := by decide +kernel
theorem dL_copy_103 : decode cL_copy 103 = .ok (.invokevirtual 106, 3) := by decide +kernel
theorem dL_copy_106 : decode cL_copy 106 = .ok (.pop, 1) := by decide +kernel
theorem dL_copy_107 : decode cL_copy 107 = .ok (.iinc 2 1, 3) := by decide +kernel
theorem dL_copy_110 : decode cL_copy 110 = .ok (.goto (-108), 3) := by decide +kernel
theorem dL_copy_113 : decode cL_copy 113 = .ok (.aload_n 0, 1) := by decide +kernel
theorem dL_copy_114 : decode cL_copy 114 = .ok (.getfield 103, 3) := by decide +kernel
theorem dL_copy_117 : decode cL_copy 117 = .ok (.astore_n 2, 1) := by decide +kernel
theorem dL_copy_118 : decode cL_copy 118 = .ok (.aload_n 2, 1) := by decide +kernel
theorem dL_copy_119 : decode cL_copy 119 = .ok (.arraylength, 1) := by decide +kernel
theorem dL_copy_120 : decode cL_copy 120 = .ok (.istore_n 3, 1) := by decide +kernel
theorem dL_copy_121 : decode cL_copy 121 = .ok (.iconst 0, 1) := by decide +kernel
theorem dL_copy_122 : decode cL_copy 122 = .ok (.istore 4, 2) := by decide +kernel
theorem dL_copy_124 : decode cL_copy 124 = .ok (.iload 4, 2) := by decide +kernel
theorem dL_copy_126 : decode cL_copy 126 = .ok (.iload_n 3, 1) := by decide +kernel
theorem dL_copy_127 : decode cL_copy 127 = .ok (.if_icmp .ge 28, 3) := by decide +kernel
theorem dL_copy_130 : decode cL_copy 130 = .ok (.aload_n 2, 1) := by decide +kernel
theorem dL_copy_131 : decode cL_copy 131 = .ok (.iload 4, 2) := by decide +kernel
theorem dL_copy_133 : decode cL_copy 133 = .ok (.aaload, 1) := by decide +kernel
theorem dL_copy_134 : decode cL_copy 134 = .ok (.astore 5, 2) := by decide +kernel
theorem dL_copy_136 : decode cL_copy 136 = .ok (.aload_n 1, 1) := by decide +kernel
theorem dL_copy_137 : decode cL_copy 137 = .ok (.aload 5, 2) := by decide +kernel
theorem dL_copy_139 : decode cL_copy 139 = .ok (.iconst 0, 1) := by decide +kernel
theorem dL_copy_140 : decode cL_copy 140 = .ok (.iaload, 1) := by decide +kernel
theorem dL_copy_141 : decode cL_copy 141 = .ok (.aload 5, 2) := by decide +kernel
theorem dL_copy_143 : decode cL_copy 143 = .ok (.iconst 1, 1) := by decide +kernel
theorem dL_copy_144 : decode cL_copy 144 = .ok (.iaload, 1) := by decide +kernel
theorem dL_copy_145 : decode cL_copy 145 = .ok (.invokevirtual 110, 3) := by decide +kernel
theorem dL_copy_148 : decode cL_copy 148 = .ok (.pop, 1) := by decide +kernel
theorem dL_copy_149 : decode cL_copy 149 = .ok (.iinc 4 1, 3) := by decide +kernel
theorem dL_copy_152 : decode cL_copy 152 = .ok (.goto (-28), 3) := by decide +kernel
theorem dL_copy_155 : decode cL_copy 155 = .ok (.return_, 1) := by decide +kernel
theorem dJ9_floorDiv_7cf53_0 : decode cJ9_floorDiv_7cf53 0 = .ok (.iload_n 0, 1) := by decide +kernel
theorem dJ9_floorDiv_7cf53_1 : decode cJ9_floorDiv_7cf53 1 = .ok (.iload_n 1, 1) := by decide +kernel
theorem dJ9_floorDiv_7cf53_2 : decode cJ9_floorDiv_7cf53 2 = .ok (.idiv, 1) := by decide +kernel
theorem dJ9_floorDiv_7cf53_3 : decode cJ9_floorDiv_7cf53 3 = .ok (.istore_n 2, 1) := by decide +kernel
theorem dJ9_floorDiv_7cf53_4 : decode cJ9_floorDiv_7cf53 4 = .ok (.iload_n 0, 1) := by decide +kernel
theorem dJ9_floorDiv_7cf53_5 : decode cJ9_floorDiv_7cf53 5 = .ok (.iload_n 1, 1) := by decide +kernel
theorem dJ9_floorDiv_7cf53_6 : decode cJ9_floorDiv_7cf53 6 = .ok (.ixor, 1) := by decide +kernel
theorem dJ9_floorDiv_7cf53_7 : decode cJ9_floorDiv_7cf53 7 = .ok (.ifCond .ge 14, 3) := by decide +kernel
theorem dJ9_floorDiv_7cf53_10 : decode cJ9_floorDiv_7cf53 10 = .ok (.iload_n 2, 1) := by decide +kernel
theorem dJ9_floorDiv_7cf53_11 : decode cJ9_floorDiv_7cf53 11 = .ok (.iload_n 1, 1) := by decide +kernel
theorem dJ9_floorDiv_7cf53_12 : decode cJ9_floorDiv_7cf53 12 = .ok (.imul, 1) := by decide +kernel
theorem dJ9_floorDiv_7cf53_13 : decode cJ9_floorDiv_7cf53 13 = .ok (.iload_n 0, 1) := by decide +kernel
theorem dJ9_floorDiv_7cf53_14 : decode cJ9_floorDiv_7cf53 14 = .ok (.if_icmp .eq 7, 3) := by decide +kernel
theorem dJ9_floorDiv_7cf53_17 : decode cJ9_floorDiv_7cf53 17 = .ok (.iload_n 2, 1) := by decide +kernel
theorem dJ9_floorDiv_7cf53_18 : decode cJ9_floorDiv_7cf53 18 = .ok (.iconst 1, 1) := by decide +kernel
theorem dJ9_floorDiv_7cf53_19 : decode cJ9_floorDiv_7cf53 19 = .ok (.isub, 1) := by decide +kernel
theorem dJ9_floorDiv_7cf53_20 : decode cJ9_floorDiv_7cf53 20 = .ok (.ireturn, 1) := by decide +kernel
theorem dJ9_floorDiv_7cf53_21 : decode cJ9_floorDiv_7cf53 21 = .ok (.iload_n 2, 1) := by decide +kernel
theorem dJ9_floorDiv_7cf53_22 : decode cJ9_floorDiv_7cf53 22 = .ok (.ireturn, 1) := by decide +kernel
theorem dJ9_max_7cf53_0 : decode cJ9_max_7cf53 0 = .ok (.iload_n 0, 1) := by decide +kernel
theorem dJ9_max_7cf53_1 : decode cJ9_max_7cf53 1 = .ok (.iload_n 1, 1) := by decide +kernel
theorem dJ9_max_7cf53_2 : decode cJ9_max_7cf53 2 = .ok (.if_icmp .lt 7, 3) := by decide +kernel
theorem dJ9_max_7cf53_5 : decode cJ9_max_7cf53 5 = .ok (.iload_n 0, 1) := by decide +kernel
theorem dJ9_max_7cf53_6 : decode cJ9_max_7cf53 6 = .ok (.goto 4, 3) := by decide +kernel
theorem dJ9_max_7cf53_9 : decode cJ9_max_7cf53 9 = .ok (.iload_n 1, 1) := by decide +kernel
theorem dJ9_max_7cf53_10 : decode cJ9_max_7cf53 10 = .ok (.ireturn, 1) := by decide +kernel
theorem dJ9_min_7cf53_0 : decode cJ9_min_7cf53 0 = .ok (.iload_n 0, 1) := by decide +kernel
theorem dJ9_min_7cf53_1 : decode cJ9_min_7cf53 1 = .ok (.iload_n 1, 1) := by decide +kernel
theorem dJ9_min_7cf53_2 : decode cJ9_min_7cf53 2 = .ok (.if_icmp .gt 7, 3) := by decide +kernel
theorem dJ9_min_7cf53_5 : decode cJ9_min_7cf53 5 = .ok (.iload_n 0, 1) := by decide +kernel
theorem dJ9_min_7cf53_6 : decode cJ9_min_7cf53 6 = .ok (.goto 4, 3) := by decide +kernel
theorem dJ9_min_7cf53_9 : decode cJ9_min_7cf53 9 = .ok (.iload_n 1, 1) := by decide +kernel
theorem dJ9_min_7cf53_10 : decode cJ9_min_7cf53 10 = .ok (.ireturn, 1) := by decide +kernel
