theorem dX5_init_0 : decode cX5_init 0 = .ok (.aload_n 0, 1) := by decide +kernel
theorem dX5_init_1 : decode cX5_init 1 = .ok (.invokespecial 1, 3) := by decide +kernel
theorem dX5_init_4 : decode cX5_init 4 = .ok (.aload_n 0, 1) := by decide +kernel
theorem dX5_init_5 : decode cX5_init 5 = .ok (.bipush 96, 2) := by decide +kernel
theorem dX5_init_7 : decode cX5_init 7 = .ok (.newarray .int, 2) := by decide +kernel
theorem dX5_init_9 : decode cX5_init 9 = .ok (.putfield 7, 3) := by decide +kernel
theorem dX5_init_12 : decode cX5_init 12 = .ok (.aload_n 0, 1) := by decide +kernel
theorem dX5_init_13 : decode cX5_init 13 = .ok (.bipush 96, 2) := by decide +kernel
theorem dX5_init_15 : decode cX5_init 15 = .ok (.newarray .int, 2) := by decide +kernel
theorem dX5_init_17 : decode cX5_init 17 = .ok (.putfield 13, 3) := by decide +kernel
theorem dX5_init_20 : decode cX5_init 20 = .ok (.aload_n 0, 1) := by decide +kernel
theorem dX5_init_21 : decode cX5_init 21 = .ok (.bipush 96, 2) := by decide +kernel
theorem dX5_init_23 : decode cX5_init 23 = .ok (.newarray .int, 2) := by decide +kernel
theorem dX5_init_25 : decode cX5_init 25 = .ok (.putfield 16, 3) := by decide +kernel
theorem dX5_init_28 : decode cX5_init 28 = .ok (.aload_n 0, 1) := by decide +kernel
theorem dX5_init_29 : decode cX5_init 29 = .ok (.sipush 384, 3) := by decide +kernel
theorem dX5_init_32 : decode cX5_init 32 = .ok (.newarray .int, 2) := by decide +kernel
theorem dX5_init_34 : decode cX5_init 34 = .ok (.putfield 19, 3) := by decide +kernel
theorem dX5_init_37 : decode cX5_init 37 = .ok (.aload_n 0, 1) := by decide +kernel
theorem dX5_init_38 : decode cX5_init 38 = .ok (.bipush 96, 2) := by decide +kernel
theorem dX5_init_40 : decode cX5_init 40 = .ok (.newarray .int, 2) := by decide +kernel
theorem dX5_init_42 : decode cX5_init 42 = .ok (.putfield 22, 3) := by decide +kernel
theorem dX5_init_45 : decode cX5_init 45 = .ok (.aload_n 0, 1) := by decide +kernel
theorem dX5_init_46 : decode cX5_init 46 = .ok (.bipush 60, 2) := by decide +kernel
theorem dX5_init_48 : decode cX5_init 48 = .ok (.newarray .int, 2) := by decide +kernel
theorem dX5_init_50 : decode cX5_init 50 = .ok (.putfield 25, 3) := by decide +kernel
theorem dX5_init_53 : decode cX5_init 53 = .ok (.aload_n 0, 1) := by decide +kernel
theorem dX5_init_54 : decode cX5_init 54 = .ok (.getfield 7, 3) := by decide +kernel
theorem dX5_init_57 : decode cX5_init 57 = .ok (.iconst 3, 1) := by decide +kernel
theorem dX5_init_58 : decode cX5_init 58 = .ok (.iconst 1, 1) := by decide +kernel
theorem dX5_init_59 : decode cX5_init 59 = .ok (.iastore, 1) := by decide +kernel
theorem dX5_init_60 : decode cX5_init 60 = .ok (.aload_n 0, 1) := by decide +kernel
theorem dX5_init_61 : decode cX5_init 61 = .ok (.getfield 7, 3) := by decide +kernel
theorem dX5_init_64 : decode cX5_init 64 = .ok (.iconst 4, 1) := by decide +kernel
theorem dX5_init_65 : decode cX5_init 65 = .ok (.iconst 1, 1) := by decide +kernel
theorem dX5_init_66 : decode cX5_init 66 = .ok (.iastore, 1) := by decide +kernel
theorem dX5_init_67 : decode cX5_init 67 = .ok (.aload_n 0, 1) := by decide +kernel
theorem dX5_init_68 : decode cX5_init 68 = .ok (.getfield 7, 3) := by decide +kernel
theorem dX5_init_71 : decode cX5_init 71 = .ok (.bipush 11, 2) := by decide +kernel
theorem dX5_init_73 : decode cX5_init 73 = .ok (.bipush 10, 2) := by decide +kernel
theorem dX5_init_75 : decode cX5_init 75 = .ok (.iastore, 1) := by decide +kernel
theorem dX5_init_76 : decode cX5_init 76 = .ok (.aload_n 0, 1) := by decide +kernel
theorem dX5_init_77 : decode cX5_init 77 = .ok (.getfield 7, 3) := by decide +kernel
theorem dX5_init_80 : decode cX5_init 80 = .ok (.bipush 19, 2) := by decide +kernel
theorem dX5_init_82 : decode cX5_init 82 = .ok (.bipush 14, 2) := by decide +kernel
theorem dX5_init_84 : decode cX5_init 84 = .ok (.iastore, 1) := by decide +kernel
theorem dX5_init_85 : decode cX5_init 85 = .ok (.aload_n 0, 1) := by decide +kernel
theorem dX5_init_86 : decode cX5_init 86 = .ok (.getfield 7, 3) := by decide +kernel
theorem dX5_init_89 : decode cX5_init 89 = .ok (.bipush 13, 2) := by decide +kernel
theorem dX5_init_91 : decode cX5_init 91 = .ok (.iconst 1, 1) := by decide +kernel
theorem dX5_init_92 : decode cX5_init 92 = .ok (.iastore, 1) := by decide +kernel
theorem dX5_init_93 : decode cX5_init 93 = .ok (.aload_n 0, 1) := by decide +kernel
theorem dX5_init_94 : decode cX5_init 94 = .ok (.getfield 7, 3) := by decide +kernel
theorem dX5_init_97 : decode cX5_init 97 = .ok (.bipush 21, 2) := by decide +kernel
theorem dX5_init_99 : decode cX5_init 99 = .ok (.iconst 1, 1) := by decide +kernel
theorem dX5_init_100 : decode cX5_init 100 = .ok (.iastore, 1) := by decide +kernel
theorem dX5_init_101 : decode cX5_init 101 = .ok (.aload_n 0, 1) := by decide +kernel
theorem dX5_init_102 : decode cX5_init 102 = .ok (.iconst 2, 1) := by decide +kernel
theorem dX5_init_103 : decode cX5_init 103 = .ok (.iconst 1, 1) := by decide +kernel
theorem dX5_init_104 : decode cX5_init 104 = .ok (.invokevirtual 28, 3) := by decide +kernel
theorem dX5_init_107 : decode cX5_init 107 = .ok (.return_, 1) := by decide +kernel
theorem dX5_in_0 : decode cX5_in 0 = .ok (.lload_n 0, 1) := by decide +kernel
theorem dX5_in_1 : decode cX5_in 1 = .ok (.lload_n 2, 1) := by decide +kernel
theorem dX5_in_2 : decode cX5_in 2 = .ok (.lcmp, 1) := by decide +kernel
theorem dX5_in_3 : decode cX5_in 3 = .ok (.ifCond .lt 14, 3) := by decide +kernel
theorem dX5_in_6 : decode cX5_in 6 = .ok (.lload_n 0, 1) := by decide +kernel
theorem dX5_in_7 : decode cX5_in 7 = .ok (.lload 4, 2) := by decide +kernel
theorem dX5_in_9 : decode cX5_in 9 = .ok (.lcmp, 1) := by decide +kernel
theorem dX5_in_10 : decode cX5_in 10 = .ok (.ifCond .gt 7, 3) := by decide +kernel
theorem dX5_in_13 : decode cX5_in 13 = .ok (.iconst 1, 1) := by decide +kernel
theorem dX5_in_14 : decode cX5_in 14 = .ok (.goto 4, 3) := by decide +kernel
theorem dX5_in_17 : decode cX5_in 17 = .ok (.iconst 0, 1) := by decide +kernel
theorem dX5_in_18 : decode cX5_in 18 = .ok (.ireturn, 1) := by decide +kernel
theorem dX5_copy_0 : decode cX5_copy 0 = .ok (.iconst 0, 1) := by decide +kernel
theorem dX5_copy_1 : decode cX5_copy 1 = .ok (.istore_n 2, 1) := by decide +kernel
theorem dX5_copy_2 : decode cX5_copy 2 = .ok (.iload_n 2, 1) := by decide +kernel
theorem dX5_copy_3 : decode cX5_copy 3 = .ok (.bipush 96, 2) := by decide +kernel
theorem dX5_copy_5 : decode cX5_copy 5 = .ok (.if_icmp .ge 15, 3) := by decide +kernel
theorem dX5_copy_8 : decode cX5_copy 8 = .ok (.aload_n 1, 1) := by decide +kernel
theorem dX5_copy_9 : decode cX5_copy 9 = .ok (.iload_n 2, 1) := by decide +kernel
theorem dX5_copy_10 : decode cX5_copy 10 = .ok (.aload_n 0, 1) := by decide +kernel
theorem dX5_copy_11 : decode cX5_copy 11 = .ok (.iload_n 2, 1) := by decide +kernel
theorem dX5_copy_12 : decode cX5_copy 12 = .ok (.iaload, 1) := by decide +kernel
theorem dX5_copy_13 : decode cX5_copy 13 = .ok (.iastore, 1) := by decide +kernel
theorem dX5_copy_14 : decode cX5_copy 14 = .ok (.iinc 2 1, 3) := by decide +kernel
theorem dX5_copy_17 : decode cX5_copy 17 = .ok (.goto (-15), 3) := by decide +kernel
theorem dX5_copy_20 : decode cX5_copy 20 = .ok (.return_, 1) := by decide +kernel
theorem dX5_remember_0 : decode cX5_remember 0 = .ok (.aload_n 0, 1) := by decide +kernel
theorem dX5_remember_1 : decode cX5_remember 1 = .ok (.getfield 7, 3) := by decide +kernel
theorem dX5_remember_4 : decode cX5_remember 4 = .ok (.aload_n 0, 1) := by decide +kernel
theorem dX5_remember_5 : decode cX5_remember 5 = .ok (.getfield 13, 3) := by decide +kernel
theorem dX5_remember_8 : decode cX5_remember 8 = .ok (.invokestatic 32, 3) := by decide +kernel
theorem dX5_remember_11 : decode cX5_remember 11 = .ok (.return_, 1) := by decide +kernel
theorem dX5_acted_0 : decode cX5_acted 0 = .ok (.aload_n 0, 1) := by decide +kernel
theorem dX5_acted_1 : decode cX5_acted 1 = .ok (.getfield 36, 3) := by decide +kernel
theorem dX5_acted_4 : decode cX5_acted 4 = .ok (.iconst 4, 1) := by decide +kernel
theorem dX5_acted_5 : decode cX5_acted 5 = .ok (.if_icmp .ne 43, 3) := by decide +kernel
theorem dX5_acted_8 : decode cX5_acted 8 = .ok (.iconst 0, 1) := by decide +kernel
theorem dX5_acted_9 : decode cX5_acted 9 = .ok (.istore_n 2, 1) := by decide +kernel
theorem dX5_acted_10 : decode cX5_acted 10 = .ok (.iload_n 2, 1) := by decide +kernel
theorem dX5_acted_11 : decode cX5_acted 11 = .ok (.sipush 288, 3) := by decide +kernel
theorem dX5_acted_14 : decode cX5_acted 14 = .ok (.if_icmp .ge 24, 3) := by decide +kernel
theorem dX5_acted_17 : decode cX5_acted 17 = .ok (.aload_n 0, 1) := by decide +kernel
theorem dX5_acted_18 : decode cX5_acted 18 = .ok (.getfield 19, 3) := by decide +kernel
theorem dX5_acted_21 : decode cX5_acted 21 = .ok (.iload_n 2, 1) := by decide +kernel
theorem dX5_acted_22 : decode cX5_acted 22 = .ok (.aload_n 0, 1) := by decide +kernel
theorem dX5_acted_23 : decode cX5_acted 23 = .ok (.getfield 19, 3) := by decide +kernel
theorem dX5_acted_26 : decode cX5_acted 26 = .ok (.iload_n 2, 1) := by decide +kernel
theorem dX5_acted_27 : decode cX5_acted 27 = .ok (.bipush 96, 2) := by decide +kernel
theorem dX5_acted_29 : decode cX5_acted 29 = .ok (.iadd, 1) := by decide +kernel
theorem dX5_acted_30 : decode cX5_acted 30 = .ok (.iaload, 1) := by decide +kernel
theorem dX5_acted_31 : decode cX5_acted 31 = .ok (.iastore, 1) := by decide +kernel
theorem dX5_acted_32 : decode cX5_acted 32 = .ok (.iinc 2 1, 3) := by decide +kernel
theorem dX5_acted_35 : decode cX5_acted 35 = .ok (.goto (-25), 3) := by decide +kernel
theorem dX5_acted_38 : decode cX5_acted 38 = .ok (.aload_n 0, 1) := by decide +kernel
theorem dX5_acted_39 : decode cX5_acted 39 = .ok (.dup, 1) := by decide +kernel
theorem dX5_acted_40 : decode cX5_acted 40 = .ok (.getfield 36, 3) := by decide +kernel
theorem dX5_acted_43 : decode cX5_acted 43 = .ok (.iconst 1, 1) := by decide +kernel
theorem dX5_acted_44 : decode cX5_acted 44 = .ok (.isub, 1) := by decide +kernel
theorem dX5_acted_45 : decode cX5_acted 45 = .ok (.putfield 36, 3) := by decide +kernel
theorem dX5_acted_48 : decode cX5_acted 48 = .ok (.iconst 0, 1) := by decide +kernel
theorem dX5_acted_49 : decode cX5_acted 49 = .ok (.istore_n 2, 1) := by decide +kernel
theorem dX5_acted_50 : decode cX5_acted 50 = .ok (.iload_n 2, 1) := by decide +kernel
theorem dX5_acted_51 : decode cX5_acted 51 = .ok (.bipush 96, 2) := by decide +kernel
theorem dX5_acted_53 : decode cX5_acted 53 = .ok (.if_icmp .ge 29, 3) := by decide +kernel
theorem dX5_acted_56 : decode cX5_acted 56 = .ok (.aload_n 0, 1) := by decide +kernel
theorem dX5_acted_57 : decode cX5_acted 57 = .ok (.getfield 19, 3) := by decide +kernel
theorem dX5_acted_60 : decode cX5_acted 60 = .ok (.bipush 96, 2) := by decide +kernel
theorem dX5_acted_62 : decode cX5_acted 62 = .ok (.aload_n 0, 1) := by decide +kernel
theorem dX5_acted_63 : decode cX5_acted 63 = .ok (.getfield 36, 3) := by decide +kernel
theorem dX5_acted_66 : decode cX5_acted 66 = .ok (.imul, 1) := by decide +kernel
theorem dX5_acted_67 : decode cX5_acted 67 = .ok (.iload_n 2, 1) := by decide +kernel
theorem dX5_acted_68 : decode cX5_acted 68 = .ok (.iadd, 1) := by decide +kernel
theorem dX5_acted_69 : decode cX5_acted 69 = .ok (.aload_n 0, 1) := by decide +kernel
theorem dX5_acted_70 : decode cX5_acted 70 = .ok (.getfield 13, 3) := by decide +kernel
theorem dX5_acted_73 : decode cX5_acted 73 = .ok (.iload_n 2, 1) := by decide +kernel
theorem dX5_acted_74 : decode cX5_acted 74 = .ok (.iaload, 1) := by decide +kernel
theorem dX5_acted_75 : decode cX5_acted 75 = .ok (.iastore, 1) := by decide +kernel
theorem dX5_acted_76 : decode cX5_acted 76 = .ok (.iinc 2 1, 3) := by decide +kernel
theorem dX5_acted_79 : decode cX5_acted 79 = .ok (.goto (-29), 3) := by decide +kernel
theorem dX5_acted_82 : decode cX5_acted 82 = .ok (.aload_n 0, 1) := by decide +kernel
theorem dX5_acted_83 : decode cX5_acted 83 = .ok (.dup, 1) := by decide +kernel
theorem dX5_acted_84 : decode cX5_acted 84 = .ok (.getfield 36, 3) := by decide +kernel
theorem dX5_acted_87 : decode cX5_acted 87 = .ok (.iconst 1, 1) := by decide +kernel
theorem dX5_acted_88 : decode cX5_acted 88 = .ok (.iadd, 1) := by decide +kernel
theorem dX5_acted_89 : decode cX5_acted 89 = .ok (.putfield 36, 3) := by decide +kernel
theorem dX5_acted_92 : decode cX5_acted 92 = .ok (.iload_n 1, 1) := by decide +kernel
theorem dX5_acted_93 : decode cX5_acted 93 = .ok (.ireturn, 1) := by decide +kernel
theorem dX5_isSide_0 : decode cX5_isSide 0 = .ok (.iload_n 0, 1) := by decide +kernel
theorem dX5_isSide_1 : decode cX5_isSide 1 = .ok (.ifCond .eq 8, 3) := by decide +kernel
theorem dX5_isSide_4 : decode cX5_isSide 4 = .ok (.iload_n 0, 1) := by decide +kernel
theorem dX5_isSide_5 : decode cX5_isSide 5 = .ok (.iconst 1, 1) := by decide +kernel
theorem dX5_isSide_6 : decode cX5_isSide 6 = .ok (.if_icmp .ne 7, 3) := by decide +kernel
theorem dX5_isSide_9 : decode cX5_isSide 9 = .ok (.iconst 1, 1) := by decide +kernel
theorem dX5_isSide_10 : decode cX5_isSide 10 = .ok (.goto 4, 3) := by decide +kernel
theorem dX5_isSide_13 : decode cX5_isSide 13 = .ok (.iconst 0, 1) := by decide +kernel
theorem dX5_isSide_14 : decode cX5_isSide 14 = .ok (.ireturn, 1) := by decide +kernel
theorem dX5_of_0 : decode cX5_of 0 = .ok (.aload_n 0, 1) := by decide +kernel
theorem dX5_of_1 : decode cX5_of 1 = .ok (.getfield 7, 3) := by decide +kernel
theorem dX5_of_4 : decode cX5_of 4 = .ok (.bipush 11, 2) := by decide +kernel
theorem dX5_of_6 : decode cX5_of 6 = .ok (.bipush 8, 2) := by decide +kernel
theorem dX5_of_8 : decode cX5_of 8 = .ok (.iload_n 1, 1) := by decide +kernel
theorem dX5_of_9 : decode cX5_of 9 = .ok (.imul, 1) := by decide +kernel
theorem dX5_of_10 : decode cX5_of 10 = .ok (.iadd, 1) := by decide +kernel
theorem dX5_of_11 : decode cX5_of 11 = .ok (.iload_n 2, 1) := by decide +kernel
theorem dX5_of_12 : decode cX5_of 12 = .ok (.iadd, 1) := by decide +kernel
theorem dX5_of_13 : decode cX5_of 13 = .ok (.iaload, 1) := by decide +kernel
theorem dX5_of_14 : decode cX5_of 14 = .ok (.ireturn, 1) := by decide +kernel
theorem dX5_to_0 : decode cX5_to 0 = .ok (.aload_n 0, 1) := by decide +kernel
theorem dX5_to_1 : decode cX5_to 1 = .ok (.getfield 7, 3) := by decide +kernel
theorem dX5_to_4 : decode cX5_to 4 = .ok (.bipush 11, 2) := by decide +kernel
theorem dX5_to_6 : decode cX5_to 6 = .ok (.bipush 8, 2) := by decide +kernel
theorem dX5_to_8 : decode cX5_to 8 = .ok (.iload_n 1, 1) := by decide +kernel
theorem dX5_to_9 : decode cX5_to 9 = .ok (.imul, 1) := by decide +kernel
theorem dX5_to_10 : decode cX5_to 10 = .ok (.iadd, 1) := by decide +kernel
theorem dX5_to_11 : decode cX5_to 11 = .ok (.iload_n 2, 1) := by decide +kernel
theorem dX5_to_12 : decode cX5_to 12 = .ok (.iadd, 1) := by decide +kernel
theorem dX5_to_13 : decode cX5_to 13 = .ok (.iload_n 3, 1) := by decide +kernel
theorem dX5_to_14 : decode cX5_to 14 = .ok (.iastore, 1) := by decide +kernel
theorem dX5_to_15 : decode cX5_to 15 = .ok (.return_, 1) := by decide +kernel
theorem dX5_depth_0 : decode cX5_depth 0 = .ok (.iconst 1, 1) := by decide +kernel
theorem dX5_depth_1 : decode cX5_depth 1 = .ok (.aload_n 0, 1) := by decide +kernel
theorem dX5_depth_2 : decode cX5_depth 2 = .ok (.getfield 7, 3) := by decide +kernel
theorem dX5_depth_5 : decode cX5_depth 5 = .ok (.iconst 0, 1) := by decide +kernel
theorem dX5_depth_6 : decode cX5_depth 6 = .ok (.iaload, 1) := by decide +kernel
theorem dX5_depth_7 : decode cX5_depth 7 = .ok (.ishl, 1) := by decide +kernel
theorem dX5_depth_8 : decode cX5_depth 8 = .ok (.ireturn, 1) := by decide +kernel
theorem dX5_codeOf_0 : decode cX5_codeOf 0 = .ok (.aload_n 0, 1) := by decide +kernel
theorem dX5_codeOf_1 : decode cX5_codeOf 1 = .ok (.getfield 7, 3) := by decide +kernel
theorem dX5_codeOf_4 : decode cX5_codeOf 4 = .ok (.iconst 1, 1) := by decide +kernel
theorem dX5_codeOf_5 : decode cX5_codeOf 5 = .ok (.iaload, 1) := by decide +kernel
theorem dX5_codeOf_6 : decode cX5_codeOf 6 = .ok (.iconst 1, 1) := by decide +kernel
theorem dX5_codeOf_7 : decode cX5_codeOf 7 = .ok (.if_icmp .ne 11, 3) := by decide +kernel
theorem dX5_codeOf_10 : decode cX5_codeOf 10 = .ok (.iload_n 1, 1) := by decide +kernel
theorem dX5_codeOf_11 : decode cX5_codeOf 11 = .ok (.iload_n 1, 1) := by decide +kernel
theorem dX5_codeOf_12 : decode cX5_codeOf 12 = .ok (.iconst 1, 1) := by decide +kernel
theorem dX5_codeOf_13 : decode cX5_codeOf 13 = .ok (.ishr, 1) := by decide +kernel
theorem dX5_codeOf_14 : decode cX5_codeOf 14 = .ok (.ixor, 1) := by decide +kernel
theorem dX5_codeOf_15 : decode cX5_codeOf 15 = .ok (.goto 4, 3) := by decide +kernel
theorem dX5_codeOf_18 : decode cX5_codeOf 18 = .ok (.iload_n 1, 1) := by decide +kernel
theorem dX5_codeOf_19 : decode cX5_codeOf 19 = .ok (.ireturn, 1) := by decide +kernel
theorem dX5_pointerOf_0 : decode cX5_pointerOf 0 = .ok (.aload_n 0, 1) := by decide +kernel
theorem dX5_pointerOf_1 : decode cX5_pointerOf 1 = .ok (.getfield 7, 3) := by decide +kernel
theorem dX5_pointerOf_4 : decode cX5_pointerOf 4 = .ok (.iconst 1, 1) := by decide +kernel
theorem dX5_pointerOf_5 : decode cX5_pointerOf 5 = .ok (.iaload, 1) := by decide +kernel
theorem dX5_pointerOf_6 : decode cX5_pointerOf 6 = .ok (.ifCond .ne 5, 3) := by decide +kernel
theorem dX5_pointerOf_9 : decode cX5_pointerOf 9 = .ok (.iload_n 1, 1) := by decide +kernel
theorem dX5_pointerOf_10 : decode cX5_pointerOf 10 = .ok (.ireturn, 1) := by decide +kernel
theorem dX5_pointerOf_11 : decode cX5_pointerOf 11 = .ok (.iconst 0, 1) := by decide +kernel
theorem dX5_pointerOf_12 : decode cX5_pointerOf 12 = .ok (.istore_n 2, 1) := by decide +kernel
theorem dX5_pointerOf_13 : decode cX5_pointerOf 13 = .ok (.aload_n 0, 1) := by decide +kernel
theorem dX5_pointerOf_14 : decode cX5_pointerOf 14 = .ok (.getfield 7, 3) := by decide +kernel
theorem dX5_pointerOf_17 : decode cX5_pointerOf 17 = .ok (.iconst 0, 1) := by decide +kernel
theorem dX5_pointerOf_18 : decode cX5_pointerOf 18 = .ok (.iaload, 1) := by decide +kernel
theorem dX5_pointerOf_19 : decode cX5_pointerOf 19 = .ok (.istore_n 3, 1) := by decide +kernel
theorem dX5_pointerOf_20 : decode cX5_pointerOf 20 = .ok (.iload_n 3, 1) := by decide +kernel
theorem dX5_pointerOf_21 : decode cX5_pointerOf 21 = .ok (.ifCond .lt 31, 3) := by decide +kernel
theorem dX5_pointerOf_24 : decode cX5_pointerOf 24 = .ok (.iload_n 2, 1) := by decide +kernel
theorem dX5_pointerOf_25 : decode cX5_pointerOf 25 = .ok (.iload_n 3, 1) := by decide +kernel
theorem dX5_pointerOf_26 : decode cX5_pointerOf 26 = .ok (.iconst 1, 1) := by decide +kernel
theorem dX5_pointerOf_27 : decode cX5_pointerOf 27 = .ok (.iadd, 1) := by decide +kernel
theorem dX5_pointerOf_28 : decode cX5_pointerOf 28 = .ok (.ishr, 1) := by decide +kernel
theorem dX5_pointerOf_29 : decode cX5_pointerOf 29 = .ok (.iconst 1, 1) := by decide +kernel
theorem dX5_pointerOf_30 : decode cX5_pointerOf 30 = .ok (.iand, 1) := by decide +kernel
theorem dX5_pointerOf_31 : decode cX5_pointerOf 31 = .ok (.istore 4, 2) := by decide +kernel
theorem dX5_pointerOf_33 : decode cX5_pointerOf 33 = .ok (.iload_n 2, 1) := by decide +kernel
theorem dX5_pointerOf_34 : decode cX5_pointerOf 34 = .ok (.iload_n 1, 1) := by decide +kernel
theorem dX5_pointerOf_35 : decode cX5_pointerOf 35 = .ok (.iload_n 3, 1) := by decide +kernel
theorem dX5_pointerOf_36 : decode cX5_pointerOf 36 = .ok (.ishr, 1) := by decide +kernel
theorem dX5_pointerOf_37 : decode cX5_pointerOf 37 = .ok (.iconst 1, 1) := by decide +kernel
theorem dX5_pointerOf_38 : decode cX5_pointerOf 38 = .ok (.iand, 1) := by decide +kernel
theorem dX5_pointerOf_39 : decode cX5_pointerOf 39 = .ok (.iload 4, 2) := by decide +kernel
theorem dX5_pointerOf_41 : decode cX5_pointerOf 41 = .ok (.ixor, 1) := by decide +kernel
theorem dX5_pointerOf_42 : decode cX5_pointerOf 42 = .ok (.iload_n 3, 1) := by decide +kernel
theorem dX5_pointerOf_43 : decode cX5_pointerOf 43 = .ok (.ishl, 1) := by decide +kernel
theorem dX5_pointerOf_44 : decode cX5_pointerOf 44 = .ok (.ior, 1) := by decide +kernel
theorem dX5_pointerOf_45 : decode cX5_pointerOf 45 = .ok (.istore_n 2, 1) := by decide +kernel
theorem dX5_pointerOf_46 : decode cX5_pointerOf 46 = .ok (.iinc 3 (-1), 3) := by decide +kernel
theorem dX5_pointerOf_49 : decode cX5_pointerOf 49 = .ok (.goto (-29), 3) := by decide +kernel
theorem dX5_pointerOf_52 : decode cX5_pointerOf 52 = .ok (.iload_n 2, 1) := by decide +kernel
theorem dX5_pointerOf_53 : decode cX5_pointerOf 53 = .ok (.ireturn, 1) := by decide +kernel
theorem dX5_around_0 : decode cX5_around 0 = .ok (.iload_n 1, 1) := by decide +kernel
theorem dX5_around_1 : decode cX5_around 1 = .ok (.iconst 2, 1) := by decide +kernel
theorem dX5_around_2 : decode cX5_around 2 = .ok (.aload_n 0, 1) := by decide +kernel
theorem dX5_around_3 : decode cX5_around 3 = .ok (.invokevirtual 40, 3) := by decide +kernel
theorem dX5_around_6 : decode cX5_around 6 = .ok (.imul, 1) := by decide +kernel
theorem dX5_around_7 : decode cX5_around 7 = .ok (.iconst 1, 1) := by decide +kernel
theorem dX5_around_8 : decode cX5_around 8 = .ok (.isub, 1) := by decide +kernel
theorem dX5_around_9 : decode cX5_around 9 = .ok (.iand, 1) := by decide +kernel
theorem dX5_around_10 : decode cX5_around 10 = .ok (.ireturn, 1) := by decide +kernel
theorem dX5_seen_0 : decode cX5_seen 0 = .ok (.aload_n 0, 1) := by decide +kernel
theorem dX5_seen_1 : decode cX5_seen 1 = .ok (.aload_n 0, 1) := by decide +kernel
theorem dX5_seen_2 : decode cX5_seen 2 = .ok (.iload_n 1, 1) := by decide +kernel
theorem dX5_seen_3 : decode cX5_seen 3 = .ok (.iconst 5, 1) := by decide +kernel
theorem dX5_seen_4 : decode cX5_seen 4 = .ok (.invokevirtual 44, 3) := by decide +kernel
theorem dX5_seen_7 : decode cX5_seen 7 = .ok (.invokevirtual 48, 3) := by decide +kernel
theorem dX5_seen_10 : decode cX5_seen 10 = .ok (.ireturn, 1) := by decide +kernel
theorem dX5_fillSeen_0 : decode cX5_fillSeen 0 = .ok (.iload_n 1, 1) := by decide +kernel
theorem dX5_fillSeen_1 : decode cX5_fillSeen 1 = .ok (.ifCond .ne 22, 3) := by decide +kernel
theorem dX5_fillSeen_4 : decode cX5_fillSeen 4 = .ok (.aload_n 0, 1) := by decide +kernel
theorem dX5_fillSeen_5 : decode cX5_fillSeen 5 = .ok (.aload_n 0, 1) := by decide +kernel
theorem dX5_fillSeen_6 : decode cX5_fillSeen 6 = .ok (.iconst 0, 1) := by decide +kernel
theorem dX5_fillSeen_7 : decode cX5_fillSeen 7 = .ok (.iconst 3, 1) := by decide +kernel
theorem dX5_fillSeen_8 : decode cX5_fillSeen 8 = .ok (.invokevirtual 44, 3) := by decide +kernel
theorem dX5_fillSeen_11 : decode cX5_fillSeen 11 = .ok (.aload_n 0, 1) := by decide +kernel
theorem dX5_fillSeen_12 : decode cX5_fillSeen 12 = .ok (.iconst 0, 1) := by decide +kernel
theorem dX5_fillSeen_13 : decode cX5_fillSeen 13 = .ok (.invokevirtual 52, 3) := by decide +kernel
theorem dX5_fillSeen_16 : decode cX5_fillSeen 16 = .ok (.isub, 1) := by decide +kernel
theorem dX5_fillSeen_17 : decode cX5_fillSeen 17 = .ok (.invokevirtual 55, 3) := by decide +kernel
theorem dX5_fillSeen_20 : decode cX5_fillSeen 20 = .ok (.goto 19, 3) := by decide +kernel
theorem dX5_fillSeen_23 : decode cX5_fillSeen 23 = .ok (.aload_n 0, 1) := by decide +kernel
theorem dX5_fillSeen_24 : decode cX5_fillSeen 24 = .ok (.aload_n 0, 1) := by decide +kernel
theorem dX5_fillSeen_25 : decode cX5_fillSeen 25 = .ok (.iconst 1, 1) := by decide +kernel
theorem dX5_fillSeen_26 : decode cX5_fillSeen 26 = .ok (.invokevirtual 52, 3) := by decide +kernel
theorem dX5_fillSeen_29 : decode cX5_fillSeen 29 = .ok (.aload_n 0, 1) := by decide +kernel
theorem dX5_fillSeen_30 : decode cX5_fillSeen 30 = .ok (.iconst 1, 1) := by decide +kernel
theorem dX5_fillSeen_31 : decode cX5_fillSeen 31 = .ok (.iconst 3, 1) := by decide +kernel
theorem dX5_fillSeen_32 : decode cX5_fillSeen 32 = .ok (.invokevirtual 44, 3) := by decide +kernel
theorem dX5_fillSeen_35 : decode cX5_fillSeen 35 = .ok (.isub, 1) := by decide +kernel
theorem dX5_fillSeen_36 : decode cX5_fillSeen 36 = .ok (.invokevirtual 55, 3) := by decide +kernel
theorem dX5_fillSeen_39 : decode cX5_fillSeen 39 = .ok (.ireturn, 1) := by decide +kernel
theorem dX5_seems_0 : decode cX5_seems 0 = .ok (.aload_n 0, 1) := by decide +kernel
theorem dX5_seems_1 : decode cX5_seems 1 = .ok (.iload_n 1, 1) := by decide +kernel
theorem dX5_seems_2 : decode cX5_seems 2 = .ok (.invokevirtual 58, 3) := by decide +kernel
theorem dX5_seems_5 : decode cX5_seems 5 = .ok (.iload_n 1, 1) := by decide +kernel
theorem dX5_seems_6 : decode cX5_seems 6 = .ok (.ifCond .ne 10, 3) := by decide +kernel
theorem dX5_seems_9 : decode cX5_seems 9 = .ok (.aload_n 0, 1) := by decide +kernel
theorem dX5_seems_10 : decode cX5_seems 10 = .ok (.invokevirtual 40, 3) := by decide +kernel
theorem dX5_seems_13 : decode cX5_seems 13 = .ok (.goto 4, 3) := by decide +kernel
theorem dX5_seems_16 : decode cX5_seems 16 = .ok (.iconst 0, 1) := by decide +kernel
theorem dX5_seems_17 : decode cX5_seems 17 = .ok (.if_icmp .ne 7, 3) := by decide +kernel
theorem dX5_seems_20 : decode cX5_seems 20 = .ok (.iconst 1, 1) := by decide +kernel
theorem dX5_seems_21 : decode cX5_seems 21 = .ok (.goto 4, 3) := by decide +kernel
theorem dX5_seems_24 : decode cX5_seems 24 = .ok (.iconst 0, 1) := by decide +kernel
theorem dX5_seems_25 : decode cX5_seems 25 = .ok (.ireturn, 1) := by decide +kernel
theorem dX5_ticksAt_0 : decode cX5_ticksAt 0 = .ok (.aload_n 0, 1) := by decide +kernel
theorem dX5_ticksAt_1 : decode cX5_ticksAt 1 = .ok (.iload_n 1, 1) := by decide +kernel
theorem dX5_ticksAt_2 : decode cX5_ticksAt 2 = .ok (.iconst 2, 1) := by decide +kernel
theorem dX5_ticksAt_3 : decode cX5_ticksAt 3 = .ok (.invokevirtual 44, 3) := by decide +kernel
theorem dX5_ticksAt_6 : decode cX5_ticksAt 6 = .ok (.iconst 1, 1) := by decide +kernel
theorem dX5_ticksAt_7 : decode cX5_ticksAt 7 = .ok (.if_icmp .ne 25, 3) := by decide +kernel
theorem dX5_ticksAt_10 : decode cX5_ticksAt 10 = .ok (.iload_n 2, 1) := by decide +kernel
theorem dX5_ticksAt_11 : decode cX5_ticksAt 11 = .ok (.aload_n 0, 1) := by decide +kernel
theorem dX5_ticksAt_12 : decode cX5_ticksAt 12 = .ok (.iload_n 1, 1) := by decide +kernel
theorem dX5_ticksAt_13 : decode cX5_ticksAt 13 = .ok (.iconst 1, 1) := by decide +kernel
theorem dX5_ticksAt_14 : decode cX5_ticksAt 14 = .ok (.invokevirtual 44, 3) := by decide +kernel
theorem dX5_ticksAt_17 : decode cX5_ticksAt 17 = .ok (.iadd, 1) := by decide +kernel
theorem dX5_ticksAt_18 : decode cX5_ticksAt 18 = .ok (.aload_n 0, 1) := by decide +kernel
theorem dX5_ticksAt_19 : decode cX5_ticksAt 19 = .ok (.iload_n 1, 1) := by decide +kernel
theorem dX5_ticksAt_20 : decode cX5_ticksAt 20 = .ok (.iconst 0, 1) := by decide +kernel
theorem dX5_ticksAt_21 : decode cX5_ticksAt 21 = .ok (.invokevirtual 44, 3) := by decide +kernel
theorem dX5_ticksAt_24 : decode cX5_ticksAt 24 = .ok (.irem, 1) := by decide +kernel
theorem dX5_ticksAt_25 : decode cX5_ticksAt 25 = .ok (.ifCond .ne 7, 3) := by decide +kernel
theorem dX5_ticksAt_28 : decode cX5_ticksAt 28 = .ok (.iconst 1, 1) := by decide +kernel
theorem dX5_ticksAt_29 : decode cX5_ticksAt 29 = .ok (.goto 4, 3) := by decide +kernel
theorem dX5_ticksAt_32 : decode cX5_ticksAt 32 = .ok (.iconst 0, 1) := by decide +kernel
theorem dX5_ticksAt_33 : decode cX5_ticksAt 33 = .ok (.ireturn, 1) := by decide +kernel
theorem dX5_acts_0 : decode cX5_acts 0 = .ok (.iload_n 2, 1) := by decide +kernel
theorem dX5_acts_1 : decode cX5_acts 1 = .ok (.ifCond .eq 29, 3) := by decide +kernel
theorem dX5_acts_4 : decode cX5_acts 4 = .ok (.aload_n 0, 1) := by decide +kernel
theorem dX5_acts_5 : decode cX5_acts 5 = .ok (.iload_n 1, 1) := by decide +kernel
theorem dX5_acts_6 : decode cX5_acts 6 = .ok (.invokevirtual 61, 3) := by decide +kernel
theorem dX5_acts_9 : decode cX5_acts 9 = .ok (.ifCond .ne 21, 3) := by decide +kernel
theorem dX5_acts_12 : decode cX5_acts 12 = .ok (.iload_n 1, 1) := by decide +kernel
theorem dX5_acts_13 : decode cX5_acts 13 = .ok (.iconst 1, 1) := by decide +kernel
theorem dX5_acts_14 : decode cX5_acts 14 = .ok (.if_icmp .eq 12, 3) := by decide +kernel
theorem dX5_acts_17 : decode cX5_acts 17 = .ok (.aload_n 0, 1) := by decide +kernel
theorem dX5_acts_18 : decode cX5_acts 18 = .ok (.getfield 7, 3) := by decide +kernel
theorem dX5_acts_21 : decode cX5_acts 21 = .ok (.iconst 5, 1) := by decide +kernel
theorem dX5_acts_22 : decode cX5_acts 22 = .ok (.iaload, 1) := by decide +kernel
theorem dX5_acts_23 : decode cX5_acts 23 = .ok (.ifCond .le 7, 3) := by decide +kernel
theorem dX5_acts_26 : decode cX5_acts 26 = .ok (.iconst 1, 1) := by decide +kernel
theorem dX5_acts_27 : decode cX5_acts 27 = .ok (.goto 4, 3) := by decide +kernel
theorem dX5_acts_30 : decode cX5_acts 30 = .ok (.iconst 0, 1) := by decide +kernel
theorem dX5_acts_31 : decode cX5_acts 31 = .ok (.ireturn, 1) := by decide +kernel
theorem dX5_sampleOf_0 : decode cX5_sampleOf 0 = .ok (.aload_n 0, 1) := by decide +kernel
theorem dX5_sampleOf_1 : decode cX5_sampleOf 1 = .ok (.iload_n 1, 1) := by decide +kernel
theorem dX5_sampleOf_2 : decode cX5_sampleOf 2 = .ok (.invokevirtual 65, 3) := by decide +kernel
theorem dX5_sampleOf_5 : decode cX5_sampleOf 5 = .ok (.istore_n 3, 1) := by decide +kernel
theorem dX5_sampleOf_6 : decode cX5_sampleOf 6 = .ok (.iload_n 2, 1) := by decide +kernel
theorem dX5_sampleOf_7 : decode cX5_sampleOf 7 = .ok (.ifCond .eq 17, 3) := by decide +kernel
theorem dX5_sampleOf_10 : decode cX5_sampleOf 10 = .ok (.aload_n 0, 1) := by decide +kernel
theorem dX5_sampleOf_11 : decode cX5_sampleOf 11 = .ok (.aload_n 0, 1) := by decide +kernel
theorem dX5_sampleOf_12 : decode cX5_sampleOf 12 = .ok (.iload_n 1, 1) := by decide +kernel
theorem dX5_sampleOf_13 : decode cX5_sampleOf 13 = .ok (.iconst 1, 1) := by decide +kernel
theorem dX5_sampleOf_14 : decode cX5_sampleOf 14 = .ok (.iadd, 1) := by decide +kernel
theorem dX5_sampleOf_15 : decode cX5_sampleOf 15 = .ok (.invokevirtual 55, 3) := by decide +kernel
theorem dX5_sampleOf_18 : decode cX5_sampleOf 18 = .ok (.invokevirtual 65, 3) := by decide +kernel
theorem dX5_sampleOf_21 : decode cX5_sampleOf 21 = .ok (.goto 4, 3) := by decide +kernel
theorem dX5_sampleOf_24 : decode cX5_sampleOf 24 = .ok (.iload_n 3, 1) := by decide +kernel
theorem dX5_sampleOf_25 : decode cX5_sampleOf 25 = .ok (.istore 4, 2) := by decide +kernel
theorem dX5_sampleOf_27 : decode cX5_sampleOf 27 = .ok (.iload_n 3, 1) := by decide +kernel
theorem dX5_sampleOf_28 : decode cX5_sampleOf 28 = .ok (.bipush 21, 2) := by decide +kernel
theorem dX5_sampleOf_30 : decode cX5_sampleOf 30 = .ok (.iand, 1) := by decide +kernel
theorem dX5_sampleOf_31 : decode cX5_sampleOf 31 = .ok (.iload 4, 2) := by decide +kernel
theorem dX5_sampleOf_33 : decode cX5_sampleOf 33 = .ok (.bipush 10, 2) := by decide +kernel
theorem dX5_sampleOf_35 : decode cX5_sampleOf 35 = .ok (.iand, 1) := by decide +kernel
theorem dX5_sampleOf_36 : decode cX5_sampleOf 36 = .ok (.ior, 1) := by decide +kernel
theorem dX5_sampleOf_37 : decode cX5_sampleOf 37 = .ok (.ireturn, 1) := by decide +kernel
theorem dX5_samples_0 : decode cX5_samples 0 = .ok (.aload_n 0, 1) := by decide +kernel
theorem dX5_samples_1 : decode cX5_samples 1 = .ok (.iload_n 1, 1) := by decide +kernel
theorem dX5_samples_2 : decode cX5_samples 2 = .ok (.iconst 5, 1) := by decide +kernel
theorem dX5_samples_3 : decode cX5_samples 3 = .ok (.aload_n 0, 1) := by decide +kernel
theorem dX5_samples_4 : decode cX5_samples 4 = .ok (.iload_n 1, 1) := by decide +kernel
theorem dX5_samples_5 : decode cX5_samples 5 = .ok (.iconst 4, 1) := by decide +kernel
theorem dX5_samples_6 : decode cX5_samples 6 = .ok (.invokevirtual 44, 3) := by decide +kernel
theorem dX5_samples_9 : decode cX5_samples 9 = .ok (.invokevirtual 68, 3) := by decide +kernel
theorem dX5_samples_12 : decode cX5_samples 12 = .ok (.aload_n 0, 1) := by decide +kernel
theorem dX5_samples_13 : decode cX5_samples 13 = .ok (.iload_n 1, 1) := by decide +kernel
theorem dX5_samples_14 : decode cX5_samples 14 = .ok (.iconst 4, 1) := by decide +kernel
theorem dX5_samples_15 : decode cX5_samples 15 = .ok (.iload_n 2, 1) := by decide +kernel
theorem dX5_samples_16 : decode cX5_samples 16 = .ok (.invokevirtual 68, 3) := by decide +kernel
theorem dX5_samples_19 : decode cX5_samples 19 = .ok (.aload_n 0, 1) := by decide +kernel
theorem dX5_samples_20 : decode cX5_samples 20 = .ok (.iload_n 1, 1) := by decide +kernel
theorem dX5_samples_21 : decode cX5_samples 21 = .ok (.bipush 6, 2) := by decide +kernel
theorem dX5_samples_23 : decode cX5_samples 23 = .ok (.aload_n 0, 1) := by decide +kernel
theorem dX5_samples_24 : decode cX5_samples 24 = .ok (.iload_n 1, 1) := by decide +kernel
theorem dX5_samples_25 : decode cX5_samples 25 = .ok (.bipush 6, 2) := by decide +kernel
theorem dX5_samples_27 : decode cX5_samples 27 = .ok (.invokevirtual 44, 3) := by decide +kernel
theorem dX5_samples_30 : decode cX5_samples 30 = .ok (.iconst 1, 1) := by decide +kernel
theorem dX5_samples_31 : decode cX5_samples 31 = .ok (.iadd, 1) := by decide +kernel
theorem dX5_samples_32 : decode cX5_samples 32 = .ok (.invokevirtual 68, 3) := by decide +kernel
theorem dX5_samples_35 : decode cX5_samples 35 = .ok (.aload_n 0, 1) := by decide +kernel
theorem dX5_samples_36 : decode cX5_samples 36 = .ok (.iload_n 1, 1) := by decide +kernel
theorem dX5_samples_37 : decode cX5_samples 37 = .ok (.bipush 7, 2) := by decide +kernel
theorem dX5_samples_39 : decode cX5_samples 39 = .ok (.aload_n 0, 1) := by decide +kernel
theorem dX5_samples_40 : decode cX5_samples 40 = .ok (.iload_n 1, 1) := by decide +kernel
theorem dX5_samples_41 : decode cX5_samples 41 = .ok (.bipush 7, 2) := by decide +kernel
theorem dX5_samples_43 : decode cX5_samples 43 = .ok (.invokevirtual 44, 3) := by decide +kernel
theorem dX5_samples_46 : decode cX5_samples 46 = .ok (.iload_n 3, 1) := by decide +kernel
theorem dX5_samples_47 : decode cX5_samples 47 = .ok (.ifCond .eq 7, 3) := by decide +kernel
theorem dX5_samples_50 : decode cX5_samples 50 = .ok (.iconst 1, 1) := by decide +kernel
theorem dX5_samples_51 : decode cX5_samples 51 = .ok (.goto 4, 3) := by decide +kernel
theorem dX5_samples_54 : decode cX5_samples 54 = .ok (.iconst 0, 1) := by decide +kernel
theorem dX5_samples_55 : decode cX5_samples 55 = .ok (.iadd, 1) := by decide +kernel
theorem dX5_samples_56 : decode cX5_samples 56 = .ok (.invokevirtual 68, 3) := by decide +kernel
theorem dX5_samples_59 : decode cX5_samples 59 = .ok (.return_, 1) := by decide +kernel
theorem dX5_tells_0 : decode cX5_tells 0 = .ok (.bipush 15, 2) := by decide +kernel
theorem dX5_tells_2 : decode cX5_tells 2 = .ok (.istore_n 3, 1) := by decide +kernel
theorem dX5_tells_3 : decode cX5_tells 3 = .ok (.iload_n 3, 1) := by decide +kernel
theorem dX5_tells_4 : decode cX5_tells 4 = .ok (.ifCond .le 29, 3) := by decide +kernel
theorem dX5_tells_7 : decode cX5_tells 7 = .ok (.aload_n 0, 1) := by decide +kernel
theorem dX5_tells_8 : decode cX5_tells 8 = .ok (.getfield 7, 3) := by decide +kernel
theorem dX5_tells_11 : decode cX5_tells 11 = .ok (.bipush 79, 2) := by decide +kernel
theorem dX5_tells_13 : decode cX5_tells 13 = .ok (.iload_n 3, 1) := by decide +kernel
theorem dX5_tells_14 : decode cX5_tells 14 = .ok (.iadd, 1) := by decide +kernel
theorem dX5_tells_15 : decode cX5_tells 15 = .ok (.aload_n 0, 1) := by decide +kernel
theorem dX5_tells_16 : decode cX5_tells 16 = .ok (.getfield 7, 3) := by decide +kernel
theorem dX5_tells_19 : decode cX5_tells 19 = .ok (.bipush 79, 2) := by decide +kernel
theorem dX5_tells_21 : decode cX5_tells 21 = .ok (.iload_n 3, 1) := by decide +kernel
theorem dX5_tells_22 : decode cX5_tells 22 = .ok (.iadd, 1) := by decide +kernel
theorem dX5_tells_23 : decode cX5_tells 23 = .ok (.iconst 1, 1) := by decide +kernel
theorem dX5_tells_24 : decode cX5_tells 24 = .ok (.isub, 1) := by decide +kernel
theorem dX5_tells_25 : decode cX5_tells 25 = .ok (.iaload, 1) := by decide +kernel
theorem dX5_tells_26 : decode cX5_tells 26 = .ok (.iastore, 1) := by decide +kernel
theorem dX5_tells_27 : decode cX5_tells 27 = .ok (.iinc 3 (-1), 3) := by decide +kernel
theorem dX5_tells_30 : decode cX5_tells 30 = .ok (.goto (-27), 3) := by decide +kernel
theorem dX5_tells_33 : decode cX5_tells 33 = .ok (.aload_n 0, 1) := by decide +kernel
theorem dX5_tells_34 : decode cX5_tells 34 = .ok (.getfield 7, 3) := by decide +kernel
theorem dX5_tells_37 : decode cX5_tells 37 = .ok (.bipush 79, 2) := by decide +kernel
theorem dX5_tells_39 : decode cX5_tells 39 = .ok (.iload_n 2, 1) := by decide +kernel
theorem dX5_tells_40 : decode cX5_tells 40 = .ok (.ifCond .eq 7, 3) := by decide +kernel
theorem dX5_tells_43 : decode cX5_tells 43 = .ok (.iload_n 1, 1) := by decide +kernel
theorem dX5_tells_44 : decode cX5_tells 44 = .ok (.goto 7, 3) := by decide +kernel
theorem dX5_tells_47 : decode cX5_tells 47 = .ok (.iload_n 1, 1) := by decide +kernel
theorem dX5_tells_48 : decode cX5_tells 48 = .ok (.bipush 100, 2) := by decide +kernel
theorem dX5_tells_50 : decode cX5_tells 50 = .ok (.iadd, 1) := by decide +kernel
theorem dX5_tells_51 : decode cX5_tells 51 = .ok (.iastore, 1) := by decide +kernel
theorem dX5_tells_52 : decode cX5_tells 52 = .ok (.aload_n 0, 1) := by decide +kernel
theorem dX5_tells_53 : decode cX5_tells 53 = .ok (.getfield 7, 3) := by decide +kernel
theorem dX5_tells_56 : decode cX5_tells 56 = .ok (.bipush 10, 2) := by decide +kernel
theorem dX5_tells_58 : decode cX5_tells 58 = .ok (.dup2, 1) := by decide +kernel
theorem dX5_tells_59 : decode cX5_tells 59 = .ok (.iaload, 1) := by decide +kernel
theorem dX5_tells_60 : decode cX5_tells 60 = .ok (.aload_n 0, 1) := by decide +kernel
theorem dX5_tells_61 : decode cX5_tells 61 = .ok (.getfield 7, 3) := by decide +kernel
theorem dX5_tells_64 : decode cX5_tells 64 = .ok (.bipush 10, 2) := by decide +kernel
theorem dX5_tells_66 : decode cX5_tells 66 = .ok (.iaload, 1) := by decide +kernel
theorem dX5_tells_67 : decode cX5_tells 67 = .ok (.bipush 16, 2) := by decide +kernel
theorem dX5_tells_69 : decode cX5_tells 69 = .ok (.if_icmp .ge 7, 3) := by decide +kernel
theorem dX5_tells_72 : decode cX5_tells 72 = .ok (.iconst 1, 1) := by decide +kernel
theorem dX5_tells_73 : decode cX5_tells 73 = .ok (.goto 4, 3) := by decide +kernel
theorem dX5_tells_76 : decode cX5_tells 76 = .ok (.iconst 0, 1) := by decide +kernel
theorem dX5_tells_77 : decode cX5_tells 77 = .ok (.iadd, 1) := by decide +kernel
theorem dX5_tells_78 : decode cX5_tells 78 = .ok (.iastore, 1) := by decide +kernel
theorem dX5_tells_79 : decode cX5_tells 79 = .ok (.return_, 1) := by decide +kernel
theorem dX5_takes_0 : decode cX5_takes 0 = .ok (.aload_n 0, 1) := by decide +kernel
theorem dX5_takes_1 : decode cX5_takes 1 = .ok (.iconst 1, 1) := by decide +kernel
theorem dX5_takes_2 : decode cX5_takes 2 = .ok (.iconst 3, 1) := by decide +kernel
theorem dX5_takes_3 : decode cX5_takes 3 = .ok (.invokevirtual 44, 3) := by decide +kernel
theorem dX5_takes_6 : decode cX5_takes 6 = .ok (.aload_n 0, 1) := by decide +kernel
theorem dX5_takes_7 : decode cX5_takes 7 = .ok (.invokevirtual 40, 3) := by decide +kernel
theorem dX5_takes_10 : decode cX5_takes 10 = .ok (.iconst 1, 1) := by decide +kernel
theorem dX5_takes_11 : decode cX5_takes 11 = .ok (.isub, 1) := by decide +kernel
theorem dX5_takes_12 : decode cX5_takes 12 = .ok (.iand, 1) := by decide +kernel
theorem dX5_takes_13 : decode cX5_takes 13 = .ok (.istore_n 1, 1) := by decide +kernel
theorem dX5_takes_14 : decode cX5_takes 14 = .ok (.aload_n 0, 1) := by decide +kernel
theorem dX5_takes_15 : decode cX5_takes 15 = .ok (.getfield 7, 3) := by decide +kernel
theorem dX5_takes_18 : decode cX5_takes 18 = .ok (.bipush 63, 2) := by decide +kernel
theorem dX5_takes_20 : decode cX5_takes 20 = .ok (.iload_n 1, 1) := by decide +kernel
theorem dX5_takes_21 : decode cX5_takes 21 = .ok (.iadd, 1) := by decide +kernel
theorem dX5_takes_22 : decode cX5_takes 22 = .ok (.iaload, 1) := by decide +kernel
theorem dX5_takes_23 : decode cX5_takes 23 = .ok (.aload_n 0, 1) := by decide +kernel
theorem dX5_takes_24 : decode cX5_takes 24 = .ok (.getfield 7, 3) := by decide +kernel
theorem dX5_takes_27 : decode cX5_takes 27 = .ok (.bipush 7, 2) := by decide +kernel
theorem dX5_takes_29 : decode cX5_takes 29 = .ok (.iaload, 1) := by decide +kernel
theorem dX5_takes_30 : decode cX5_takes 30 = .ok (.if_icmp .ne 7, 3) := by decide +kernel
theorem dX5_takes_33 : decode cX5_takes 33 = .ok (.iconst 1, 1) := by decide +kernel
theorem dX5_takes_34 : decode cX5_takes 34 = .ok (.goto 4, 3) := by decide +kernel
theorem dX5_takes_37 : decode cX5_takes 37 = .ok (.iconst 0, 1) := by decide +kernel
theorem dX5_takes_38 : decode cX5_takes 38 = .ok (.istore_n 2, 1) := by decide +kernel
theorem dX5_takes_39 : decode cX5_takes 39 = .ok (.aload_n 0, 1) := by decide +kernel
theorem dX5_takes_40 : decode cX5_takes 40 = .ok (.aload_n 0, 1) := by decide +kernel
theorem dX5_takes_41 : decode cX5_takes 41 = .ok (.getfield 7, 3) := by decide +kernel
theorem dX5_takes_44 : decode cX5_takes 44 = .ok (.bipush 47, 2) := by decide +kernel
theorem dX5_takes_46 : decode cX5_takes 46 = .ok (.iload_n 1, 1) := by decide +kernel
theorem dX5_takes_47 : decode cX5_takes 47 = .ok (.iadd, 1) := by decide +kernel
theorem dX5_takes_48 : decode cX5_takes 48 = .ok (.iaload, 1) := by decide +kernel
theorem dX5_takes_49 : decode cX5_takes 49 = .ok (.iload_n 2, 1) := by decide +kernel
theorem dX5_takes_50 : decode cX5_takes 50 = .ok (.invokevirtual 72, 3) := by decide +kernel
theorem dX5_takes_53 : decode cX5_takes 53 = .ok (.aload_n 0, 1) := by decide +kernel
theorem dX5_takes_54 : decode cX5_takes 54 = .ok (.getfield 7, 3) := by decide +kernel
theorem dX5_takes_57 : decode cX5_takes 57 = .ok (.bipush 7, 2) := by decide +kernel
theorem dX5_takes_59 : decode cX5_takes 59 = .ok (.dup2, 1) := by decide +kernel
theorem dX5_takes_60 : decode cX5_takes 60 = .ok (.iaload, 1) := by decide +kernel
theorem dX5_takes_61 : decode cX5_takes 61 = .ok (.iconst 1, 1) := by decide +kernel
theorem dX5_takes_62 : decode cX5_takes 62 = .ok (.iadd, 1) := by decide +kernel
theorem dX5_takes_63 : decode cX5_takes 63 = .ok (.iastore, 1) := by decide +kernel
theorem dX5_takes_64 : decode cX5_takes 64 = .ok (.aload_n 0, 1) := by decide +kernel
theorem dX5_takes_65 : decode cX5_takes 65 = .ok (.getfield 7, 3) := by decide +kernel
theorem dX5_takes_68 : decode cX5_takes 68 = .ok (.iload_n 2, 1) := by decide +kernel
theorem dX5_takes_69 : decode cX5_takes 69 = .ok (.ifCond .eq 8, 3) := by decide +kernel
theorem dX5_takes_72 : decode cX5_takes 72 = .ok (.bipush 8, 2) := by decide +kernel
theorem dX5_takes_74 : decode cX5_takes 74 = .ok (.goto 5, 3) := by decide +kernel
theorem dX5_takes_77 : decode cX5_takes 77 = .ok (.bipush 9, 2) := by decide +kernel
theorem dX5_takes_79 : decode cX5_takes 79 = .ok (.dup2, 1) := by decide +kernel
theorem dX5_takes_80 : decode cX5_takes 80 = .ok (.iaload, 1) := by decide +kernel
theorem dX5_takes_81 : decode cX5_takes 81 = .ok (.iconst 1, 1) := by decide +kernel
theorem dX5_takes_82 : decode cX5_takes 82 = .ok (.iadd, 1) := by decide +kernel
theorem dX5_takes_83 : decode cX5_takes 83 = .ok (.iastore, 1) := by decide +kernel
theorem dX5_takes_84 : decode cX5_takes 84 = .ok (.aload_n 0, 1) := by decide +kernel
theorem dX5_takes_85 : decode cX5_takes 85 = .ok (.iconst 1, 1) := by decide +kernel
theorem dX5_takes_86 : decode cX5_takes 86 = .ok (.iconst 3, 1) := by decide +kernel
theorem dX5_takes_87 : decode cX5_takes 87 = .ok (.aload_n 0, 1) := by decide +kernel
theorem dX5_takes_88 : decode cX5_takes 88 = .ok (.aload_n 0, 1) := by decide +kernel
theorem dX5_takes_89 : decode cX5_takes 89 = .ok (.iconst 1, 1) := by decide +kernel
theorem dX5_takes_90 : decode cX5_takes 90 = .ok (.iconst 3, 1) := by decide +kernel
theorem dX5_takes_91 : decode cX5_takes 91 = .ok (.invokevirtual 44, 3) := by decide +kernel
theorem dX5_takes_94 : decode cX5_takes 94 = .ok (.iconst 1, 1) := by decide +kernel
theorem dX5_takes_95 : decode cX5_takes 95 = .ok (.iadd, 1) := by decide +kernel
theorem dX5_takes_96 : decode cX5_takes 96 = .ok (.invokevirtual 55, 3) := by decide +kernel
theorem dX5_takes_99 : decode cX5_takes 99 = .ok (.invokevirtual 68, 3) := by decide +kernel
theorem dX5_takes_102 : decode cX5_takes 102 = .ok (.return_, 1) := by decide +kernel
theorem dX5_puts_0 : decode cX5_puts 0 = .ok (.aload_n 0, 1) := by decide +kernel
theorem dX5_puts_1 : decode cX5_puts 1 = .ok (.iconst 0, 1) := by decide +kernel
theorem dX5_puts_2 : decode cX5_puts 2 = .ok (.iconst 3, 1) := by decide +kernel
theorem dX5_puts_3 : decode cX5_puts 3 = .ok (.invokevirtual 44, 3) := by decide +kernel
theorem dX5_puts_6 : decode cX5_puts 6 = .ok (.aload_n 0, 1) := by decide +kernel
theorem dX5_puts_7 : decode cX5_puts 7 = .ok (.invokevirtual 40, 3) := by decide +kernel
theorem dX5_puts_10 : decode cX5_puts 10 = .ok (.iconst 1, 1) := by decide +kernel
theorem dX5_puts_11 : decode cX5_puts 11 = .ok (.isub, 1) := by decide +kernel
theorem dX5_puts_12 : decode cX5_puts 12 = .ok (.iand, 1) := by decide +kernel
theorem dX5_puts_13 : decode cX5_puts 13 = .ok (.istore_n 1, 1) := by decide +kernel
theorem dX5_puts_14 : decode cX5_puts 14 = .ok (.aload_n 0, 1) := by decide +kernel
theorem dX5_puts_15 : decode cX5_puts 15 = .ok (.getfield 7, 3) := by decide +kernel
theorem dX5_puts_18 : decode cX5_puts 18 = .ok (.bipush 47, 2) := by decide +kernel
theorem dX5_puts_20 : decode cX5_puts 20 = .ok (.iload_n 1, 1) := by decide +kernel
theorem dX5_puts_21 : decode cX5_puts 21 = .ok (.iadd, 1) := by decide +kernel
theorem dX5_puts_22 : decode cX5_puts 22 = .ok (.aload_n 0, 1) := by decide +kernel
theorem dX5_puts_23 : decode cX5_puts 23 = .ok (.getfield 7, 3) := by decide +kernel
theorem dX5_puts_26 : decode cX5_puts 26 = .ok (.bipush 27, 2) := by decide +kernel
theorem dX5_puts_28 : decode cX5_puts 28 = .ok (.iaload, 1) := by decide +kernel
theorem dX5_puts_29 : decode cX5_puts 29 = .ok (.iastore, 1) := by decide +kernel
theorem dX5_puts_30 : decode cX5_puts 30 = .ok (.aload_n 0, 1) := by decide +kernel
theorem dX5_puts_31 : decode cX5_puts 31 = .ok (.getfield 7, 3) := by decide +kernel
theorem dX5_puts_34 : decode cX5_puts 34 = .ok (.bipush 63, 2) := by decide +kernel
theorem dX5_puts_36 : decode cX5_puts 36 = .ok (.iload_n 1, 1) := by decide +kernel
theorem dX5_puts_37 : decode cX5_puts 37 = .ok (.iadd, 1) := by decide +kernel
theorem dX5_puts_38 : decode cX5_puts 38 = .ok (.aload_n 0, 1) := by decide +kernel
theorem dX5_puts_39 : decode cX5_puts 39 = .ok (.getfield 7, 3) := by decide +kernel
theorem dX5_puts_42 : decode cX5_puts 42 = .ok (.bipush 6, 2) := by decide +kernel
theorem dX5_puts_44 : decode cX5_puts 44 = .ok (.iaload, 1) := by decide +kernel
theorem dX5_puts_45 : decode cX5_puts 45 = .ok (.iastore, 1) := by decide +kernel
theorem dX5_puts_46 : decode cX5_puts 46 = .ok (.aload_n 0, 1) := by decide +kernel
theorem dX5_puts_47 : decode cX5_puts 47 = .ok (.getfield 7, 3) := by decide +kernel
theorem dX5_puts_50 : decode cX5_puts 50 = .ok (.bipush 6, 2) := by decide +kernel
theorem dX5_puts_52 : decode cX5_puts 52 = .ok (.dup2, 1) := by decide +kernel
theorem dX5_puts_53 : decode cX5_puts 53 = .ok (.iaload, 1) := by decide +kernel
theorem dX5_puts_54 : decode cX5_puts 54 = .ok (.iconst 1, 1) := by decide +kernel
theorem dX5_puts_55 : decode cX5_puts 55 = .ok (.iadd, 1) := by decide +kernel
theorem dX5_puts_56 : decode cX5_puts 56 = .ok (.iastore, 1) := by decide +kernel
theorem dX5_puts_57 : decode cX5_puts 57 = .ok (.aload_n 0, 1) := by decide +kernel
theorem dX5_puts_58 : decode cX5_puts 58 = .ok (.getfield 7, 3) := by decide +kernel
theorem dX5_puts_61 : decode cX5_puts 61 = .ok (.iconst 5, 1) := by decide +kernel
theorem dX5_puts_62 : decode cX5_puts 62 = .ok (.dup2, 1) := by decide +kernel
theorem dX5_puts_63 : decode cX5_puts 63 = .ok (.iaload, 1) := by decide +kernel
theorem dX5_puts_64 : decode cX5_puts 64 = .ok (.iconst 1, 1) := by decide +kernel
theorem dX5_puts_65 : decode cX5_puts 65 = .ok (.isub, 1) := by decide +kernel
theorem dX5_puts_66 : decode cX5_puts 66 = .ok (.iastore, 1) := by decide +kernel
theorem dX5_puts_67 : decode cX5_puts 67 = .ok (.iconst 0, 1) := by decide +kernel
theorem dX5_puts_68 : decode cX5_puts 68 = .ok (.istore_n 2, 1) := by decide +kernel
theorem dX5_puts_69 : decode cX5_puts 69 = .ok (.iload_n 2, 1) := by decide +kernel
theorem dX5_puts_70 : decode cX5_puts 70 = .ok (.aload_n 0, 1) := by decide +kernel
theorem dX5_puts_71 : decode cX5_puts 71 = .ok (.getfield 7, 3) := by decide +kernel
theorem dX5_puts_74 : decode cX5_puts 74 = .ok (.iconst 5, 1) := by decide +kernel
theorem dX5_puts_75 : decode cX5_puts 75 = .ok (.iaload, 1) := by decide +kernel
theorem dX5_puts_76 : decode cX5_puts 76 = .ok (.if_icmp .ge 29, 3) := by decide +kernel
theorem dX5_puts_79 : decode cX5_puts 79 = .ok (.aload_n 0, 1) := by decide +kernel
theorem dX5_puts_80 : decode cX5_puts 80 = .ok (.getfield 7, 3) := by decide +kernel
theorem dX5_puts_83 : decode cX5_puts 83 = .ok (.bipush 27, 2) := by decide +kernel
theorem dX5_puts_85 : decode cX5_puts 85 = .ok (.iload_n 2, 1) := by decide +kernel
theorem dX5_puts_86 : decode cX5_puts 86 = .ok (.iadd, 1) := by decide +kernel
theorem dX5_puts_87 : decode cX5_puts 87 = .ok (.aload_n 0, 1) := by decide +kernel
theorem dX5_puts_88 : decode cX5_puts 88 = .ok (.getfield 7, 3) := by decide +kernel
theorem dX5_puts_91 : decode cX5_puts 91 = .ok (.bipush 27, 2) := by decide +kernel
theorem dX5_puts_93 : decode cX5_puts 93 = .ok (.iload_n 2, 1) := by decide +kernel
theorem dX5_puts_94 : decode cX5_puts 94 = .ok (.iadd, 1) := by decide +kernel
theorem dX5_puts_95 : decode cX5_puts 95 = .ok (.iconst 1, 1) := by decide +kernel
theorem dX5_puts_96 : decode cX5_puts 96 = .ok (.iadd, 1) := by decide +kernel
theorem dX5_puts_97 : decode cX5_puts 97 = .ok (.iaload, 1) := by decide +kernel
theorem dX5_puts_98 : decode cX5_puts 98 = .ok (.iastore, 1) := by decide +kernel
theorem dX5_puts_99 : decode cX5_puts 99 = .ok (.iinc 2 1, 3) := by decide +kernel
theorem dX5_puts_102 : decode cX5_puts 102 = .ok (.goto (-33), 3) := by decide +kernel
theorem dX5_puts_105 : decode cX5_puts 105 = .ok (.aload_n 0, 1) := by decide +kernel
theorem dX5_puts_106 : decode cX5_puts 106 = .ok (.getfield 7, 3) := by decide +kernel
theorem dX5_puts_109 : decode cX5_puts 109 = .ok (.bipush 27, 2) := by decide +kernel
theorem dX5_puts_111 : decode cX5_puts 111 = .ok (.aload_n 0, 1) := by decide +kernel
theorem dX5_puts_112 : decode cX5_puts 112 = .ok (.getfield 7, 3) := by decide +kernel
theorem dX5_puts_115 : decode cX5_puts 115 = .ok (.iconst 5, 1) := by decide +kernel
theorem dX5_puts_116 : decode cX5_puts 116 = .ok (.iaload, 1) := by decide +kernel
theorem dX5_puts_117 : decode cX5_puts 117 = .ok (.iadd, 1) := by decide +kernel
theorem dX5_puts_118 : decode cX5_puts 118 = .ok (.iconst 0, 1) := by decide +kernel
theorem dX5_puts_119 : decode cX5_puts 119 = .ok (.iastore, 1) := by decide +kernel
theorem dX5_puts_120 : decode cX5_puts 120 = .ok (.aload_n 0, 1) := by decide +kernel
theorem dX5_puts_121 : decode cX5_puts 121 = .ok (.iconst 0, 1) := by decide +kernel
theorem dX5_puts_122 : decode cX5_puts 122 = .ok (.iconst 3, 1) := by decide +kernel
theorem dX5_puts_123 : decode cX5_puts 123 = .ok (.aload_n 0, 1) := by decide +kernel
theorem dX5_puts_124 : decode cX5_puts 124 = .ok (.aload_n 0, 1) := by decide +kernel
theorem dX5_puts_125 : decode cX5_puts 125 = .ok (.iconst 0, 1) := by decide +kernel
theorem dX5_puts_126 : decode cX5_puts 126 = .ok (.iconst 3, 1) := by decide +kernel
theorem dX5_puts_127 : decode cX5_puts 127 = .ok (.invokevirtual 44, 3) := by decide +kernel
theorem dX5_puts_130 : decode cX5_puts 130 = .ok (.iconst 1, 1) := by decide +kernel
theorem dX5_puts_131 : decode cX5_puts 131 = .ok (.iadd, 1) := by decide +kernel
theorem dX5_puts_132 : decode cX5_puts 132 = .ok (.invokevirtual 55, 3) := by decide +kernel
theorem dX5_puts_135 : decode cX5_puts 135 = .ok (.invokevirtual 68, 3) := by decide +kernel
theorem dX5_puts_138 : decode cX5_puts 138 = .ok (.return_, 1) := by decide +kernel
theorem dX5_passes_0 : decode cX5_passes 0 = .ok (.aload_n 0, 1) := by decide +kernel
theorem dX5_passes_1 : decode cX5_passes 1 = .ok (.getfield 7, 3) := by decide +kernel
theorem dX5_passes_4 : decode cX5_passes 4 = .ok (.iconst 2, 1) := by decide +kernel
theorem dX5_passes_5 : decode cX5_passes 5 = .ok (.iaload, 1) := by decide +kernel
theorem dX5_passes_6 : decode cX5_passes 6 = .ok (.iconst 1, 1) := by decide +kernel
theorem dX5_passes_7 : decode cX5_passes 7 = .ok (.iadd, 1) := by decide +kernel
theorem dX5_passes_8 : decode cX5_passes 8 = .ok (.istore_n 1, 1) := by decide +kernel
theorem dX5_passes_9 : decode cX5_passes 9 = .ok (.aload_n 0, 1) := by decide +kernel
theorem dX5_passes_10 : decode cX5_passes 10 = .ok (.iconst 0, 1) := by decide +kernel
theorem dX5_passes_11 : decode cX5_passes 11 = .ok (.iload_n 1, 1) := by decide +kernel
theorem dX5_passes_12 : decode cX5_passes 12 = .ok (.invokevirtual 76, 3) := by decide +kernel
theorem dX5_passes_15 : decode cX5_passes 15 = .ok (.istore_n 2, 1) := by decide +kernel
theorem dX5_passes_16 : decode cX5_passes 16 = .ok (.aload_n 0, 1) := by decide +kernel
theorem dX5_passes_17 : decode cX5_passes 17 = .ok (.iconst 1, 1) := by decide +kernel
theorem dX5_passes_18 : decode cX5_passes 18 = .ok (.iload_n 1, 1) := by decide +kernel
theorem dX5_passes_19 : decode cX5_passes 19 = .ok (.invokevirtual 76, 3) := by decide +kernel
theorem dX5_passes_22 : decode cX5_passes 22 = .ok (.istore_n 3, 1) := by decide +kernel
theorem dX5_passes_23 : decode cX5_passes 23 = .ok (.aload_n 0, 1) := by decide +kernel
theorem dX5_passes_24 : decode cX5_passes 24 = .ok (.iconst 0, 1) := by decide +kernel
theorem dX5_passes_25 : decode cX5_passes 25 = .ok (.iload_n 2, 1) := by decide +kernel
theorem dX5_passes_26 : decode cX5_passes 26 = .ok (.invokevirtual 80, 3) := by decide +kernel
theorem dX5_passes_29 : decode cX5_passes 29 = .ok (.istore 4, 2) := by decide +kernel
theorem dX5_passes_31 : decode cX5_passes 31 = .ok (.aload_n 0, 1) := by decide +kernel
theorem dX5_passes_32 : decode cX5_passes 32 = .ok (.iconst 1, 1) := by decide +kernel
theorem dX5_passes_33 : decode cX5_passes 33 = .ok (.iload_n 3, 1) := by decide +kernel
theorem dX5_passes_34 : decode cX5_passes 34 = .ok (.invokevirtual 80, 3) := by decide +kernel
theorem dX5_passes_37 : decode cX5_passes 37 = .ok (.istore 5, 2) := by decide +kernel
theorem dX5_passes_39 : decode cX5_passes 39 = .ok (.iload_n 2, 1) := by decide +kernel
theorem dX5_passes_40 : decode cX5_passes 40 = .ok (.ifCond .eq 21, 3) := by decide +kernel
theorem dX5_passes_43 : decode cX5_passes 43 = .ok (.iload 4, 2) := by decide +kernel
theorem dX5_passes_45 : decode cX5_passes 45 = .ok (.ifCond .ne 16, 3) := by decide +kernel
theorem dX5_passes_48 : decode cX5_passes 48 = .ok (.aload_n 0, 1) := by decide +kernel
theorem dX5_passes_49 : decode cX5_passes 49 = .ok (.getfield 7, 3) := by decide +kernel
theorem dX5_passes_52 : decode cX5_passes 52 = .ok (.iconst 5, 1) := by decide +kernel
theorem dX5_passes_53 : decode cX5_passes 53 = .ok (.iaload, 1) := by decide +kernel
theorem dX5_passes_54 : decode cX5_passes 54 = .ok (.ifCond .le 7, 3) := by decide +kernel
theorem dX5_passes_57 : decode cX5_passes 57 = .ok (.iconst 1, 1) := by decide +kernel
theorem dX5_passes_58 : decode cX5_passes 58 = .ok (.goto 4, 3) := by decide +kernel
theorem dX5_passes_61 : decode cX5_passes 61 = .ok (.iconst 0, 1) := by decide +kernel
theorem dX5_passes_62 : decode cX5_passes 62 = .ok (.istore 6, 2) := by decide +kernel
theorem dX5_passes_64 : decode cX5_passes 64 = .ok (.aload_n 0, 1) := by decide +kernel
theorem dX5_passes_65 : decode cX5_passes 65 = .ok (.aload_n 0, 1) := by decide +kernel
theorem dX5_passes_66 : decode cX5_passes 66 = .ok (.iconst 1, 1) := by decide +kernel
theorem dX5_passes_67 : decode cX5_passes 67 = .ok (.iconst 3, 1) := by decide +kernel
theorem dX5_passes_68 : decode cX5_passes 68 = .ok (.invokevirtual 44, 3) := by decide +kernel
theorem dX5_passes_71 : decode cX5_passes 71 = .ok (.iload 5, 2) := by decide +kernel
theorem dX5_passes_73 : decode cX5_passes 73 = .ok (.invokevirtual 84, 3) := by decide +kernel
theorem dX5_passes_76 : decode cX5_passes 76 = .ok (.istore 7, 2) := by decide +kernel
theorem dX5_passes_78 : decode cX5_passes 78 = .ok (.aload_n 0, 1) := by decide +kernel
theorem dX5_passes_79 : decode cX5_passes 79 = .ok (.aload_n 0, 1) := by decide +kernel
theorem dX5_passes_80 : decode cX5_passes 80 = .ok (.iconst 0, 1) := by decide +kernel
theorem dX5_passes_81 : decode cX5_passes 81 = .ok (.iconst 3, 1) := by decide +kernel
theorem dX5_passes_82 : decode cX5_passes 82 = .ok (.invokevirtual 44, 3) := by decide +kernel
theorem dX5_passes_85 : decode cX5_passes 85 = .ok (.iload 4, 2) := by decide +kernel
theorem dX5_passes_87 : decode cX5_passes 87 = .ok (.invokevirtual 84, 3) := by decide +kernel
theorem dX5_passes_90 : decode cX5_passes 90 = .ok (.istore 8, 2) := by decide +kernel
theorem dX5_passes_92 : decode cX5_passes 92 = .ok (.aload_n 0, 1) := by decide +kernel
theorem dX5_passes_93 : decode cX5_passes 93 = .ok (.getfield 7, 3) := by decide +kernel
theorem dX5_passes_96 : decode cX5_passes 96 = .ok (.iconst 2, 1) := by decide +kernel
theorem dX5_passes_97 : decode cX5_passes 97 = .ok (.iload_n 1, 1) := by decide +kernel
theorem dX5_passes_98 : decode cX5_passes 98 = .ok (.iastore, 1) := by decide +kernel
theorem dX5_passes_99 : decode cX5_passes 99 = .ok (.iload_n 2, 1) := by decide +kernel
theorem dX5_passes_100 : decode cX5_passes 100 = .ok (.ifCond .eq 12, 3) := by decide +kernel
theorem dX5_passes_103 : decode cX5_passes 103 = .ok (.aload_n 0, 1) := by decide +kernel
theorem dX5_passes_104 : decode cX5_passes 104 = .ok (.iconst 0, 1) := by decide +kernel
theorem dX5_passes_105 : decode cX5_passes 105 = .ok (.iload 7, 2) := by decide +kernel
theorem dX5_passes_107 : decode cX5_passes 107 = .ok (.iload 5, 2) := by decide +kernel
theorem dX5_passes_109 : decode cX5_passes 109 = .ok (.invokevirtual 88, 3) := by decide +kernel
theorem dX5_passes_112 : decode cX5_passes 112 = .ok (.iload_n 3, 1) := by decide +kernel
theorem dX5_passes_113 : decode cX5_passes 113 = .ok (.ifCond .eq 12, 3) := by decide +kernel
theorem dX5_passes_116 : decode cX5_passes 116 = .ok (.aload_n 0, 1) := by decide +kernel
theorem dX5_passes_117 : decode cX5_passes 117 = .ok (.iconst 1, 1) := by decide +kernel
theorem dX5_passes_118 : decode cX5_passes 118 = .ok (.iload 8, 2) := by decide +kernel
theorem dX5_passes_120 : decode cX5_passes 120 = .ok (.iload 4, 2) := by decide +kernel
theorem dX5_passes_122 : decode cX5_passes 122 = .ok (.invokevirtual 88, 3) := by decide +kernel
theorem dX5_passes_125 : decode cX5_passes 125 = .ok (.iload 5, 2) := by decide +kernel
theorem dX5_passes_127 : decode cX5_passes 127 = .ok (.ifCond .eq 7, 3) := by decide +kernel
theorem dX5_passes_130 : decode cX5_passes 130 = .ok (.aload_n 0, 1) := by decide +kernel
theorem dX5_passes_131 : decode cX5_passes 131 = .ok (.invokevirtual 92, 3) := by decide +kernel
theorem dX5_passes_134 : decode cX5_passes 134 = .ok (.iload 4, 2) := by decide +kernel
theorem dX5_passes_136 : decode cX5_passes 136 = .ok (.ifCond .eq 7, 3) := by decide +kernel
theorem dX5_passes_139 : decode cX5_passes 139 = .ok (.aload_n 0, 1) := by decide +kernel
theorem dX5_passes_140 : decode cX5_passes 140 = .ok (.invokevirtual 95, 3) := by decide +kernel
theorem dX5_passes_143 : decode cX5_passes 143 = .ok (.iload 6, 2) := by decide +kernel
theorem dX5_passes_145 : decode cX5_passes 145 = .ok (.ireturn, 1) := by decide +kernel
theorem dX5_passMany_0 : decode cX5_passMany 0 = .ok (.iconst 0, 1) := by decide +kernel
theorem dX5_passMany_1 : decode cX5_passMany 1 = .ok (.istore_n 2, 1) := by decide +kernel
theorem dX5_passMany_2 : decode cX5_passMany 2 = .ok (.iload_n 2, 1) := by decide +kernel
theorem dX5_passMany_3 : decode cX5_passMany 3 = .ok (.iload_n 1, 1) := by decide +kernel
theorem dX5_passMany_4 : decode cX5_passMany 4 = .ok (.if_icmp .ge 14, 3) := by decide +kernel
theorem dX5_passMany_7 : decode cX5_passMany 7 = .ok (.aload_n 0, 1) := by decide +kernel
theorem dX5_passMany_8 : decode cX5_passMany 8 = .ok (.invokevirtual 98, 3) := by decide +kernel
theorem dX5_passMany_11 : decode cX5_passMany 11 = .ok (.pop, 1) := by decide +kernel
theorem dX5_passMany_12 : decode cX5_passMany 12 = .ok (.iinc 2 1, 3) := by decide +kernel
theorem dX5_passMany_15 : decode cX5_passMany 15 = .ok (.goto (-13), 3) := by decide +kernel
theorem dX5_passMany_18 : decode cX5_passMany 18 = .ok (.return_, 1) := by decide +kernel
theorem dX5_builds_0 : decode cX5_builds 0 = .ok (.aload_n 0, 1) := by decide +kernel
theorem dX5_builds_1 : decode cX5_builds 1 = .ok (.getfield 7, 3) := by decide +kernel
theorem dX5_builds_4 : decode cX5_builds 4 = .ok (.iconst 0, 1) := by decide +kernel
theorem dX5_builds_5 : decode cX5_builds 5 = .ok (.iload_n 1, 1) := by decide +kernel
theorem dX5_builds_6 : decode cX5_builds 6 = .ok (.iastore, 1) := by decide +kernel
theorem dX5_builds_7 : decode cX5_builds 7 = .ok (.aload_n 0, 1) := by decide +kernel
theorem dX5_builds_8 : decode cX5_builds 8 = .ok (.getfield 7, 3) := by decide +kernel
theorem dX5_builds_11 : decode cX5_builds 11 = .ok (.iconst 1, 1) := by decide +kernel
theorem dX5_builds_12 : decode cX5_builds 12 = .ok (.iload_n 2, 1) := by decide +kernel
theorem dX5_builds_13 : decode cX5_builds 13 = .ok (.iastore, 1) := by decide +kernel
theorem dX5_builds_14 : decode cX5_builds 14 = .ok (.iconst 0, 1) := by decide +kernel
theorem dX5_builds_15 : decode cX5_builds 15 = .ok (.istore_n 3, 1) := by decide +kernel
theorem dX5_builds_16 : decode cX5_builds 16 = .ok (.iload_n 3, 1) := by decide +kernel
theorem dX5_builds_17 : decode cX5_builds 17 = .ok (.iconst 2, 1) := by decide +kernel
theorem dX5_builds_18 : decode cX5_builds 18 = .ok (.if_icmp .ge 32, 3) := by decide +kernel
theorem dX5_builds_21 : decode cX5_builds 21 = .ok (.iconst 3, 1) := by decide +kernel
theorem dX5_builds_22 : decode cX5_builds 22 = .ok (.istore 4, 2) := by decide +kernel
theorem dX5_builds_24 : decode cX5_builds 24 = .ok (.iload 4, 2) := by decide +kernel
theorem dX5_builds_26 : decode cX5_builds 26 = .ok (.iconst 5, 1) := by decide +kernel
theorem dX5_builds_27 : decode cX5_builds 27 = .ok (.if_icmp .gt 17, 3) := by decide +kernel
theorem dX5_builds_30 : decode cX5_builds 30 = .ok (.aload_n 0, 1) := by decide +kernel
theorem dX5_builds_31 : decode cX5_builds 31 = .ok (.iload_n 3, 1) := by decide +kernel
theorem dX5_builds_32 : decode cX5_builds 32 = .ok (.iload 4, 2) := by decide +kernel
theorem dX5_builds_34 : decode cX5_builds 34 = .ok (.iconst 0, 1) := by decide +kernel
theorem dX5_builds_35 : decode cX5_builds 35 = .ok (.invokevirtual 68, 3) := by decide +kernel
theorem dX5_builds_38 : decode cX5_builds 38 = .ok (.iinc 4 1, 3) := by decide +kernel
theorem dX5_builds_41 : decode cX5_builds 41 = .ok (.goto (-17), 3) := by decide +kernel
theorem dX5_builds_44 : decode cX5_builds 44 = .ok (.iinc 3 1, 3) := by decide +kernel
theorem dX5_builds_47 : decode cX5_builds 47 = .ok (.goto (-31), 3) := by decide +kernel
theorem dX5_builds_50 : decode cX5_builds 50 = .ok (.iconst 5, 1) := by decide +kernel
theorem dX5_builds_51 : decode cX5_builds 51 = .ok (.istore_n 3, 1) := by decide +kernel
theorem dX5_builds_52 : decode cX5_builds 52 = .ok (.iload_n 3, 1) := by decide +kernel
theorem dX5_builds_53 : decode cX5_builds 53 = .ok (.bipush 10, 2) := by decide +kernel
theorem dX5_builds_55 : decode cX5_builds 55 = .ok (.if_icmp .gt 16, 3) := by decide +kernel
theorem dX5_builds_58 : decode cX5_builds 58 = .ok (.aload_n 0, 1) := by decide +kernel
theorem dX5_builds_59 : decode cX5_builds 59 = .ok (.getfield 7, 3) := by decide +kernel
theorem dX5_builds_62 : decode cX5_builds 62 = .ok (.iload_n 3, 1) := by decide +kernel
theorem dX5_builds_63 : decode cX5_builds 63 = .ok (.iconst 0, 1) := by decide +kernel
theorem dX5_builds_64 : decode cX5_builds 64 = .ok (.iastore, 1) := by decide +kernel
theorem dX5_builds_65 : decode cX5_builds 65 = .ok (.iinc 3 1, 3) := by decide +kernel
theorem dX5_builds_68 : decode cX5_builds 68 = .ok (.goto (-16), 3) := by decide +kernel
theorem dX5_builds_71 : decode cX5_builds 71 = .ok (.bipush 27, 2) := by decide +kernel
theorem dX5_builds_73 : decode cX5_builds 73 = .ok (.istore_n 3, 1) := by decide +kernel
theorem dX5_builds_74 : decode cX5_builds 74 = .ok (.iload_n 3, 1) := by decide +kernel
theorem dX5_builds_75 : decode cX5_builds 75 = .ok (.bipush 96, 2) := by decide +kernel
theorem dX5_builds_77 : decode cX5_builds 77 = .ok (.if_icmp .ge 16, 3) := by decide +kernel
theorem dX5_builds_80 : decode cX5_builds 80 = .ok (.aload_n 0, 1) := by decide +kernel
theorem dX5_builds_81 : decode cX5_builds 81 = .ok (.getfield 7, 3) := by decide +kernel
theorem dX5_builds_84 : decode cX5_builds 84 = .ok (.iload_n 3, 1) := by decide +kernel
theorem dX5_builds_85 : decode cX5_builds 85 = .ok (.iconst 0, 1) := by decide +kernel
theorem dX5_builds_86 : decode cX5_builds 86 = .ok (.iastore, 1) := by decide +kernel
theorem dX5_builds_87 : decode cX5_builds 87 = .ok (.iinc 3 1, 3) := by decide +kernel
theorem dX5_builds_90 : decode cX5_builds 90 = .ok (.goto (-16), 3) := by decide +kernel
theorem dX5_builds_93 : decode cX5_builds 93 = .ok (.iconst 0, 1) := by decide +kernel
theorem dX5_builds_94 : decode cX5_builds 94 = .ok (.istore_n 3, 1) := by decide +kernel
theorem dX5_builds_95 : decode cX5_builds 95 = .ok (.iload_n 3, 1) := by decide +kernel
theorem dX5_builds_96 : decode cX5_builds 96 = .ok (.bipush 16, 2) := by decide +kernel
theorem dX5_builds_98 : decode cX5_builds 98 = .ok (.if_icmp .ge 20, 3) := by decide +kernel
theorem dX5_builds_101 : decode cX5_builds 101 = .ok (.aload_n 0, 1) := by decide +kernel
theorem dX5_builds_102 : decode cX5_builds 102 = .ok (.getfield 7, 3) := by decide +kernel
theorem dX5_builds_105 : decode cX5_builds 105 = .ok (.bipush 63, 2) := by decide +kernel
theorem dX5_builds_107 : decode cX5_builds 107 = .ok (.iload_n 3, 1) := by decide +kernel
theorem dX5_builds_108 : decode cX5_builds 108 = .ok (.iadd, 1) := by decide +kernel
theorem dX5_builds_109 : decode cX5_builds 109 = .ok (.bipush (-5), 2) := by decide +kernel
theorem dX5_builds_111 : decode cX5_builds 111 = .ok (.iastore, 1) := by decide +kernel
theorem dX5_builds_112 : decode cX5_builds 112 = .ok (.iinc 3 1, 3) := by decide +kernel
theorem dX5_builds_115 : decode cX5_builds 115 = .ok (.goto (-20), 3) := by decide +kernel
theorem dX5_builds_118 : decode cX5_builds 118 = .ok (.return_, 1) := by decide +kernel
theorem dX5_build_0 : decode cX5_build 0 = .ok (.iload_n 1, 1) := by decide +kernel
theorem dX5_build_1 : decode cX5_build 1 = .ok (.i2l, 1) := by decide +kernel
theorem dX5_build_2 : decode cX5_build 2 = .ok (.lconst 1, 1) := by decide +kernel
theorem dX5_build_3 : decode cX5_build 3 = .ok (.ldc2_w 102, 3) := by decide +kernel
theorem dX5_build_6 : decode cX5_build 6 = .ok (.invokestatic 104, 3) := by decide +kernel
theorem dX5_build_9 : decode cX5_build 9 = .ok (.ifCond .ne 6, 3) := by decide +kernel
theorem dX5_build_12 : decode cX5_build 12 = .ok (.bipush (-2), 2) := by decide +kernel
theorem dX5_build_14 : decode cX5_build 14 = .ok (.ireturn, 1) := by decide +kernel
theorem dX5_build_15 : decode cX5_build 15 = .ok (.aload_n 0, 1) := by decide +kernel
theorem dX5_build_16 : decode cX5_build 16 = .ok (.invokevirtual 108, 3) := by decide +kernel
theorem dX5_build_19 : decode cX5_build 19 = .ok (.aload_n 0, 1) := by decide +kernel
theorem dX5_build_20 : decode cX5_build 20 = .ok (.iload_n 1, 1) := by decide +kernel
theorem dX5_build_21 : decode cX5_build 21 = .ok (.iload_n 2, 1) := by decide +kernel
theorem dX5_build_22 : decode cX5_build 22 = .ok (.ifCond .eq 7, 3) := by decide +kernel
theorem dX5_build_25 : decode cX5_build 25 = .ok (.iconst 1, 1) := by decide +kernel
theorem dX5_build_26 : decode cX5_build 26 = .ok (.goto 4, 3) := by decide +kernel
theorem dX5_build_29 : decode cX5_build 29 = .ok (.iconst 0, 1) := by decide +kernel
theorem dX5_build_30 : decode cX5_build 30 = .ok (.invokevirtual 28, 3) := by decide +kernel
theorem dX5_build_33 : decode cX5_build 33 = .ok (.aload_n 0, 1) := by decide +kernel
theorem dX5_build_34 : decode cX5_build 34 = .ok (.aload_n 0, 1) := by decide +kernel
theorem dX5_build_35 : decode cX5_build 35 = .ok (.invokevirtual 40, 3) := by decide +kernel
theorem dX5_build_38 : decode cX5_build 38 = .ok (.invokevirtual 111, 3) := by decide +kernel
theorem dX5_build_41 : decode cX5_build 41 = .ok (.ireturn, 1) := by decide +kernel
theorem dX5_setClock_0 : decode cX5_setClock 0 = .ok (.iload_n 1, 1) := by decide +kernel
theorem dX5_setClock_1 : decode cX5_setClock 1 = .ok (.invokestatic 114, 3) := by decide +kernel
theorem dX5_setClock_4 : decode cX5_setClock 4 = .ok (.ifCond .ne 5, 3) := by decide +kernel
theorem dX5_setClock_7 : decode cX5_setClock 7 = .ok (.iconst (-1), 1) := by decide +kernel
theorem dX5_setClock_8 : decode cX5_setClock 8 = .ok (.ireturn, 1) := by decide +kernel
theorem dX5_setClock_9 : decode cX5_setClock 9 = .ok (.iload_n 2, 1) := by decide +kernel
theorem dX5_setClock_10 : decode cX5_setClock 10 = .ok (.i2l, 1) := by decide +kernel
theorem dX5_setClock_11 : decode cX5_setClock 11 = .ok (.lconst 1, 1) := by decide +kernel
theorem dX5_setClock_12 : decode cX5_setClock 12 = .ok (.ldc2_w 117, 3) := by decide +kernel
theorem dX5_setClock_15 : decode cX5_setClock 15 = .ok (.invokestatic 104, 3) := by decide +kernel
theorem dX5_setClock_18 : decode cX5_setClock 18 = .ok (.ifCond .eq 15, 3) := by decide +kernel
theorem dX5_setClock_21 : decode cX5_setClock 21 = .ok (.iload_n 3, 1) := by decide +kernel
theorem dX5_setClock_22 : decode cX5_setClock 22 = .ok (.i2l, 1) := by decide +kernel
theorem dX5_setClock_23 : decode cX5_setClock 23 = .ok (.lconst 0, 1) := by decide +kernel
theorem dX5_setClock_24 : decode cX5_setClock 24 = .ok (.ldc2_w 119, 3) := by decide +kernel
theorem dX5_setClock_27 : decode cX5_setClock 27 = .ok (.invokestatic 104, 3) := by decide +kernel
theorem dX5_setClock_30 : decode cX5_setClock 30 = .ok (.ifCond .ne 6, 3) := by decide +kernel
theorem dX5_setClock_33 : decode cX5_setClock 33 = .ok (.bipush (-2), 2) := by decide +kernel
theorem dX5_setClock_35 : decode cX5_setClock 35 = .ok (.ireturn, 1) := by decide +kernel
theorem dX5_setClock_36 : decode cX5_setClock 36 = .ok (.aload_n 0, 1) := by decide +kernel
theorem dX5_setClock_37 : decode cX5_setClock 37 = .ok (.iload_n 1, 1) := by decide +kernel
theorem dX5_setClock_38 : decode cX5_setClock 38 = .ok (.iconst 0, 1) := by decide +kernel
theorem dX5_setClock_39 : decode cX5_setClock 39 = .ok (.invokevirtual 44, 3) := by decide +kernel
theorem dX5_setClock_42 : decode cX5_setClock 42 = .ok (.istore 4, 2) := by decide +kernel
theorem dX5_setClock_44 : decode cX5_setClock 44 = .ok (.iload 4, 2) := by decide +kernel
theorem dX5_setClock_46 : decode cX5_setClock 46 = .ok (.iload_n 2, 1) := by decide +kernel
theorem dX5_setClock_47 : decode cX5_setClock 47 = .ok (.if_icmp .ne 16, 3) := by decide +kernel
theorem dX5_setClock_50 : decode cX5_setClock 50 = .ok (.aload_n 0, 1) := by decide +kernel
theorem dX5_setClock_51 : decode cX5_setClock 51 = .ok (.iload_n 1, 1) := by decide +kernel
theorem dX5_setClock_52 : decode cX5_setClock 52 = .ok (.iconst 1, 1) := by decide +kernel
theorem dX5_setClock_53 : decode cX5_setClock 53 = .ok (.invokevirtual 44, 3) := by decide +kernel
theorem dX5_setClock_56 : decode cX5_setClock 56 = .ok (.iload_n 3, 1) := by decide +kernel
theorem dX5_setClock_57 : decode cX5_setClock 57 = .ok (.if_icmp .ne 6, 3) := by decide +kernel
theorem dX5_setClock_60 : decode cX5_setClock 60 = .ok (.bipush (-5), 2) := by decide +kernel
theorem dX5_setClock_62 : decode cX5_setClock 62 = .ok (.ireturn, 1) := by decide +kernel
theorem dX5_setClock_63 : decode cX5_setClock 63 = .ok (.aload_n 0, 1) := by decide +kernel
theorem dX5_setClock_64 : decode cX5_setClock 64 = .ok (.invokevirtual 108, 3) := by decide +kernel
theorem dX5_setClock_67 : decode cX5_setClock 67 = .ok (.aload_n 0, 1) := by decide +kernel
theorem dX5_setClock_68 : decode cX5_setClock 68 = .ok (.iload_n 1, 1) := by decide +kernel
theorem dX5_setClock_69 : decode cX5_setClock 69 = .ok (.iconst 0, 1) := by decide +kernel
theorem dX5_setClock_70 : decode cX5_setClock 70 = .ok (.iload_n 2, 1) := by decide +kernel
theorem dX5_setClock_71 : decode cX5_setClock 71 = .ok (.invokevirtual 68, 3) := by decide +kernel
theorem dX5_setClock_74 : decode cX5_setClock 74 = .ok (.aload_n 0, 1) := by decide +kernel
theorem dX5_setClock_75 : decode cX5_setClock 75 = .ok (.iload_n 1, 1) := by decide +kernel
theorem dX5_setClock_76 : decode cX5_setClock 76 = .ok (.iconst 1, 1) := by decide +kernel
theorem dX5_setClock_77 : decode cX5_setClock 77 = .ok (.iload_n 3, 1) := by decide +kernel
theorem dX5_setClock_78 : decode cX5_setClock 78 = .ok (.invokevirtual 68, 3) := by decide +kernel
theorem dX5_setClock_81 : decode cX5_setClock 81 = .ok (.aload_n 0, 1) := by decide +kernel
theorem dX5_setClock_82 : decode cX5_setClock 82 = .ok (.iload 4, 2) := by decide +kernel
theorem dX5_setClock_84 : decode cX5_setClock 84 = .ok (.invokevirtual 111, 3) := by decide +kernel
theorem dX5_setClock_87 : decode cX5_setClock 87 = .ok (.ireturn, 1) := by decide +kernel
theorem dX5_start_0 : decode cX5_start 0 = .ok (.iload_n 1, 1) := by decide +kernel
theorem dX5_start_1 : decode cX5_start 1 = .ok (.invokestatic 114, 3) := by decide +kernel
theorem dX5_start_4 : decode cX5_start 4 = .ok (.ifCond .ne 5, 3) := by decide +kernel
theorem dX5_start_7 : decode cX5_start 7 = .ok (.iconst (-1), 1) := by decide +kernel
theorem dX5_start_8 : decode cX5_start 8 = .ok (.ireturn, 1) := by decide +kernel
theorem dX5_start_9 : decode cX5_start 9 = .ok (.iload_n 2, 1) := by decide +kernel
theorem dX5_start_10 : decode cX5_start 10 = .ok (.ifCond .eq 7, 3) := by decide +kernel
theorem dX5_start_13 : decode cX5_start 13 = .ok (.iconst 1, 1) := by decide +kernel
theorem dX5_start_14 : decode cX5_start 14 = .ok (.goto 4, 3) := by decide +kernel
theorem dX5_start_17 : decode cX5_start 17 = .ok (.iconst 0, 1) := by decide +kernel
theorem dX5_start_18 : decode cX5_start 18 = .ok (.istore_n 3, 1) := by decide +kernel
theorem dX5_start_19 : decode cX5_start 19 = .ok (.aload_n 0, 1) := by decide +kernel
theorem dX5_start_20 : decode cX5_start 20 = .ok (.iload_n 1, 1) := by decide +kernel
theorem dX5_start_21 : decode cX5_start 21 = .ok (.iconst 2, 1) := by decide +kernel
theorem dX5_start_22 : decode cX5_start 22 = .ok (.invokevirtual 44, 3) := by decide +kernel
theorem dX5_start_25 : decode cX5_start 25 = .ok (.iload_n 3, 1) := by decide +kernel
theorem dX5_start_26 : decode cX5_start 26 = .ok (.if_icmp .ne 6, 3) := by decide +kernel
theorem dX5_start_29 : decode cX5_start 29 = .ok (.bipush (-5), 2) := by decide +kernel
theorem dX5_start_31 : decode cX5_start 31 = .ok (.ireturn, 1) := by decide +kernel
theorem dX5_start_32 : decode cX5_start 32 = .ok (.aload_n 0, 1) := by decide +kernel
theorem dX5_start_33 : decode cX5_start 33 = .ok (.invokevirtual 108, 3) := by decide +kernel
theorem dX5_start_36 : decode cX5_start 36 = .ok (.aload_n 0, 1) := by decide +kernel
theorem dX5_start_37 : decode cX5_start 37 = .ok (.iload_n 1, 1) := by decide +kernel
theorem dX5_start_38 : decode cX5_start 38 = .ok (.iconst 2, 1) := by decide +kernel
theorem dX5_start_39 : decode cX5_start 39 = .ok (.iload_n 3, 1) := by decide +kernel
theorem dX5_start_40 : decode cX5_start 40 = .ok (.invokevirtual 68, 3) := by decide +kernel
theorem dX5_start_43 : decode cX5_start 43 = .ok (.aload_n 0, 1) := by decide +kernel
theorem dX5_start_44 : decode cX5_start 44 = .ok (.aload_n 0, 1) := by decide +kernel
theorem dX5_start_45 : decode cX5_start 45 = .ok (.getfield 7, 3) := by decide +kernel
theorem dX5_start_48 : decode cX5_start 48 = .ok (.iconst 2, 1) := by decide +kernel
theorem dX5_start_49 : decode cX5_start 49 = .ok (.iaload, 1) := by decide +kernel
theorem dX5_start_50 : decode cX5_start 50 = .ok (.invokevirtual 111, 3) := by decide +kernel
theorem dX5_start_53 : decode cX5_start 53 = .ok (.ireturn, 1) := by decide +kernel
theorem dX5_set_0 : decode cX5_set 0 = .ok (.iload_n 1, 1) := by decide +kernel
theorem dX5_set_1 : decode cX5_set 1 = .ok (.i2l, 1) := by decide +kernel
theorem dX5_set_2 : decode cX5_set 2 = .ok (.lconst 0, 1) := by decide +kernel
theorem dX5_set_3 : decode cX5_set 3 = .ok (.lconst 1, 1) := by decide +kernel
theorem dX5_set_4 : decode cX5_set 4 = .ok (.invokestatic 104, 3) := by decide +kernel
theorem dX5_set_7 : decode cX5_set 7 = .ok (.ifCond .eq 15, 3) := by decide +kernel
theorem dX5_set_10 : decode cX5_set 10 = .ok (.iload_n 2, 1) := by decide +kernel
theorem dX5_set_11 : decode cX5_set 11 = .ok (.i2l, 1) := by decide +kernel
theorem dX5_set_12 : decode cX5_set 12 = .ok (.lconst 0, 1) := by decide +kernel
theorem dX5_set_13 : decode cX5_set 13 = .ok (.ldc2_w 121, 3) := by decide +kernel
theorem dX5_set_16 : decode cX5_set 16 = .ok (.invokestatic 104, 3) := by decide +kernel
theorem dX5_set_19 : decode cX5_set 19 = .ok (.ifCond .ne 6, 3) := by decide +kernel
theorem dX5_set_22 : decode cX5_set 22 = .ok (.bipush (-2), 2) := by decide +kernel
theorem dX5_set_24 : decode cX5_set 24 = .ok (.ireturn, 1) := by decide +kernel
theorem dX5_set_25 : decode cX5_set 25 = .ok (.aload_n 0, 1) := by decide +kernel
theorem dX5_set_26 : decode cX5_set 26 = .ok (.getfield 7, 3) := by decide +kernel
theorem dX5_set_29 : decode cX5_set 29 = .ok (.iconst 3, 1) := by decide +kernel
theorem dX5_set_30 : decode cX5_set 30 = .ok (.iload_n 1, 1) := by decide +kernel
theorem dX5_set_31 : decode cX5_set 31 = .ok (.iadd, 1) := by decide +kernel
theorem dX5_set_32 : decode cX5_set 32 = .ok (.iaload, 1) := by decide +kernel
theorem dX5_set_33 : decode cX5_set 33 = .ok (.istore_n 3, 1) := by decide +kernel
theorem dX5_set_34 : decode cX5_set 34 = .ok (.iload_n 3, 1) := by decide +kernel
theorem dX5_set_35 : decode cX5_set 35 = .ok (.iload_n 2, 1) := by decide +kernel
theorem dX5_set_36 : decode cX5_set 36 = .ok (.if_icmp .ne 6, 3) := by decide +kernel
theorem dX5_set_39 : decode cX5_set 39 = .ok (.bipush (-5), 2) := by decide +kernel
theorem dX5_set_41 : decode cX5_set 41 = .ok (.ireturn, 1) := by decide +kernel
theorem dX5_set_42 : decode cX5_set 42 = .ok (.aload_n 0, 1) := by decide +kernel
theorem dX5_set_43 : decode cX5_set 43 = .ok (.invokevirtual 108, 3) := by decide +kernel
theorem dX5_set_46 : decode cX5_set 46 = .ok (.aload_n 0, 1) := by decide +kernel
theorem dX5_set_47 : decode cX5_set 47 = .ok (.getfield 7, 3) := by decide +kernel
theorem dX5_set_50 : decode cX5_set 50 = .ok (.iconst 3, 1) := by decide +kernel
theorem dX5_set_51 : decode cX5_set 51 = .ok (.iload_n 1, 1) := by decide +kernel
theorem dX5_set_52 : decode cX5_set 52 = .ok (.iadd, 1) := by decide +kernel
theorem dX5_set_53 : decode cX5_set 53 = .ok (.iload_n 2, 1) := by decide +kernel
theorem dX5_set_54 : decode cX5_set 54 = .ok (.iastore, 1) := by decide +kernel
theorem dX5_set_55 : decode cX5_set 55 = .ok (.aload_n 0, 1) := by decide +kernel
theorem dX5_set_56 : decode cX5_set 56 = .ok (.iload_n 3, 1) := by decide +kernel
theorem dX5_set_57 : decode cX5_set 57 = .ok (.invokevirtual 111, 3) := by decide +kernel
theorem dX5_set_60 : decode cX5_set 60 = .ok (.ireturn, 1) := by decide +kernel
theorem dX5_waits_0 : decode cX5_waits 0 = .ok (.aload_n 0, 1) := by decide +kernel
theorem dX5_waits_1 : decode cX5_waits 1 = .ok (.getfield 7, 3) := by decide +kernel
theorem dX5_waits_4 : decode cX5_waits 4 = .ok (.bipush 27, 2) := by decide +kernel
theorem dX5_waits_6 : decode cX5_waits 6 = .ok (.aload_n 0, 1) := by decide +kernel
theorem dX5_waits_7 : decode cX5_waits 7 = .ok (.getfield 7, 3) := by decide +kernel
theorem dX5_waits_10 : decode cX5_waits 10 = .ok (.iconst 5, 1) := by decide +kernel
theorem dX5_waits_11 : decode cX5_waits 11 = .ok (.iaload, 1) := by decide +kernel
theorem dX5_waits_12 : decode cX5_waits 12 = .ok (.iadd, 1) := by decide +kernel
theorem dX5_waits_13 : decode cX5_waits 13 = .ok (.iload_n 1, 1) := by decide +kernel
theorem dX5_waits_14 : decode cX5_waits 14 = .ok (.iastore, 1) := by decide +kernel
theorem dX5_waits_15 : decode cX5_waits 15 = .ok (.aload_n 0, 1) := by decide +kernel
theorem dX5_waits_16 : decode cX5_waits 16 = .ok (.getfield 7, 3) := by decide +kernel
theorem dX5_waits_19 : decode cX5_waits 19 = .ok (.iconst 5, 1) := by decide +kernel
theorem dX5_waits_20 : decode cX5_waits 20 = .ok (.dup2, 1) := by decide +kernel
theorem dX5_waits_21 : decode cX5_waits 21 = .ok (.iaload, 1) := by decide +kernel
theorem dX5_waits_22 : decode cX5_waits 22 = .ok (.iconst 1, 1) := by decide +kernel
theorem dX5_waits_23 : decode cX5_waits 23 = .ok (.iadd, 1) := by decide +kernel
theorem dX5_waits_24 : decode cX5_waits 24 = .ok (.iastore, 1) := by decide +kernel
theorem dX5_waits_25 : decode cX5_waits 25 = .ok (.return_, 1) := by decide +kernel
theorem dX5_push_0 : decode cX5_push 0 = .ok (.iload_n 1, 1) := by decide +kernel
theorem dX5_push_1 : decode cX5_push 1 = .ok (.i2l, 1) := by decide +kernel
theorem dX5_push_2 : decode cX5_push 2 = .ok (.lconst 0, 1) := by decide +kernel
theorem dX5_push_3 : decode cX5_push 3 = .ok (.ldc2_w 123, 3) := by decide +kernel
theorem dX5_push_6 : decode cX5_push 6 = .ok (.invokestatic 104, 3) := by decide +kernel
theorem dX5_push_9 : decode cX5_push 9 = .ok (.ifCond .ne 6, 3) := by decide +kernel
theorem dX5_push_12 : decode cX5_push 12 = .ok (.bipush (-2), 2) := by decide +kernel
theorem dX5_push_14 : decode cX5_push 14 = .ok (.ireturn, 1) := by decide +kernel
theorem dX5_push_15 : decode cX5_push 15 = .ok (.aload_n 0, 1) := by decide +kernel
theorem dX5_push_16 : decode cX5_push 16 = .ok (.getfield 7, 3) := by decide +kernel
theorem dX5_push_19 : decode cX5_push 19 = .ok (.iconst 5, 1) := by decide +kernel
theorem dX5_push_20 : decode cX5_push 20 = .ok (.iaload, 1) := by decide +kernel
theorem dX5_push_21 : decode cX5_push 21 = .ok (.bipush 20, 2) := by decide +kernel
theorem dX5_push_23 : decode cX5_push 23 = .ok (.if_icmp .ne 6, 3) := by decide +kernel
theorem dX5_push_26 : decode cX5_push 26 = .ok (.bipush (-3), 2) := by decide +kernel
theorem dX5_push_28 : decode cX5_push 28 = .ok (.ireturn, 1) := by decide +kernel
theorem dX5_push_29 : decode cX5_push 29 = .ok (.aload_n 0, 1) := by decide +kernel
theorem dX5_push_30 : decode cX5_push 30 = .ok (.invokevirtual 108, 3) := by decide +kernel
theorem dX5_push_33 : decode cX5_push 33 = .ok (.aload_n 0, 1) := by decide +kernel
theorem dX5_push_34 : decode cX5_push 34 = .ok (.iload_n 1, 1) := by decide +kernel
theorem dX5_push_35 : decode cX5_push 35 = .ok (.invokevirtual 125, 3) := by decide +kernel
theorem dX5_push_38 : decode cX5_push 38 = .ok (.aload_n 0, 1) := by decide +kernel
theorem dX5_push_39 : decode cX5_push 39 = .ok (.aload_n 0, 1) := by decide +kernel
theorem dX5_push_40 : decode cX5_push 40 = .ok (.getfield 7, 3) := by decide +kernel
theorem dX5_push_43 : decode cX5_push 43 = .ok (.iconst 5, 1) := by decide +kernel
theorem dX5_push_44 : decode cX5_push 44 = .ok (.iaload, 1) := by decide +kernel
theorem dX5_push_45 : decode cX5_push 45 = .ok (.invokevirtual 111, 3) := by decide +kernel
theorem dX5_push_48 : decode cX5_push 48 = .ok (.ireturn, 1) := by decide +kernel
theorem dX5_pass_0 : decode cX5_pass 0 = .ok (.iload_n 1, 1) := by decide +kernel
theorem dX5_pass_1 : decode cX5_pass 1 = .ok (.i2l, 1) := by decide +kernel
theorem dX5_pass_2 : decode cX5_pass 2 = .ok (.lconst 1, 1) := by decide +kernel
theorem dX5_pass_3 : decode cX5_pass 3 = .ok (.ldc2_w 129, 3) := by decide +kernel
theorem dX5_pass_6 : decode cX5_pass 6 = .ok (.invokestatic 104, 3) := by decide +kernel
theorem dX5_pass_9 : decode cX5_pass 9 = .ok (.ifCond .ne 6, 3) := by decide +kernel
theorem dX5_pass_12 : decode cX5_pass 12 = .ok (.bipush (-2), 2) := by decide +kernel
theorem dX5_pass_14 : decode cX5_pass 14 = .ok (.ireturn, 1) := by decide +kernel
theorem dX5_pass_15 : decode cX5_pass 15 = .ok (.aload_n 0, 1) := by decide +kernel
theorem dX5_pass_16 : decode cX5_pass 16 = .ok (.getfield 7, 3) := by decide +kernel
theorem dX5_pass_19 : decode cX5_pass 19 = .ok (.iconst 2, 1) := by decide +kernel
theorem dX5_pass_20 : decode cX5_pass 20 = .ok (.iaload, 1) := by decide +kernel
theorem dX5_pass_21 : decode cX5_pass 21 = .ok (.iload_n 1, 1) := by decide +kernel
theorem dX5_pass_22 : decode cX5_pass 22 = .ok (.iadd, 1) := by decide +kernel
theorem dX5_pass_23 : decode cX5_pass 23 = .ok (.ldc 131, 2) := by decide +kernel
theorem dX5_pass_25 : decode cX5_pass 25 = .ok (.if_icmp .le 6, 3) := by decide +kernel
theorem dX5_pass_28 : decode cX5_pass 28 = .ok (.bipush (-3), 2) := by decide +kernel
theorem dX5_pass_30 : decode cX5_pass 30 = .ok (.ireturn, 1) := by decide +kernel
theorem dX5_pass_31 : decode cX5_pass 31 = .ok (.aload_n 0, 1) := by decide +kernel
theorem dX5_pass_32 : decode cX5_pass 32 = .ok (.invokevirtual 108, 3) := by decide +kernel
theorem dX5_pass_35 : decode cX5_pass 35 = .ok (.aload_n 0, 1) := by decide +kernel
theorem dX5_pass_36 : decode cX5_pass 36 = .ok (.getfield 7, 3) := by decide +kernel
theorem dX5_pass_39 : decode cX5_pass 39 = .ok (.bipush 7, 2) := by decide +kernel
theorem dX5_pass_41 : decode cX5_pass 41 = .ok (.iaload, 1) := by decide +kernel
theorem dX5_pass_42 : decode cX5_pass 42 = .ok (.istore_n 2, 1) := by decide +kernel
theorem dX5_pass_43 : decode cX5_pass 43 = .ok (.aload_n 0, 1) := by decide +kernel
theorem dX5_pass_44 : decode cX5_pass 44 = .ok (.iload_n 1, 1) := by decide +kernel
theorem dX5_pass_45 : decode cX5_pass 45 = .ok (.invokevirtual 132, 3) := by decide +kernel
theorem dX5_pass_48 : decode cX5_pass 48 = .ok (.aload_n 0, 1) := by decide +kernel
theorem dX5_pass_49 : decode cX5_pass 49 = .ok (.aload_n 0, 1) := by decide +kernel
theorem dX5_pass_50 : decode cX5_pass 50 = .ok (.getfield 7, 3) := by decide +kernel
theorem dX5_pass_53 : decode cX5_pass 53 = .ok (.bipush 7, 2) := by decide +kernel
theorem dX5_pass_55 : decode cX5_pass 55 = .ok (.iaload, 1) := by decide +kernel
theorem dX5_pass_56 : decode cX5_pass 56 = .ok (.iload_n 2, 1) := by decide +kernel
theorem dX5_pass_57 : decode cX5_pass 57 = .ok (.isub, 1) := by decide +kernel
theorem dX5_pass_58 : decode cX5_pass 58 = .ok (.invokevirtual 111, 3) := by decide +kernel
theorem dX5_pass_61 : decode cX5_pass 61 = .ok (.ireturn, 1) := by decide +kernel
theorem dX5_type_0 : decode cX5_type 0 = .ok (.aload_n 0, 1) := by decide +kernel
theorem dX5_type_1 : decode cX5_type 1 = .ok (.getfield 135, 3) := by decide +kernel
theorem dX5_type_4 : decode cX5_type 4 = .ok (.bipush 60, 2) := by decide +kernel
theorem dX5_type_6 : decode cX5_type 6 = .ok (.if_icmp .ne 6, 3) := by decide +kernel
theorem dX5_type_9 : decode cX5_type 9 = .ok (.bipush (-3), 2) := by decide +kernel
theorem dX5_type_11 : decode cX5_type 11 = .ok (.ireturn, 1) := by decide +kernel
theorem dX5_type_12 : decode cX5_type 12 = .ok (.aload_n 0, 1) := by decide +kernel
theorem dX5_type_13 : decode cX5_type 13 = .ok (.getfield 25, 3) := by decide +kernel
theorem dX5_type_16 : decode cX5_type 16 = .ok (.aload_n 0, 1) := by decide +kernel
theorem dX5_type_17 : decode cX5_type 17 = .ok (.getfield 135, 3) := by decide +kernel
theorem dX5_type_20 : decode cX5_type 20 = .ok (.iload_n 1, 1) := by decide +kernel
theorem dX5_type_21 : decode cX5_type 21 = .ok (.iastore, 1) := by decide +kernel
theorem dX5_type_22 : decode cX5_type 22 = .ok (.aload_n 0, 1) := by decide +kernel
theorem dX5_type_23 : decode cX5_type 23 = .ok (.dup, 1) := by decide +kernel
theorem dX5_type_24 : decode cX5_type 24 = .ok (.getfield 135, 3) := by decide +kernel
theorem dX5_type_27 : decode cX5_type 27 = .ok (.iconst 1, 1) := by decide +kernel
theorem dX5_type_28 : decode cX5_type 28 = .ok (.iadd, 1) := by decide +kernel
theorem dX5_type_29 : decode cX5_type 29 = .ok (.putfield 135, 3) := by decide +kernel
theorem dX5_type_32 : decode cX5_type 32 = .ok (.aload_n 0, 1) := by decide +kernel
theorem dX5_type_33 : decode cX5_type 33 = .ok (.getfield 135, 3) := by decide +kernel
theorem dX5_type_36 : decode cX5_type 36 = .ok (.ireturn, 1) := by decide +kernel
theorem dX5_clearText_0 : decode cX5_clearText 0 = .ok (.aload_n 0, 1) := by decide +kernel
theorem dX5_clearText_1 : decode cX5_clearText 1 = .ok (.getfield 135, 3) := by decide +kernel
theorem dX5_clearText_4 : decode cX5_clearText 4 = .ok (.istore_n 1, 1) := by decide +kernel
theorem dX5_clearText_5 : decode cX5_clearText 5 = .ok (.aload_n 0, 1) := by decide +kernel
theorem dX5_clearText_6 : decode cX5_clearText 6 = .ok (.iconst 0, 1) := by decide +kernel
theorem dX5_clearText_7 : decode cX5_clearText 7 = .ok (.putfield 135, 3) := by decide +kernel
theorem dX5_clearText_10 : decode cX5_clearText 10 = .ok (.iload_n 1, 1) := by decide +kernel
theorem dX5_clearText_11 : decode cX5_clearText 11 = .ok (.ireturn, 1) := by decide +kernel
theorem dX5_isHere_0 : decode cX5_isHere 0 = .ok (.aload_n 0, 1) := by decide +kernel
theorem dX5_isHere_1 : decode cX5_isHere 1 = .ok (.getfield 138, 3) := by decide +kernel
theorem dX5_isHere_4 : decode cX5_isHere 4 = .ok (.aload_n 0, 1) := by decide +kernel
theorem dX5_isHere_5 : decode cX5_isHere 5 = .ok (.getfield 135, 3) := by decide +kernel
theorem dX5_isHere_8 : decode cX5_isHere 8 = .ok (.if_icmp .ge 27, 3) := by decide +kernel
theorem dX5_isHere_11 : decode cX5_isHere 11 = .ok (.aload_n 0, 1) := by decide +kernel
theorem dX5_isHere_12 : decode cX5_isHere 12 = .ok (.getfield 25, 3) := by decide +kernel
theorem dX5_isHere_15 : decode cX5_isHere 15 = .ok (.aload_n 0, 1) := by decide +kernel
theorem dX5_isHere_16 : decode cX5_isHere 16 = .ok (.getfield 138, 3) := by decide +kernel
theorem dX5_isHere_19 : decode cX5_isHere 19 = .ok (.iaload, 1) := by decide +kernel
theorem dX5_isHere_20 : decode cX5_isHere 20 = .ok (.i2l, 1) := by decide +kernel
theorem dX5_isHere_21 : decode cX5_isHere 21 = .ok (.iload_n 1, 1) := by decide +kernel
theorem dX5_isHere_22 : decode cX5_isHere 22 = .ok (.i2l, 1) := by decide +kernel
theorem dX5_isHere_23 : decode cX5_isHere 23 = .ok (.iload_n 2, 1) := by decide +kernel
theorem dX5_isHere_24 : decode cX5_isHere 24 = .ok (.i2l, 1) := by decide +kernel
theorem dX5_isHere_25 : decode cX5_isHere 25 = .ok (.invokestatic 104, 3) := by decide +kernel
theorem dX5_isHere_28 : decode cX5_isHere 28 = .ok (.ifCond .eq 7, 3) := by decide +kernel
theorem dX5_isHere_31 : decode cX5_isHere 31 = .ok (.iconst 1, 1) := by decide +kernel
theorem dX5_isHere_32 : decode cX5_isHere 32 = .ok (.goto 4, 3) := by decide +kernel
theorem dX5_isHere_35 : decode cX5_isHere 35 = .ok (.iconst 0, 1) := by decide +kernel
theorem dX5_isHere_36 : decode cX5_isHere 36 = .ok (.ireturn, 1) := by decide +kernel
theorem dX5_takesSign_0 : decode cX5_takesSign 0 = .ok (.aload_n 0, 1) := by decide +kernel
theorem dX5_takesSign_1 : decode cX5_takesSign 1 = .ok (.iload_n 1, 1) := by decide +kernel
theorem dX5_takesSign_2 : decode cX5_takesSign 2 = .ok (.iload_n 1, 1) := by decide +kernel
theorem dX5_takesSign_3 : decode cX5_takesSign 3 = .ok (.invokevirtual 141, 3) := by decide +kernel
theorem dX5_takesSign_6 : decode cX5_takesSign 6 = .ok (.istore_n 2, 1) := by decide +kernel
theorem dX5_takesSign_7 : decode cX5_takesSign 7 = .ok (.aload_n 0, 1) := by decide +kernel
theorem dX5_takesSign_8 : decode cX5_takesSign 8 = .ok (.dup, 1) := by decide +kernel
theorem dX5_takesSign_9 : decode cX5_takesSign 9 = .ok (.getfield 138, 3) := by decide +kernel
theorem dX5_takesSign_12 : decode cX5_takesSign 12 = .ok (.iload_n 2, 1) := by decide +kernel
theorem dX5_takesSign_13 : decode cX5_takesSign 13 = .ok (.ifCond .eq 7, 3) := by decide +kernel
theorem dX5_takesSign_16 : decode cX5_takesSign 16 = .ok (.iconst 1, 1) := by decide +kernel
theorem dX5_takesSign_17 : decode cX5_takesSign 17 = .ok (.goto 4, 3) := by decide +kernel
theorem dX5_takesSign_20 : decode cX5_takesSign 20 = .ok (.iconst 0, 1) := by decide +kernel
theorem dX5_takesSign_21 : decode cX5_takesSign 21 = .ok (.iadd, 1) := by decide +kernel
theorem dX5_takesSign_22 : decode cX5_takesSign 22 = .ok (.putfield 138, 3) := by decide +kernel
theorem dX5_takesSign_25 : decode cX5_takesSign 25 = .ok (.iload_n 2, 1) := by decide +kernel
theorem dX5_takesSign_26 : decode cX5_takesSign 26 = .ok (.ireturn, 1) := by decide +kernel
theorem dX5_readsNumber_0 : decode cX5_readsNumber 0 = .ok (.aload_n 0, 1) := by decide +kernel
theorem dX5_readsNumber_1 : decode cX5_readsNumber 1 = .ok (.bipush 48, 2) := by decide +kernel
theorem dX5_readsNumber_3 : decode cX5_readsNumber 3 = .ok (.iload_n 1, 1) := by decide +kernel
theorem dX5_readsNumber_4 : decode cX5_readsNumber 4 = .ok (.iadd, 1) := by decide +kernel
theorem dX5_readsNumber_5 : decode cX5_readsNumber 5 = .ok (.bipush 57, 2) := by decide +kernel
theorem dX5_readsNumber_7 : decode cX5_readsNumber 7 = .ok (.invokevirtual 141, 3) := by decide +kernel
theorem dX5_readsNumber_10 : decode cX5_readsNumber 10 = .ok (.ifCond .ne 5, 3) := by decide +kernel
theorem dX5_readsNumber_13 : decode cX5_readsNumber 13 = .ok (.iconst 0, 1) := by decide +kernel
theorem dX5_readsNumber_14 : decode cX5_readsNumber 14 = .ok (.ireturn, 1) := by decide +kernel
theorem dX5_readsNumber_15 : decode cX5_readsNumber 15 = .ok (.aload_n 0, 1) := by decide +kernel
theorem dX5_readsNumber_16 : decode cX5_readsNumber 16 = .ok (.aload_n 0, 1) := by decide +kernel
theorem dX5_readsNumber_17 : decode cX5_readsNumber 17 = .ok (.getfield 25, 3) := by decide +kernel
theorem dX5_readsNumber_20 : decode cX5_readsNumber 20 = .ok (.aload_n 0, 1) := by decide +kernel
theorem dX5_readsNumber_21 : decode cX5_readsNumber 21 = .ok (.getfield 138, 3) := by decide +kernel
theorem dX5_readsNumber_24 : decode cX5_readsNumber 24 = .ok (.iaload, 1) := by decide +kernel
theorem dX5_readsNumber_25 : decode cX5_readsNumber 25 = .ok (.bipush 48, 2) := by decide +kernel
theorem dX5_readsNumber_27 : decode cX5_readsNumber 27 = .ok (.isub, 1) := by decide +kernel
theorem dX5_readsNumber_28 : decode cX5_readsNumber 28 = .ok (.putfield 144, 3) := by decide +kernel
theorem dX5_readsNumber_31 : decode cX5_readsNumber 31 = .ok (.aload_n 0, 1) := by decide +kernel
theorem dX5_readsNumber_32 : decode cX5_readsNumber 32 = .ok (.dup, 1) := by decide +kernel
theorem dX5_readsNumber_33 : decode cX5_readsNumber 33 = .ok (.getfield 138, 3) := by decide +kernel
theorem dX5_readsNumber_36 : decode cX5_readsNumber 36 = .ok (.iconst 1, 1) := by decide +kernel
theorem dX5_readsNumber_37 : decode cX5_readsNumber 37 = .ok (.iadd, 1) := by decide +kernel
theorem dX5_readsNumber_38 : decode cX5_readsNumber 38 = .ok (.putfield 138, 3) := by decide +kernel
theorem dX5_readsNumber_41 : decode cX5_readsNumber 41 = .ok (.aload_n 0, 1) := by decide +kernel
theorem dX5_readsNumber_42 : decode cX5_readsNumber 42 = .ok (.getfield 144, 3) := by decide +kernel
theorem dX5_readsNumber_45 : decode cX5_readsNumber 45 = .ok (.ifCond .le 48, 3) := by decide +kernel
theorem dX5_readsNumber_48 : decode cX5_readsNumber 48 = .ok (.aload_n 0, 1) := by decide +kernel
theorem dX5_readsNumber_49 : decode cX5_readsNumber 49 = .ok (.bipush 48, 2) := by decide +kernel
theorem dX5_readsNumber_51 : decode cX5_readsNumber 51 = .ok (.bipush 57, 2) := by decide +kernel
theorem dX5_readsNumber_53 : decode cX5_readsNumber 53 = .ok (.invokevirtual 141, 3) := by decide +kernel
theorem dX5_readsNumber_56 : decode cX5_readsNumber 56 = .ok (.ifCond .eq 37, 3) := by decide +kernel
theorem dX5_readsNumber_59 : decode cX5_readsNumber 59 = .ok (.aload_n 0, 1) := by decide +kernel
theorem dX5_readsNumber_60 : decode cX5_readsNumber 60 = .ok (.bipush 10, 2) := by decide +kernel
theorem dX5_readsNumber_62 : decode cX5_readsNumber 62 = .ok (.aload_n 0, 1) := by decide +kernel
theorem dX5_readsNumber_63 : decode cX5_readsNumber 63 = .ok (.getfield 144, 3) := by decide +kernel
theorem dX5_readsNumber_66 : decode cX5_readsNumber 66 = .ok (.imul, 1) := by decide +kernel
theorem dX5_readsNumber_67 : decode cX5_readsNumber 67 = .ok (.aload_n 0, 1) := by decide +kernel
theorem dX5_readsNumber_68 : decode cX5_readsNumber 68 = .ok (.getfield 25, 3) := by decide +kernel
theorem dX5_readsNumber_71 : decode cX5_readsNumber 71 = .ok (.aload_n 0, 1) := by decide +kernel
theorem dX5_readsNumber_72 : decode cX5_readsNumber 72 = .ok (.getfield 138, 3) := by decide +kernel
theorem dX5_readsNumber_75 : decode cX5_readsNumber 75 = .ok (.iaload, 1) := by decide +kernel
theorem dX5_readsNumber_76 : decode cX5_readsNumber 76 = .ok (.iadd, 1) := by decide +kernel
theorem dX5_readsNumber_77 : decode cX5_readsNumber 77 = .ok (.bipush 48, 2) := by decide +kernel
theorem dX5_readsNumber_79 : decode cX5_readsNumber 79 = .ok (.isub, 1) := by decide +kernel
theorem dX5_readsNumber_80 : decode cX5_readsNumber 80 = .ok (.putfield 144, 3) := by decide +kernel
theorem dX5_readsNumber_83 : decode cX5_readsNumber 83 = .ok (.aload_n 0, 1) := by decide +kernel
theorem dX5_readsNumber_84 : decode cX5_readsNumber 84 = .ok (.dup, 1) := by decide +kernel
theorem dX5_readsNumber_85 : decode cX5_readsNumber 85 = .ok (.getfield 138, 3) := by decide +kernel
theorem dX5_readsNumber_88 : decode cX5_readsNumber 88 = .ok (.iconst 1, 1) := by decide +kernel
theorem dX5_readsNumber_89 : decode cX5_readsNumber 89 = .ok (.iadd, 1) := by decide +kernel
theorem dX5_readsNumber_90 : decode cX5_readsNumber 90 = .ok (.putfield 138, 3) := by decide +kernel
theorem dX5_readsNumber_93 : decode cX5_readsNumber 93 = .ok (.iconst 1, 1) := by decide +kernel
theorem dX5_readsNumber_94 : decode cX5_readsNumber 94 = .ok (.ireturn, 1) := by decide +kernel
theorem dX5_readsPart_0 : decode cX5_readsPart 0 = .ok (.aload_n 0, 1) := by decide +kernel
theorem dX5_readsPart_1 : decode cX5_readsPart 1 = .ok (.iconst 0, 1) := by decide +kernel
theorem dX5_readsPart_2 : decode cX5_readsPart 2 = .ok (.putfield 147, 3) := by decide +kernel
theorem dX5_readsPart_5 : decode cX5_readsPart 5 = .ok (.aload_n 0, 1) := by decide +kernel
theorem dX5_readsPart_6 : decode cX5_readsPart 6 = .ok (.iconst 0, 1) := by decide +kernel
theorem dX5_readsPart_7 : decode cX5_readsPart 7 = .ok (.putfield 150, 3) := by decide +kernel
theorem dX5_readsPart_10 : decode cX5_readsPart 10 = .ok (.aload_n 0, 1) := by decide +kernel
theorem dX5_readsPart_11 : decode cX5_readsPart 11 = .ok (.bipush 46, 2) := by decide +kernel
theorem dX5_readsPart_13 : decode cX5_readsPart 13 = .ok (.invokevirtual 153, 3) := by decide +kernel
theorem dX5_readsPart_16 : decode cX5_readsPart 16 = .ok (.ifCond .eq 19, 3) := by decide +kernel
theorem dX5_readsPart_19 : decode cX5_readsPart 19 = .ok (.aload_n 0, 1) := by decide +kernel
theorem dX5_readsPart_20 : decode cX5_readsPart 20 = .ok (.iconst 1, 1) := by decide +kernel
theorem dX5_readsPart_21 : decode cX5_readsPart 21 = .ok (.invokevirtual 156, 3) := by decide +kernel
theorem dX5_readsPart_24 : decode cX5_readsPart 24 = .ok (.istore_n 1, 1) := by decide +kernel
theorem dX5_readsPart_25 : decode cX5_readsPart 25 = .ok (.aload_n 0, 1) := by decide +kernel
theorem dX5_readsPart_26 : decode cX5_readsPart 26 = .ok (.aload_n 0, 1) := by decide +kernel
theorem dX5_readsPart_27 : decode cX5_readsPart 27 = .ok (.getfield 144, 3) := by decide +kernel
theorem dX5_readsPart_30 : decode cX5_readsPart 30 = .ok (.putfield 150, 3) := by decide +kernel
theorem dX5_readsPart_33 : decode cX5_readsPart 33 = .ok (.iload_n 1, 1) := by decide +kernel
theorem dX5_readsPart_34 : decode cX5_readsPart 34 = .ok (.ireturn, 1) := by decide +kernel
theorem dX5_readsPart_35 : decode cX5_readsPart 35 = .ok (.aload_n 0, 1) := by decide +kernel
theorem dX5_readsPart_36 : decode cX5_readsPart 36 = .ok (.iconst 0, 1) := by decide +kernel
theorem dX5_readsPart_37 : decode cX5_readsPart 37 = .ok (.invokevirtual 156, 3) := by decide +kernel
theorem dX5_readsPart_40 : decode cX5_readsPart 40 = .ok (.ifCond .ne 5, 3) := by decide +kernel
theorem dX5_readsPart_43 : decode cX5_readsPart 43 = .ok (.iconst 0, 1) := by decide +kernel
theorem dX5_readsPart_44 : decode cX5_readsPart 44 = .ok (.ireturn, 1) := by decide +kernel
theorem dX5_readsPart_45 : decode cX5_readsPart 45 = .ok (.aload_n 0, 1) := by decide +kernel
theorem dX5_readsPart_46 : decode cX5_readsPart 46 = .ok (.aload_n 0, 1) := by decide +kernel
theorem dX5_readsPart_47 : decode cX5_readsPart 47 = .ok (.getfield 144, 3) := by decide +kernel
theorem dX5_readsPart_50 : decode cX5_readsPart 50 = .ok (.putfield 159, 3) := by decide +kernel
theorem dX5_readsPart_53 : decode cX5_readsPart 53 = .ok (.aload_n 0, 1) := by decide +kernel
theorem dX5_readsPart_54 : decode cX5_readsPart 54 = .ok (.iconst 1, 1) := by decide +kernel
theorem dX5_readsPart_55 : decode cX5_readsPart 55 = .ok (.putfield 147, 3) := by decide +kernel
theorem dX5_readsPart_58 : decode cX5_readsPart 58 = .ok (.aload_n 0, 1) := by decide +kernel
theorem dX5_readsPart_59 : decode cX5_readsPart 59 = .ok (.bipush 120, 2) := by decide +kernel
theorem dX5_readsPart_61 : decode cX5_readsPart 61 = .ok (.invokevirtual 153, 3) := by decide +kernel
theorem dX5_readsPart_64 : decode cX5_readsPart 64 = .ok (.ifCond .eq 42, 3) := by decide +kernel
theorem dX5_readsPart_67 : decode cX5_readsPart 67 = .ok (.aload_n 0, 1) := by decide +kernel
theorem dX5_readsPart_68 : decode cX5_readsPart 68 = .ok (.bipush 50, 2) := by decide +kernel
theorem dX5_readsPart_70 : decode cX5_readsPart 70 = .ok (.bipush 57, 2) := by decide +kernel
theorem dX5_readsPart_72 : decode cX5_readsPart 72 = .ok (.invokevirtual 141, 3) := by decide +kernel
theorem dX5_readsPart_75 : decode cX5_readsPart 75 = .ok (.ifCond .ne 5, 3) := by decide +kernel
theorem dX5_readsPart_78 : decode cX5_readsPart 78 = .ok (.iconst 0, 1) := by decide +kernel
theorem dX5_readsPart_79 : decode cX5_readsPart 79 = .ok (.ireturn, 1) := by decide +kernel
theorem dX5_readsPart_80 : decode cX5_readsPart 80 = .ok (.aload_n 0, 1) := by decide +kernel
theorem dX5_readsPart_81 : decode cX5_readsPart 81 = .ok (.aload_n 0, 1) := by decide +kernel
theorem dX5_readsPart_82 : decode cX5_readsPart 82 = .ok (.getfield 25, 3) := by decide +kernel
theorem dX5_readsPart_85 : decode cX5_readsPart 85 = .ok (.aload_n 0, 1) := by decide +kernel
theorem dX5_readsPart_86 : decode cX5_readsPart 86 = .ok (.getfield 138, 3) := by decide +kernel
theorem dX5_readsPart_89 : decode cX5_readsPart 89 = .ok (.iaload, 1) := by decide +kernel
theorem dX5_readsPart_90 : decode cX5_readsPart 90 = .ok (.bipush 48, 2) := by decide +kernel
theorem dX5_readsPart_92 : decode cX5_readsPart 92 = .ok (.isub, 1) := by decide +kernel
theorem dX5_readsPart_93 : decode cX5_readsPart 93 = .ok (.putfield 147, 3) := by decide +kernel
theorem dX5_readsPart_96 : decode cX5_readsPart 96 = .ok (.aload_n 0, 1) := by decide +kernel
theorem dX5_readsPart_97 : decode cX5_readsPart 97 = .ok (.dup, 1) := by decide +kernel
theorem dX5_readsPart_98 : decode cX5_readsPart 98 = .ok (.getfield 138, 3) := by decide +kernel
theorem dX5_readsPart_101 : decode cX5_readsPart 101 = .ok (.iconst 1, 1) := by decide +kernel
theorem dX5_readsPart_102 : decode cX5_readsPart 102 = .ok (.iadd, 1) := by decide +kernel
theorem dX5_readsPart_103 : decode cX5_readsPart 103 = .ok (.putfield 138, 3) := by decide +kernel
theorem dX5_readsPart_106 : decode cX5_readsPart 106 = .ok (.iconst 1, 1) := by decide +kernel
theorem dX5_readsPart_107 : decode cX5_readsPart 107 = .ok (.ireturn, 1) := by decide +kernel
theorem dX5_fault_0 : decode cX5_fault 0 = .ok (.aload_n 0, 1) := by decide +kernel
theorem dX5_fault_1 : decode cX5_fault 1 = .ok (.iconst 0, 1) := by decide +kernel
theorem dX5_fault_2 : decode cX5_fault 2 = .ok (.putfield 138, 3) := by decide +kernel
theorem dX5_fault_5 : decode cX5_fault 5 = .ok (.iconst 1, 1) := by decide +kernel
theorem dX5_fault_6 : decode cX5_fault 6 = .ok (.istore_n 1, 1) := by decide +kernel
theorem dX5_fault_7 : decode cX5_fault 7 = .ok (.iload_n 1, 1) := by decide +kernel
theorem dX5_fault_8 : decode cX5_fault 8 = .ok (.ifCond .eq 25, 3) := by decide +kernel
theorem dX5_fault_11 : decode cX5_fault 11 = .ok (.aload_n 0, 1) := by decide +kernel
theorem dX5_fault_12 : decode cX5_fault 12 = .ok (.invokevirtual 162, 3) := by decide +kernel
theorem dX5_fault_15 : decode cX5_fault 15 = .ok (.ifCond .ne 8, 3) := by decide +kernel
theorem dX5_fault_18 : decode cX5_fault 18 = .ok (.aload_n 0, 1) := by decide +kernel
theorem dX5_fault_19 : decode cX5_fault 19 = .ok (.getfield 138, 3) := by decide +kernel
theorem dX5_fault_22 : decode cX5_fault 22 = .ok (.ireturn, 1) := by decide +kernel
theorem dX5_fault_23 : decode cX5_fault 23 = .ok (.aload_n 0, 1) := by decide +kernel
theorem dX5_fault_24 : decode cX5_fault 24 = .ok (.bipush 44, 2) := by decide +kernel
theorem dX5_fault_26 : decode cX5_fault 26 = .ok (.invokevirtual 153, 3) := by decide +kernel
theorem dX5_fault_29 : decode cX5_fault 29 = .ok (.istore_n 1, 1) := by decide +kernel
theorem dX5_fault_30 : decode cX5_fault 30 = .ok (.goto (-23), 3) := by decide +kernel
theorem dX5_fault_33 : decode cX5_fault 33 = .ok (.aload_n 0, 1) := by decide +kernel
theorem dX5_fault_34 : decode cX5_fault 34 = .ok (.getfield 138, 3) := by decide +kernel
theorem dX5_fault_37 : decode cX5_fault 37 = .ok (.aload_n 0, 1) := by decide +kernel
theorem dX5_fault_38 : decode cX5_fault 38 = .ok (.getfield 135, 3) := by decide +kernel
theorem dX5_fault_41 : decode cX5_fault 41 = .ok (.if_icmp .ne 8, 3) := by decide +kernel
theorem dX5_fault_44 : decode cX5_fault 44 = .ok (.bipush (-5), 2) := by decide +kernel
theorem dX5_fault_46 : decode cX5_fault 46 = .ok (.goto 7, 3) := by decide +kernel
theorem dX5_fault_49 : decode cX5_fault 49 = .ok (.aload_n 0, 1) := by decide +kernel
theorem dX5_fault_50 : decode cX5_fault 50 = .ok (.getfield 138, 3) := by decide +kernel
theorem dX5_fault_53 : decode cX5_fault 53 = .ok (.ireturn, 1) := by decide +kernel
theorem dX5_doesText_0 : decode cX5_doesText 0 = .ok (.aload_n 0, 1) := by decide +kernel
theorem dX5_doesText_1 : decode cX5_doesText 1 = .ok (.iconst 0, 1) := by decide +kernel
theorem dX5_doesText_2 : decode cX5_doesText 2 = .ok (.putfield 138, 3) := by decide +kernel
theorem dX5_doesText_5 : decode cX5_doesText 5 = .ok (.iconst 0, 1) := by decide +kernel
theorem dX5_doesText_6 : decode cX5_doesText 6 = .ok (.istore_n 1, 1) := by decide +kernel
theorem dX5_doesText_7 : decode cX5_doesText 7 = .ok (.iconst 1, 1) := by decide +kernel
theorem dX5_doesText_8 : decode cX5_doesText 8 = .ok (.istore_n 2, 1) := by decide +kernel
theorem dX5_doesText_9 : decode cX5_doesText 9 = .ok (.iload_n 2, 1) := by decide +kernel
theorem dX5_doesText_10 : decode cX5_doesText 10 = .ok (.ifCond .eq 94, 3) := by decide +kernel
theorem dX5_doesText_13 : decode cX5_doesText 13 = .ok (.aload_n 0, 1) := by decide +kernel
theorem dX5_doesText_14 : decode cX5_doesText 14 = .ok (.invokevirtual 162, 3) := by decide +kernel
theorem dX5_doesText_17 : decode cX5_doesText 17 = .ok (.istore_n 3, 1) := by decide +kernel
theorem dX5_doesText_18 : decode cX5_doesText 18 = .ok (.aload_n 0, 1) := by decide +kernel
theorem dX5_doesText_19 : decode cX5_doesText 19 = .ok (.getfield 7, 3) := by decide +kernel
theorem dX5_doesText_22 : decode cX5_doesText 22 = .ok (.iconst 5, 1) := by decide +kernel
theorem dX5_doesText_23 : decode cX5_doesText 23 = .ok (.iaload, 1) := by decide +kernel
theorem dX5_doesText_24 : decode cX5_doesText 24 = .ok (.aload_n 0, 1) := by decide +kernel
theorem dX5_doesText_25 : decode cX5_doesText 25 = .ok (.getfield 147, 3) := by decide +kernel
theorem dX5_doesText_28 : decode cX5_doesText 28 = .ok (.iadd, 1) := by decide +kernel
theorem dX5_doesText_29 : decode cX5_doesText 29 = .ok (.bipush 20, 2) := by decide +kernel
theorem dX5_doesText_31 : decode cX5_doesText 31 = .ok (.if_icmp .gt 19, 3) := by decide +kernel
theorem dX5_doesText_34 : decode cX5_doesText 34 = .ok (.aload_n 0, 1) := by decide +kernel
theorem dX5_doesText_35 : decode cX5_doesText 35 = .ok (.getfield 7, 3) := by decide +kernel
theorem dX5_doesText_38 : decode cX5_doesText 38 = .ok (.iconst 2, 1) := by decide +kernel
theorem dX5_doesText_39 : decode cX5_doesText 39 = .ok (.iaload, 1) := by decide +kernel
theorem dX5_doesText_40 : decode cX5_doesText 40 = .ok (.aload_n 0, 1) := by decide +kernel
theorem dX5_doesText_41 : decode cX5_doesText 41 = .ok (.getfield 150, 3) := by decide +kernel
theorem dX5_doesText_44 : decode cX5_doesText 44 = .ok (.iadd, 1) := by decide +kernel
theorem dX5_doesText_45 : decode cX5_doesText 45 = .ok (.ldc 131, 2) := by decide +kernel
theorem dX5_doesText_47 : decode cX5_doesText 47 = .ok (.if_icmp .le 6, 3) := by decide +kernel
theorem dX5_doesText_50 : decode cX5_doesText 50 = .ok (.bipush (-3), 2) := by decide +kernel
theorem dX5_doesText_52 : decode cX5_doesText 52 = .ok (.ireturn, 1) := by decide +kernel
theorem dX5_doesText_53 : decode cX5_doesText 53 = .ok (.iconst 0, 1) := by decide +kernel
theorem dX5_doesText_54 : decode cX5_doesText 54 = .ok (.istore 4, 2) := by decide +kernel
theorem dX5_doesText_56 : decode cX5_doesText 56 = .ok (.iload 4, 2) := by decide +kernel
theorem dX5_doesText_58 : decode cX5_doesText 58 = .ok (.aload_n 0, 1) := by decide +kernel
theorem dX5_doesText_59 : decode cX5_doesText 59 = .ok (.getfield 147, 3) := by decide +kernel
theorem dX5_doesText_62 : decode cX5_doesText 62 = .ok (.if_icmp .ge 17, 3) := by decide +kernel
theorem dX5_doesText_65 : decode cX5_doesText 65 = .ok (.aload_n 0, 1) := by decide +kernel
theorem dX5_doesText_66 : decode cX5_doesText 66 = .ok (.aload_n 0, 1) := by decide +kernel
theorem dX5_doesText_67 : decode cX5_doesText 67 = .ok (.getfield 159, 3) := by decide +kernel
theorem dX5_doesText_70 : decode cX5_doesText 70 = .ok (.invokevirtual 125, 3) := by decide +kernel
theorem dX5_doesText_73 : decode cX5_doesText 73 = .ok (.iinc 4 1, 3) := by decide +kernel
theorem dX5_doesText_76 : decode cX5_doesText 76 = .ok (.goto (-20), 3) := by decide +kernel
theorem dX5_doesText_79 : decode cX5_doesText 79 = .ok (.aload_n 0, 1) := by decide +kernel
theorem dX5_doesText_80 : decode cX5_doesText 80 = .ok (.aload_n 0, 1) := by decide +kernel
theorem dX5_doesText_81 : decode cX5_doesText 81 = .ok (.getfield 150, 3) := by decide +kernel
theorem dX5_doesText_84 : decode cX5_doesText 84 = .ok (.invokevirtual 132, 3) := by decide +kernel
theorem dX5_doesText_87 : decode cX5_doesText 87 = .ok (.iload_n 1, 1) := by decide +kernel
theorem dX5_doesText_88 : decode cX5_doesText 88 = .ok (.aload_n 0, 1) := by decide +kernel
theorem dX5_doesText_89 : decode cX5_doesText 89 = .ok (.getfield 147, 3) := by decide +kernel
theorem dX5_doesText_92 : decode cX5_doesText 92 = .ok (.iadd, 1) := by decide +kernel
theorem dX5_doesText_93 : decode cX5_doesText 93 = .ok (.istore_n 1, 1) := by decide +kernel
theorem dX5_doesText_94 : decode cX5_doesText 94 = .ok (.aload_n 0, 1) := by decide +kernel
theorem dX5_doesText_95 : decode cX5_doesText 95 = .ok (.bipush 44, 2) := by decide +kernel
theorem dX5_doesText_97 : decode cX5_doesText 97 = .ok (.invokevirtual 153, 3) := by decide +kernel
theorem dX5_doesText_100 : decode cX5_doesText 100 = .ok (.istore_n 2, 1) := by decide +kernel
theorem dX5_doesText_101 : decode cX5_doesText 101 = .ok (.goto (-92), 3) := by decide +kernel
theorem dX5_doesText_104 : decode cX5_doesText 104 = .ok (.iload_n 1, 1) := by decide +kernel
theorem dX5_doesText_105 : decode cX5_doesText 105 = .ok (.ireturn, 1) := by decide +kernel
theorem dX5_pushAll_0 : decode cX5_pushAll 0 = .ok (.aload_n 0, 1) := by decide +kernel
theorem dX5_pushAll_1 : decode cX5_pushAll 1 = .ok (.invokevirtual 165, 3) := by decide +kernel
theorem dX5_pushAll_4 : decode cX5_pushAll 4 = .ok (.istore_n 1, 1) := by decide +kernel
theorem dX5_pushAll_5 : decode cX5_pushAll 5 = .ok (.iload_n 1, 1) := by decide +kernel
theorem dX5_pushAll_6 : decode cX5_pushAll 6 = .ok (.bipush (-5), 2) := by decide +kernel
theorem dX5_pushAll_8 : decode cX5_pushAll 8 = .ok (.if_icmp .eq 8, 3) := by decide +kernel
theorem dX5_pushAll_11 : decode cX5_pushAll 11 = .ok (.bipush (-100), 2) := by decide +kernel
theorem dX5_pushAll_13 : decode cX5_pushAll 13 = .ok (.iload_n 1, 1) := by decide +kernel
theorem dX5_pushAll_14 : decode cX5_pushAll 14 = .ok (.isub, 1) := by decide +kernel
theorem dX5_pushAll_15 : decode cX5_pushAll 15 = .ok (.ireturn, 1) := by decide +kernel
theorem dX5_pushAll_16 : decode cX5_pushAll 16 = .ok (.aload_n 0, 1) := by decide +kernel
theorem dX5_pushAll_17 : decode cX5_pushAll 17 = .ok (.invokevirtual 108, 3) := by decide +kernel
theorem dX5_pushAll_20 : decode cX5_pushAll 20 = .ok (.aload_n 0, 1) := by decide +kernel
theorem dX5_pushAll_21 : decode cX5_pushAll 21 = .ok (.invokevirtual 168, 3) := by decide +kernel
theorem dX5_pushAll_24 : decode cX5_pushAll 24 = .ok (.istore_n 2, 1) := by decide +kernel
theorem dX5_pushAll_25 : decode cX5_pushAll 25 = .ok (.iload_n 2, 1) := by decide +kernel
theorem dX5_pushAll_26 : decode cX5_pushAll 26 = .ok (.bipush (-3), 2) := by decide +kernel
theorem dX5_pushAll_28 : decode cX5_pushAll 28 = .ok (.if_icmp .ne 17, 3) := by decide +kernel
theorem dX5_pushAll_31 : decode cX5_pushAll 31 = .ok (.aload_n 0, 1) := by decide +kernel
theorem dX5_pushAll_32 : decode cX5_pushAll 32 = .ok (.getfield 13, 3) := by decide +kernel
theorem dX5_pushAll_35 : decode cX5_pushAll 35 = .ok (.aload_n 0, 1) := by decide +kernel
theorem dX5_pushAll_36 : decode cX5_pushAll 36 = .ok (.getfield 7, 3) := by decide +kernel
theorem dX5_pushAll_39 : decode cX5_pushAll 39 = .ok (.invokestatic 32, 3) := by decide +kernel
theorem dX5_pushAll_42 : decode cX5_pushAll 42 = .ok (.bipush (-3), 2) := by decide +kernel
theorem dX5_pushAll_44 : decode cX5_pushAll 44 = .ok (.ireturn, 1) := by decide +kernel
theorem dX5_pushAll_45 : decode cX5_pushAll 45 = .ok (.aload_n 0, 1) := by decide +kernel
theorem dX5_pushAll_46 : decode cX5_pushAll 46 = .ok (.iload_n 2, 1) := by decide +kernel
theorem dX5_pushAll_47 : decode cX5_pushAll 47 = .ok (.invokevirtual 111, 3) := by decide +kernel
theorem dX5_pushAll_50 : decode cX5_pushAll 50 = .ok (.ireturn, 1) := by decide +kernel
theorem dX5_undo_0 : decode cX5_undo 0 = .ok (.aload_n 0, 1) := by decide +kernel
theorem dX5_undo_1 : decode cX5_undo 1 = .ok (.getfield 36, 3) := by decide +kernel
theorem dX5_undo_4 : decode cX5_undo 4 = .ok (.ifCond .ne 6, 3) := by decide +kernel
theorem dX5_undo_7 : decode cX5_undo 7 = .ok (.bipush (-5), 2) := by decide +kernel
theorem dX5_undo_9 : decode cX5_undo 9 = .ok (.ireturn, 1) := by decide +kernel
theorem dX5_undo_10 : decode cX5_undo 10 = .ok (.aload_n 0, 1) := by decide +kernel
theorem dX5_undo_11 : decode cX5_undo 11 = .ok (.dup, 1) := by decide +kernel
theorem dX5_undo_12 : decode cX5_undo 12 = .ok (.getfield 36, 3) := by decide +kernel
theorem dX5_undo_15 : decode cX5_undo 15 = .ok (.iconst 1, 1) := by decide +kernel
theorem dX5_undo_16 : decode cX5_undo 16 = .ok (.isub, 1) := by decide +kernel
theorem dX5_undo_17 : decode cX5_undo 17 = .ok (.putfield 36, 3) := by decide +kernel
theorem dX5_undo_20 : decode cX5_undo 20 = .ok (.iconst 0, 1) := by decide +kernel
theorem dX5_undo_21 : decode cX5_undo 21 = .ok (.istore_n 1, 1) := by decide +kernel
theorem dX5_undo_22 : decode cX5_undo 22 = .ok (.iload_n 1, 1) := by decide +kernel
theorem dX5_undo_23 : decode cX5_undo 23 = .ok (.bipush 96, 2) := by decide +kernel
theorem dX5_undo_25 : decode cX5_undo 25 = .ok (.if_icmp .ge 29, 3) := by decide +kernel
theorem dX5_undo_28 : decode cX5_undo 28 = .ok (.aload_n 0, 1) := by decide +kernel
theorem dX5_undo_29 : decode cX5_undo 29 = .ok (.getfield 7, 3) := by decide +kernel
theorem dX5_undo_32 : decode cX5_undo 32 = .ok (.iload_n 1, 1) := by decide +kernel
theorem dX5_undo_33 : decode cX5_undo 33 = .ok (.aload_n 0, 1) := by decide +kernel
theorem dX5_undo_34 : decode cX5_undo 34 = .ok (.getfield 19, 3) := by decide +kernel
theorem dX5_undo_37 : decode cX5_undo 37 = .ok (.bipush 96, 2) := by decide +kernel
theorem dX5_undo_39 : decode cX5_undo 39 = .ok (.aload_n 0, 1) := by decide +kernel
theorem dX5_undo_40 : decode cX5_undo 40 = .ok (.getfield 36, 3) := by decide +kernel
theorem dX5_undo_43 : decode cX5_undo 43 = .ok (.imul, 1) := by decide +kernel
theorem dX5_undo_44 : decode cX5_undo 44 = .ok (.iload_n 1, 1) := by decide +kernel
theorem dX5_undo_45 : decode cX5_undo 45 = .ok (.iadd, 1) := by decide +kernel
theorem dX5_undo_46 : decode cX5_undo 46 = .ok (.iaload, 1) := by decide +kernel
theorem dX5_undo_47 : decode cX5_undo 47 = .ok (.iastore, 1) := by decide +kernel
theorem dX5_undo_48 : decode cX5_undo 48 = .ok (.iinc 1 1, 3) := by decide +kernel
theorem dX5_undo_51 : decode cX5_undo 51 = .ok (.goto (-29), 3) := by decide +kernel
theorem dX5_undo_54 : decode cX5_undo 54 = .ok (.aload_n 0, 1) := by decide +kernel
theorem dX5_undo_55 : decode cX5_undo 55 = .ok (.getfield 36, 3) := by decide +kernel
theorem dX5_undo_58 : decode cX5_undo 58 = .ok (.ireturn, 1) := by decide +kernel
theorem dX5_keep_0 : decode cX5_keep 0 = .ok (.aload_n 0, 1) := by decide +kernel
theorem dX5_keep_1 : decode cX5_keep 1 = .ok (.getfield 7, 3) := by decide +kernel
theorem dX5_keep_4 : decode cX5_keep 4 = .ok (.aload_n 0, 1) := by decide +kernel
theorem dX5_keep_5 : decode cX5_keep 5 = .ok (.getfield 22, 3) := by decide +kernel
theorem dX5_keep_8 : decode cX5_keep 8 = .ok (.invokestatic 32, 3) := by decide +kernel
theorem dX5_keep_11 : decode cX5_keep 11 = .ok (.aload_n 0, 1) := by decide +kernel
theorem dX5_keep_12 : decode cX5_keep 12 = .ok (.iconst 1, 1) := by decide +kernel
theorem dX5_keep_13 : decode cX5_keep 13 = .ok (.putfield 171, 3) := by decide +kernel
theorem dX5_keep_16 : decode cX5_keep 16 = .ok (.aload_n 0, 1) := by decide +kernel
theorem dX5_keep_17 : decode cX5_keep 17 = .ok (.getfield 7, 3) := by decide +kernel
theorem dX5_keep_20 : decode cX5_keep 20 = .ok (.iconst 2, 1) := by decide +kernel
theorem dX5_keep_21 : decode cX5_keep 21 = .ok (.iaload, 1) := by decide +kernel
theorem dX5_keep_22 : decode cX5_keep 22 = .ok (.ireturn, 1) := by decide +kernel
theorem dX5_restore_0 : decode cX5_restore 0 = .ok (.aload_n 0, 1) := by decide +kernel
theorem dX5_restore_1 : decode cX5_restore 1 = .ok (.getfield 171, 3) := by decide +kernel
theorem dX5_restore_4 : decode cX5_restore 4 = .ok (.ifCond .ne 6, 3) := by decide +kernel
theorem dX5_restore_7 : decode cX5_restore 7 = .ok (.bipush (-5), 2) := by decide +kernel
theorem dX5_restore_9 : decode cX5_restore 9 = .ok (.ireturn, 1) := by decide +kernel
theorem dX5_restore_10 : decode cX5_restore 10 = .ok (.aload_n 0, 1) := by decide +kernel
theorem dX5_restore_11 : decode cX5_restore 11 = .ok (.invokevirtual 108, 3) := by decide +kernel
theorem dX5_restore_14 : decode cX5_restore 14 = .ok (.aload_n 0, 1) := by decide +kernel
theorem dX5_restore_15 : decode cX5_restore 15 = .ok (.getfield 22, 3) := by decide +kernel
theorem dX5_restore_18 : decode cX5_restore 18 = .ok (.aload_n 0, 1) := by decide +kernel
theorem dX5_restore_19 : decode cX5_restore 19 = .ok (.getfield 7, 3) := by decide +kernel
theorem dX5_restore_22 : decode cX5_restore 22 = .ok (.invokestatic 32, 3) := by decide +kernel
theorem dX5_restore_25 : decode cX5_restore 25 = .ok (.aload_n 0, 1) := by decide +kernel
theorem dX5_restore_26 : decode cX5_restore 26 = .ok (.aload_n 0, 1) := by decide +kernel
theorem dX5_restore_27 : decode cX5_restore 27 = .ok (.getfield 7, 3) := by decide +kernel
theorem dX5_restore_30 : decode cX5_restore 30 = .ok (.iconst 2, 1) := by decide +kernel
theorem dX5_restore_31 : decode cX5_restore 31 = .ok (.iaload, 1) := by decide +kernel
theorem dX5_restore_32 : decode cX5_restore 32 = .ok (.invokevirtual 111, 3) := by decide +kernel
theorem dX5_restore_35 : decode cX5_restore 35 = .ok (.ireturn, 1) := by decide +kernel
theorem dX5_isAlmost_0 : decode cX5_isAlmost 0 = .ok (.iload_n 1, 1) := by decide +kernel
theorem dX5_isAlmost_1 : decode cX5_isAlmost 1 = .ok (.ifCond .ne 30, 3) := by decide +kernel
theorem dX5_isAlmost_4 : decode cX5_isAlmost 4 = .ok (.aload_n 0, 1) := by decide +kernel
theorem dX5_isAlmost_5 : decode cX5_isAlmost 5 = .ok (.iconst 0, 1) := by decide +kernel
theorem dX5_isAlmost_6 : decode cX5_isAlmost 6 = .ok (.invokevirtual 58, 3) := by decide +kernel
theorem dX5_isAlmost_9 : decode cX5_isAlmost 9 = .ok (.aload_n 0, 1) := by decide +kernel
theorem dX5_isAlmost_10 : decode cX5_isAlmost 10 = .ok (.invokevirtual 40, 3) := by decide +kernel
theorem dX5_isAlmost_13 : decode cX5_isAlmost 13 = .ok (.aload_n 0, 1) := by decide +kernel
theorem dX5_isAlmost_14 : decode cX5_isAlmost 14 = .ok (.getfield 7, 3) := by decide +kernel
theorem dX5_isAlmost_17 : decode cX5_isAlmost 17 = .ok (.iconst 3, 1) := by decide +kernel
theorem dX5_isAlmost_18 : decode cX5_isAlmost 18 = .ok (.iaload, 1) := by decide +kernel
theorem dX5_isAlmost_19 : decode cX5_isAlmost 19 = .ok (.isub, 1) := by decide +kernel
theorem dX5_isAlmost_20 : decode cX5_isAlmost 20 = .ok (.if_icmp .lt 7, 3) := by decide +kernel
theorem dX5_isAlmost_23 : decode cX5_isAlmost 23 = .ok (.iconst 1, 1) := by decide +kernel
theorem dX5_isAlmost_24 : decode cX5_isAlmost 24 = .ok (.goto 26, 3) := by decide +kernel
theorem dX5_isAlmost_27 : decode cX5_isAlmost 27 = .ok (.iconst 0, 1) := by decide +kernel
theorem dX5_isAlmost_28 : decode cX5_isAlmost 28 = .ok (.goto 22, 3) := by decide +kernel
theorem dX5_isAlmost_31 : decode cX5_isAlmost 31 = .ok (.aload_n 0, 1) := by decide +kernel
theorem dX5_isAlmost_32 : decode cX5_isAlmost 32 = .ok (.iconst 1, 1) := by decide +kernel
theorem dX5_isAlmost_33 : decode cX5_isAlmost 33 = .ok (.invokevirtual 58, 3) := by decide +kernel
theorem dX5_isAlmost_36 : decode cX5_isAlmost 36 = .ok (.aload_n 0, 1) := by decide +kernel
theorem dX5_isAlmost_37 : decode cX5_isAlmost 37 = .ok (.getfield 7, 3) := by decide +kernel
theorem dX5_isAlmost_40 : decode cX5_isAlmost 40 = .ok (.iconst 4, 1) := by decide +kernel
theorem dX5_isAlmost_41 : decode cX5_isAlmost 41 = .ok (.iaload, 1) := by decide +kernel
theorem dX5_isAlmost_42 : decode cX5_isAlmost 42 = .ok (.if_icmp .gt 7, 3) := by decide +kernel
theorem dX5_isAlmost_45 : decode cX5_isAlmost 45 = .ok (.iconst 1, 1) := by decide +kernel
theorem dX5_isAlmost_46 : decode cX5_isAlmost 46 = .ok (.goto 4, 3) := by decide +kernel
theorem dX5_isAlmost_49 : decode cX5_isAlmost 49 = .ok (.iconst 0, 1) := by decide +kernel
theorem dX5_isAlmost_50 : decode cX5_isAlmost 50 = .ok (.ireturn, 1) := by decide +kernel
theorem dX5_untilTick_0 : decode cX5_untilTick 0 = .ok (.aload_n 0, 1) := by decide +kernel
theorem dX5_untilTick_1 : decode cX5_untilTick 1 = .ok (.iload_n 1, 1) := by decide +kernel
theorem dX5_untilTick_2 : decode cX5_untilTick 2 = .ok (.iconst 2, 1) := by decide +kernel
theorem dX5_untilTick_3 : decode cX5_untilTick 3 = .ok (.invokevirtual 44, 3) := by decide +kernel
theorem dX5_untilTick_6 : decode cX5_untilTick 6 = .ok (.ifCond .ne 6, 3) := by decide +kernel
theorem dX5_untilTick_9 : decode cX5_untilTick 9 = .ok (.bipush (-5), 2) := by decide +kernel
theorem dX5_untilTick_11 : decode cX5_untilTick 11 = .ok (.ireturn, 1) := by decide +kernel
theorem dX5_untilTick_12 : decode cX5_untilTick 12 = .ok (.aload_n 0, 1) := by decide +kernel
theorem dX5_untilTick_13 : decode cX5_untilTick 13 = .ok (.iload_n 1, 1) := by decide +kernel
theorem dX5_untilTick_14 : decode cX5_untilTick 14 = .ok (.iconst 0, 1) := by decide +kernel
theorem dX5_untilTick_15 : decode cX5_untilTick 15 = .ok (.invokevirtual 44, 3) := by decide +kernel
theorem dX5_untilTick_18 : decode cX5_untilTick 18 = .ok (.istore_n 2, 1) := by decide +kernel
theorem dX5_untilTick_19 : decode cX5_untilTick 19 = .ok (.iload_n 2, 1) := by decide +kernel
theorem dX5_untilTick_20 : decode cX5_untilTick 20 = .ok (.aload_n 0, 1) := by decide +kernel
theorem dX5_untilTick_21 : decode cX5_untilTick 21 = .ok (.getfield 7, 3) := by decide +kernel
theorem dX5_untilTick_24 : decode cX5_untilTick 24 = .ok (.iconst 2, 1) := by decide +kernel
theorem dX5_untilTick_25 : decode cX5_untilTick 25 = .ok (.iaload, 1) := by decide +kernel
theorem dX5_untilTick_26 : decode cX5_untilTick 26 = .ok (.aload_n 0, 1) := by decide +kernel
theorem dX5_untilTick_27 : decode cX5_untilTick 27 = .ok (.iload_n 1, 1) := by decide +kernel
theorem dX5_untilTick_28 : decode cX5_untilTick 28 = .ok (.iconst 1, 1) := by decide +kernel
theorem dX5_untilTick_29 : decode cX5_untilTick 29 = .ok (.invokevirtual 44, 3) := by decide +kernel
theorem dX5_untilTick_32 : decode cX5_untilTick 32 = .ok (.iadd, 1) := by decide +kernel
theorem dX5_untilTick_33 : decode cX5_untilTick 33 = .ok (.iload_n 2, 1) := by decide +kernel
theorem dX5_untilTick_34 : decode cX5_untilTick 34 = .ok (.irem, 1) := by decide +kernel
theorem dX5_untilTick_35 : decode cX5_untilTick 35 = .ok (.isub, 1) := by decide +kernel
theorem dX5_untilTick_36 : decode cX5_untilTick 36 = .ok (.ireturn, 1) := by decide +kernel
theorem dX5_side_0 : decode cX5_side 0 = .ok (.iload_n 1, 1) := by decide +kernel
theorem dX5_side_1 : decode cX5_side 1 = .ok (.invokestatic 114, 3) := by decide +kernel
theorem dX5_side_4 : decode cX5_side 4 = .ok (.ifCond .ne 5, 3) := by decide +kernel
theorem dX5_side_7 : decode cX5_side 7 = .ok (.iconst (-1), 1) := by decide +kernel
theorem dX5_side_8 : decode cX5_side 8 = .ok (.ireturn, 1) := by decide +kernel
theorem dX5_side_9 : decode cX5_side 9 = .ok (.iload_n 2, 1) := by decide +kernel
theorem dX5_side_10 : decode cX5_side 10 = .ok (.tableswitch 153 0 13 #[70, 70, 70, 70, 77, 88, 88, 97, 103, 109, 123, 137, 143, 143], 70) := by decide +kernel
theorem dX5_side_80 : decode cX5_side 80 = .ok (.aload_n 0, 1) := by decide +kernel
theorem dX5_side_81 : decode cX5_side 81 = .ok (.iload_n 1, 1) := by decide +kernel
theorem dX5_side_82 : decode cX5_side 82 = .ok (.iload_n 2, 1) := by decide +kernel
theorem dX5_side_83 : decode cX5_side 83 = .ok (.invokevirtual 44, 3) := by decide +kernel
theorem dX5_side_86 : decode cX5_side 86 = .ok (.ireturn, 1) := by decide +kernel
theorem dX5_side_87 : decode cX5_side 87 = .ok (.aload_n 0, 1) := by decide +kernel
theorem dX5_side_88 : decode cX5_side 88 = .ok (.aload_n 0, 1) := by decide +kernel
theorem dX5_side_89 : decode cX5_side 89 = .ok (.iload_n 1, 1) := by decide +kernel
theorem dX5_side_90 : decode cX5_side 90 = .ok (.iconst 3, 1) := by decide +kernel
theorem dX5_side_91 : decode cX5_side 91 = .ok (.invokevirtual 44, 3) := by decide +kernel
theorem dX5_side_94 : decode cX5_side 94 = .ok (.invokevirtual 65, 3) := by decide +kernel
theorem dX5_side_97 : decode cX5_side 97 = .ok (.ireturn, 1) := by decide +kernel
theorem dX5_side_98 : decode cX5_side 98 = .ok (.aload_n 0, 1) := by decide +kernel
theorem dX5_side_99 : decode cX5_side 99 = .ok (.iload_n 1, 1) := by decide +kernel
theorem dX5_side_100 : decode cX5_side 100 = .ok (.iload_n 2, 1) := by decide +kernel
theorem dX5_side_101 : decode cX5_side 101 = .ok (.iconst 1, 1) := by decide +kernel
theorem dX5_side_102 : decode cX5_side 102 = .ok (.isub, 1) := by decide +kernel
theorem dX5_side_103 : decode cX5_side 103 = .ok (.invokevirtual 44, 3) := by decide +kernel
theorem dX5_side_106 : decode cX5_side 106 = .ok (.ireturn, 1) := by decide +kernel
theorem dX5_side_107 : decode cX5_side 107 = .ok (.aload_n 0, 1) := by decide +kernel
theorem dX5_side_108 : decode cX5_side 108 = .ok (.iload_n 1, 1) := by decide +kernel
theorem dX5_side_109 : decode cX5_side 109 = .ok (.invokevirtual 52, 3) := by decide +kernel
theorem dX5_side_112 : decode cX5_side 112 = .ok (.ireturn, 1) := by decide +kernel
theorem dX5_side_113 : decode cX5_side 113 = .ok (.aload_n 0, 1) := by decide +kernel
theorem dX5_side_114 : decode cX5_side 114 = .ok (.iload_n 1, 1) := by decide +kernel
theorem dX5_side_115 : decode cX5_side 115 = .ok (.invokevirtual 58, 3) := by decide +kernel
theorem dX5_side_118 : decode cX5_side 118 = .ok (.ireturn, 1) := by decide +kernel
theorem dX5_side_119 : decode cX5_side 119 = .ok (.aload_n 0, 1) := by decide +kernel
theorem dX5_side_120 : decode cX5_side 120 = .ok (.iload_n 1, 1) := by decide +kernel
theorem dX5_side_121 : decode cX5_side 121 = .ok (.invokevirtual 61, 3) := by decide +kernel
theorem dX5_side_124 : decode cX5_side 124 = .ok (.ifCond .eq 7, 3) := by decide +kernel
theorem dX5_side_127 : decode cX5_side 127 = .ok (.iconst 1, 1) := by decide +kernel
theorem dX5_side_128 : decode cX5_side 128 = .ok (.goto 4, 3) := by decide +kernel
theorem dX5_side_131 : decode cX5_side 131 = .ok (.iconst 0, 1) := by decide +kernel
theorem dX5_side_132 : decode cX5_side 132 = .ok (.ireturn, 1) := by decide +kernel
theorem dX5_side_133 : decode cX5_side 133 = .ok (.aload_n 0, 1) := by decide +kernel
theorem dX5_side_134 : decode cX5_side 134 = .ok (.iload_n 1, 1) := by decide +kernel
theorem dX5_side_135 : decode cX5_side 135 = .ok (.invokevirtual 174, 3) := by decide +kernel
theorem dX5_side_138 : decode cX5_side 138 = .ok (.ifCond .eq 7, 3) := by decide +kernel
theorem dX5_side_141 : decode cX5_side 141 = .ok (.iconst 1, 1) := by decide +kernel
theorem dX5_side_142 : decode cX5_side 142 = .ok (.goto 4, 3) := by decide +kernel
theorem dX5_side_145 : decode cX5_side 145 = .ok (.iconst 0, 1) := by decide +kernel
theorem dX5_side_146 : decode cX5_side 146 = .ok (.ireturn, 1) := by decide +kernel
theorem dX5_side_147 : decode cX5_side 147 = .ok (.aload_n 0, 1) := by decide +kernel
theorem dX5_side_148 : decode cX5_side 148 = .ok (.iload_n 1, 1) := by decide +kernel
theorem dX5_side_149 : decode cX5_side 149 = .ok (.invokevirtual 177, 3) := by decide +kernel
theorem dX5_side_152 : decode cX5_side 152 = .ok (.ireturn, 1) := by decide +kernel
theorem dX5_side_153 : decode cX5_side 153 = .ok (.aload_n 0, 1) := by decide +kernel
theorem dX5_side_154 : decode cX5_side 154 = .ok (.iload_n 1, 1) := by decide +kernel
theorem dX5_side_155 : decode cX5_side 155 = .ok (.iload_n 2, 1) := by decide +kernel
theorem dX5_side_156 : decode cX5_side 156 = .ok (.bipush 6, 2) := by decide +kernel
theorem dX5_side_158 : decode cX5_side 158 = .ok (.isub, 1) := by decide +kernel
theorem dX5_side_159 : decode cX5_side 159 = .ok (.invokevirtual 44, 3) := by decide +kernel
theorem dX5_side_162 : decode cX5_side 162 = .ok (.ireturn, 1) := by decide +kernel
theorem dX5_side_163 : decode cX5_side 163 = .ok (.bipush (-2), 2) := by decide +kernel
theorem dX5_side_165 : decode cX5_side 165 = .ok (.ireturn, 1) := by decide +kernel
theorem dX5_place_0 : decode cX5_place 0 = .ok (.iload_n 1, 1) := by decide +kernel
theorem dX5_place_1 : decode cX5_place 1 = .ok (.i2l, 1) := by decide +kernel
theorem dX5_place_2 : decode cX5_place 2 = .ok (.lconst 0, 1) := by decide +kernel
theorem dX5_place_3 : decode cX5_place 3 = .ok (.aload_n 0, 1) := by decide +kernel
theorem dX5_place_4 : decode cX5_place 4 = .ok (.invokevirtual 40, 3) := by decide +kernel
theorem dX5_place_7 : decode cX5_place 7 = .ok (.i2l, 1) := by decide +kernel
theorem dX5_place_8 : decode cX5_place 8 = .ok (.lconst 1, 1) := by decide +kernel
theorem dX5_place_9 : decode cX5_place 9 = .ok (.lsub, 1) := by decide +kernel
theorem dX5_place_10 : decode cX5_place 10 = .ok (.invokestatic 104, 3) := by decide +kernel
theorem dX5_place_13 : decode cX5_place 13 = .ok (.ifCond .ne 5, 3) := by decide +kernel
theorem dX5_place_16 : decode cX5_place 16 = .ok (.iconst (-1), 1) := by decide +kernel
theorem dX5_place_17 : decode cX5_place 17 = .ok (.ireturn, 1) := by decide +kernel
theorem dX5_place_18 : decode cX5_place 18 = .ok (.iload_n 2, 1) := by decide +kernel
theorem dX5_place_19 : decode cX5_place 19 = .ok (.ifCond .ne 15, 3) := by decide +kernel
theorem dX5_place_22 : decode cX5_place 22 = .ok (.aload_n 0, 1) := by decide +kernel
theorem dX5_place_23 : decode cX5_place 23 = .ok (.getfield 7, 3) := by decide +kernel
theorem dX5_place_26 : decode cX5_place 26 = .ok (.bipush 47, 2) := by decide +kernel
theorem dX5_place_28 : decode cX5_place 28 = .ok (.iload_n 1, 1) := by decide +kernel
theorem dX5_place_29 : decode cX5_place 29 = .ok (.iadd, 1) := by decide +kernel
theorem dX5_place_30 : decode cX5_place 30 = .ok (.iaload, 1) := by decide +kernel
theorem dX5_place_31 : decode cX5_place 31 = .ok (.goto 22, 3) := by decide +kernel
theorem dX5_place_34 : decode cX5_place 34 = .ok (.iload_n 2, 1) := by decide +kernel
theorem dX5_place_35 : decode cX5_place 35 = .ok (.iconst 1, 1) := by decide +kernel
theorem dX5_place_36 : decode cX5_place 36 = .ok (.if_icmp .ne 15, 3) := by decide +kernel
theorem dX5_place_39 : decode cX5_place 39 = .ok (.aload_n 0, 1) := by decide +kernel
theorem dX5_place_40 : decode cX5_place 40 = .ok (.getfield 7, 3) := by decide +kernel
theorem dX5_place_43 : decode cX5_place 43 = .ok (.bipush 63, 2) := by decide +kernel
theorem dX5_place_45 : decode cX5_place 45 = .ok (.iload_n 1, 1) := by decide +kernel
theorem dX5_place_46 : decode cX5_place 46 = .ok (.iadd, 1) := by decide +kernel
theorem dX5_place_47 : decode cX5_place 47 = .ok (.iaload, 1) := by decide +kernel
theorem dX5_place_48 : decode cX5_place 48 = .ok (.goto 5, 3) := by decide +kernel
theorem dX5_place_51 : decode cX5_place 51 = .ok (.bipush (-2), 2) := by decide +kernel
theorem dX5_place_53 : decode cX5_place 53 = .ok (.ireturn, 1) := by decide +kernel
theorem dX5_waiting_0 : decode cX5_waiting 0 = .ok (.iload_n 1, 1) := by decide +kernel
theorem dX5_waiting_1 : decode cX5_waiting 1 = .ok (.ifCond .ge 6, 3) := by decide +kernel
theorem dX5_waiting_4 : decode cX5_waiting 4 = .ok (.bipush (-2), 2) := by decide +kernel
theorem dX5_waiting_6 : decode cX5_waiting 6 = .ok (.ireturn, 1) := by decide +kernel
theorem dX5_waiting_7 : decode cX5_waiting 7 = .ok (.iload_n 1, 1) := by decide +kernel
theorem dX5_waiting_8 : decode cX5_waiting 8 = .ok (.aload_n 0, 1) := by decide +kernel
theorem dX5_waiting_9 : decode cX5_waiting 9 = .ok (.getfield 7, 3) := by decide +kernel
theorem dX5_waiting_12 : decode cX5_waiting 12 = .ok (.iconst 5, 1) := by decide +kernel
theorem dX5_waiting_13 : decode cX5_waiting 13 = .ok (.iaload, 1) := by decide +kernel
theorem dX5_waiting_14 : decode cX5_waiting 14 = .ok (.if_icmp .ge 15, 3) := by decide +kernel
theorem dX5_waiting_17 : decode cX5_waiting 17 = .ok (.aload_n 0, 1) := by decide +kernel
theorem dX5_waiting_18 : decode cX5_waiting 18 = .ok (.getfield 7, 3) := by decide +kernel
theorem dX5_waiting_21 : decode cX5_waiting 21 = .ok (.bipush 27, 2) := by decide +kernel
theorem dX5_waiting_23 : decode cX5_waiting 23 = .ok (.iload_n 1, 1) := by decide +kernel
theorem dX5_waiting_24 : decode cX5_waiting 24 = .ok (.iadd, 1) := by decide +kernel
theorem dX5_waiting_25 : decode cX5_waiting 25 = .ok (.iaload, 1) := by decide +kernel
theorem dX5_waiting_26 : decode cX5_waiting 26 = .ok (.goto 5, 3) := by decide +kernel
theorem dX5_waiting_29 : decode cX5_waiting 29 = .ok (.bipush (-5), 2) := by decide +kernel
theorem dX5_waiting_31 : decode cX5_waiting 31 = .ok (.ireturn, 1) := by decide +kernel
theorem dX5_taken_0 : decode cX5_taken 0 = .ok (.iload_n 1, 1) := by decide +kernel
theorem dX5_taken_1 : decode cX5_taken 1 = .ok (.ifCond .ge 6, 3) := by decide +kernel
theorem dX5_taken_4 : decode cX5_taken 4 = .ok (.bipush (-2), 2) := by decide +kernel
theorem dX5_taken_6 : decode cX5_taken 6 = .ok (.ireturn, 1) := by decide +kernel
theorem dX5_taken_7 : decode cX5_taken 7 = .ok (.iload_n 1, 1) := by decide +kernel
theorem dX5_taken_8 : decode cX5_taken 8 = .ok (.aload_n 0, 1) := by decide +kernel
theorem dX5_taken_9 : decode cX5_taken 9 = .ok (.getfield 7, 3) := by decide +kernel
theorem dX5_taken_12 : decode cX5_taken 12 = .ok (.bipush 10, 2) := by decide +kernel
theorem dX5_taken_14 : decode cX5_taken 14 = .ok (.iaload, 1) := by decide +kernel
theorem dX5_taken_15 : decode cX5_taken 15 = .ok (.if_icmp .ge 15, 3) := by decide +kernel
theorem dX5_taken_18 : decode cX5_taken 18 = .ok (.aload_n 0, 1) := by decide +kernel
theorem dX5_taken_19 : decode cX5_taken 19 = .ok (.getfield 7, 3) := by decide +kernel
theorem dX5_taken_22 : decode cX5_taken 22 = .ok (.bipush 79, 2) := by decide +kernel
theorem dX5_taken_24 : decode cX5_taken 24 = .ok (.iload_n 1, 1) := by decide +kernel
theorem dX5_taken_25 : decode cX5_taken 25 = .ok (.iadd, 1) := by decide +kernel
theorem dX5_taken_26 : decode cX5_taken 26 = .ok (.iaload, 1) := by decide +kernel
theorem dX5_taken_27 : decode cX5_taken 27 = .ok (.goto 5, 3) := by decide +kernel
theorem dX5_taken_30 : decode cX5_taken 30 = .ok (.bipush (-5), 2) := by decide +kernel
theorem dX5_taken_32 : decode cX5_taken 32 = .ok (.ireturn, 1) := by decide +kernel
theorem dX5_isDone_0 : decode cX5_isDone 0 = .ok (.aload_n 0, 1) := by decide +kernel
theorem dX5_isDone_1 : decode cX5_isDone 1 = .ok (.getfield 7, 3) := by decide +kernel
theorem dX5_isDone_4 : decode cX5_isDone 4 = .ok (.bipush 7, 2) := by decide +kernel
theorem dX5_isDone_6 : decode cX5_isDone 6 = .ok (.iaload, 1) := by decide +kernel
theorem dX5_isDone_7 : decode cX5_isDone 7 = .ok (.aload_n 0, 1) := by decide +kernel
theorem dX5_isDone_8 : decode cX5_isDone 8 = .ok (.getfield 7, 3) := by decide +kernel
theorem dX5_isDone_11 : decode cX5_isDone 11 = .ok (.bipush 6, 2) := by decide +kernel
theorem dX5_isDone_13 : decode cX5_isDone 13 = .ok (.iaload, 1) := by decide +kernel
theorem dX5_isDone_14 : decode cX5_isDone 14 = .ok (.if_icmp .ne 16, 3) := by decide +kernel
theorem dX5_isDone_17 : decode cX5_isDone 17 = .ok (.aload_n 0, 1) := by decide +kernel
theorem dX5_isDone_18 : decode cX5_isDone 18 = .ok (.getfield 7, 3) := by decide +kernel
theorem dX5_isDone_21 : decode cX5_isDone 21 = .ok (.iconst 5, 1) := by decide +kernel
theorem dX5_isDone_22 : decode cX5_isDone 22 = .ok (.iaload, 1) := by decide +kernel
theorem dX5_isDone_23 : decode cX5_isDone 23 = .ok (.ifCond .ne 7, 3) := by decide +kernel
theorem dX5_isDone_26 : decode cX5_isDone 26 = .ok (.iconst 1, 1) := by decide +kernel
theorem dX5_isDone_27 : decode cX5_isDone 27 = .ok (.goto 4, 3) := by decide +kernel
theorem dX5_isDone_30 : decode cX5_isDone 30 = .ok (.iconst 0, 1) := by decide +kernel
theorem dX5_isDone_31 : decode cX5_isDone 31 = .ok (.ireturn, 1) := by decide +kernel
theorem dX5_doneIn_0 : decode cX5_doneIn 0 = .ok (.aload_n 0, 1) := by decide +kernel
theorem dX5_doneIn_1 : decode cX5_doneIn 1 = .ok (.getfield 7, 3) := by decide +kernel
theorem dX5_doneIn_4 : decode cX5_doneIn 4 = .ok (.aload_n 0, 1) := by decide +kernel
theorem dX5_doneIn_5 : decode cX5_doneIn 5 = .ok (.getfield 16, 3) := by decide +kernel
theorem dX5_doneIn_8 : decode cX5_doneIn 8 = .ok (.invokestatic 32, 3) := by decide +kernel
theorem dX5_doneIn_11 : decode cX5_doneIn 11 = .ok (.iconst 0, 1) := by decide +kernel
theorem dX5_doneIn_12 : decode cX5_doneIn 12 = .ok (.istore_n 1, 1) := by decide +kernel
theorem dX5_doneIn_13 : decode cX5_doneIn 13 = .ok (.iload_n 1, 1) := by decide +kernel
theorem dX5_doneIn_14 : decode cX5_doneIn 14 = .ok (.sipush 5000, 3) := by decide +kernel
theorem dX5_doneIn_17 : decode cX5_doneIn 17 = .ok (.if_icmp .gt 21, 3) := by decide +kernel
theorem dX5_doneIn_20 : decode cX5_doneIn 20 = .ok (.aload_n 0, 1) := by decide +kernel
theorem dX5_doneIn_21 : decode cX5_doneIn 21 = .ok (.invokevirtual 180, 3) := by decide +kernel
theorem dX5_doneIn_24 : decode cX5_doneIn 24 = .ok (.ifCond .ne 14, 3) := by decide +kernel
theorem dX5_doneIn_27 : decode cX5_doneIn 27 = .ok (.aload_n 0, 1) := by decide +kernel
theorem dX5_doneIn_28 : decode cX5_doneIn 28 = .ok (.invokevirtual 98, 3) := by decide +kernel
theorem dX5_doneIn_31 : decode cX5_doneIn 31 = .ok (.pop, 1) := by decide +kernel
theorem dX5_doneIn_32 : decode cX5_doneIn 32 = .ok (.iinc 1 1, 3) := by decide +kernel
theorem dX5_doneIn_35 : decode cX5_doneIn 35 = .ok (.goto (-22), 3) := by decide +kernel
theorem dX5_doneIn_38 : decode cX5_doneIn 38 = .ok (.aload_n 0, 1) := by decide +kernel
theorem dX5_doneIn_39 : decode cX5_doneIn 39 = .ok (.getfield 16, 3) := by decide +kernel
theorem dX5_doneIn_42 : decode cX5_doneIn 42 = .ok (.aload_n 0, 1) := by decide +kernel
theorem dX5_doneIn_43 : decode cX5_doneIn 43 = .ok (.getfield 7, 3) := by decide +kernel
theorem dX5_doneIn_46 : decode cX5_doneIn 46 = .ok (.invokestatic 32, 3) := by decide +kernel
theorem dX5_doneIn_49 : decode cX5_doneIn 49 = .ok (.iload_n 1, 1) := by decide +kernel
theorem dX5_doneIn_50 : decode cX5_doneIn 50 = .ok (.sipush 5000, 3) := by decide +kernel
theorem dX5_doneIn_53 : decode cX5_doneIn 53 = .ok (.if_icmp .le 8, 3) := by decide +kernel
theorem dX5_doneIn_56 : decode cX5_doneIn 56 = .ok (.bipush (-5), 2) := by decide +kernel
theorem dX5_doneIn_58 : decode cX5_doneIn 58 = .ok (.goto 4, 3) := by decide +kernel
theorem dX5_doneIn_61 : decode cX5_doneIn 61 = .ok (.iload_n 1, 1) := by decide +kernel
theorem dX5_doneIn_62 : decode cX5_doneIn 62 = .ok (.ireturn, 1) := by decide +kernel
theorem dX5_isEnough_0 : decode cX5_isEnough 0 = .ok (.aload_n 0, 1) := by decide +kernel
theorem dX5_isEnough_1 : decode cX5_isEnough 1 = .ok (.getfield 16, 3) := by decide +kernel
theorem dX5_isEnough_4 : decode cX5_isEnough 4 = .ok (.aload_n 0, 1) := by decide +kernel
theorem dX5_isEnough_5 : decode cX5_isEnough 5 = .ok (.getfield 7, 3) := by decide +kernel
theorem dX5_isEnough_8 : decode cX5_isEnough 8 = .ok (.invokestatic 32, 3) := by decide +kernel
theorem dX5_isEnough_11 : decode cX5_isEnough 11 = .ok (.aload_n 0, 1) := by decide +kernel
theorem dX5_isEnough_12 : decode cX5_isEnough 12 = .ok (.iload_n 1, 1) := by decide +kernel
theorem dX5_isEnough_13 : decode cX5_isEnough 13 = .ok (.aload_n 0, 1) := by decide +kernel
theorem dX5_isEnough_14 : decode cX5_isEnough 14 = .ok (.getfield 16, 3) := by decide +kernel
theorem dX5_isEnough_17 : decode cX5_isEnough 17 = .ok (.iconst 1, 1) := by decide +kernel
theorem dX5_isEnough_18 : decode cX5_isEnough 18 = .ok (.iaload, 1) := by decide +kernel
theorem dX5_isEnough_19 : decode cX5_isEnough 19 = .ok (.invokevirtual 28, 3) := by decide +kernel
theorem dX5_isEnough_22 : decode cX5_isEnough 22 = .ok (.iconst 0, 1) := by decide +kernel
theorem dX5_isEnough_23 : decode cX5_isEnough 23 = .ok (.istore_n 3, 1) := by decide +kernel
theorem dX5_isEnough_24 : decode cX5_isEnough 24 = .ok (.iload_n 3, 1) := by decide +kernel
theorem dX5_isEnough_25 : decode cX5_isEnough 25 = .ok (.aload_n 0, 1) := by decide +kernel
theorem dX5_isEnough_26 : decode cX5_isEnough 26 = .ok (.getfield 16, 3) := by decide +kernel
theorem dX5_isEnough_29 : decode cX5_isEnough 29 = .ok (.iconst 5, 1) := by decide +kernel
theorem dX5_isEnough_30 : decode cX5_isEnough 30 = .ok (.iaload, 1) := by decide +kernel
theorem dX5_isEnough_31 : decode cX5_isEnough 31 = .ok (.if_icmp .ge 22, 3) := by decide +kernel
theorem dX5_isEnough_34 : decode cX5_isEnough 34 = .ok (.aload_n 0, 1) := by decide +kernel
theorem dX5_isEnough_35 : decode cX5_isEnough 35 = .ok (.aload_n 0, 1) := by decide +kernel
theorem dX5_isEnough_36 : decode cX5_isEnough 36 = .ok (.getfield 16, 3) := by decide +kernel
theorem dX5_isEnough_39 : decode cX5_isEnough 39 = .ok (.bipush 27, 2) := by decide +kernel
theorem dX5_isEnough_41 : decode cX5_isEnough 41 = .ok (.iload_n 3, 1) := by decide +kernel
theorem dX5_isEnough_42 : decode cX5_isEnough 42 = .ok (.iadd, 1) := by decide +kernel
theorem dX5_isEnough_43 : decode cX5_isEnough 43 = .ok (.iaload, 1) := by decide +kernel
theorem dX5_isEnough_44 : decode cX5_isEnough 44 = .ok (.invokevirtual 125, 3) := by decide +kernel
theorem dX5_isEnough_47 : decode cX5_isEnough 47 = .ok (.iinc 3 1, 3) := by decide +kernel
theorem dX5_isEnough_50 : decode cX5_isEnough 50 = .ok (.goto (-26), 3) := by decide +kernel
theorem dX5_isEnough_53 : decode cX5_isEnough 53 = .ok (.iconst 1, 1) := by decide +kernel
theorem dX5_isEnough_54 : decode cX5_isEnough 54 = .ok (.istore_n 3, 1) := by decide +kernel
theorem dX5_isEnough_55 : decode cX5_isEnough 55 = .ok (.iconst 0, 1) := by decide +kernel
theorem dX5_isEnough_56 : decode cX5_isEnough 56 = .ok (.istore 4, 2) := by decide +kernel
theorem dX5_isEnough_58 : decode cX5_isEnough 58 = .ok (.iload 4, 2) := by decide +kernel
theorem dX5_isEnough_60 : decode cX5_isEnough 60 = .ok (.iload_n 2, 1) := by decide +kernel
theorem dX5_isEnough_61 : decode cX5_isEnough 61 = .ok (.if_icmp .ge 26, 3) := by decide +kernel
theorem dX5_isEnough_64 : decode cX5_isEnough 64 = .ok (.iload_n 3, 1) := by decide +kernel
theorem dX5_isEnough_65 : decode cX5_isEnough 65 = .ok (.ifCond .eq 22, 3) := by decide +kernel
theorem dX5_isEnough_68 : decode cX5_isEnough 68 = .ok (.aload_n 0, 1) := by decide +kernel
theorem dX5_isEnough_69 : decode cX5_isEnough 69 = .ok (.invokevirtual 98, 3) := by decide +kernel
theorem dX5_isEnough_72 : decode cX5_isEnough 72 = .ok (.ifCond .ne 7, 3) := by decide +kernel
theorem dX5_isEnough_75 : decode cX5_isEnough 75 = .ok (.iconst 1, 1) := by decide +kernel
theorem dX5_isEnough_76 : decode cX5_isEnough 76 = .ok (.goto 4, 3) := by decide +kernel
theorem dX5_isEnough_79 : decode cX5_isEnough 79 = .ok (.iconst 0, 1) := by decide +kernel
theorem dX5_isEnough_80 : decode cX5_isEnough 80 = .ok (.istore_n 3, 1) := by decide +kernel
theorem dX5_isEnough_81 : decode cX5_isEnough 81 = .ok (.iinc 4 1, 3) := by decide +kernel
theorem dX5_isEnough_84 : decode cX5_isEnough 84 = .ok (.goto (-26), 3) := by decide +kernel
theorem dX5_isEnough_87 : decode cX5_isEnough 87 = .ok (.iload_n 3, 1) := by decide +kernel
theorem dX5_isEnough_88 : decode cX5_isEnough 88 = .ok (.ireturn, 1) := by decide +kernel
theorem dX5_leastDepth_0 : decode cX5_leastDepth 0 = .ok (.iload_n 1, 1) := by decide +kernel
theorem dX5_leastDepth_1 : decode cX5_leastDepth 1 = .ok (.i2l, 1) := by decide +kernel
theorem dX5_leastDepth_2 : decode cX5_leastDepth 2 = .ok (.lconst 1, 1) := by decide +kernel
theorem dX5_leastDepth_3 : decode cX5_leastDepth 3 = .ok (.ldc2_w 129, 3) := by decide +kernel
theorem dX5_leastDepth_6 : decode cX5_leastDepth 6 = .ok (.invokestatic 104, 3) := by decide +kernel
theorem dX5_leastDepth_9 : decode cX5_leastDepth 9 = .ok (.ifCond .ne 6, 3) := by decide +kernel
theorem dX5_leastDepth_12 : decode cX5_leastDepth 12 = .ok (.bipush (-2), 2) := by decide +kernel
theorem dX5_leastDepth_14 : decode cX5_leastDepth 14 = .ok (.ireturn, 1) := by decide +kernel
theorem dX5_leastDepth_15 : decode cX5_leastDepth 15 = .ok (.aload_n 0, 1) := by decide +kernel
theorem dX5_leastDepth_16 : decode cX5_leastDepth 16 = .ok (.getfield 7, 3) := by decide +kernel
theorem dX5_leastDepth_19 : decode cX5_leastDepth 19 = .ok (.aload_n 0, 1) := by decide +kernel
theorem dX5_leastDepth_20 : decode cX5_leastDepth 20 = .ok (.getfield 16, 3) := by decide +kernel
theorem dX5_leastDepth_23 : decode cX5_leastDepth 23 = .ok (.invokestatic 32, 3) := by decide +kernel
theorem dX5_leastDepth_26 : decode cX5_leastDepth 26 = .ok (.iconst 1, 1) := by decide +kernel
theorem dX5_leastDepth_27 : decode cX5_leastDepth 27 = .ok (.istore_n 2, 1) := by decide +kernel
theorem dX5_leastDepth_28 : decode cX5_leastDepth 28 = .ok (.iload_n 2, 1) := by decide +kernel
theorem dX5_leastDepth_29 : decode cX5_leastDepth 29 = .ok (.iconst 5, 1) := by decide +kernel
theorem dX5_leastDepth_30 : decode cX5_leastDepth 30 = .ok (.if_icmp .ge 18, 3) := by decide +kernel
theorem dX5_leastDepth_33 : decode cX5_leastDepth 33 = .ok (.aload_n 0, 1) := by decide +kernel
theorem dX5_leastDepth_34 : decode cX5_leastDepth 34 = .ok (.iload_n 2, 1) := by decide +kernel
theorem dX5_leastDepth_35 : decode cX5_leastDepth 35 = .ok (.iload_n 1, 1) := by decide +kernel
theorem dX5_leastDepth_36 : decode cX5_leastDepth 36 = .ok (.invokevirtual 183, 3) := by decide +kernel
theorem dX5_leastDepth_39 : decode cX5_leastDepth 39 = .ok (.ifCond .ne 9, 3) := by decide +kernel
theorem dX5_leastDepth_42 : decode cX5_leastDepth 42 = .ok (.iinc 2 1, 3) := by decide +kernel
theorem dX5_leastDepth_45 : decode cX5_leastDepth 45 = .ok (.goto (-17), 3) := by decide +kernel
theorem dX5_leastDepth_48 : decode cX5_leastDepth 48 = .ok (.aload_n 0, 1) := by decide +kernel
theorem dX5_leastDepth_49 : decode cX5_leastDepth 49 = .ok (.getfield 16, 3) := by decide +kernel
theorem dX5_leastDepth_52 : decode cX5_leastDepth 52 = .ok (.aload_n 0, 1) := by decide +kernel
theorem dX5_leastDepth_53 : decode cX5_leastDepth 53 = .ok (.getfield 7, 3) := by decide +kernel
theorem dX5_leastDepth_56 : decode cX5_leastDepth 56 = .ok (.invokestatic 32, 3) := by decide +kernel
theorem dX5_leastDepth_59 : decode cX5_leastDepth 59 = .ok (.iload_n 2, 1) := by decide +kernel
theorem dX5_leastDepth_60 : decode cX5_leastDepth 60 = .ok (.iconst 5, 1) := by decide +kernel
theorem dX5_leastDepth_61 : decode cX5_leastDepth 61 = .ok (.if_icmp .ge 7, 3) := by decide +kernel
theorem dX5_leastDepth_64 : decode cX5_leastDepth 64 = .ok (.iload_n 2, 1) := by decide +kernel
theorem dX5_leastDepth_65 : decode cX5_leastDepth 65 = .ok (.goto 5, 3) := by decide +kernel
theorem dX5_leastDepth_68 : decode cX5_leastDepth 68 = .ok (.bipush (-5), 2) := by decide +kernel
theorem dX5_leastDepth_70 : decode cX5_leastDepth 70 = .ok (.ireturn, 1) := by decide +kernel
theorem dX5_count_0 : decode cX5_count 0 = .ok (.iload_n 1, 1) := by decide +kernel
theorem dX5_count_1 : decode cX5_count 1 = .ok (.tableswitch 144 0 13 #[71, 78, 85, 90, 97, 115, 115, 115, 115, 115, 122, 122, 134, 139], 71) := by decide +kernel
theorem dX5_count_72 : decode cX5_count 72 = .ok (.aload_n 0, 1) := by decide +kernel
theorem dX5_count_73 : decode cX5_count 73 = .ok (.getfield 7, 3) := by decide +kernel
theorem dX5_count_76 : decode cX5_count 76 = .ok (.iconst 2, 1) := by decide +kernel
theorem dX5_count_77 : decode cX5_count 77 = .ok (.iaload, 1) := by decide +kernel
theorem dX5_count_78 : decode cX5_count 78 = .ok (.ireturn, 1) := by decide +kernel
theorem dX5_count_79 : decode cX5_count 79 = .ok (.aload_n 0, 1) := by decide +kernel
theorem dX5_count_80 : decode cX5_count 80 = .ok (.getfield 7, 3) := by decide +kernel
theorem dX5_count_83 : decode cX5_count 83 = .ok (.iconst 0, 1) := by decide +kernel
theorem dX5_count_84 : decode cX5_count 84 = .ok (.iaload, 1) := by decide +kernel
theorem dX5_count_85 : decode cX5_count 85 = .ok (.ireturn, 1) := by decide +kernel
theorem dX5_count_86 : decode cX5_count 86 = .ok (.aload_n 0, 1) := by decide +kernel
theorem dX5_count_87 : decode cX5_count 87 = .ok (.invokevirtual 40, 3) := by decide +kernel
theorem dX5_count_90 : decode cX5_count 90 = .ok (.ireturn, 1) := by decide +kernel
theorem dX5_count_91 : decode cX5_count 91 = .ok (.aload_n 0, 1) := by decide +kernel
theorem dX5_count_92 : decode cX5_count 92 = .ok (.getfield 7, 3) := by decide +kernel
theorem dX5_count_95 : decode cX5_count 95 = .ok (.iconst 1, 1) := by decide +kernel
theorem dX5_count_96 : decode cX5_count 96 = .ok (.iaload, 1) := by decide +kernel
theorem dX5_count_97 : decode cX5_count 97 = .ok (.ireturn, 1) := by decide +kernel
theorem dX5_count_98 : decode cX5_count 98 = .ok (.aload_n 0, 1) := by decide +kernel
theorem dX5_count_99 : decode cX5_count 99 = .ok (.aload_n 0, 1) := by decide +kernel
theorem dX5_count_100 : decode cX5_count 100 = .ok (.iconst 0, 1) := by decide +kernel
theorem dX5_count_101 : decode cX5_count 101 = .ok (.iconst 3, 1) := by decide +kernel
theorem dX5_count_102 : decode cX5_count 102 = .ok (.invokevirtual 44, 3) := by decide +kernel
theorem dX5_count_105 : decode cX5_count 105 = .ok (.aload_n 0, 1) := by decide +kernel
theorem dX5_count_106 : decode cX5_count 106 = .ok (.iconst 1, 1) := by decide +kernel
theorem dX5_count_107 : decode cX5_count 107 = .ok (.iconst 3, 1) := by decide +kernel
theorem dX5_count_108 : decode cX5_count 108 = .ok (.invokevirtual 44, 3) := by decide +kernel
theorem dX5_count_111 : decode cX5_count 111 = .ok (.isub, 1) := by decide +kernel
theorem dX5_count_112 : decode cX5_count 112 = .ok (.invokevirtual 55, 3) := by decide +kernel
theorem dX5_count_115 : decode cX5_count 115 = .ok (.ireturn, 1) := by decide +kernel
theorem dX5_count_116 : decode cX5_count 116 = .ok (.aload_n 0, 1) := by decide +kernel
theorem dX5_count_117 : decode cX5_count 117 = .ok (.getfield 7, 3) := by decide +kernel
theorem dX5_count_120 : decode cX5_count 120 = .ok (.iload_n 1, 1) := by decide +kernel
theorem dX5_count_121 : decode cX5_count 121 = .ok (.iaload, 1) := by decide +kernel
theorem dX5_count_122 : decode cX5_count 122 = .ok (.ireturn, 1) := by decide +kernel
theorem dX5_count_123 : decode cX5_count 123 = .ok (.aload_n 0, 1) := by decide +kernel
theorem dX5_count_124 : decode cX5_count 124 = .ok (.getfield 7, 3) := by decide +kernel
theorem dX5_count_127 : decode cX5_count 127 = .ok (.iconst 3, 1) := by decide +kernel
theorem dX5_count_128 : decode cX5_count 128 = .ok (.iload_n 1, 1) := by decide +kernel
theorem dX5_count_129 : decode cX5_count 129 = .ok (.iadd, 1) := by decide +kernel
theorem dX5_count_130 : decode cX5_count 130 = .ok (.bipush 10, 2) := by decide +kernel
theorem dX5_count_132 : decode cX5_count 132 = .ok (.isub, 1) := by decide +kernel
theorem dX5_count_133 : decode cX5_count 133 = .ok (.iaload, 1) := by decide +kernel
theorem dX5_count_134 : decode cX5_count 134 = .ok (.ireturn, 1) := by decide +kernel
theorem dX5_count_135 : decode cX5_count 135 = .ok (.aload_n 0, 1) := by decide +kernel
theorem dX5_count_136 : decode cX5_count 136 = .ok (.getfield 36, 3) := by decide +kernel
theorem dX5_count_139 : decode cX5_count 139 = .ok (.ireturn, 1) := by decide +kernel
theorem dX5_count_140 : decode cX5_count 140 = .ok (.aload_n 0, 1) := by decide +kernel
theorem dX5_count_141 : decode cX5_count 141 = .ok (.getfield 135, 3) := by decide +kernel
theorem dX5_count_144 : decode cX5_count 144 = .ok (.ireturn, 1) := by decide +kernel
theorem dX5_count_145 : decode cX5_count 145 = .ok (.bipush (-2), 2) := by decide +kernel
theorem dX5_count_147 : decode cX5_count 147 = .ok (.ireturn, 1) := by decide +kernel
