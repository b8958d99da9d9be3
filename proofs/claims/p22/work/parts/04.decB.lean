theorem dX4_init_0 : decode cX4_init 0 = .ok (.aload_n 0, 1) := by decide +kernel
theorem dX4_init_1 : decode cX4_init 1 = .ok (.invokespecial 1, 3) := by decide +kernel
theorem dX4_init_4 : decode cX4_init 4 = .ok (.aload_n 0, 1) := by decide +kernel
theorem dX4_init_5 : decode cX4_init 5 = .ok (.new 7, 3) := by decide +kernel
theorem dX4_init_8 : decode cX4_init 8 = .ok (.dup, 1) := by decide +kernel
theorem dX4_init_9 : decode cX4_init 9 = .ok (.invokespecial 9, 3) := by decide +kernel
theorem dX4_init_12 : decode cX4_init 12 = .ok (.putfield 10, 3) := by decide +kernel
theorem dX4_init_15 : decode cX4_init 15 = .ok (.aload_n 0, 1) := by decide +kernel
theorem dX4_init_16 : decode cX4_init 16 = .ok (.new 7, 3) := by decide +kernel
theorem dX4_init_19 : decode cX4_init 19 = .ok (.dup, 1) := by decide +kernel
theorem dX4_init_20 : decode cX4_init 20 = .ok (.invokespecial 9, 3) := by decide +kernel
theorem dX4_init_23 : decode cX4_init 23 = .ok (.putfield 16, 3) := by decide +kernel
theorem dX4_init_26 : decode cX4_init 26 = .ok (.aload_n 0, 1) := by decide +kernel
theorem dX4_init_27 : decode cX4_init 27 = .ok (.new 7, 3) := by decide +kernel
theorem dX4_init_30 : decode cX4_init 30 = .ok (.dup, 1) := by decide +kernel
theorem dX4_init_31 : decode cX4_init 31 = .ok (.invokespecial 9, 3) := by decide +kernel
theorem dX4_init_34 : decode cX4_init 34 = .ok (.putfield 19, 3) := by decide +kernel
theorem dX4_init_37 : decode cX4_init 37 = .ok (.aload_n 0, 1) := by decide +kernel
theorem dX4_init_38 : decode cX4_init 38 = .ok (.new 22, 3) := by decide +kernel
theorem dX4_init_41 : decode cX4_init 41 = .ok (.dup, 1) := by decide +kernel
theorem dX4_init_42 : decode cX4_init 42 = .ok (.invokespecial 24, 3) := by decide +kernel
theorem dX4_init_45 : decode cX4_init 45 = .ok (.putfield 25, 3) := by decide +kernel
theorem dX4_init_48 : decode cX4_init 48 = .ok (.aload_n 0, 1) := by decide +kernel
theorem dX4_init_49 : decode cX4_init 49 = .ok (.new 29, 3) := by decide +kernel
theorem dX4_init_52 : decode cX4_init 52 = .ok (.dup, 1) := by decide +kernel
theorem dX4_init_53 : decode cX4_init 53 = .ok (.invokespecial 31, 3) := by decide +kernel
theorem dX4_init_56 : decode cX4_init 56 = .ok (.putfield 32, 3) := by decide +kernel
theorem dX4_init_59 : decode cX4_init 59 = .ok (.return_, 1) := by decide +kernel
theorem dX4_build_0 : decode cX4_build 0 = .ok (.iload_n 1, 1) := by decide +kernel
theorem dX4_build_1 : decode cX4_build 1 = .ok (.iconst 1, 1) := by decide +kernel
theorem dX4_build_2 : decode cX4_build 2 = .ok (.iconst 4, 1) := by decide +kernel
theorem dX4_build_3 : decode cX4_build 3 = .ok (.invokestatic 36, 3) := by decide +kernel
theorem dX4_build_6 : decode cX4_build 6 = .ok (.ifCond .ne 6, 3) := by decide +kernel
theorem dX4_build_9 : decode cX4_build 9 = .ok (.bipush (-2), 2) := by decide +kernel
theorem dX4_build_11 : decode cX4_build 11 = .ok (.ireturn, 1) := by decide +kernel
theorem dX4_build_12 : decode cX4_build 12 = .ok (.aload_n 0, 1) := by decide +kernel
theorem dX4_build_13 : decode cX4_build 13 = .ok (.getfield 25, 3) := by decide +kernel
theorem dX4_build_16 : decode cX4_build 16 = .ok (.aload_n 0, 1) := by decide +kernel
theorem dX4_build_17 : decode cX4_build 17 = .ok (.getfield 10, 3) := by decide +kernel
theorem dX4_build_20 : decode cX4_build 20 = .ok (.invokevirtual 40, 3) := by decide +kernel
theorem dX4_build_23 : decode cX4_build 23 = .ok (.aload_n 0, 1) := by decide +kernel
theorem dX4_build_24 : decode cX4_build 24 = .ok (.getfield 10, 3) := by decide +kernel
theorem dX4_build_27 : decode cX4_build 27 = .ok (.iload_n 1, 1) := by decide +kernel
theorem dX4_build_28 : decode cX4_build 28 = .ok (.iload_n 2, 1) := by decide +kernel
theorem dX4_build_29 : decode cX4_build 29 = .ok (.invokevirtual 44, 3) := by decide +kernel
theorem dX4_build_32 : decode cX4_build 32 = .ok (.aload_n 0, 1) := by decide +kernel
theorem dX4_build_33 : decode cX4_build 33 = .ok (.getfield 10, 3) := by decide +kernel
theorem dX4_build_36 : decode cX4_build 36 = .ok (.iconst 0, 1) := by decide +kernel
theorem dX4_build_37 : decode cX4_build 37 = .ok (.putfield 48, 3) := by decide +kernel
theorem dX4_build_40 : decode cX4_build 40 = .ok (.aload_n 0, 1) := by decide +kernel
theorem dX4_build_41 : decode cX4_build 41 = .ok (.getfield 10, 3) := by decide +kernel
theorem dX4_build_44 : decode cX4_build 44 = .ok (.invokevirtual 52, 3) := by decide +kernel
theorem dX4_build_47 : decode cX4_build 47 = .ok (.ireturn, 1) := by decide +kernel
theorem dX4_setClock_0 : decode cX4_setClock 0 = .ok (.iload_n 1, 1) := by decide +kernel
theorem dX4_setClock_1 : decode cX4_setClock 1 = .ok (.invokestatic 56, 3) := by decide +kernel
theorem dX4_setClock_4 : decode cX4_setClock 4 = .ok (.ifCond .ne 5, 3) := by decide +kernel
theorem dX4_setClock_7 : decode cX4_setClock 7 = .ok (.iconst (-1), 1) := by decide +kernel
theorem dX4_setClock_8 : decode cX4_setClock 8 = .ok (.ireturn, 1) := by decide +kernel
theorem dX4_setClock_9 : decode cX4_setClock 9 = .ok (.iload_n 2, 1) := by decide +kernel
theorem dX4_setClock_10 : decode cX4_setClock 10 = .ok (.iconst 1, 1) := by decide +kernel
theorem dX4_setClock_11 : decode cX4_setClock 11 = .ok (.bipush 50, 2) := by decide +kernel
theorem dX4_setClock_13 : decode cX4_setClock 13 = .ok (.invokestatic 36, 3) := by decide +kernel
theorem dX4_setClock_16 : decode cX4_setClock 16 = .ok (.ifCond .eq 13, 3) := by decide +kernel
theorem dX4_setClock_19 : decode cX4_setClock 19 = .ok (.iload_n 3, 1) := by decide +kernel
theorem dX4_setClock_20 : decode cX4_setClock 20 = .ok (.iconst 0, 1) := by decide +kernel
theorem dX4_setClock_21 : decode cX4_setClock 21 = .ok (.bipush 49, 2) := by decide +kernel
theorem dX4_setClock_23 : decode cX4_setClock 23 = .ok (.invokestatic 36, 3) := by decide +kernel
theorem dX4_setClock_26 : decode cX4_setClock 26 = .ok (.ifCond .ne 6, 3) := by decide +kernel
theorem dX4_setClock_29 : decode cX4_setClock 29 = .ok (.bipush (-2), 2) := by decide +kernel
theorem dX4_setClock_31 : decode cX4_setClock 31 = .ok (.ireturn, 1) := by decide +kernel
theorem dX4_setClock_32 : decode cX4_setClock 32 = .ok (.aload_n 0, 1) := by decide +kernel
theorem dX4_setClock_33 : decode cX4_setClock 33 = .ok (.getfield 10, 3) := by decide +kernel
theorem dX4_setClock_36 : decode cX4_setClock 36 = .ok (.iload_n 1, 1) := by decide +kernel
theorem dX4_setClock_37 : decode cX4_setClock 37 = .ok (.invokevirtual 60, 3) := by decide +kernel
theorem dX4_setClock_40 : decode cX4_setClock 40 = .ok (.astore 4, 2) := by decide +kernel
theorem dX4_setClock_42 : decode cX4_setClock 42 = .ok (.aload 4, 2) := by decide +kernel
theorem dX4_setClock_44 : decode cX4_setClock 44 = .ok (.getfield 64, 3) := by decide +kernel
theorem dX4_setClock_47 : decode cX4_setClock 47 = .ok (.iload_n 2, 1) := by decide +kernel
theorem dX4_setClock_48 : decode cX4_setClock 48 = .ok (.if_icmp .ne 15, 3) := by decide +kernel
theorem dX4_setClock_51 : decode cX4_setClock 51 = .ok (.aload 4, 2) := by decide +kernel
theorem dX4_setClock_53 : decode cX4_setClock 53 = .ok (.getfield 69, 3) := by decide +kernel
theorem dX4_setClock_56 : decode cX4_setClock 56 = .ok (.iload_n 3, 1) := by decide +kernel
theorem dX4_setClock_57 : decode cX4_setClock 57 = .ok (.if_icmp .ne 6, 3) := by decide +kernel
theorem dX4_setClock_60 : decode cX4_setClock 60 = .ok (.bipush (-5), 2) := by decide +kernel
theorem dX4_setClock_62 : decode cX4_setClock 62 = .ok (.ireturn, 1) := by decide +kernel
theorem dX4_setClock_63 : decode cX4_setClock 63 = .ok (.aload_n 0, 1) := by decide +kernel
theorem dX4_setClock_64 : decode cX4_setClock 64 = .ok (.getfield 25, 3) := by decide +kernel
theorem dX4_setClock_67 : decode cX4_setClock 67 = .ok (.aload_n 0, 1) := by decide +kernel
theorem dX4_setClock_68 : decode cX4_setClock 68 = .ok (.getfield 10, 3) := by decide +kernel
theorem dX4_setClock_71 : decode cX4_setClock 71 = .ok (.invokevirtual 40, 3) := by decide +kernel
theorem dX4_setClock_74 : decode cX4_setClock 74 = .ok (.aload 4, 2) := by decide +kernel
theorem dX4_setClock_76 : decode cX4_setClock 76 = .ok (.getfield 64, 3) := by decide +kernel
theorem dX4_setClock_79 : decode cX4_setClock 79 = .ok (.istore 5, 2) := by decide +kernel
theorem dX4_setClock_81 : decode cX4_setClock 81 = .ok (.aload 4, 2) := by decide +kernel
theorem dX4_setClock_83 : decode cX4_setClock 83 = .ok (.iload_n 2, 1) := by decide +kernel
theorem dX4_setClock_84 : decode cX4_setClock 84 = .ok (.putfield 64, 3) := by decide +kernel
theorem dX4_setClock_87 : decode cX4_setClock 87 = .ok (.aload 4, 2) := by decide +kernel
theorem dX4_setClock_89 : decode cX4_setClock 89 = .ok (.iload_n 3, 1) := by decide +kernel
theorem dX4_setClock_90 : decode cX4_setClock 90 = .ok (.putfield 69, 3) := by decide +kernel
theorem dX4_setClock_93 : decode cX4_setClock 93 = .ok (.iload 5, 2) := by decide +kernel
theorem dX4_setClock_95 : decode cX4_setClock 95 = .ok (.ireturn, 1) := by decide +kernel
theorem dX4_start_0 : decode cX4_start 0 = .ok (.iload_n 1, 1) := by decide +kernel
theorem dX4_start_1 : decode cX4_start 1 = .ok (.invokestatic 56, 3) := by decide +kernel
theorem dX4_start_4 : decode cX4_start 4 = .ok (.ifCond .ne 5, 3) := by decide +kernel
theorem dX4_start_7 : decode cX4_start 7 = .ok (.iconst (-1), 1) := by decide +kernel
theorem dX4_start_8 : decode cX4_start 8 = .ok (.ireturn, 1) := by decide +kernel
theorem dX4_start_9 : decode cX4_start 9 = .ok (.aload_n 0, 1) := by decide +kernel
theorem dX4_start_10 : decode cX4_start 10 = .ok (.getfield 10, 3) := by decide +kernel
theorem dX4_start_13 : decode cX4_start 13 = .ok (.iload_n 1, 1) := by decide +kernel
theorem dX4_start_14 : decode cX4_start 14 = .ok (.invokevirtual 60, 3) := by decide +kernel
theorem dX4_start_17 : decode cX4_start 17 = .ok (.astore_n 3, 1) := by decide +kernel
theorem dX4_start_18 : decode cX4_start 18 = .ok (.aload_n 3, 1) := by decide +kernel
theorem dX4_start_19 : decode cX4_start 19 = .ok (.getfield 72, 3) := by decide +kernel
theorem dX4_start_22 : decode cX4_start 22 = .ok (.iload_n 2, 1) := by decide +kernel
theorem dX4_start_23 : decode cX4_start 23 = .ok (.if_icmp .ne 6, 3) := by decide +kernel
theorem dX4_start_26 : decode cX4_start 26 = .ok (.bipush (-5), 2) := by decide +kernel
theorem dX4_start_28 : decode cX4_start 28 = .ok (.ireturn, 1) := by decide +kernel
theorem dX4_start_29 : decode cX4_start 29 = .ok (.aload_n 0, 1) := by decide +kernel
theorem dX4_start_30 : decode cX4_start 30 = .ok (.getfield 25, 3) := by decide +kernel
theorem dX4_start_33 : decode cX4_start 33 = .ok (.aload_n 0, 1) := by decide +kernel
theorem dX4_start_34 : decode cX4_start 34 = .ok (.getfield 10, 3) := by decide +kernel
theorem dX4_start_37 : decode cX4_start 37 = .ok (.invokevirtual 40, 3) := by decide +kernel
theorem dX4_start_40 : decode cX4_start 40 = .ok (.aload_n 3, 1) := by decide +kernel
theorem dX4_start_41 : decode cX4_start 41 = .ok (.iload_n 2, 1) := by decide +kernel
theorem dX4_start_42 : decode cX4_start 42 = .ok (.putfield 72, 3) := by decide +kernel
theorem dX4_start_45 : decode cX4_start 45 = .ok (.aload_n 0, 1) := by decide +kernel
theorem dX4_start_46 : decode cX4_start 46 = .ok (.getfield 10, 3) := by decide +kernel
theorem dX4_start_49 : decode cX4_start 49 = .ok (.getfield 76, 3) := by decide +kernel
theorem dX4_start_52 : decode cX4_start 52 = .ok (.ireturn, 1) := by decide +kernel
theorem dX4_set_0 : decode cX4_set 0 = .ok (.iload_n 1, 1) := by decide +kernel
theorem dX4_set_1 : decode cX4_set 1 = .ok (.iconst 0, 1) := by decide +kernel
theorem dX4_set_2 : decode cX4_set 2 = .ok (.iconst 1, 1) := by decide +kernel
theorem dX4_set_3 : decode cX4_set 3 = .ok (.invokestatic 36, 3) := by decide +kernel
theorem dX4_set_6 : decode cX4_set 6 = .ok (.ifCond .eq 13, 3) := by decide +kernel
theorem dX4_set_9 : decode cX4_set 9 = .ok (.iload_n 2, 1) := by decide +kernel
theorem dX4_set_10 : decode cX4_set 10 = .ok (.iconst 0, 1) := by decide +kernel
theorem dX4_set_11 : decode cX4_set 11 = .ok (.bipush 15, 2) := by decide +kernel
theorem dX4_set_13 : decode cX4_set 13 = .ok (.invokestatic 36, 3) := by decide +kernel
theorem dX4_set_16 : decode cX4_set 16 = .ok (.ifCond .ne 6, 3) := by decide +kernel
theorem dX4_set_19 : decode cX4_set 19 = .ok (.bipush (-2), 2) := by decide +kernel
theorem dX4_set_21 : decode cX4_set 21 = .ok (.ireturn, 1) := by decide +kernel
theorem dX4_set_22 : decode cX4_set 22 = .ok (.iload_n 1, 1) := by decide +kernel
theorem dX4_set_23 : decode cX4_set 23 = .ok (.ifCond .ne 13, 3) := by decide +kernel
theorem dX4_set_26 : decode cX4_set 26 = .ok (.aload_n 0, 1) := by decide +kernel
theorem dX4_set_27 : decode cX4_set 27 = .ok (.getfield 10, 3) := by decide +kernel
theorem dX4_set_30 : decode cX4_set 30 = .ok (.getfield 79, 3) := by decide +kernel
theorem dX4_set_33 : decode cX4_set 33 = .ok (.goto 10, 3) := by decide +kernel
theorem dX4_set_36 : decode cX4_set 36 = .ok (.aload_n 0, 1) := by decide +kernel
theorem dX4_set_37 : decode cX4_set 37 = .ok (.getfield 10, 3) := by decide +kernel
theorem dX4_set_40 : decode cX4_set 40 = .ok (.getfield 82, 3) := by decide +kernel
theorem dX4_set_43 : decode cX4_set 43 = .ok (.istore_n 3, 1) := by decide +kernel
theorem dX4_set_44 : decode cX4_set 44 = .ok (.iload_n 3, 1) := by decide +kernel
theorem dX4_set_45 : decode cX4_set 45 = .ok (.iload_n 2, 1) := by decide +kernel
theorem dX4_set_46 : decode cX4_set 46 = .ok (.if_icmp .ne 6, 3) := by decide +kernel
theorem dX4_set_49 : decode cX4_set 49 = .ok (.bipush (-5), 2) := by decide +kernel
theorem dX4_set_51 : decode cX4_set 51 = .ok (.ireturn, 1) := by decide +kernel
theorem dX4_set_52 : decode cX4_set 52 = .ok (.aload_n 0, 1) := by decide +kernel
theorem dX4_set_53 : decode cX4_set 53 = .ok (.getfield 25, 3) := by decide +kernel
theorem dX4_set_56 : decode cX4_set 56 = .ok (.aload_n 0, 1) := by decide +kernel
theorem dX4_set_57 : decode cX4_set 57 = .ok (.getfield 10, 3) := by decide +kernel
theorem dX4_set_60 : decode cX4_set 60 = .ok (.invokevirtual 40, 3) := by decide +kernel
theorem dX4_set_63 : decode cX4_set 63 = .ok (.iload_n 1, 1) := by decide +kernel
theorem dX4_set_64 : decode cX4_set 64 = .ok (.ifCond .ne 14, 3) := by decide +kernel
theorem dX4_set_67 : decode cX4_set 67 = .ok (.aload_n 0, 1) := by decide +kernel
theorem dX4_set_68 : decode cX4_set 68 = .ok (.getfield 10, 3) := by decide +kernel
theorem dX4_set_71 : decode cX4_set 71 = .ok (.iload_n 2, 1) := by decide +kernel
theorem dX4_set_72 : decode cX4_set 72 = .ok (.putfield 79, 3) := by decide +kernel
theorem dX4_set_75 : decode cX4_set 75 = .ok (.goto 11, 3) := by decide +kernel
theorem dX4_set_78 : decode cX4_set 78 = .ok (.aload_n 0, 1) := by decide +kernel
theorem dX4_set_79 : decode cX4_set 79 = .ok (.getfield 10, 3) := by decide +kernel
theorem dX4_set_82 : decode cX4_set 82 = .ok (.iload_n 2, 1) := by decide +kernel
theorem dX4_set_83 : decode cX4_set 83 = .ok (.putfield 82, 3) := by decide +kernel
theorem dX4_set_86 : decode cX4_set 86 = .ok (.iload_n 3, 1) := by decide +kernel
theorem dX4_set_87 : decode cX4_set 87 = .ok (.ireturn, 1) := by decide +kernel
theorem dX4_push_0 : decode cX4_push 0 = .ok (.iload_n 1, 1) := by decide +kernel
theorem dX4_push_1 : decode cX4_push 1 = .ok (.iconst 0, 1) := by decide +kernel
theorem dX4_push_2 : decode cX4_push 2 = .ok (.bipush 99, 2) := by decide +kernel
theorem dX4_push_4 : decode cX4_push 4 = .ok (.invokestatic 36, 3) := by decide +kernel
theorem dX4_push_7 : decode cX4_push 7 = .ok (.ifCond .ne 6, 3) := by decide +kernel
theorem dX4_push_10 : decode cX4_push 10 = .ok (.bipush (-2), 2) := by decide +kernel
theorem dX4_push_12 : decode cX4_push 12 = .ok (.ireturn, 1) := by decide +kernel
theorem dX4_push_13 : decode cX4_push 13 = .ok (.aload_n 0, 1) := by decide +kernel
theorem dX4_push_14 : decode cX4_push 14 = .ok (.getfield 10, 3) := by decide +kernel
theorem dX4_push_17 : decode cX4_push 17 = .ok (.getfield 48, 3) := by decide +kernel
theorem dX4_push_20 : decode cX4_push 20 = .ok (.bipush 20, 2) := by decide +kernel
theorem dX4_push_22 : decode cX4_push 22 = .ok (.if_icmp .lt 6, 3) := by decide +kernel
theorem dX4_push_25 : decode cX4_push 25 = .ok (.bipush (-3), 2) := by decide +kernel
theorem dX4_push_27 : decode cX4_push 27 = .ok (.ireturn, 1) := by decide +kernel
theorem dX4_push_28 : decode cX4_push 28 = .ok (.aload_n 0, 1) := by decide +kernel
theorem dX4_push_29 : decode cX4_push 29 = .ok (.getfield 25, 3) := by decide +kernel
theorem dX4_push_32 : decode cX4_push 32 = .ok (.aload_n 0, 1) := by decide +kernel
theorem dX4_push_33 : decode cX4_push 33 = .ok (.getfield 10, 3) := by decide +kernel
theorem dX4_push_36 : decode cX4_push 36 = .ok (.invokevirtual 40, 3) := by decide +kernel
theorem dX4_push_39 : decode cX4_push 39 = .ok (.aload_n 0, 1) := by decide +kernel
theorem dX4_push_40 : decode cX4_push 40 = .ok (.getfield 10, 3) := by decide +kernel
theorem dX4_push_43 : decode cX4_push 43 = .ok (.iload_n 1, 1) := by decide +kernel
theorem dX4_push_44 : decode cX4_push 44 = .ok (.iconst 1, 1) := by decide +kernel
theorem dX4_push_45 : decode cX4_push 45 = .ok (.invokevirtual 85, 3) := by decide +kernel
theorem dX4_push_48 : decode cX4_push 48 = .ok (.pop, 1) := by decide +kernel
theorem dX4_push_49 : decode cX4_push 49 = .ok (.aload_n 0, 1) := by decide +kernel
theorem dX4_push_50 : decode cX4_push 50 = .ok (.getfield 10, 3) := by decide +kernel
theorem dX4_push_53 : decode cX4_push 53 = .ok (.getfield 48, 3) := by decide +kernel
theorem dX4_push_56 : decode cX4_push 56 = .ok (.ireturn, 1) := by decide +kernel
theorem dX4_pushAll_0 : decode cX4_pushAll 0 = .ok (.aload_n 0, 1) := by decide +kernel
theorem dX4_pushAll_1 : decode cX4_pushAll 1 = .ok (.getfield 32, 3) := by decide +kernel
theorem dX4_pushAll_4 : decode cX4_pushAll 4 = .ok (.invokevirtual 89, 3) := by decide +kernel
theorem dX4_pushAll_7 : decode cX4_pushAll 7 = .ok (.istore_n 1, 1) := by decide +kernel
theorem dX4_pushAll_8 : decode cX4_pushAll 8 = .ok (.iload_n 1, 1) := by decide +kernel
theorem dX4_pushAll_9 : decode cX4_pushAll 9 = .ok (.iconst (-1), 1) := by decide +kernel
theorem dX4_pushAll_10 : decode cX4_pushAll 10 = .ok (.if_icmp .eq 8, 3) := by decide +kernel
theorem dX4_pushAll_13 : decode cX4_pushAll 13 = .ok (.bipush (-100), 2) := by decide +kernel
theorem dX4_pushAll_15 : decode cX4_pushAll 15 = .ok (.iload_n 1, 1) := by decide +kernel
theorem dX4_pushAll_16 : decode cX4_pushAll 16 = .ok (.isub, 1) := by decide +kernel
theorem dX4_pushAll_17 : decode cX4_pushAll 17 = .ok (.ireturn, 1) := by decide +kernel
theorem dX4_pushAll_18 : decode cX4_pushAll 18 = .ok (.aload_n 0, 1) := by decide +kernel
theorem dX4_pushAll_19 : decode cX4_pushAll 19 = .ok (.getfield 16, 3) := by decide +kernel
theorem dX4_pushAll_22 : decode cX4_pushAll 22 = .ok (.aload_n 0, 1) := by decide +kernel
theorem dX4_pushAll_23 : decode cX4_pushAll 23 = .ok (.getfield 10, 3) := by decide +kernel
theorem dX4_pushAll_26 : decode cX4_pushAll 26 = .ok (.invokevirtual 92, 3) := by decide +kernel
theorem dX4_pushAll_29 : decode cX4_pushAll 29 = .ok (.aload_n 0, 1) := by decide +kernel
theorem dX4_pushAll_30 : decode cX4_pushAll 30 = .ok (.getfield 16, 3) := by decide +kernel
theorem dX4_pushAll_33 : decode cX4_pushAll 33 = .ok (.aload_n 0, 1) := by decide +kernel
theorem dX4_pushAll_34 : decode cX4_pushAll 34 = .ok (.getfield 32, 3) := by decide +kernel
theorem dX4_pushAll_37 : decode cX4_pushAll 37 = .ok (.invokevirtual 95, 3) := by decide +kernel
theorem dX4_pushAll_40 : decode cX4_pushAll 40 = .ok (.ifCond .ne 6, 3) := by decide +kernel
theorem dX4_pushAll_43 : decode cX4_pushAll 43 = .ok (.bipush (-3), 2) := by decide +kernel
theorem dX4_pushAll_45 : decode cX4_pushAll 45 = .ok (.ireturn, 1) := by decide +kernel
theorem dX4_pushAll_46 : decode cX4_pushAll 46 = .ok (.aload_n 0, 1) := by decide +kernel
theorem dX4_pushAll_47 : decode cX4_pushAll 47 = .ok (.getfield 25, 3) := by decide +kernel
theorem dX4_pushAll_50 : decode cX4_pushAll 50 = .ok (.aload_n 0, 1) := by decide +kernel
theorem dX4_pushAll_51 : decode cX4_pushAll 51 = .ok (.getfield 10, 3) := by decide +kernel
theorem dX4_pushAll_54 : decode cX4_pushAll 54 = .ok (.invokevirtual 40, 3) := by decide +kernel
theorem dX4_pushAll_57 : decode cX4_pushAll 57 = .ok (.aload_n 0, 1) := by decide +kernel
theorem dX4_pushAll_58 : decode cX4_pushAll 58 = .ok (.getfield 10, 3) := by decide +kernel
theorem dX4_pushAll_61 : decode cX4_pushAll 61 = .ok (.aload_n 0, 1) := by decide +kernel
theorem dX4_pushAll_62 : decode cX4_pushAll 62 = .ok (.getfield 16, 3) := by decide +kernel
theorem dX4_pushAll_65 : decode cX4_pushAll 65 = .ok (.invokevirtual 92, 3) := by decide +kernel
theorem dX4_pushAll_68 : decode cX4_pushAll 68 = .ok (.aload_n 0, 1) := by decide +kernel
theorem dX4_pushAll_69 : decode cX4_pushAll 69 = .ok (.getfield 32, 3) := by decide +kernel
theorem dX4_pushAll_72 : decode cX4_pushAll 72 = .ok (.invokevirtual 99, 3) := by decide +kernel
theorem dX4_pushAll_75 : decode cX4_pushAll 75 = .ok (.ireturn, 1) := by decide +kernel
theorem dX4_pass_0 : decode cX4_pass 0 = .ok (.iload_n 1, 1) := by decide +kernel
theorem dX4_pass_1 : decode cX4_pass 1 = .ok (.iconst 1, 1) := by decide +kernel
theorem dX4_pass_2 : decode cX4_pass 2 = .ok (.sipush 500, 3) := by decide +kernel
theorem dX4_pass_5 : decode cX4_pass 5 = .ok (.invokestatic 36, 3) := by decide +kernel
theorem dX4_pass_8 : decode cX4_pass 8 = .ok (.ifCond .ne 6, 3) := by decide +kernel
theorem dX4_pass_11 : decode cX4_pass 11 = .ok (.bipush (-2), 2) := by decide +kernel
theorem dX4_pass_13 : decode cX4_pass 13 = .ok (.ireturn, 1) := by decide +kernel
theorem dX4_pass_14 : decode cX4_pass 14 = .ok (.aload_n 0, 1) := by decide +kernel
theorem dX4_pass_15 : decode cX4_pass 15 = .ok (.getfield 10, 3) := by decide +kernel
theorem dX4_pass_18 : decode cX4_pass 18 = .ok (.iload_n 1, 1) := by decide +kernel
theorem dX4_pass_19 : decode cX4_pass 19 = .ok (.invokevirtual 102, 3) := by decide +kernel
theorem dX4_pass_22 : decode cX4_pass 22 = .ok (.ifCond .ne 6, 3) := by decide +kernel
theorem dX4_pass_25 : decode cX4_pass 25 = .ok (.bipush (-3), 2) := by decide +kernel
theorem dX4_pass_27 : decode cX4_pass 27 = .ok (.ireturn, 1) := by decide +kernel
theorem dX4_pass_28 : decode cX4_pass 28 = .ok (.aload_n 0, 1) := by decide +kernel
theorem dX4_pass_29 : decode cX4_pass 29 = .ok (.getfield 25, 3) := by decide +kernel
theorem dX4_pass_32 : decode cX4_pass 32 = .ok (.aload_n 0, 1) := by decide +kernel
theorem dX4_pass_33 : decode cX4_pass 33 = .ok (.getfield 10, 3) := by decide +kernel
theorem dX4_pass_36 : decode cX4_pass 36 = .ok (.invokevirtual 40, 3) := by decide +kernel
theorem dX4_pass_39 : decode cX4_pass 39 = .ok (.aload_n 0, 1) := by decide +kernel
theorem dX4_pass_40 : decode cX4_pass 40 = .ok (.getfield 10, 3) := by decide +kernel
theorem dX4_pass_43 : decode cX4_pass 43 = .ok (.getfield 105, 3) := by decide +kernel
theorem dX4_pass_46 : decode cX4_pass 46 = .ok (.istore_n 2, 1) := by decide +kernel
theorem dX4_pass_47 : decode cX4_pass 47 = .ok (.aload_n 0, 1) := by decide +kernel
theorem dX4_pass_48 : decode cX4_pass 48 = .ok (.getfield 10, 3) := by decide +kernel
theorem dX4_pass_51 : decode cX4_pass 51 = .ok (.iload_n 1, 1) := by decide +kernel
theorem dX4_pass_52 : decode cX4_pass 52 = .ok (.invokevirtual 108, 3) := by decide +kernel
theorem dX4_pass_55 : decode cX4_pass 55 = .ok (.aload_n 0, 1) := by decide +kernel
theorem dX4_pass_56 : decode cX4_pass 56 = .ok (.getfield 10, 3) := by decide +kernel
theorem dX4_pass_59 : decode cX4_pass 59 = .ok (.getfield 105, 3) := by decide +kernel
theorem dX4_pass_62 : decode cX4_pass 62 = .ok (.iload_n 2, 1) := by decide +kernel
theorem dX4_pass_63 : decode cX4_pass 63 = .ok (.isub, 1) := by decide +kernel
theorem dX4_pass_64 : decode cX4_pass 64 = .ok (.ireturn, 1) := by decide +kernel
theorem dX4_type_0 : decode cX4_type 0 = .ok (.aload_n 0, 1) := by decide +kernel
theorem dX4_type_1 : decode cX4_type 1 = .ok (.getfield 32, 3) := by decide +kernel
theorem dX4_type_4 : decode cX4_type 4 = .ok (.iload_n 1, 1) := by decide +kernel
theorem dX4_type_5 : decode cX4_type 5 = .ok (.invokevirtual 112, 3) := by decide +kernel
theorem dX4_type_8 : decode cX4_type 8 = .ok (.ifCond .eq 13, 3) := by decide +kernel
theorem dX4_type_11 : decode cX4_type 11 = .ok (.aload_n 0, 1) := by decide +kernel
theorem dX4_type_12 : decode cX4_type 12 = .ok (.getfield 32, 3) := by decide +kernel
theorem dX4_type_15 : decode cX4_type 15 = .ok (.getfield 116, 3) := by decide +kernel
theorem dX4_type_18 : decode cX4_type 18 = .ok (.goto 5, 3) := by decide +kernel
theorem dX4_type_21 : decode cX4_type 21 = .ok (.bipush (-3), 2) := by decide +kernel
theorem dX4_type_23 : decode cX4_type 23 = .ok (.ireturn, 1) := by decide +kernel
theorem dX4_clearText_0 : decode cX4_clearText 0 = .ok (.aload_n 0, 1) := by decide +kernel
theorem dX4_clearText_1 : decode cX4_clearText 1 = .ok (.getfield 32, 3) := by decide +kernel
theorem dX4_clearText_4 : decode cX4_clearText 4 = .ok (.getfield 116, 3) := by decide +kernel
theorem dX4_clearText_7 : decode cX4_clearText 7 = .ok (.istore_n 1, 1) := by decide +kernel
theorem dX4_clearText_8 : decode cX4_clearText 8 = .ok (.aload_n 0, 1) := by decide +kernel
theorem dX4_clearText_9 : decode cX4_clearText 9 = .ok (.getfield 32, 3) := by decide +kernel
theorem dX4_clearText_12 : decode cX4_clearText 12 = .ok (.iconst 0, 1) := by decide +kernel
theorem dX4_clearText_13 : decode cX4_clearText 13 = .ok (.putfield 116, 3) := by decide +kernel
theorem dX4_clearText_16 : decode cX4_clearText 16 = .ok (.iload_n 1, 1) := by decide +kernel
theorem dX4_clearText_17 : decode cX4_clearText 17 = .ok (.ireturn, 1) := by decide +kernel
theorem dX4_side_0 : decode cX4_side 0 = .ok (.iload_n 1, 1) := by decide +kernel
theorem dX4_side_1 : decode cX4_side 1 = .ok (.invokestatic 56, 3) := by decide +kernel
theorem dX4_side_4 : decode cX4_side 4 = .ok (.ifCond .ne 5, 3) := by decide +kernel
theorem dX4_side_7 : decode cX4_side 7 = .ok (.iconst (-1), 1) := by decide +kernel
theorem dX4_side_8 : decode cX4_side 8 = .ok (.ireturn, 1) := by decide +kernel
theorem dX4_side_9 : decode cX4_side 9 = .ok (.aload_n 0, 1) := by decide +kernel
theorem dX4_side_10 : decode cX4_side 10 = .ok (.getfield 10, 3) := by decide +kernel
theorem dX4_side_13 : decode cX4_side 13 = .ok (.iload_n 1, 1) := by decide +kernel
theorem dX4_side_14 : decode cX4_side 14 = .ok (.invokevirtual 60, 3) := by decide +kernel
theorem dX4_side_17 : decode cX4_side 17 = .ok (.astore_n 3, 1) := by decide +kernel
theorem dX4_side_18 : decode cX4_side 18 = .ok (.iload_n 2, 1) := by decide +kernel
theorem dX4_side_19 : decode cX4_side 19 = .ok (.tableswitch 220 0 13 #[69, 74, 79, 87, 92, 104, 109, 114, 126, 148, 173, 198, 210, 215], 69) := by decide +kernel
theorem dX4_side_88 : decode cX4_side 88 = .ok (.aload_n 3, 1) := by decide +kernel
theorem dX4_side_89 : decode cX4_side 89 = .ok (.getfield 64, 3) := by decide +kernel
theorem dX4_side_92 : decode cX4_side 92 = .ok (.ireturn, 1) := by decide +kernel
theorem dX4_side_93 : decode cX4_side 93 = .ok (.aload_n 3, 1) := by decide +kernel
theorem dX4_side_94 : decode cX4_side 94 = .ok (.getfield 69, 3) := by decide +kernel
theorem dX4_side_97 : decode cX4_side 97 = .ok (.ireturn, 1) := by decide +kernel
theorem dX4_side_98 : decode cX4_side 98 = .ok (.aload_n 3, 1) := by decide +kernel
theorem dX4_side_99 : decode cX4_side 99 = .ok (.getfield 72, 3) := by decide +kernel
theorem dX4_side_102 : decode cX4_side 102 = .ok (.invokestatic 129, 3) := by decide +kernel
theorem dX4_side_105 : decode cX4_side 105 = .ok (.ireturn, 1) := by decide +kernel
theorem dX4_side_106 : decode cX4_side 106 = .ok (.aload_n 3, 1) := by decide +kernel
theorem dX4_side_107 : decode cX4_side 107 = .ok (.getfield 133, 3) := by decide +kernel
theorem dX4_side_110 : decode cX4_side 110 = .ok (.ireturn, 1) := by decide +kernel
theorem dX4_side_111 : decode cX4_side 111 = .ok (.aload_n 0, 1) := by decide +kernel
theorem dX4_side_112 : decode cX4_side 112 = .ok (.getfield 10, 3) := by decide +kernel
theorem dX4_side_115 : decode cX4_side 115 = .ok (.aload_n 3, 1) := by decide +kernel
theorem dX4_side_116 : decode cX4_side 116 = .ok (.getfield 133, 3) := by decide +kernel
theorem dX4_side_119 : decode cX4_side 119 = .ok (.invokevirtual 136, 3) := by decide +kernel
theorem dX4_side_122 : decode cX4_side 122 = .ok (.ireturn, 1) := by decide +kernel
theorem dX4_side_123 : decode cX4_side 123 = .ok (.aload_n 3, 1) := by decide +kernel
theorem dX4_side_124 : decode cX4_side 124 = .ok (.getfield 140, 3) := by decide +kernel
theorem dX4_side_127 : decode cX4_side 127 = .ok (.ireturn, 1) := by decide +kernel
theorem dX4_side_128 : decode cX4_side 128 = .ok (.aload_n 3, 1) := by decide +kernel
theorem dX4_side_129 : decode cX4_side 129 = .ok (.getfield 143, 3) := by decide +kernel
theorem dX4_side_132 : decode cX4_side 132 = .ok (.ireturn, 1) := by decide +kernel
theorem dX4_side_133 : decode cX4_side 133 = .ok (.aload_n 0, 1) := by decide +kernel
theorem dX4_side_134 : decode cX4_side 134 = .ok (.getfield 10, 3) := by decide +kernel
theorem dX4_side_137 : decode cX4_side 137 = .ok (.aload_n 3, 1) := by decide +kernel
theorem dX4_side_138 : decode cX4_side 138 = .ok (.getfield 143, 3) := by decide +kernel
theorem dX4_side_141 : decode cX4_side 141 = .ok (.invokevirtual 146, 3) := by decide +kernel
theorem dX4_side_144 : decode cX4_side 144 = .ok (.ireturn, 1) := by decide +kernel
theorem dX4_side_145 : decode cX4_side 145 = .ok (.iload_n 1, 1) := by decide +kernel
theorem dX4_side_146 : decode cX4_side 146 = .ok (.ifCond .ne 13, 3) := by decide +kernel
theorem dX4_side_149 : decode cX4_side 149 = .ok (.aload_n 0, 1) := by decide +kernel
theorem dX4_side_150 : decode cX4_side 150 = .ok (.getfield 10, 3) := by decide +kernel
theorem dX4_side_153 : decode cX4_side 153 = .ok (.invokevirtual 149, 3) := by decide +kernel
theorem dX4_side_156 : decode cX4_side 156 = .ok (.goto 10, 3) := by decide +kernel
theorem dX4_side_159 : decode cX4_side 159 = .ok (.aload_n 0, 1) := by decide +kernel
theorem dX4_side_160 : decode cX4_side 160 = .ok (.getfield 10, 3) := by decide +kernel
theorem dX4_side_163 : decode cX4_side 163 = .ok (.invokevirtual 152, 3) := by decide +kernel
theorem dX4_side_166 : decode cX4_side 166 = .ok (.ireturn, 1) := by decide +kernel
theorem dX4_side_167 : decode cX4_side 167 = .ok (.iload_n 1, 1) := by decide +kernel
theorem dX4_side_168 : decode cX4_side 168 = .ok (.ifCond .ne 13, 3) := by decide +kernel
theorem dX4_side_171 : decode cX4_side 171 = .ok (.aload_n 0, 1) := by decide +kernel
theorem dX4_side_172 : decode cX4_side 172 = .ok (.getfield 10, 3) := by decide +kernel
theorem dX4_side_175 : decode cX4_side 175 = .ok (.invokevirtual 155, 3) := by decide +kernel
theorem dX4_side_178 : decode cX4_side 178 = .ok (.goto 10, 3) := by decide +kernel
theorem dX4_side_181 : decode cX4_side 181 = .ok (.aload_n 0, 1) := by decide +kernel
theorem dX4_side_182 : decode cX4_side 182 = .ok (.getfield 10, 3) := by decide +kernel
theorem dX4_side_185 : decode cX4_side 185 = .ok (.invokevirtual 159, 3) := by decide +kernel
theorem dX4_side_188 : decode cX4_side 188 = .ok (.invokestatic 129, 3) := by decide +kernel
theorem dX4_side_191 : decode cX4_side 191 = .ok (.ireturn, 1) := by decide +kernel
theorem dX4_side_192 : decode cX4_side 192 = .ok (.iload_n 1, 1) := by decide +kernel
theorem dX4_side_193 : decode cX4_side 193 = .ok (.ifCond .ne 13, 3) := by decide +kernel
theorem dX4_side_196 : decode cX4_side 196 = .ok (.aload_n 0, 1) := by decide +kernel
theorem dX4_side_197 : decode cX4_side 197 = .ok (.getfield 10, 3) := by decide +kernel
theorem dX4_side_200 : decode cX4_side 200 = .ok (.invokevirtual 162, 3) := by decide +kernel
theorem dX4_side_203 : decode cX4_side 203 = .ok (.goto 10, 3) := by decide +kernel
theorem dX4_side_206 : decode cX4_side 206 = .ok (.aload_n 0, 1) := by decide +kernel
theorem dX4_side_207 : decode cX4_side 207 = .ok (.getfield 10, 3) := by decide +kernel
theorem dX4_side_210 : decode cX4_side 210 = .ok (.invokevirtual 165, 3) := by decide +kernel
theorem dX4_side_213 : decode cX4_side 213 = .ok (.invokestatic 129, 3) := by decide +kernel
theorem dX4_side_216 : decode cX4_side 216 = .ok (.ireturn, 1) := by decide +kernel
theorem dX4_side_217 : decode cX4_side 217 = .ok (.aload_n 3, 1) := by decide +kernel
theorem dX4_side_218 : decode cX4_side 218 = .ok (.aload_n 0, 1) := by decide +kernel
theorem dX4_side_219 : decode cX4_side 219 = .ok (.getfield 10, 3) := by decide +kernel
theorem dX4_side_222 : decode cX4_side 222 = .ok (.getfield 76, 3) := by decide +kernel
theorem dX4_side_225 : decode cX4_side 225 = .ok (.invokevirtual 168, 3) := by decide +kernel
theorem dX4_side_228 : decode cX4_side 228 = .ok (.ireturn, 1) := by decide +kernel
theorem dX4_side_229 : decode cX4_side 229 = .ok (.aload_n 3, 1) := by decide +kernel
theorem dX4_side_230 : decode cX4_side 230 = .ok (.getfield 171, 3) := by decide +kernel
theorem dX4_side_233 : decode cX4_side 233 = .ok (.ireturn, 1) := by decide +kernel
theorem dX4_side_234 : decode cX4_side 234 = .ok (.aload_n 3, 1) := by decide +kernel
theorem dX4_side_235 : decode cX4_side 235 = .ok (.getfield 174, 3) := by decide +kernel
theorem dX4_side_238 : decode cX4_side 238 = .ok (.ireturn, 1) := by decide +kernel
theorem dX4_side_239 : decode cX4_side 239 = .ok (.bipush (-2), 2) := by decide +kernel
theorem dX4_side_241 : decode cX4_side 241 = .ok (.ireturn, 1) := by decide +kernel
theorem dX4_place_0 : decode cX4_place 0 = .ok (.iload_n 1, 1) := by decide +kernel
theorem dX4_place_1 : decode cX4_place 1 = .ok (.iconst 0, 1) := by decide +kernel
theorem dX4_place_2 : decode cX4_place 2 = .ok (.aload_n 0, 1) := by decide +kernel
theorem dX4_place_3 : decode cX4_place 3 = .ok (.getfield 10, 3) := by decide +kernel
theorem dX4_place_6 : decode cX4_place 6 = .ok (.invokevirtual 52, 3) := by decide +kernel
theorem dX4_place_9 : decode cX4_place 9 = .ok (.iconst 1, 1) := by decide +kernel
theorem dX4_place_10 : decode cX4_place 10 = .ok (.isub, 1) := by decide +kernel
theorem dX4_place_11 : decode cX4_place 11 = .ok (.invokestatic 36, 3) := by decide +kernel
theorem dX4_place_14 : decode cX4_place 14 = .ok (.ifCond .ne 5, 3) := by decide +kernel
theorem dX4_place_17 : decode cX4_place 17 = .ok (.iconst (-1), 1) := by decide +kernel
theorem dX4_place_18 : decode cX4_place 18 = .ok (.ireturn, 1) := by decide +kernel
theorem dX4_place_19 : decode cX4_place 19 = .ok (.iload_n 2, 1) := by decide +kernel
theorem dX4_place_20 : decode cX4_place 20 = .ok (.lookupswitch 52 #[(0, 28), (1, 40)], 28) := by decide +kernel
theorem dX4_place_48 : decode cX4_place 48 = .ok (.aload_n 0, 1) := by decide +kernel
theorem dX4_place_49 : decode cX4_place 49 = .ok (.getfield 10, 3) := by decide +kernel
theorem dX4_place_52 : decode cX4_place 52 = .ok (.getfield 177, 3) := by decide +kernel
theorem dX4_place_55 : decode cX4_place 55 = .ok (.iload_n 1, 1) := by decide +kernel
theorem dX4_place_56 : decode cX4_place 56 = .ok (.invokestatic 181, 3) := by decide +kernel
theorem dX4_place_59 : decode cX4_place 59 = .ok (.ireturn, 1) := by decide +kernel
theorem dX4_place_60 : decode cX4_place 60 = .ok (.aload_n 0, 1) := by decide +kernel
theorem dX4_place_61 : decode cX4_place 61 = .ok (.getfield 10, 3) := by decide +kernel
theorem dX4_place_64 : decode cX4_place 64 = .ok (.getfield 185, 3) := by decide +kernel
theorem dX4_place_67 : decode cX4_place 67 = .ok (.iload_n 1, 1) := by decide +kernel
theorem dX4_place_68 : decode cX4_place 68 = .ok (.invokestatic 181, 3) := by decide +kernel
theorem dX4_place_71 : decode cX4_place 71 = .ok (.ireturn, 1) := by decide +kernel
theorem dX4_place_72 : decode cX4_place 72 = .ok (.bipush (-2), 2) := by decide +kernel
theorem dX4_place_74 : decode cX4_place 74 = .ok (.ireturn, 1) := by decide +kernel
theorem dX4_waiting_0 : decode cX4_waiting 0 = .ok (.iload_n 1, 1) := by decide +kernel
theorem dX4_waiting_1 : decode cX4_waiting 1 = .ok (.ifCond .ge 6, 3) := by decide +kernel
theorem dX4_waiting_4 : decode cX4_waiting 4 = .ok (.bipush (-2), 2) := by decide +kernel
theorem dX4_waiting_6 : decode cX4_waiting 6 = .ok (.ireturn, 1) := by decide +kernel
theorem dX4_waiting_7 : decode cX4_waiting 7 = .ok (.iload_n 1, 1) := by decide +kernel
theorem dX4_waiting_8 : decode cX4_waiting 8 = .ok (.aload_n 0, 1) := by decide +kernel
theorem dX4_waiting_9 : decode cX4_waiting 9 = .ok (.getfield 10, 3) := by decide +kernel
theorem dX4_waiting_12 : decode cX4_waiting 12 = .ok (.getfield 48, 3) := by decide +kernel
theorem dX4_waiting_15 : decode cX4_waiting 15 = .ok (.if_icmp .ge 17, 3) := by decide +kernel
theorem dX4_waiting_18 : decode cX4_waiting 18 = .ok (.aload_n 0, 1) := by decide +kernel
theorem dX4_waiting_19 : decode cX4_waiting 19 = .ok (.getfield 10, 3) := by decide +kernel
theorem dX4_waiting_22 : decode cX4_waiting 22 = .ok (.getfield 188, 3) := by decide +kernel
theorem dX4_waiting_25 : decode cX4_waiting 25 = .ok (.iload_n 1, 1) := by decide +kernel
theorem dX4_waiting_26 : decode cX4_waiting 26 = .ok (.invokestatic 181, 3) := by decide +kernel
theorem dX4_waiting_29 : decode cX4_waiting 29 = .ok (.goto 5, 3) := by decide +kernel
theorem dX4_waiting_32 : decode cX4_waiting 32 = .ok (.bipush (-5), 2) := by decide +kernel
theorem dX4_waiting_34 : decode cX4_waiting 34 = .ok (.ireturn, 1) := by decide +kernel
theorem dX4_taken_0 : decode cX4_taken 0 = .ok (.iload_n 1, 1) := by decide +kernel
theorem dX4_taken_1 : decode cX4_taken 1 = .ok (.ifCond .ge 6, 3) := by decide +kernel
theorem dX4_taken_4 : decode cX4_taken 4 = .ok (.bipush (-2), 2) := by decide +kernel
theorem dX4_taken_6 : decode cX4_taken 6 = .ok (.ireturn, 1) := by decide +kernel
theorem dX4_taken_7 : decode cX4_taken 7 = .ok (.aload_n 0, 1) := by decide +kernel
theorem dX4_taken_8 : decode cX4_taken 8 = .ok (.getfield 10, 3) := by decide +kernel
theorem dX4_taken_11 : decode cX4_taken 11 = .ok (.iload_n 1, 1) := by decide +kernel
theorem dX4_taken_12 : decode cX4_taken 12 = .ok (.invokevirtual 191, 3) := by decide +kernel
theorem dX4_taken_15 : decode cX4_taken 15 = .ok (.ireturn, 1) := by decide +kernel
theorem dX4_doneIn_0 : decode cX4_doneIn 0 = .ok (.aload_n 0, 1) := by decide +kernel
theorem dX4_doneIn_1 : decode cX4_doneIn 1 = .ok (.getfield 16, 3) := by decide +kernel
theorem dX4_doneIn_4 : decode cX4_doneIn 4 = .ok (.aload_n 0, 1) := by decide +kernel
theorem dX4_doneIn_5 : decode cX4_doneIn 5 = .ok (.getfield 10, 3) := by decide +kernel
theorem dX4_doneIn_8 : decode cX4_doneIn 8 = .ok (.invokevirtual 92, 3) := by decide +kernel
theorem dX4_doneIn_11 : decode cX4_doneIn 11 = .ok (.iconst 0, 1) := by decide +kernel
theorem dX4_doneIn_12 : decode cX4_doneIn 12 = .ok (.istore_n 1, 1) := by decide +kernel
theorem dX4_doneIn_13 : decode cX4_doneIn 13 = .ok (.iload_n 1, 1) := by decide +kernel
theorem dX4_doneIn_14 : decode cX4_doneIn 14 = .ok (.sipush 5000, 3) := by decide +kernel
theorem dX4_doneIn_17 : decode cX4_doneIn 17 = .ok (.if_icmp .gt 28, 3) := by decide +kernel
theorem dX4_doneIn_20 : decode cX4_doneIn 20 = .ok (.aload_n 0, 1) := by decide +kernel
theorem dX4_doneIn_21 : decode cX4_doneIn 21 = .ok (.getfield 16, 3) := by decide +kernel
theorem dX4_doneIn_24 : decode cX4_doneIn 24 = .ok (.invokevirtual 194, 3) := by decide +kernel
theorem dX4_doneIn_27 : decode cX4_doneIn 27 = .ok (.ifCond .eq 5, 3) := by decide +kernel
theorem dX4_doneIn_30 : decode cX4_doneIn 30 = .ok (.iload_n 1, 1) := by decide +kernel
theorem dX4_doneIn_31 : decode cX4_doneIn 31 = .ok (.ireturn, 1) := by decide +kernel
theorem dX4_doneIn_32 : decode cX4_doneIn 32 = .ok (.aload_n 0, 1) := by decide +kernel
theorem dX4_doneIn_33 : decode cX4_doneIn 33 = .ok (.getfield 16, 3) := by decide +kernel
theorem dX4_doneIn_36 : decode cX4_doneIn 36 = .ok (.invokevirtual 197, 3) := by decide +kernel
theorem dX4_doneIn_39 : decode cX4_doneIn 39 = .ok (.iinc 1 1, 3) := by decide +kernel
theorem dX4_doneIn_42 : decode cX4_doneIn 42 = .ok (.goto (-29), 3) := by decide +kernel
theorem dX4_doneIn_45 : decode cX4_doneIn 45 = .ok (.bipush (-5), 2) := by decide +kernel
theorem dX4_doneIn_47 : decode cX4_doneIn 47 = .ok (.ireturn, 1) := by decide +kernel
theorem dX4_leastDepth_0 : decode cX4_leastDepth 0 = .ok (.iload_n 1, 1) := by decide +kernel
theorem dX4_leastDepth_1 : decode cX4_leastDepth 1 = .ok (.iconst 1, 1) := by decide +kernel
theorem dX4_leastDepth_2 : decode cX4_leastDepth 2 = .ok (.sipush 500, 3) := by decide +kernel
theorem dX4_leastDepth_5 : decode cX4_leastDepth 5 = .ok (.invokestatic 36, 3) := by decide +kernel
theorem dX4_leastDepth_8 : decode cX4_leastDepth 8 = .ok (.ifCond .ne 6, 3) := by decide +kernel
theorem dX4_leastDepth_11 : decode cX4_leastDepth 11 = .ok (.bipush (-2), 2) := by decide +kernel
theorem dX4_leastDepth_13 : decode cX4_leastDepth 13 = .ok (.ireturn, 1) := by decide +kernel
theorem dX4_leastDepth_14 : decode cX4_leastDepth 14 = .ok (.iconst 1, 1) := by decide +kernel
theorem dX4_leastDepth_15 : decode cX4_leastDepth 15 = .ok (.istore_n 2, 1) := by decide +kernel
theorem dX4_leastDepth_16 : decode cX4_leastDepth 16 = .ok (.iload_n 2, 1) := by decide +kernel
theorem dX4_leastDepth_17 : decode cX4_leastDepth 17 = .ok (.iconst 4, 1) := by decide +kernel
theorem dX4_leastDepth_18 : decode cX4_leastDepth 18 = .ok (.if_icmp .gt 48, 3) := by decide +kernel
theorem dX4_leastDepth_21 : decode cX4_leastDepth 21 = .ok (.aload_n 0, 1) := by decide +kernel
theorem dX4_leastDepth_22 : decode cX4_leastDepth 22 = .ok (.getfield 16, 3) := by decide +kernel
theorem dX4_leastDepth_25 : decode cX4_leastDepth 25 = .ok (.aload_n 0, 1) := by decide +kernel
theorem dX4_leastDepth_26 : decode cX4_leastDepth 26 = .ok (.getfield 10, 3) := by decide +kernel
theorem dX4_leastDepth_29 : decode cX4_leastDepth 29 = .ok (.invokevirtual 92, 3) := by decide +kernel
theorem dX4_leastDepth_32 : decode cX4_leastDepth 32 = .ok (.aload_n 0, 1) := by decide +kernel
theorem dX4_leastDepth_33 : decode cX4_leastDepth 33 = .ok (.getfield 16, 3) := by decide +kernel
theorem dX4_leastDepth_36 : decode cX4_leastDepth 36 = .ok (.iload_n 2, 1) := by decide +kernel
theorem dX4_leastDepth_37 : decode cX4_leastDepth 37 = .ok (.aload_n 0, 1) := by decide +kernel
theorem dX4_leastDepth_38 : decode cX4_leastDepth 38 = .ok (.getfield 10, 3) := by decide +kernel
theorem dX4_leastDepth_41 : decode cX4_leastDepth 41 = .ok (.getfield 200, 3) := by decide +kernel
theorem dX4_leastDepth_44 : decode cX4_leastDepth 44 = .ok (.invokevirtual 44, 3) := by decide +kernel
theorem dX4_leastDepth_47 : decode cX4_leastDepth 47 = .ok (.aload_n 0, 1) := by decide +kernel
theorem dX4_leastDepth_48 : decode cX4_leastDepth 48 = .ok (.getfield 16, 3) := by decide +kernel
theorem dX4_leastDepth_51 : decode cX4_leastDepth 51 = .ok (.iload_n 1, 1) := by decide +kernel
theorem dX4_leastDepth_52 : decode cX4_leastDepth 52 = .ok (.invokevirtual 203, 3) := by decide +kernel
theorem dX4_leastDepth_55 : decode cX4_leastDepth 55 = .ok (.ifCond .ne 5, 3) := by decide +kernel
theorem dX4_leastDepth_58 : decode cX4_leastDepth 58 = .ok (.iload_n 2, 1) := by decide +kernel
theorem dX4_leastDepth_59 : decode cX4_leastDepth 59 = .ok (.ireturn, 1) := by decide +kernel
theorem dX4_leastDepth_60 : decode cX4_leastDepth 60 = .ok (.iinc 2 1, 3) := by decide +kernel
theorem dX4_leastDepth_63 : decode cX4_leastDepth 63 = .ok (.goto (-47), 3) := by decide +kernel
theorem dX4_leastDepth_66 : decode cX4_leastDepth 66 = .ok (.bipush (-5), 2) := by decide +kernel
theorem dX4_leastDepth_68 : decode cX4_leastDepth 68 = .ok (.ireturn, 1) := by decide +kernel
theorem dX4_count_0 : decode cX4_count 0 = .ok (.iload_n 1, 1) := by decide +kernel
theorem dX4_count_1 : decode cX4_count 1 = .ok (.tableswitch 215 0 13 #[71, 79, 87, 95, 106, 135, 143, 151, 159, 167, 183, 191, 199, 207], 71) := by decide +kernel
theorem dX4_count_72 : decode cX4_count 72 = .ok (.aload_n 0, 1) := by decide +kernel
theorem dX4_count_73 : decode cX4_count 73 = .ok (.getfield 10, 3) := by decide +kernel
theorem dX4_count_76 : decode cX4_count 76 = .ok (.getfield 76, 3) := by decide +kernel
theorem dX4_count_79 : decode cX4_count 79 = .ok (.ireturn, 1) := by decide +kernel
theorem dX4_count_80 : decode cX4_count 80 = .ok (.aload_n 0, 1) := by decide +kernel
theorem dX4_count_81 : decode cX4_count 81 = .ok (.getfield 10, 3) := by decide +kernel
theorem dX4_count_84 : decode cX4_count 84 = .ok (.getfield 206, 3) := by decide +kernel
theorem dX4_count_87 : decode cX4_count 87 = .ok (.ireturn, 1) := by decide +kernel
theorem dX4_count_88 : decode cX4_count 88 = .ok (.aload_n 0, 1) := by decide +kernel
theorem dX4_count_89 : decode cX4_count 89 = .ok (.getfield 10, 3) := by decide +kernel
theorem dX4_count_92 : decode cX4_count 92 = .ok (.invokevirtual 52, 3) := by decide +kernel
theorem dX4_count_95 : decode cX4_count 95 = .ok (.ireturn, 1) := by decide +kernel
theorem dX4_count_96 : decode cX4_count 96 = .ok (.aload_n 0, 1) := by decide +kernel
theorem dX4_count_97 : decode cX4_count 97 = .ok (.getfield 10, 3) := by decide +kernel
theorem dX4_count_100 : decode cX4_count 100 = .ok (.getfield 200, 3) := by decide +kernel
theorem dX4_count_103 : decode cX4_count 103 = .ok (.invokestatic 129, 3) := by decide +kernel
theorem dX4_count_106 : decode cX4_count 106 = .ok (.ireturn, 1) := by decide +kernel
theorem dX4_count_107 : decode cX4_count 107 = .ok (.aload_n 0, 1) := by decide +kernel
theorem dX4_count_108 : decode cX4_count 108 = .ok (.getfield 10, 3) := by decide +kernel
theorem dX4_count_111 : decode cX4_count 111 = .ok (.aload_n 0, 1) := by decide +kernel
theorem dX4_count_112 : decode cX4_count 112 = .ok (.getfield 10, 3) := by decide +kernel
theorem dX4_count_115 : decode cX4_count 115 = .ok (.getfield 209, 3) := by decide +kernel
theorem dX4_count_118 : decode cX4_count 118 = .ok (.getfield 133, 3) := by decide +kernel
theorem dX4_count_121 : decode cX4_count 121 = .ok (.aload_n 0, 1) := by decide +kernel
theorem dX4_count_122 : decode cX4_count 122 = .ok (.getfield 10, 3) := by decide +kernel
theorem dX4_count_125 : decode cX4_count 125 = .ok (.getfield 213, 3) := by decide +kernel
theorem dX4_count_128 : decode cX4_count 128 = .ok (.getfield 133, 3) := by decide +kernel
theorem dX4_count_131 : decode cX4_count 131 = .ok (.isub, 1) := by decide +kernel
theorem dX4_count_132 : decode cX4_count 132 = .ok (.invokevirtual 216, 3) := by decide +kernel
theorem dX4_count_135 : decode cX4_count 135 = .ok (.ireturn, 1) := by decide +kernel
theorem dX4_count_136 : decode cX4_count 136 = .ok (.aload_n 0, 1) := by decide +kernel
theorem dX4_count_137 : decode cX4_count 137 = .ok (.getfield 10, 3) := by decide +kernel
theorem dX4_count_140 : decode cX4_count 140 = .ok (.getfield 48, 3) := by decide +kernel
theorem dX4_count_143 : decode cX4_count 143 = .ok (.ireturn, 1) := by decide +kernel
theorem dX4_count_144 : decode cX4_count 144 = .ok (.aload_n 0, 1) := by decide +kernel
theorem dX4_count_145 : decode cX4_count 145 = .ok (.getfield 10, 3) := by decide +kernel
theorem dX4_count_148 : decode cX4_count 148 = .ok (.getfield 219, 3) := by decide +kernel
theorem dX4_count_151 : decode cX4_count 151 = .ok (.ireturn, 1) := by decide +kernel
theorem dX4_count_152 : decode cX4_count 152 = .ok (.aload_n 0, 1) := by decide +kernel
theorem dX4_count_153 : decode cX4_count 153 = .ok (.getfield 10, 3) := by decide +kernel
theorem dX4_count_156 : decode cX4_count 156 = .ok (.getfield 105, 3) := by decide +kernel
theorem dX4_count_159 : decode cX4_count 159 = .ok (.ireturn, 1) := by decide +kernel
theorem dX4_count_160 : decode cX4_count 160 = .ok (.aload_n 0, 1) := by decide +kernel
theorem dX4_count_161 : decode cX4_count 161 = .ok (.getfield 10, 3) := by decide +kernel
theorem dX4_count_164 : decode cX4_count 164 = .ok (.getfield 222, 3) := by decide +kernel
theorem dX4_count_167 : decode cX4_count 167 = .ok (.ireturn, 1) := by decide +kernel
theorem dX4_count_168 : decode cX4_count 168 = .ok (.aload_n 0, 1) := by decide +kernel
theorem dX4_count_169 : decode cX4_count 169 = .ok (.getfield 10, 3) := by decide +kernel
theorem dX4_count_172 : decode cX4_count 172 = .ok (.getfield 105, 3) := by decide +kernel
theorem dX4_count_175 : decode cX4_count 175 = .ok (.aload_n 0, 1) := by decide +kernel
theorem dX4_count_176 : decode cX4_count 176 = .ok (.getfield 10, 3) := by decide +kernel
theorem dX4_count_179 : decode cX4_count 179 = .ok (.getfield 222, 3) := by decide +kernel
theorem dX4_count_182 : decode cX4_count 182 = .ok (.isub, 1) := by decide +kernel
theorem dX4_count_183 : decode cX4_count 183 = .ok (.ireturn, 1) := by decide +kernel
theorem dX4_count_184 : decode cX4_count 184 = .ok (.aload_n 0, 1) := by decide +kernel
theorem dX4_count_185 : decode cX4_count 185 = .ok (.getfield 10, 3) := by decide +kernel
theorem dX4_count_188 : decode cX4_count 188 = .ok (.getfield 79, 3) := by decide +kernel
theorem dX4_count_191 : decode cX4_count 191 = .ok (.ireturn, 1) := by decide +kernel
theorem dX4_count_192 : decode cX4_count 192 = .ok (.aload_n 0, 1) := by decide +kernel
theorem dX4_count_193 : decode cX4_count 193 = .ok (.getfield 10, 3) := by decide +kernel
theorem dX4_count_196 : decode cX4_count 196 = .ok (.getfield 82, 3) := by decide +kernel
theorem dX4_count_199 : decode cX4_count 199 = .ok (.ireturn, 1) := by decide +kernel
theorem dX4_count_200 : decode cX4_count 200 = .ok (.aload_n 0, 1) := by decide +kernel
theorem dX4_count_201 : decode cX4_count 201 = .ok (.getfield 25, 3) := by decide +kernel
theorem dX4_count_204 : decode cX4_count 204 = .ok (.getfield 123, 3) := by decide +kernel
theorem dX4_count_207 : decode cX4_count 207 = .ok (.ireturn, 1) := by decide +kernel
theorem dX4_count_208 : decode cX4_count 208 = .ok (.aload_n 0, 1) := by decide +kernel
theorem dX4_count_209 : decode cX4_count 209 = .ok (.getfield 32, 3) := by decide +kernel
theorem dX4_count_212 : decode cX4_count 212 = .ok (.getfield 116, 3) := by decide +kernel
theorem dX4_count_215 : decode cX4_count 215 = .ok (.ireturn, 1) := by decide +kernel
theorem dX4_count_216 : decode cX4_count 216 = .ok (.bipush (-2), 2) := by decide +kernel
theorem dX4_count_218 : decode cX4_count 218 = .ok (.ireturn, 1) := by decide +kernel
theorem dX4_isWithin_0 : decode cX4_isWithin 0 = .ok (.iload_n 0, 1) := by decide +kernel
theorem dX4_isWithin_1 : decode cX4_isWithin 1 = .ok (.iload_n 1, 1) := by decide +kernel
theorem dX4_isWithin_2 : decode cX4_isWithin 2 = .ok (.if_icmp .lt 12, 3) := by decide +kernel
theorem dX4_isWithin_5 : decode cX4_isWithin 5 = .ok (.iload_n 0, 1) := by decide +kernel
theorem dX4_isWithin_6 : decode cX4_isWithin 6 = .ok (.iload_n 2, 1) := by decide +kernel
theorem dX4_isWithin_7 : decode cX4_isWithin 7 = .ok (.if_icmp .gt 7, 3) := by decide +kernel
theorem dX4_isWithin_10 : decode cX4_isWithin 10 = .ok (.iconst 1, 1) := by decide +kernel
theorem dX4_isWithin_11 : decode cX4_isWithin 11 = .ok (.goto 4, 3) := by decide +kernel
theorem dX4_isWithin_14 : decode cX4_isWithin 14 = .ok (.iconst 0, 1) := by decide +kernel
theorem dX4_isWithin_15 : decode cX4_isWithin 15 = .ok (.ireturn, 1) := by decide +kernel
theorem dX4_isSide_0 : decode cX4_isSide 0 = .ok (.iload_n 0, 1) := by decide +kernel
theorem dX4_isSide_1 : decode cX4_isSide 1 = .ok (.ifCond .eq 8, 3) := by decide +kernel
theorem dX4_isSide_4 : decode cX4_isSide 4 = .ok (.iload_n 0, 1) := by decide +kernel
theorem dX4_isSide_5 : decode cX4_isSide 5 = .ok (.iconst 1, 1) := by decide +kernel
theorem dX4_isSide_6 : decode cX4_isSide 6 = .ok (.if_icmp .ne 7, 3) := by decide +kernel
theorem dX4_isSide_9 : decode cX4_isSide 9 = .ok (.iconst 1, 1) := by decide +kernel
theorem dX4_isSide_10 : decode cX4_isSide 10 = .ok (.goto 4, 3) := by decide +kernel
theorem dX4_isSide_13 : decode cX4_isSide 13 = .ok (.iconst 0, 1) := by decide +kernel
theorem dX4_isSide_14 : decode cX4_isSide 14 = .ok (.ireturn, 1) := by decide +kernel
theorem dX4_asNumber_0 : decode cX4_asNumber 0 = .ok (.iload_n 0, 1) := by decide +kernel
theorem dX4_asNumber_1 : decode cX4_asNumber 1 = .ok (.ifCond .eq 7, 3) := by decide +kernel
theorem dX4_asNumber_4 : decode cX4_asNumber 4 = .ok (.iconst 1, 1) := by decide +kernel
theorem dX4_asNumber_5 : decode cX4_asNumber 5 = .ok (.goto 4, 3) := by decide +kernel
theorem dX4_asNumber_8 : decode cX4_asNumber 8 = .ok (.iconst 0, 1) := by decide +kernel
theorem dX4_asNumber_9 : decode cX4_asNumber 9 = .ok (.ireturn, 1) := by decide +kernel
theorem dX4_remainder_0 : decode cX4_remainder 0 = .ok (.iload_n 1, 1) := by decide +kernel
theorem dX4_remainder_1 : decode cX4_remainder 1 = .ok (.ifCond .le 9, 3) := by decide +kernel
theorem dX4_remainder_4 : decode cX4_remainder 4 = .ok (.iload_n 0, 1) := by decide +kernel
theorem dX4_remainder_5 : decode cX4_remainder 5 = .ok (.iload_n 1, 1) := by decide +kernel
theorem dX4_remainder_6 : decode cX4_remainder 6 = .ok (.irem, 1) := by decide +kernel
theorem dX4_remainder_7 : decode cX4_remainder 7 = .ok (.goto 4, 3) := by decide +kernel
theorem dX4_remainder_10 : decode cX4_remainder 10 = .ok (.iconst 0, 1) := by decide +kernel
theorem dX4_remainder_11 : decode cX4_remainder 11 = .ok (.ireturn, 1) := by decide +kernel
theorem dX4_valueAt_0 : decode cX4_valueAt 0 = .ok (.iload_n 1, 1) := by decide +kernel
theorem dX4_valueAt_1 : decode cX4_valueAt 1 = .ok (.ifCond .lt 15, 3) := by decide +kernel
theorem dX4_valueAt_4 : decode cX4_valueAt 4 = .ok (.iload_n 1, 1) := by decide +kernel
theorem dX4_valueAt_5 : decode cX4_valueAt 5 = .ok (.aload_n 0, 1) := by decide +kernel
theorem dX4_valueAt_6 : decode cX4_valueAt 6 = .ok (.arraylength, 1) := by decide +kernel
theorem dX4_valueAt_7 : decode cX4_valueAt 7 = .ok (.if_icmp .ge 9, 3) := by decide +kernel
theorem dX4_valueAt_10 : decode cX4_valueAt 10 = .ok (.aload_n 0, 1) := by decide +kernel
theorem dX4_valueAt_11 : decode cX4_valueAt 11 = .ok (.iload_n 1, 1) := by decide +kernel
theorem dX4_valueAt_12 : decode cX4_valueAt 12 = .ok (.iaload, 1) := by decide +kernel
theorem dX4_valueAt_13 : decode cX4_valueAt 13 = .ok (.goto 4, 3) := by decide +kernel
theorem dX4_valueAt_16 : decode cX4_valueAt 16 = .ok (.iconst 0, 1) := by decide +kernel
theorem dX4_valueAt_17 : decode cX4_valueAt 17 = .ok (.ireturn, 1) := by decide +kernel
theorem dX4_setAt_0 : decode cX4_setAt 0 = .ok (.iload_n 1, 1) := by decide +kernel
theorem dX4_setAt_1 : decode cX4_setAt 1 = .ok (.ifCond .lt 13, 3) := by decide +kernel
theorem dX4_setAt_4 : decode cX4_setAt 4 = .ok (.iload_n 1, 1) := by decide +kernel
theorem dX4_setAt_5 : decode cX4_setAt 5 = .ok (.aload_n 0, 1) := by decide +kernel
theorem dX4_setAt_6 : decode cX4_setAt 6 = .ok (.arraylength, 1) := by decide +kernel
theorem dX4_setAt_7 : decode cX4_setAt 7 = .ok (.if_icmp .ge 7, 3) := by decide +kernel
theorem dX4_setAt_10 : decode cX4_setAt 10 = .ok (.aload_n 0, 1) := by decide +kernel
theorem dX4_setAt_11 : decode cX4_setAt 11 = .ok (.iload_n 1, 1) := by decide +kernel
theorem dX4_setAt_12 : decode cX4_setAt 12 = .ok (.iload_n 2, 1) := by decide +kernel
theorem dX4_setAt_13 : decode cX4_setAt 13 = .ok (.iastore, 1) := by decide +kernel
theorem dX4_setAt_14 : decode cX4_setAt 14 = .ok (.return_, 1) := by decide +kernel
theorem dX4_fillRow_0 : decode cX4_fillRow 0 = .ok (.iconst 0, 1) := by decide +kernel
theorem dX4_fillRow_1 : decode cX4_fillRow 1 = .ok (.istore_n 2, 1) := by decide +kernel
theorem dX4_fillRow_2 : decode cX4_fillRow 2 = .ok (.iload_n 2, 1) := by decide +kernel
theorem dX4_fillRow_3 : decode cX4_fillRow 3 = .ok (.aload_n 0, 1) := by decide +kernel
theorem dX4_fillRow_4 : decode cX4_fillRow 4 = .ok (.arraylength, 1) := by decide +kernel
theorem dX4_fillRow_5 : decode cX4_fillRow 5 = .ok (.if_icmp .ge 13, 3) := by decide +kernel
theorem dX4_fillRow_8 : decode cX4_fillRow 8 = .ok (.aload_n 0, 1) := by decide +kernel
theorem dX4_fillRow_9 : decode cX4_fillRow 9 = .ok (.iload_n 2, 1) := by decide +kernel
theorem dX4_fillRow_10 : decode cX4_fillRow 10 = .ok (.iload_n 1, 1) := by decide +kernel
theorem dX4_fillRow_11 : decode cX4_fillRow 11 = .ok (.iastore, 1) := by decide +kernel
theorem dX4_fillRow_12 : decode cX4_fillRow 12 = .ok (.iinc 2 1, 3) := by decide +kernel
theorem dX4_fillRow_15 : decode cX4_fillRow 15 = .ok (.goto (-13), 3) := by decide +kernel
theorem dX4_fillRow_18 : decode cX4_fillRow 18 = .ok (.return_, 1) := by decide +kernel
theorem dX4_copyRow_0 : decode cX4_copyRow 0 = .ok (.iconst 0, 1) := by decide +kernel
theorem dX4_copyRow_1 : decode cX4_copyRow 1 = .ok (.istore_n 2, 1) := by decide +kernel
theorem dX4_copyRow_2 : decode cX4_copyRow 2 = .ok (.iload_n 2, 1) := by decide +kernel
theorem dX4_copyRow_3 : decode cX4_copyRow 3 = .ok (.aload_n 0, 1) := by decide +kernel
theorem dX4_copyRow_4 : decode cX4_copyRow 4 = .ok (.arraylength, 1) := by decide +kernel
theorem dX4_copyRow_5 : decode cX4_copyRow 5 = .ok (.if_icmp .ge 21, 3) := by decide +kernel
theorem dX4_copyRow_8 : decode cX4_copyRow 8 = .ok (.iload_n 2, 1) := by decide +kernel
theorem dX4_copyRow_9 : decode cX4_copyRow 9 = .ok (.aload_n 1, 1) := by decide +kernel
theorem dX4_copyRow_10 : decode cX4_copyRow 10 = .ok (.arraylength, 1) := by decide +kernel
theorem dX4_copyRow_11 : decode cX4_copyRow 11 = .ok (.if_icmp .ge 15, 3) := by decide +kernel
theorem dX4_copyRow_14 : decode cX4_copyRow 14 = .ok (.aload_n 1, 1) := by decide +kernel
theorem dX4_copyRow_15 : decode cX4_copyRow 15 = .ok (.iload_n 2, 1) := by decide +kernel
theorem dX4_copyRow_16 : decode cX4_copyRow 16 = .ok (.aload_n 0, 1) := by decide +kernel
theorem dX4_copyRow_17 : decode cX4_copyRow 17 = .ok (.iload_n 2, 1) := by decide +kernel
theorem dX4_copyRow_18 : decode cX4_copyRow 18 = .ok (.iaload, 1) := by decide +kernel
theorem dX4_copyRow_19 : decode cX4_copyRow 19 = .ok (.iastore, 1) := by decide +kernel
theorem dX4_copyRow_20 : decode cX4_copyRow 20 = .ok (.iinc 2 1, 3) := by decide +kernel
theorem dX4_copyRow_23 : decode cX4_copyRow 23 = .ok (.goto (-21), 3) := by decide +kernel
theorem dX4_copyRow_26 : decode cX4_copyRow 26 = .ok (.return_, 1) := by decide +kernel
