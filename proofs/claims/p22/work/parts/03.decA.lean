theorem dX0_init_0 : decode cX0_init 0 = .ok (.aload_n 0, 1) := by decide +kernel
theorem dX0_init_1 : decode cX0_init 1 = .ok (.invokespecial 3, 3) := by decide +kernel
theorem dX0_init_4 : decode cX0_init 4 = .ok (.aload_n 0, 1) := by decide +kernel
theorem dX0_init_5 : decode cX0_init 5 = .ok (.iconst 4, 1) := by decide +kernel
theorem dX0_init_6 : decode cX0_init 6 = .ok (.anewarray 9, 3) := by decide +kernel
theorem dX0_init_9 : decode cX0_init 9 = .ok (.putfield 11, 3) := by decide +kernel
theorem dX0_init_12 : decode cX0_init 12 = .ok (.iconst 0, 1) := by decide +kernel
theorem dX0_init_13 : decode cX0_init 13 = .ok (.istore_n 1, 1) := by decide +kernel
theorem dX0_init_14 : decode cX0_init 14 = .ok (.iload_n 1, 1) := by decide +kernel
theorem dX0_init_15 : decode cX0_init 15 = .ok (.aload_n 0, 1) := by decide +kernel
theorem dX0_init_16 : decode cX0_init 16 = .ok (.getfield 11, 3) := by decide +kernel
theorem dX0_init_19 : decode cX0_init 19 = .ok (.arraylength, 1) := by decide +kernel
theorem dX0_init_20 : decode cX0_init 20 = .ok (.if_icmp .ge 22, 3) := by decide +kernel
theorem dX0_init_23 : decode cX0_init 23 = .ok (.aload_n 0, 1) := by decide +kernel
theorem dX0_init_24 : decode cX0_init 24 = .ok (.getfield 11, 3) := by decide +kernel
theorem dX0_init_27 : decode cX0_init 27 = .ok (.iload_n 1, 1) := by decide +kernel
theorem dX0_init_28 : decode cX0_init 28 = .ok (.new 9, 3) := by decide +kernel
theorem dX0_init_31 : decode cX0_init 31 = .ok (.dup, 1) := by decide +kernel
theorem dX0_init_32 : decode cX0_init 32 = .ok (.invokespecial 17, 3) := by decide +kernel
theorem dX0_init_35 : decode cX0_init 35 = .ok (.aastore, 1) := by decide +kernel
theorem dX0_init_36 : decode cX0_init 36 = .ok (.iinc 1 1, 3) := by decide +kernel
theorem dX0_init_39 : decode cX0_init 39 = .ok (.goto (-25), 3) := by decide +kernel
theorem dX0_init_42 : decode cX0_init 42 = .ok (.return_, 1) := by decide +kernel
theorem dX0_add_0 : decode cX0_add 0 = .ok (.aload_n 0, 1) := by decide +kernel
theorem dX0_add_1 : decode cX0_add 1 = .ok (.getfield 18, 3) := by decide +kernel
theorem dX0_add_4 : decode cX0_add 4 = .ok (.iconst 4, 1) := by decide +kernel
theorem dX0_add_5 : decode cX0_add 5 = .ok (.if_icmp .ne 27, 3) := by decide +kernel
theorem dX0_add_8 : decode cX0_add 8 = .ok (.aload_n 0, 1) := by decide +kernel
theorem dX0_add_9 : decode cX0_add 9 = .ok (.aload_n 0, 1) := by decide +kernel
theorem dX0_add_10 : decode cX0_add 10 = .ok (.getfield 22, 3) := by decide +kernel
theorem dX0_add_13 : decode cX0_add 13 = .ok (.iconst 1, 1) := by decide +kernel
theorem dX0_add_14 : decode cX0_add 14 = .ok (.iadd, 1) := by decide +kernel
theorem dX0_add_15 : decode cX0_add 15 = .ok (.iconst 4, 1) := by decide +kernel
theorem dX0_add_16 : decode cX0_add 16 = .ok (.invokestatic 25, 3) := by decide +kernel
theorem dX0_add_19 : decode cX0_add 19 = .ok (.putfield 22, 3) := by decide +kernel
theorem dX0_add_22 : decode cX0_add 22 = .ok (.aload_n 0, 1) := by decide +kernel
theorem dX0_add_23 : decode cX0_add 23 = .ok (.dup, 1) := by decide +kernel
theorem dX0_add_24 : decode cX0_add 24 = .ok (.getfield 18, 3) := by decide +kernel
theorem dX0_add_27 : decode cX0_add 27 = .ok (.iconst 1, 1) := by decide +kernel
theorem dX0_add_28 : decode cX0_add 28 = .ok (.isub, 1) := by decide +kernel
theorem dX0_add_29 : decode cX0_add 29 = .ok (.putfield 18, 3) := by decide +kernel
theorem dX0_add_32 : decode cX0_add 32 = .ok (.aload_n 0, 1) := by decide +kernel
theorem dX0_add_33 : decode cX0_add 33 = .ok (.aload_n 0, 1) := by decide +kernel
theorem dX0_add_34 : decode cX0_add 34 = .ok (.getfield 18, 3) := by decide +kernel
theorem dX0_add_37 : decode cX0_add 37 = .ok (.invokevirtual 29, 3) := by decide +kernel
theorem dX0_add_40 : decode cX0_add 40 = .ok (.astore_n 2, 1) := by decide +kernel
theorem dX0_add_41 : decode cX0_add 41 = .ok (.aload_n 2, 1) := by decide +kernel
theorem dX0_add_42 : decode cX0_add 42 = .ok (.ifnull 18, 3) := by decide +kernel
theorem dX0_add_45 : decode cX0_add 45 = .ok (.aload_n 2, 1) := by decide +kernel
theorem dX0_add_46 : decode cX0_add 46 = .ok (.aload_n 1, 1) := by decide +kernel
theorem dX0_add_47 : decode cX0_add 47 = .ok (.invokevirtual 33, 3) := by decide +kernel
theorem dX0_add_50 : decode cX0_add 50 = .ok (.aload_n 0, 1) := by decide +kernel
theorem dX0_add_51 : decode cX0_add 51 = .ok (.dup, 1) := by decide +kernel
theorem dX0_add_52 : decode cX0_add 52 = .ok (.getfield 18, 3) := by decide +kernel
theorem dX0_add_55 : decode cX0_add 55 = .ok (.iconst 1, 1) := by decide +kernel
theorem dX0_add_56 : decode cX0_add 56 = .ok (.iadd, 1) := by decide +kernel
theorem dX0_add_57 : decode cX0_add 57 = .ok (.putfield 18, 3) := by decide +kernel
theorem dX0_add_60 : decode cX0_add 60 = .ok (.return_, 1) := by decide +kernel
theorem dX0_stateAt_0 : decode cX0_stateAt 0 = .ok (.aload_n 0, 1) := by decide +kernel
theorem dX0_stateAt_1 : decode cX0_stateAt 1 = .ok (.getfield 22, 3) := by decide +kernel
theorem dX0_stateAt_4 : decode cX0_stateAt 4 = .ok (.iload_n 1, 1) := by decide +kernel
theorem dX0_stateAt_5 : decode cX0_stateAt 5 = .ok (.iadd, 1) := by decide +kernel
theorem dX0_stateAt_6 : decode cX0_stateAt 6 = .ok (.iconst 4, 1) := by decide +kernel
theorem dX0_stateAt_7 : decode cX0_stateAt 7 = .ok (.invokestatic 25, 3) := by decide +kernel
theorem dX0_stateAt_10 : decode cX0_stateAt 10 = .ok (.istore_n 2, 1) := by decide +kernel
theorem dX0_stateAt_11 : decode cX0_stateAt 11 = .ok (.iload_n 2, 1) := by decide +kernel
theorem dX0_stateAt_12 : decode cX0_stateAt 12 = .ok (.ifCond .lt 21, 3) := by decide +kernel
theorem dX0_stateAt_15 : decode cX0_stateAt 15 = .ok (.iload_n 2, 1) := by decide +kernel
theorem dX0_stateAt_16 : decode cX0_stateAt 16 = .ok (.aload_n 0, 1) := by decide +kernel
theorem dX0_stateAt_17 : decode cX0_stateAt 17 = .ok (.getfield 11, 3) := by decide +kernel
theorem dX0_stateAt_20 : decode cX0_stateAt 20 = .ok (.arraylength, 1) := by decide +kernel
theorem dX0_stateAt_21 : decode cX0_stateAt 21 = .ok (.if_icmp .ge 12, 3) := by decide +kernel
theorem dX0_stateAt_24 : decode cX0_stateAt 24 = .ok (.aload_n 0, 1) := by decide +kernel
theorem dX0_stateAt_25 : decode cX0_stateAt 25 = .ok (.getfield 11, 3) := by decide +kernel
theorem dX0_stateAt_28 : decode cX0_stateAt 28 = .ok (.iload_n 2, 1) := by decide +kernel
theorem dX0_stateAt_29 : decode cX0_stateAt 29 = .ok (.aaload, 1) := by decide +kernel
theorem dX0_stateAt_30 : decode cX0_stateAt 30 = .ok (.goto 4, 3) := by decide +kernel
theorem dX0_stateAt_33 : decode cX0_stateAt 33 = .ok (.aconst_null, 1) := by decide +kernel
theorem dX0_stateAt_34 : decode cX0_stateAt 34 = .ok (.areturn, 1) := by decide +kernel
theorem dX1_init_0 : decode cX1_init 0 = .ok (.aload_n 0, 1) := by decide +kernel
theorem dX1_init_1 : decode cX1_init 1 = .ok (.invokespecial 3, 3) := by decide +kernel
theorem dX1_init_4 : decode cX1_init 4 = .ok (.aload_n 0, 1) := by decide +kernel
theorem dX1_init_5 : decode cX1_init 5 = .ok (.iconst 1, 1) := by decide +kernel
theorem dX1_init_6 : decode cX1_init 6 = .ok (.putfield 9, 3) := by decide +kernel
theorem dX1_init_9 : decode cX1_init 9 = .ok (.aload_n 0, 1) := by decide +kernel
theorem dX1_init_10 : decode cX1_init 10 = .ok (.iload_n 1, 1) := by decide +kernel
theorem dX1_init_11 : decode cX1_init 11 = .ok (.putfield 15, 3) := by decide +kernel
theorem dX1_init_14 : decode cX1_init 14 = .ok (.return_, 1) := by decide +kernel
theorem dX1_ticksAt_0 : decode cX1_ticksAt 0 = .ok (.aload_n 0, 1) := by decide +kernel
theorem dX1_ticksAt_1 : decode cX1_ticksAt 1 = .ok (.getfield 9, 3) := by decide +kernel
theorem dX1_ticksAt_4 : decode cX1_ticksAt 4 = .ok (.ifCond .eq 23, 3) := by decide +kernel
theorem dX1_ticksAt_7 : decode cX1_ticksAt 7 = .ok (.iload_n 1, 1) := by decide +kernel
theorem dX1_ticksAt_8 : decode cX1_ticksAt 8 = .ok (.aload_n 0, 1) := by decide +kernel
theorem dX1_ticksAt_9 : decode cX1_ticksAt 9 = .ok (.getfield 19, 3) := by decide +kernel
theorem dX1_ticksAt_12 : decode cX1_ticksAt 12 = .ok (.iadd, 1) := by decide +kernel
theorem dX1_ticksAt_13 : decode cX1_ticksAt 13 = .ok (.aload_n 0, 1) := by decide +kernel
theorem dX1_ticksAt_14 : decode cX1_ticksAt 14 = .ok (.getfield 15, 3) := by decide +kernel
theorem dX1_ticksAt_17 : decode cX1_ticksAt 17 = .ok (.invokestatic 22, 3) := by decide +kernel
theorem dX1_ticksAt_20 : decode cX1_ticksAt 20 = .ok (.ifCond .ne 7, 3) := by decide +kernel
theorem dX1_ticksAt_23 : decode cX1_ticksAt 23 = .ok (.iconst 1, 1) := by decide +kernel
theorem dX1_ticksAt_24 : decode cX1_ticksAt 24 = .ok (.goto 4, 3) := by decide +kernel
theorem dX1_ticksAt_27 : decode cX1_ticksAt 27 = .ok (.iconst 0, 1) := by decide +kernel
theorem dX1_ticksAt_28 : decode cX1_ticksAt 28 = .ok (.ireturn, 1) := by decide +kernel
theorem dX1_timesToTick_0 : decode cX1_timesToTick 0 = .ok (.aload_n 0, 1) := by decide +kernel
theorem dX1_timesToTick_1 : decode cX1_timesToTick 1 = .ok (.getfield 9, 3) := by decide +kernel
theorem dX1_timesToTick_4 : decode cX1_timesToTick 4 = .ok (.ifCond .eq 24, 3) := by decide +kernel
theorem dX1_timesToTick_7 : decode cX1_timesToTick 7 = .ok (.aload_n 0, 1) := by decide +kernel
theorem dX1_timesToTick_8 : decode cX1_timesToTick 8 = .ok (.getfield 15, 3) := by decide +kernel
theorem dX1_timesToTick_11 : decode cX1_timesToTick 11 = .ok (.iload_n 1, 1) := by decide +kernel
theorem dX1_timesToTick_12 : decode cX1_timesToTick 12 = .ok (.aload_n 0, 1) := by decide +kernel
theorem dX1_timesToTick_13 : decode cX1_timesToTick 13 = .ok (.getfield 19, 3) := by decide +kernel
theorem dX1_timesToTick_16 : decode cX1_timesToTick 16 = .ok (.iadd, 1) := by decide +kernel
theorem dX1_timesToTick_17 : decode cX1_timesToTick 17 = .ok (.aload_n 0, 1) := by decide +kernel
theorem dX1_timesToTick_18 : decode cX1_timesToTick 18 = .ok (.getfield 15, 3) := by decide +kernel
theorem dX1_timesToTick_21 : decode cX1_timesToTick 21 = .ok (.invokestatic 22, 3) := by decide +kernel
theorem dX1_timesToTick_24 : decode cX1_timesToTick 24 = .ok (.isub, 1) := by decide +kernel
theorem dX1_timesToTick_25 : decode cX1_timesToTick 25 = .ok (.goto 5, 3) := by decide +kernel
theorem dX1_timesToTick_28 : decode cX1_timesToTick 28 = .ok (.bipush (-5), 2) := by decide +kernel
theorem dX1_timesToTick_30 : decode cX1_timesToTick 30 = .ok (.ireturn, 1) := by decide +kernel
theorem dX1_tick_0 : decode cX1_tick 0 = .ok (.iload_n 1, 1) := by decide +kernel
theorem dX1_tick_1 : decode cX1_tick 1 = .ok (.iload_n 2, 1) := by decide +kernel
theorem dX1_tick_2 : decode cX1_tick 2 = .ok (.ixor, 1) := by decide +kernel
theorem dX1_tick_3 : decode cX1_tick 3 = .ok (.istore_n 3, 1) := by decide +kernel
theorem dX1_tick_4 : decode cX1_tick 4 = .ok (.aload_n 0, 1) := by decide +kernel
theorem dX1_tick_5 : decode cX1_tick 5 = .ok (.dup, 1) := by decide +kernel
theorem dX1_tick_6 : decode cX1_tick 6 = .ok (.getfield 26, 3) := by decide +kernel
theorem dX1_tick_9 : decode cX1_tick 9 = .ok (.iconst 1, 1) := by decide +kernel
theorem dX1_tick_10 : decode cX1_tick 10 = .ok (.iadd, 1) := by decide +kernel
theorem dX1_tick_11 : decode cX1_tick 11 = .ok (.putfield 26, 3) := by decide +kernel
theorem dX1_tick_14 : decode cX1_tick 14 = .ok (.iload_n 3, 1) := by decide +kernel
theorem dX1_tick_15 : decode cX1_tick 15 = .ok (.ifCond .eq 13, 3) := by decide +kernel
theorem dX1_tick_18 : decode cX1_tick 18 = .ok (.aload_n 0, 1) := by decide +kernel
theorem dX1_tick_19 : decode cX1_tick 19 = .ok (.dup, 1) := by decide +kernel
theorem dX1_tick_20 : decode cX1_tick 20 = .ok (.getfield 29, 3) := by decide +kernel
theorem dX1_tick_23 : decode cX1_tick 23 = .ok (.iconst 1, 1) := by decide +kernel
theorem dX1_tick_24 : decode cX1_tick 24 = .ok (.iadd, 1) := by decide +kernel
theorem dX1_tick_25 : decode cX1_tick 25 = .ok (.putfield 29, 3) := by decide +kernel
theorem dX1_tick_28 : decode cX1_tick 28 = .ok (.aload_n 0, 1) := by decide +kernel
theorem dX1_tick_29 : decode cX1_tick 29 = .ok (.aload_n 0, 1) := by decide +kernel
theorem dX1_tick_30 : decode cX1_tick 30 = .ok (.getfield 32, 3) := by decide +kernel
theorem dX1_tick_33 : decode cX1_tick 33 = .ok (.putfield 35, 3) := by decide +kernel
theorem dX1_tick_36 : decode cX1_tick 36 = .ok (.aload_n 0, 1) := by decide +kernel
theorem dX1_tick_37 : decode cX1_tick 37 = .ok (.iload_n 1, 1) := by decide +kernel
theorem dX1_tick_38 : decode cX1_tick 38 = .ok (.iload_n 3, 1) := by decide +kernel
theorem dX1_tick_39 : decode cX1_tick 39 = .ok (.sipush 170, 3) := by decide +kernel
theorem dX1_tick_42 : decode cX1_tick 42 = .ok (.iand, 1) := by decide +kernel
theorem dX1_tick_43 : decode cX1_tick 43 = .ok (.ixor, 1) := by decide +kernel
theorem dX1_tick_44 : decode cX1_tick 44 = .ok (.putfield 32, 3) := by decide +kernel
theorem dX1_tick_47 : decode cX1_tick 47 = .ok (.return_, 1) := by decide +kernel
theorem dX1_clearPointers_0 : decode cX1_clearPointers 0 = .ok (.aload_n 0, 1) := by decide +kernel
theorem dX1_clearPointers_1 : decode cX1_clearPointers 1 = .ok (.iconst 0, 1) := by decide +kernel
theorem dX1_clearPointers_2 : decode cX1_clearPointers 2 = .ok (.putfield 38, 3) := by decide +kernel
theorem dX1_clearPointers_5 : decode cX1_clearPointers 5 = .ok (.aload_n 0, 1) := by decide +kernel
theorem dX1_clearPointers_6 : decode cX1_clearPointers 6 = .ok (.iconst 0, 1) := by decide +kernel
theorem dX1_clearPointers_7 : decode cX1_clearPointers 7 = .ok (.putfield 32, 3) := by decide +kernel
theorem dX1_clearPointers_10 : decode cX1_clearPointers 10 = .ok (.aload_n 0, 1) := by decide +kernel
theorem dX1_clearPointers_11 : decode cX1_clearPointers 11 = .ok (.iconst 0, 1) := by decide +kernel
theorem dX1_clearPointers_12 : decode cX1_clearPointers 12 = .ok (.putfield 35, 3) := by decide +kernel
theorem dX1_clearPointers_15 : decode cX1_clearPointers 15 = .ok (.return_, 1) := by decide +kernel
theorem dX1_copy_0 : decode cX1_copy 0 = .ok (.aload_n 0, 1) := by decide +kernel
theorem dX1_copy_1 : decode cX1_copy 1 = .ok (.aload_n 1, 1) := by decide +kernel
theorem dX1_copy_2 : decode cX1_copy 2 = .ok (.getfield 15, 3) := by decide +kernel
theorem dX1_copy_5 : decode cX1_copy 5 = .ok (.putfield 15, 3) := by decide +kernel
theorem dX1_copy_8 : decode cX1_copy 8 = .ok (.aload_n 0, 1) := by decide +kernel
theorem dX1_copy_9 : decode cX1_copy 9 = .ok (.aload_n 1, 1) := by decide +kernel
theorem dX1_copy_10 : decode cX1_copy 10 = .ok (.getfield 19, 3) := by decide +kernel
theorem dX1_copy_13 : decode cX1_copy 13 = .ok (.putfield 19, 3) := by decide +kernel
theorem dX1_copy_16 : decode cX1_copy 16 = .ok (.aload_n 0, 1) := by decide +kernel
theorem dX1_copy_17 : decode cX1_copy 17 = .ok (.aload_n 1, 1) := by decide +kernel
theorem dX1_copy_18 : decode cX1_copy 18 = .ok (.getfield 9, 3) := by decide +kernel
theorem dX1_copy_21 : decode cX1_copy 21 = .ok (.putfield 9, 3) := by decide +kernel
theorem dX1_copy_24 : decode cX1_copy 24 = .ok (.aload_n 0, 1) := by decide +kernel
theorem dX1_copy_25 : decode cX1_copy 25 = .ok (.aload_n 1, 1) := by decide +kernel
theorem dX1_copy_26 : decode cX1_copy 26 = .ok (.getfield 38, 3) := by decide +kernel
theorem dX1_copy_29 : decode cX1_copy 29 = .ok (.putfield 38, 3) := by decide +kernel
theorem dX1_copy_32 : decode cX1_copy 32 = .ok (.aload_n 0, 1) := by decide +kernel
theorem dX1_copy_33 : decode cX1_copy 33 = .ok (.aload_n 1, 1) := by decide +kernel
theorem dX1_copy_34 : decode cX1_copy 34 = .ok (.getfield 32, 3) := by decide +kernel
theorem dX1_copy_37 : decode cX1_copy 37 = .ok (.putfield 32, 3) := by decide +kernel
theorem dX1_copy_40 : decode cX1_copy 40 = .ok (.aload_n 0, 1) := by decide +kernel
theorem dX1_copy_41 : decode cX1_copy 41 = .ok (.aload_n 1, 1) := by decide +kernel
theorem dX1_copy_42 : decode cX1_copy 42 = .ok (.getfield 35, 3) := by decide +kernel
theorem dX1_copy_45 : decode cX1_copy 45 = .ok (.putfield 35, 3) := by decide +kernel
theorem dX1_copy_48 : decode cX1_copy 48 = .ok (.aload_n 0, 1) := by decide +kernel
theorem dX1_copy_49 : decode cX1_copy 49 = .ok (.aload_n 1, 1) := by decide +kernel
theorem dX1_copy_50 : decode cX1_copy 50 = .ok (.getfield 26, 3) := by decide +kernel
theorem dX1_copy_53 : decode cX1_copy 53 = .ok (.putfield 26, 3) := by decide +kernel
theorem dX1_copy_56 : decode cX1_copy 56 = .ok (.aload_n 0, 1) := by decide +kernel
theorem dX1_copy_57 : decode cX1_copy 57 = .ok (.aload_n 1, 1) := by decide +kernel
theorem dX1_copy_58 : decode cX1_copy 58 = .ok (.getfield 29, 3) := by decide +kernel
theorem dX1_copy_61 : decode cX1_copy 61 = .ok (.putfield 29, 3) := by decide +kernel
theorem dX1_copy_64 : decode cX1_copy 64 = .ok (.return_, 1) := by decide +kernel
theorem dX2_init_0 : decode cX2_init 0 = .ok (.aload_n 0, 1) := by decide +kernel
theorem dX2_init_1 : decode cX2_init 1 = .ok (.invokespecial 3, 3) := by decide +kernel
theorem dX2_init_4 : decode cX2_init 4 = .ok (.aload_n 0, 1) := by decide +kernel
theorem dX2_init_5 : decode cX2_init 5 = .ok (.iconst 2, 1) := by decide +kernel
theorem dX2_init_6 : decode cX2_init 6 = .ok (.putfield 9, 3) := by decide +kernel
theorem dX2_init_9 : decode cX2_init 9 = .ok (.aload_n 0, 1) := by decide +kernel
theorem dX2_init_10 : decode cX2_init 10 = .ok (.iconst 1, 1) := by decide +kernel
theorem dX2_init_11 : decode cX2_init 11 = .ok (.putfield 15, 3) := by decide +kernel
theorem dX2_init_14 : decode cX2_init 14 = .ok (.aload_n 0, 1) := by decide +kernel
theorem dX2_init_15 : decode cX2_init 15 = .ok (.iconst 1, 1) := by decide +kernel
theorem dX2_init_16 : decode cX2_init 16 = .ok (.putfield 19, 3) := by decide +kernel
theorem dX2_init_19 : decode cX2_init 19 = .ok (.aload_n 0, 1) := by decide +kernel
theorem dX2_init_20 : decode cX2_init 20 = .ok (.iconst 1, 1) := by decide +kernel
theorem dX2_init_21 : decode cX2_init 21 = .ok (.putfield 22, 3) := by decide +kernel
theorem dX2_init_24 : decode cX2_init 24 = .ok (.aload_n 0, 1) := by decide +kernel
theorem dX2_init_25 : decode cX2_init 25 = .ok (.new 25, 3) := by decide +kernel
theorem dX2_init_28 : decode cX2_init 28 = .ok (.dup, 1) := by decide +kernel
theorem dX2_init_29 : decode cX2_init 29 = .ok (.bipush 10, 2) := by decide +kernel
theorem dX2_init_31 : decode cX2_init 31 = .ok (.invokespecial 27, 3) := by decide +kernel
theorem dX2_init_34 : decode cX2_init 34 = .ok (.putfield 30, 3) := by decide +kernel
theorem dX2_init_37 : decode cX2_init 37 = .ok (.aload_n 0, 1) := by decide +kernel
theorem dX2_init_38 : decode cX2_init 38 = .ok (.new 25, 3) := by decide +kernel
theorem dX2_init_41 : decode cX2_init 41 = .ok (.dup, 1) := by decide +kernel
theorem dX2_init_42 : decode cX2_init 42 = .ok (.bipush 14, 2) := by decide +kernel
theorem dX2_init_44 : decode cX2_init 44 = .ok (.invokespecial 27, 3) := by decide +kernel
theorem dX2_init_47 : decode cX2_init 47 = .ok (.putfield 34, 3) := by decide +kernel
theorem dX2_init_50 : decode cX2_init 50 = .ok (.aload_n 0, 1) := by decide +kernel
theorem dX2_init_51 : decode cX2_init 51 = .ok (.bipush 16, 2) := by decide +kernel
theorem dX2_init_53 : decode cX2_init 53 = .ok (.newarray .int, 2) := by decide +kernel
theorem dX2_init_55 : decode cX2_init 55 = .ok (.putfield 37, 3) := by decide +kernel
theorem dX2_init_58 : decode cX2_init 58 = .ok (.aload_n 0, 1) := by decide +kernel
theorem dX2_init_59 : decode cX2_init 59 = .ok (.bipush 16, 2) := by decide +kernel
theorem dX2_init_61 : decode cX2_init 61 = .ok (.newarray .int, 2) := by decide +kernel
theorem dX2_init_63 : decode cX2_init 63 = .ok (.putfield 41, 3) := by decide +kernel
theorem dX2_init_66 : decode cX2_init 66 = .ok (.aload_n 0, 1) := by decide +kernel
theorem dX2_init_67 : decode cX2_init 67 = .ok (.bipush 20, 2) := by decide +kernel
theorem dX2_init_69 : decode cX2_init 69 = .ok (.newarray .int, 2) := by decide +kernel
theorem dX2_init_71 : decode cX2_init 71 = .ok (.putfield 44, 3) := by decide +kernel
theorem dX2_init_74 : decode cX2_init 74 = .ok (.aload_n 0, 1) := by decide +kernel
theorem dX2_init_75 : decode cX2_init 75 = .ok (.bipush 16, 2) := by decide +kernel
theorem dX2_init_77 : decode cX2_init 77 = .ok (.newarray .int, 2) := by decide +kernel
theorem dX2_init_79 : decode cX2_init 79 = .ok (.putfield 47, 3) := by decide +kernel
theorem dX2_init_82 : decode cX2_init 82 = .ok (.aload_n 0, 1) := by decide +kernel
theorem dX2_init_83 : decode cX2_init 83 = .ok (.getfield 41, 3) := by decide +kernel
theorem dX2_init_86 : decode cX2_init 86 = .ok (.bipush (-5), 2) := by decide +kernel
theorem dX2_init_88 : decode cX2_init 88 = .ok (.invokestatic 50, 3) := by decide +kernel
theorem dX2_init_91 : decode cX2_init 91 = .ok (.return_, 1) := by decide +kernel
theorem dX2_sideOf_0 : decode cX2_sideOf 0 = .ok (.iload_n 1, 1) := by decide +kernel
theorem dX2_sideOf_1 : decode cX2_sideOf 1 = .ok (.ifCond .ne 10, 3) := by decide +kernel
theorem dX2_sideOf_4 : decode cX2_sideOf 4 = .ok (.aload_n 0, 1) := by decide +kernel
theorem dX2_sideOf_5 : decode cX2_sideOf 5 = .ok (.getfield 30, 3) := by decide +kernel
theorem dX2_sideOf_8 : decode cX2_sideOf 8 = .ok (.goto 7, 3) := by decide +kernel
theorem dX2_sideOf_11 : decode cX2_sideOf 11 = .ok (.aload_n 0, 1) := by decide +kernel
theorem dX2_sideOf_12 : decode cX2_sideOf 12 = .ok (.getfield 34, 3) := by decide +kernel
theorem dX2_sideOf_15 : decode cX2_sideOf 15 = .ok (.areturn, 1) := by decide +kernel
theorem dX2_depth_0 : decode cX2_depth 0 = .ok (.iconst 1, 1) := by decide +kernel
theorem dX2_depth_1 : decode cX2_depth 1 = .ok (.aload_n 0, 1) := by decide +kernel
theorem dX2_depth_2 : decode cX2_depth 2 = .ok (.getfield 9, 3) := by decide +kernel
theorem dX2_depth_5 : decode cX2_depth 5 = .ok (.ishl, 1) := by decide +kernel
theorem dX2_depth_6 : decode cX2_depth 6 = .ok (.ireturn, 1) := by decide +kernel
theorem dX2_placeOf_0 : decode cX2_placeOf 0 = .ok (.iload_n 1, 1) := by decide +kernel
theorem dX2_placeOf_1 : decode cX2_placeOf 1 = .ok (.aload_n 0, 1) := by decide +kernel
theorem dX2_placeOf_2 : decode cX2_placeOf 2 = .ok (.invokevirtual 54, 3) := by decide +kernel
theorem dX2_placeOf_5 : decode cX2_placeOf 5 = .ok (.iconst 1, 1) := by decide +kernel
theorem dX2_placeOf_6 : decode cX2_placeOf 6 = .ok (.isub, 1) := by decide +kernel
theorem dX2_placeOf_7 : decode cX2_placeOf 7 = .ok (.iand, 1) := by decide +kernel
theorem dX2_placeOf_8 : decode cX2_placeOf 8 = .ok (.ireturn, 1) := by decide +kernel
theorem dX2_around_0 : decode cX2_around 0 = .ok (.iload_n 1, 1) := by decide +kernel
theorem dX2_around_1 : decode cX2_around 1 = .ok (.iconst 2, 1) := by decide +kernel
theorem dX2_around_2 : decode cX2_around 2 = .ok (.aload_n 0, 1) := by decide +kernel
theorem dX2_around_3 : decode cX2_around 3 = .ok (.invokevirtual 54, 3) := by decide +kernel
theorem dX2_around_6 : decode cX2_around 6 = .ok (.imul, 1) := by decide +kernel
theorem dX2_around_7 : decode cX2_around 7 = .ok (.iconst 1, 1) := by decide +kernel
theorem dX2_around_8 : decode cX2_around 8 = .ok (.isub, 1) := by decide +kernel
theorem dX2_around_9 : decode cX2_around 9 = .ok (.iand, 1) := by decide +kernel
theorem dX2_around_10 : decode cX2_around 10 = .ok (.ireturn, 1) := by decide +kernel
theorem dX2_codeOf_0 : decode cX2_codeOf 0 = .ok (.aload_n 0, 1) := by decide +kernel
theorem dX2_codeOf_1 : decode cX2_codeOf 1 = .ok (.getfield 15, 3) := by decide +kernel
theorem dX2_codeOf_4 : decode cX2_codeOf 4 = .ok (.ifCond .eq 11, 3) := by decide +kernel
theorem dX2_codeOf_7 : decode cX2_codeOf 7 = .ok (.iload_n 1, 1) := by decide +kernel
theorem dX2_codeOf_8 : decode cX2_codeOf 8 = .ok (.iload_n 1, 1) := by decide +kernel
theorem dX2_codeOf_9 : decode cX2_codeOf 9 = .ok (.iconst 1, 1) := by decide +kernel
theorem dX2_codeOf_10 : decode cX2_codeOf 10 = .ok (.ishr, 1) := by decide +kernel
theorem dX2_codeOf_11 : decode cX2_codeOf 11 = .ok (.ixor, 1) := by decide +kernel
theorem dX2_codeOf_12 : decode cX2_codeOf 12 = .ok (.goto 4, 3) := by decide +kernel
theorem dX2_codeOf_15 : decode cX2_codeOf 15 = .ok (.iload_n 1, 1) := by decide +kernel
theorem dX2_codeOf_16 : decode cX2_codeOf 16 = .ok (.ireturn, 1) := by decide +kernel
theorem dX2_pointerOf_0 : decode cX2_pointerOf 0 = .ok (.aload_n 0, 1) := by decide +kernel
theorem dX2_pointerOf_1 : decode cX2_pointerOf 1 = .ok (.getfield 15, 3) := by decide +kernel
theorem dX2_pointerOf_4 : decode cX2_pointerOf 4 = .ok (.ifCond .ne 5, 3) := by decide +kernel
theorem dX2_pointerOf_7 : decode cX2_pointerOf 7 = .ok (.iload_n 1, 1) := by decide +kernel
theorem dX2_pointerOf_8 : decode cX2_pointerOf 8 = .ok (.ireturn, 1) := by decide +kernel
theorem dX2_pointerOf_9 : decode cX2_pointerOf 9 = .ok (.iload_n 1, 1) := by decide +kernel
theorem dX2_pointerOf_10 : decode cX2_pointerOf 10 = .ok (.istore_n 2, 1) := by decide +kernel
theorem dX2_pointerOf_11 : decode cX2_pointerOf 11 = .ok (.iconst 1, 1) := by decide +kernel
theorem dX2_pointerOf_12 : decode cX2_pointerOf 12 = .ok (.istore_n 3, 1) := by decide +kernel
theorem dX2_pointerOf_13 : decode cX2_pointerOf 13 = .ok (.iload_n 3, 1) := by decide +kernel
theorem dX2_pointerOf_14 : decode cX2_pointerOf 14 = .ok (.iconst 4, 1) := by decide +kernel
theorem dX2_pointerOf_15 : decode cX2_pointerOf 15 = .ok (.if_icmp .gt 15, 3) := by decide +kernel
theorem dX2_pointerOf_18 : decode cX2_pointerOf 18 = .ok (.iload_n 2, 1) := by decide +kernel
theorem dX2_pointerOf_19 : decode cX2_pointerOf 19 = .ok (.iload_n 1, 1) := by decide +kernel
theorem dX2_pointerOf_20 : decode cX2_pointerOf 20 = .ok (.iload_n 3, 1) := by decide +kernel
theorem dX2_pointerOf_21 : decode cX2_pointerOf 21 = .ok (.ishr, 1) := by decide +kernel
theorem dX2_pointerOf_22 : decode cX2_pointerOf 22 = .ok (.ixor, 1) := by decide +kernel
theorem dX2_pointerOf_23 : decode cX2_pointerOf 23 = .ok (.istore_n 2, 1) := by decide +kernel
theorem dX2_pointerOf_24 : decode cX2_pointerOf 24 = .ok (.iinc 3 1, 3) := by decide +kernel
theorem dX2_pointerOf_27 : decode cX2_pointerOf 27 = .ok (.goto (-14), 3) := by decide +kernel
theorem dX2_pointerOf_30 : decode cX2_pointerOf 30 = .ok (.iload_n 2, 1) := by decide +kernel
theorem dX2_pointerOf_31 : decode cX2_pointerOf 31 = .ok (.ireturn, 1) := by decide +kernel
theorem dX2_fillToWriter_0 : decode cX2_fillToWriter 0 = .ok (.aload_n 0, 1) := by decide +kernel
theorem dX2_fillToWriter_1 : decode cX2_fillToWriter 1 = .ok (.aload_n 0, 1) := by decide +kernel
theorem dX2_fillToWriter_2 : decode cX2_fillToWriter 2 = .ok (.getfield 30, 3) := by decide +kernel
theorem dX2_fillToWriter_5 : decode cX2_fillToWriter 5 = .ok (.getfield 58, 3) := by decide +kernel
theorem dX2_fillToWriter_8 : decode cX2_fillToWriter 8 = .ok (.aload_n 0, 1) := by decide +kernel
theorem dX2_fillToWriter_9 : decode cX2_fillToWriter 9 = .ok (.aload_n 0, 1) := by decide +kernel
theorem dX2_fillToWriter_10 : decode cX2_fillToWriter 10 = .ok (.getfield 30, 3) := by decide +kernel
theorem dX2_fillToWriter_13 : decode cX2_fillToWriter 13 = .ok (.getfield 61, 3) := by decide +kernel
theorem dX2_fillToWriter_16 : decode cX2_fillToWriter 16 = .ok (.invokevirtual 64, 3) := by decide +kernel
theorem dX2_fillToWriter_19 : decode cX2_fillToWriter 19 = .ok (.isub, 1) := by decide +kernel
theorem dX2_fillToWriter_20 : decode cX2_fillToWriter 20 = .ok (.invokevirtual 68, 3) := by decide +kernel
theorem dX2_fillToWriter_23 : decode cX2_fillToWriter 23 = .ok (.ireturn, 1) := by decide +kernel
theorem dX2_fillToReader_0 : decode cX2_fillToReader 0 = .ok (.aload_n 0, 1) := by decide +kernel
theorem dX2_fillToReader_1 : decode cX2_fillToReader 1 = .ok (.aload_n 0, 1) := by decide +kernel
theorem dX2_fillToReader_2 : decode cX2_fillToReader 2 = .ok (.aload_n 0, 1) := by decide +kernel
theorem dX2_fillToReader_3 : decode cX2_fillToReader 3 = .ok (.getfield 34, 3) := by decide +kernel
theorem dX2_fillToReader_6 : decode cX2_fillToReader 6 = .ok (.getfield 61, 3) := by decide +kernel
theorem dX2_fillToReader_9 : decode cX2_fillToReader 9 = .ok (.invokevirtual 64, 3) := by decide +kernel
theorem dX2_fillToReader_12 : decode cX2_fillToReader 12 = .ok (.aload_n 0, 1) := by decide +kernel
theorem dX2_fillToReader_13 : decode cX2_fillToReader 13 = .ok (.getfield 34, 3) := by decide +kernel
theorem dX2_fillToReader_16 : decode cX2_fillToReader 16 = .ok (.getfield 58, 3) := by decide +kernel
theorem dX2_fillToReader_19 : decode cX2_fillToReader 19 = .ok (.isub, 1) := by decide +kernel
theorem dX2_fillToReader_20 : decode cX2_fillToReader 20 = .ok (.invokevirtual 68, 3) := by decide +kernel
theorem dX2_fillToReader_23 : decode cX2_fillToReader 23 = .ok (.ireturn, 1) := by decide +kernel
theorem dX2_seemsFull_0 : decode cX2_seemsFull 0 = .ok (.aload_n 0, 1) := by decide +kernel
theorem dX2_seemsFull_1 : decode cX2_seemsFull 1 = .ok (.aload_n 0, 1) := by decide +kernel
theorem dX2_seemsFull_2 : decode cX2_seemsFull 2 = .ok (.getfield 30, 3) := by decide +kernel
theorem dX2_seemsFull_5 : decode cX2_seemsFull 5 = .ok (.getfield 61, 3) := by decide +kernel
theorem dX2_seemsFull_8 : decode cX2_seemsFull 8 = .ok (.invokevirtual 64, 3) := by decide +kernel
theorem dX2_seemsFull_11 : decode cX2_seemsFull 11 = .ok (.aload_n 0, 1) := by decide +kernel
theorem dX2_seemsFull_12 : decode cX2_seemsFull 12 = .ok (.aload_n 0, 1) := by decide +kernel
theorem dX2_seemsFull_13 : decode cX2_seemsFull 13 = .ok (.getfield 30, 3) := by decide +kernel
theorem dX2_seemsFull_16 : decode cX2_seemsFull 16 = .ok (.getfield 58, 3) := by decide +kernel
theorem dX2_seemsFull_19 : decode cX2_seemsFull 19 = .ok (.aload_n 0, 1) := by decide +kernel
theorem dX2_seemsFull_20 : decode cX2_seemsFull 20 = .ok (.invokevirtual 54, 3) := by decide +kernel
theorem dX2_seemsFull_23 : decode cX2_seemsFull 23 = .ok (.iadd, 1) := by decide +kernel
theorem dX2_seemsFull_24 : decode cX2_seemsFull 24 = .ok (.invokevirtual 68, 3) := by decide +kernel
theorem dX2_seemsFull_27 : decode cX2_seemsFull 27 = .ok (.if_icmp .ne 7, 3) := by decide +kernel
theorem dX2_seemsFull_30 : decode cX2_seemsFull 30 = .ok (.iconst 1, 1) := by decide +kernel
theorem dX2_seemsFull_31 : decode cX2_seemsFull 31 = .ok (.goto 4, 3) := by decide +kernel
theorem dX2_seemsFull_34 : decode cX2_seemsFull 34 = .ok (.iconst 0, 1) := by decide +kernel
theorem dX2_seemsFull_35 : decode cX2_seemsFull 35 = .ok (.ireturn, 1) := by decide +kernel
theorem dX2_seemsEmpty_0 : decode cX2_seemsEmpty 0 = .ok (.aload_n 0, 1) := by decide +kernel
theorem dX2_seemsEmpty_1 : decode cX2_seemsEmpty 1 = .ok (.aload_n 0, 1) := by decide +kernel
theorem dX2_seemsEmpty_2 : decode cX2_seemsEmpty 2 = .ok (.getfield 34, 3) := by decide +kernel
theorem dX2_seemsEmpty_5 : decode cX2_seemsEmpty 5 = .ok (.getfield 61, 3) := by decide +kernel
theorem dX2_seemsEmpty_8 : decode cX2_seemsEmpty 8 = .ok (.invokevirtual 64, 3) := by decide +kernel
theorem dX2_seemsEmpty_11 : decode cX2_seemsEmpty 11 = .ok (.aload_n 0, 1) := by decide +kernel
theorem dX2_seemsEmpty_12 : decode cX2_seemsEmpty 12 = .ok (.getfield 34, 3) := by decide +kernel
theorem dX2_seemsEmpty_15 : decode cX2_seemsEmpty 15 = .ok (.getfield 58, 3) := by decide +kernel
theorem dX2_seemsEmpty_18 : decode cX2_seemsEmpty 18 = .ok (.if_icmp .ne 7, 3) := by decide +kernel
theorem dX2_seemsEmpty_21 : decode cX2_seemsEmpty 21 = .ok (.iconst 1, 1) := by decide +kernel
theorem dX2_seemsEmpty_22 : decode cX2_seemsEmpty 22 = .ok (.goto 4, 3) := by decide +kernel
theorem dX2_seemsEmpty_25 : decode cX2_seemsEmpty 25 = .ok (.iconst 0, 1) := by decide +kernel
theorem dX2_seemsEmpty_26 : decode cX2_seemsEmpty 26 = .ok (.ireturn, 1) := by decide +kernel
theorem dX2_seemsNearFull_0 : decode cX2_seemsNearFull 0 = .ok (.aload_n 0, 1) := by decide +kernel
theorem dX2_seemsNearFull_1 : decode cX2_seemsNearFull 1 = .ok (.invokevirtual 71, 3) := by decide +kernel
theorem dX2_seemsNearFull_4 : decode cX2_seemsNearFull 4 = .ok (.aload_n 0, 1) := by decide +kernel
theorem dX2_seemsNearFull_5 : decode cX2_seemsNearFull 5 = .ok (.invokevirtual 54, 3) := by decide +kernel
theorem dX2_seemsNearFull_8 : decode cX2_seemsNearFull 8 = .ok (.aload_n 0, 1) := by decide +kernel
theorem dX2_seemsNearFull_9 : decode cX2_seemsNearFull 9 = .ok (.getfield 19, 3) := by decide +kernel
theorem dX2_seemsNearFull_12 : decode cX2_seemsNearFull 12 = .ok (.isub, 1) := by decide +kernel
theorem dX2_seemsNearFull_13 : decode cX2_seemsNearFull 13 = .ok (.if_icmp .lt 7, 3) := by decide +kernel
theorem dX2_seemsNearFull_16 : decode cX2_seemsNearFull 16 = .ok (.iconst 1, 1) := by decide +kernel
theorem dX2_seemsNearFull_17 : decode cX2_seemsNearFull 17 = .ok (.goto 4, 3) := by decide +kernel
theorem dX2_seemsNearFull_20 : decode cX2_seemsNearFull 20 = .ok (.iconst 0, 1) := by decide +kernel
theorem dX2_seemsNearFull_21 : decode cX2_seemsNearFull 21 = .ok (.ireturn, 1) := by decide +kernel
theorem dX2_seemsNearEmpty_0 : decode cX2_seemsNearEmpty 0 = .ok (.aload_n 0, 1) := by decide +kernel
theorem dX2_seemsNearEmpty_1 : decode cX2_seemsNearEmpty 1 = .ok (.invokevirtual 74, 3) := by decide +kernel
theorem dX2_seemsNearEmpty_4 : decode cX2_seemsNearEmpty 4 = .ok (.aload_n 0, 1) := by decide +kernel
theorem dX2_seemsNearEmpty_5 : decode cX2_seemsNearEmpty 5 = .ok (.getfield 22, 3) := by decide +kernel
theorem dX2_seemsNearEmpty_8 : decode cX2_seemsNearEmpty 8 = .ok (.if_icmp .gt 7, 3) := by decide +kernel
theorem dX2_seemsNearEmpty_11 : decode cX2_seemsNearEmpty 11 = .ok (.iconst 1, 1) := by decide +kernel
theorem dX2_seemsNearEmpty_12 : decode cX2_seemsNearEmpty 12 = .ok (.goto 4, 3) := by decide +kernel
theorem dX2_seemsNearEmpty_15 : decode cX2_seemsNearEmpty 15 = .ok (.iconst 0, 1) := by decide +kernel
theorem dX2_seemsNearEmpty_16 : decode cX2_seemsNearEmpty 16 = .ok (.ireturn, 1) := by decide +kernel
theorem dX2_emptyRing_0 : decode cX2_emptyRing 0 = .ok (.aload_n 0, 1) := by decide +kernel
theorem dX2_emptyRing_1 : decode cX2_emptyRing 1 = .ok (.iload_n 1, 1) := by decide +kernel
theorem dX2_emptyRing_2 : decode cX2_emptyRing 2 = .ok (.putfield 9, 3) := by decide +kernel
theorem dX2_emptyRing_5 : decode cX2_emptyRing 5 = .ok (.aload_n 0, 1) := by decide +kernel
theorem dX2_emptyRing_6 : decode cX2_emptyRing 6 = .ok (.iload_n 2, 1) := by decide +kernel
theorem dX2_emptyRing_7 : decode cX2_emptyRing 7 = .ok (.putfield 15, 3) := by decide +kernel
theorem dX2_emptyRing_10 : decode cX2_emptyRing 10 = .ok (.aload_n 0, 1) := by decide +kernel
theorem dX2_emptyRing_11 : decode cX2_emptyRing 11 = .ok (.getfield 30, 3) := by decide +kernel
theorem dX2_emptyRing_14 : decode cX2_emptyRing 14 = .ok (.invokevirtual 77, 3) := by decide +kernel
theorem dX2_emptyRing_17 : decode cX2_emptyRing 17 = .ok (.aload_n 0, 1) := by decide +kernel
theorem dX2_emptyRing_18 : decode cX2_emptyRing 18 = .ok (.getfield 34, 3) := by decide +kernel
theorem dX2_emptyRing_21 : decode cX2_emptyRing 21 = .ok (.invokevirtual 77, 3) := by decide +kernel
theorem dX2_emptyRing_24 : decode cX2_emptyRing 24 = .ok (.aload_n 0, 1) := by decide +kernel
theorem dX2_emptyRing_25 : decode cX2_emptyRing 25 = .ok (.getfield 37, 3) := by decide +kernel
theorem dX2_emptyRing_28 : decode cX2_emptyRing 28 = .ok (.iconst 0, 1) := by decide +kernel
theorem dX2_emptyRing_29 : decode cX2_emptyRing 29 = .ok (.invokestatic 50, 3) := by decide +kernel
theorem dX2_emptyRing_32 : decode cX2_emptyRing 32 = .ok (.aload_n 0, 1) := by decide +kernel
theorem dX2_emptyRing_33 : decode cX2_emptyRing 33 = .ok (.getfield 41, 3) := by decide +kernel
theorem dX2_emptyRing_36 : decode cX2_emptyRing 36 = .ok (.bipush (-5), 2) := by decide +kernel
theorem dX2_emptyRing_38 : decode cX2_emptyRing 38 = .ok (.invokestatic 50, 3) := by decide +kernel
theorem dX2_emptyRing_41 : decode cX2_emptyRing 41 = .ok (.aload_n 0, 1) := by decide +kernel
theorem dX2_emptyRing_42 : decode cX2_emptyRing 42 = .ok (.iconst 0, 1) := by decide +kernel
theorem dX2_emptyRing_43 : decode cX2_emptyRing 43 = .ok (.putfield 80, 3) := by decide +kernel
theorem dX2_emptyRing_46 : decode cX2_emptyRing 46 = .ok (.aload_n 0, 1) := by decide +kernel
theorem dX2_emptyRing_47 : decode cX2_emptyRing 47 = .ok (.iconst 0, 1) := by decide +kernel
theorem dX2_emptyRing_48 : decode cX2_emptyRing 48 = .ok (.putfield 83, 3) := by decide +kernel
theorem dX2_emptyRing_51 : decode cX2_emptyRing 51 = .ok (.aload_n 0, 1) := by decide +kernel
theorem dX2_emptyRing_52 : decode cX2_emptyRing 52 = .ok (.iconst 0, 1) := by decide +kernel
theorem dX2_emptyRing_53 : decode cX2_emptyRing 53 = .ok (.putfield 86, 3) := by decide +kernel
theorem dX2_emptyRing_56 : decode cX2_emptyRing 56 = .ok (.return_, 1) := by decide +kernel
theorem dX2_letWait_0 : decode cX2_letWait 0 = .ok (.aload_n 0, 1) := by decide +kernel
theorem dX2_letWait_1 : decode cX2_letWait 1 = .ok (.getfield 89, 3) := by decide +kernel
theorem dX2_letWait_4 : decode cX2_letWait 4 = .ok (.iload_n 2, 1) := by decide +kernel
theorem dX2_letWait_5 : decode cX2_letWait 5 = .ok (.iadd, 1) := by decide +kernel
theorem dX2_letWait_6 : decode cX2_letWait 6 = .ok (.bipush 20, 2) := by decide +kernel
theorem dX2_letWait_8 : decode cX2_letWait 8 = .ok (.if_icmp .le 5, 3) := by decide +kernel
theorem dX2_letWait_11 : decode cX2_letWait 11 = .ok (.iconst 0, 1) := by decide +kernel
theorem dX2_letWait_12 : decode cX2_letWait 12 = .ok (.ireturn, 1) := by decide +kernel
theorem dX2_letWait_13 : decode cX2_letWait 13 = .ok (.iconst 0, 1) := by decide +kernel
theorem dX2_letWait_14 : decode cX2_letWait 14 = .ok (.istore_n 3, 1) := by decide +kernel
theorem dX2_letWait_15 : decode cX2_letWait 15 = .ok (.iload_n 3, 1) := by decide +kernel
theorem dX2_letWait_16 : decode cX2_letWait 16 = .ok (.iload_n 2, 1) := by decide +kernel
theorem dX2_letWait_17 : decode cX2_letWait 17 = .ok (.if_icmp .ge 31, 3) := by decide +kernel
theorem dX2_letWait_20 : decode cX2_letWait 20 = .ok (.aload_n 0, 1) := by decide +kernel
theorem dX2_letWait_21 : decode cX2_letWait 21 = .ok (.getfield 44, 3) := by decide +kernel
theorem dX2_letWait_24 : decode cX2_letWait 24 = .ok (.aload_n 0, 1) := by decide +kernel
theorem dX2_letWait_25 : decode cX2_letWait 25 = .ok (.getfield 89, 3) := by decide +kernel
theorem dX2_letWait_28 : decode cX2_letWait 28 = .ok (.iload_n 1, 1) := by decide +kernel
theorem dX2_letWait_29 : decode cX2_letWait 29 = .ok (.invokestatic 92, 3) := by decide +kernel
theorem dX2_letWait_32 : decode cX2_letWait 32 = .ok (.aload_n 0, 1) := by decide +kernel
theorem dX2_letWait_33 : decode cX2_letWait 33 = .ok (.dup, 1) := by decide +kernel
theorem dX2_letWait_34 : decode cX2_letWait 34 = .ok (.getfield 89, 3) := by decide +kernel
theorem dX2_letWait_37 : decode cX2_letWait 37 = .ok (.iconst 1, 1) := by decide +kernel
theorem dX2_letWait_38 : decode cX2_letWait 38 = .ok (.iadd, 1) := by decide +kernel
theorem dX2_letWait_39 : decode cX2_letWait 39 = .ok (.putfield 89, 3) := by decide +kernel
theorem dX2_letWait_42 : decode cX2_letWait 42 = .ok (.iinc 3 1, 3) := by decide +kernel
theorem dX2_letWait_45 : decode cX2_letWait 45 = .ok (.goto (-30), 3) := by decide +kernel
theorem dX2_letWait_48 : decode cX2_letWait 48 = .ok (.iconst 1, 1) := by decide +kernel
theorem dX2_letWait_49 : decode cX2_letWait 49 = .ok (.ireturn, 1) := by decide +kernel
theorem dX2_hasTimeFor_0 : decode cX2_hasTimeFor 0 = .ok (.aload_n 0, 1) := by decide +kernel
theorem dX2_hasTimeFor_1 : decode cX2_hasTimeFor 1 = .ok (.getfield 96, 3) := by decide +kernel
theorem dX2_hasTimeFor_4 : decode cX2_hasTimeFor 4 = .ok (.iload_n 1, 1) := by decide +kernel
theorem dX2_hasTimeFor_5 : decode cX2_hasTimeFor 5 = .ok (.iadd, 1) := by decide +kernel
theorem dX2_hasTimeFor_6 : decode cX2_hasTimeFor 6 = .ok (.ldc 99, 2) := by decide +kernel
theorem dX2_hasTimeFor_8 : decode cX2_hasTimeFor 8 = .ok (.if_icmp .gt 7, 3) := by decide +kernel
theorem dX2_hasTimeFor_11 : decode cX2_hasTimeFor 11 = .ok (.iconst 1, 1) := by decide +kernel
theorem dX2_hasTimeFor_12 : decode cX2_hasTimeFor 12 = .ok (.goto 4, 3) := by decide +kernel
theorem dX2_hasTimeFor_15 : decode cX2_hasTimeFor 15 = .ok (.iconst 0, 1) := by decide +kernel
theorem dX2_hasTimeFor_16 : decode cX2_hasTimeFor 16 = .ok (.ireturn, 1) := by decide +kernel
theorem dX2_letPass_0 : decode cX2_letPass 0 = .ok (.iconst 0, 1) := by decide +kernel
theorem dX2_letPass_1 : decode cX2_letPass 1 = .ok (.istore_n 2, 1) := by decide +kernel
theorem dX2_letPass_2 : decode cX2_letPass 2 = .ok (.iload_n 2, 1) := by decide +kernel
theorem dX2_letPass_3 : decode cX2_letPass 3 = .ok (.iload_n 1, 1) := by decide +kernel
theorem dX2_letPass_4 : decode cX2_letPass 4 = .ok (.if_icmp .ge 13, 3) := by decide +kernel
theorem dX2_letPass_7 : decode cX2_letPass 7 = .ok (.aload_n 0, 1) := by decide +kernel
theorem dX2_letPass_8 : decode cX2_letPass 8 = .ok (.invokevirtual 100, 3) := by decide +kernel
theorem dX2_letPass_11 : decode cX2_letPass 11 = .ok (.iinc 2 1, 3) := by decide +kernel
theorem dX2_letPass_14 : decode cX2_letPass 14 = .ok (.goto (-12), 3) := by decide +kernel
theorem dX2_letPass_17 : decode cX2_letPass 17 = .ok (.return_, 1) := by decide +kernel
theorem dX2_follow_0 : decode cX2_follow 0 = .ok (.iconst 0, 1) := by decide +kernel
theorem dX2_follow_1 : decode cX2_follow 1 = .ok (.istore_n 2, 1) := by decide +kernel
theorem dX2_follow_2 : decode cX2_follow 2 = .ok (.iload_n 2, 1) := by decide +kernel
theorem dX2_follow_3 : decode cX2_follow 3 = .ok (.aload_n 1, 1) := by decide +kernel
theorem dX2_follow_4 : decode cX2_follow 4 = .ok (.getfield 103, 3) := by decide +kernel
theorem dX2_follow_7 : decode cX2_follow 7 = .ok (.if_icmp .ge 65, 3) := by decide +kernel
theorem dX2_follow_10 : decode cX2_follow 10 = .ok (.aload_n 1, 1) := by decide +kernel
theorem dX2_follow_11 : decode cX2_follow 11 = .ok (.getfield 108, 3) := by decide +kernel
theorem dX2_follow_14 : decode cX2_follow 14 = .ok (.iload_n 2, 1) := by decide +kernel
theorem dX2_follow_15 : decode cX2_follow 15 = .ok (.invokestatic 111, 3) := by decide +kernel
theorem dX2_follow_18 : decode cX2_follow 18 = .ok (.istore_n 3, 1) := by decide +kernel
theorem dX2_follow_19 : decode cX2_follow 19 = .ok (.aload_n 1, 1) := by decide +kernel
theorem dX2_follow_20 : decode cX2_follow 20 = .ok (.getfield 115, 3) := by decide +kernel
theorem dX2_follow_23 : decode cX2_follow 23 = .ok (.iload_n 2, 1) := by decide +kernel
theorem dX2_follow_24 : decode cX2_follow 24 = .ok (.invokestatic 111, 3) := by decide +kernel
theorem dX2_follow_27 : decode cX2_follow 27 = .ok (.istore 4, 2) := by decide +kernel
theorem dX2_follow_29 : decode cX2_follow 29 = .ok (.iload_n 3, 1) := by decide +kernel
theorem dX2_follow_30 : decode cX2_follow 30 = .ok (.iconst (-1), 1) := by decide +kernel
theorem dX2_follow_31 : decode cX2_follow 31 = .ok (.if_icmp .eq 15, 3) := by decide +kernel
theorem dX2_follow_34 : decode cX2_follow 34 = .ok (.aload_n 0, 1) := by decide +kernel
theorem dX2_follow_35 : decode cX2_follow 35 = .ok (.iload_n 3, 1) := by decide +kernel
theorem dX2_follow_36 : decode cX2_follow 36 = .ok (.iload 4, 2) := by decide +kernel
theorem dX2_follow_38 : decode cX2_follow 38 = .ok (.invokevirtual 118, 3) := by decide +kernel
theorem dX2_follow_41 : decode cX2_follow 41 = .ok (.ifCond .ne 25, 3) := by decide +kernel
theorem dX2_follow_44 : decode cX2_follow 44 = .ok (.iconst 0, 1) := by decide +kernel
theorem dX2_follow_45 : decode cX2_follow 45 = .ok (.ireturn, 1) := by decide +kernel
theorem dX2_follow_46 : decode cX2_follow 46 = .ok (.aload_n 0, 1) := by decide +kernel
theorem dX2_follow_47 : decode cX2_follow 47 = .ok (.iload 4, 2) := by decide +kernel
theorem dX2_follow_49 : decode cX2_follow 49 = .ok (.invokevirtual 122, 3) := by decide +kernel
theorem dX2_follow_52 : decode cX2_follow 52 = .ok (.ifCond .eq 12, 3) := by decide +kernel
theorem dX2_follow_55 : decode cX2_follow 55 = .ok (.aload_n 0, 1) := by decide +kernel
theorem dX2_follow_56 : decode cX2_follow 56 = .ok (.iload 4, 2) := by decide +kernel
theorem dX2_follow_58 : decode cX2_follow 58 = .ok (.invokevirtual 126, 3) := by decide +kernel
theorem dX2_follow_61 : decode cX2_follow 61 = .ok (.goto 5, 3) := by decide +kernel
theorem dX2_follow_64 : decode cX2_follow 64 = .ok (.iconst 0, 1) := by decide +kernel
theorem dX2_follow_65 : decode cX2_follow 65 = .ok (.ireturn, 1) := by decide +kernel
theorem dX2_follow_66 : decode cX2_follow 66 = .ok (.iinc 2 1, 3) := by decide +kernel
theorem dX2_follow_69 : decode cX2_follow 69 = .ok (.goto (-67), 3) := by decide +kernel
theorem dX2_follow_72 : decode cX2_follow 72 = .ok (.iconst 1, 1) := by decide +kernel
theorem dX2_follow_73 : decode cX2_follow 73 = .ok (.ireturn, 1) := by decide +kernel
theorem dX2_isDone_0 : decode cX2_isDone 0 = .ok (.aload_n 0, 1) := by decide +kernel
theorem dX2_isDone_1 : decode cX2_isDone 1 = .ok (.getfield 89, 3) := by decide +kernel
theorem dX2_isDone_4 : decode cX2_isDone 4 = .ok (.ifCond .ne 18, 3) := by decide +kernel
theorem dX2_isDone_7 : decode cX2_isDone 7 = .ok (.aload_n 0, 1) := by decide +kernel
theorem dX2_isDone_8 : decode cX2_isDone 8 = .ok (.getfield 83, 3) := by decide +kernel
theorem dX2_isDone_11 : decode cX2_isDone 11 = .ok (.aload_n 0, 1) := by decide +kernel
theorem dX2_isDone_12 : decode cX2_isDone 12 = .ok (.getfield 80, 3) := by decide +kernel
theorem dX2_isDone_15 : decode cX2_isDone 15 = .ok (.if_icmp .ne 7, 3) := by decide +kernel
theorem dX2_isDone_18 : decode cX2_isDone 18 = .ok (.iconst 1, 1) := by decide +kernel
theorem dX2_isDone_19 : decode cX2_isDone 19 = .ok (.goto 4, 3) := by decide +kernel
theorem dX2_isDone_22 : decode cX2_isDone 22 = .ok (.iconst 0, 1) := by decide +kernel
theorem dX2_isDone_23 : decode cX2_isDone 23 = .ok (.ireturn, 1) := by decide +kernel
theorem dX2_stallsWithin_0 : decode cX2_stallsWithin 0 = .ok (.iconst 0, 1) := by decide +kernel
theorem dX2_stallsWithin_1 : decode cX2_stallsWithin 1 = .ok (.istore_n 2, 1) := by decide +kernel
theorem dX2_stallsWithin_2 : decode cX2_stallsWithin 2 = .ok (.iload_n 2, 1) := by decide +kernel
theorem dX2_stallsWithin_3 : decode cX2_stallsWithin 3 = .ok (.iload_n 1, 1) := by decide +kernel
theorem dX2_stallsWithin_4 : decode cX2_stallsWithin 4 = .ok (.if_icmp .ge 45, 3) := by decide +kernel
theorem dX2_stallsWithin_7 : decode cX2_stallsWithin 7 = .ok (.aload_n 0, 1) := by decide +kernel
theorem dX2_stallsWithin_8 : decode cX2_stallsWithin 8 = .ok (.getfield 30, 3) := by decide +kernel
theorem dX2_stallsWithin_11 : decode cX2_stallsWithin 11 = .ok (.aload_n 0, 1) := by decide +kernel
theorem dX2_stallsWithin_12 : decode cX2_stallsWithin 12 = .ok (.getfield 96, 3) := by decide +kernel
theorem dX2_stallsWithin_15 : decode cX2_stallsWithin 15 = .ok (.iconst 1, 1) := by decide +kernel
theorem dX2_stallsWithin_16 : decode cX2_stallsWithin 16 = .ok (.iadd, 1) := by decide +kernel
theorem dX2_stallsWithin_17 : decode cX2_stallsWithin 17 = .ok (.invokevirtual 129, 3) := by decide +kernel
theorem dX2_stallsWithin_20 : decode cX2_stallsWithin 20 = .ok (.ifCond .eq 19, 3) := by decide +kernel
theorem dX2_stallsWithin_23 : decode cX2_stallsWithin 23 = .ok (.aload_n 0, 1) := by decide +kernel
theorem dX2_stallsWithin_24 : decode cX2_stallsWithin 24 = .ok (.getfield 89, 3) := by decide +kernel
theorem dX2_stallsWithin_27 : decode cX2_stallsWithin 27 = .ok (.ifCond .le 12, 3) := by decide +kernel
theorem dX2_stallsWithin_30 : decode cX2_stallsWithin 30 = .ok (.aload_n 0, 1) := by decide +kernel
theorem dX2_stallsWithin_31 : decode cX2_stallsWithin 31 = .ok (.invokevirtual 132, 3) := by decide +kernel
theorem dX2_stallsWithin_34 : decode cX2_stallsWithin 34 = .ok (.ifCond .eq 5, 3) := by decide +kernel
theorem dX2_stallsWithin_37 : decode cX2_stallsWithin 37 = .ok (.iconst 1, 1) := by decide +kernel
theorem dX2_stallsWithin_38 : decode cX2_stallsWithin 38 = .ok (.ireturn, 1) := by decide +kernel
theorem dX2_stallsWithin_39 : decode cX2_stallsWithin 39 = .ok (.aload_n 0, 1) := by decide +kernel
theorem dX2_stallsWithin_40 : decode cX2_stallsWithin 40 = .ok (.invokevirtual 100, 3) := by decide +kernel
theorem dX2_stallsWithin_43 : decode cX2_stallsWithin 43 = .ok (.iinc 2 1, 3) := by decide +kernel
theorem dX2_stallsWithin_46 : decode cX2_stallsWithin 46 = .ok (.goto (-44), 3) := by decide +kernel
theorem dX2_stallsWithin_49 : decode cX2_stallsWithin 49 = .ok (.iconst 0, 1) := by decide +kernel
theorem dX2_stallsWithin_50 : decode cX2_stallsWithin 50 = .ok (.ireturn, 1) := by decide +kernel
theorem dX2_step_0 : decode cX2_step 0 = .ok (.aload_n 0, 1) := by decide +kernel
theorem dX2_step_1 : decode cX2_step 1 = .ok (.dup, 1) := by decide +kernel
theorem dX2_step_2 : decode cX2_step 2 = .ok (.getfield 96, 3) := by decide +kernel
theorem dX2_step_5 : decode cX2_step 5 = .ok (.iconst 1, 1) := by decide +kernel
theorem dX2_step_6 : decode cX2_step 6 = .ok (.iadd, 1) := by decide +kernel
theorem dX2_step_7 : decode cX2_step 7 = .ok (.putfield 96, 3) := by decide +kernel
theorem dX2_step_10 : decode cX2_step 10 = .ok (.aload_n 0, 1) := by decide +kernel
theorem dX2_step_11 : decode cX2_step 11 = .ok (.getfield 30, 3) := by decide +kernel
theorem dX2_step_14 : decode cX2_step 14 = .ok (.aload_n 0, 1) := by decide +kernel
theorem dX2_step_15 : decode cX2_step 15 = .ok (.getfield 96, 3) := by decide +kernel
theorem dX2_step_18 : decode cX2_step 18 = .ok (.invokevirtual 129, 3) := by decide +kernel
theorem dX2_step_21 : decode cX2_step 21 = .ok (.istore_n 1, 1) := by decide +kernel
theorem dX2_step_22 : decode cX2_step 22 = .ok (.aload_n 0, 1) := by decide +kernel
theorem dX2_step_23 : decode cX2_step 23 = .ok (.getfield 34, 3) := by decide +kernel
theorem dX2_step_26 : decode cX2_step 26 = .ok (.aload_n 0, 1) := by decide +kernel
theorem dX2_step_27 : decode cX2_step 27 = .ok (.getfield 96, 3) := by decide +kernel
theorem dX2_step_30 : decode cX2_step 30 = .ok (.invokevirtual 129, 3) := by decide +kernel
theorem dX2_step_33 : decode cX2_step 33 = .ok (.istore_n 2, 1) := by decide +kernel
theorem dX2_step_34 : decode cX2_step 34 = .ok (.iload_n 1, 1) := by decide +kernel
theorem dX2_step_35 : decode cX2_step 35 = .ok (.ifCond .ne 8, 3) := by decide +kernel
theorem dX2_step_38 : decode cX2_step 38 = .ok (.iload_n 2, 1) := by decide +kernel
theorem dX2_step_39 : decode cX2_step 39 = .ok (.ifCond .ne 4, 3) := by decide +kernel
theorem dX2_step_42 : decode cX2_step 42 = .ok (.return_, 1) := by decide +kernel
theorem dX2_step_43 : decode cX2_step 43 = .ok (.iload_n 1, 1) := by decide +kernel
theorem dX2_step_44 : decode cX2_step 44 = .ok (.ifCond .eq 21, 3) := by decide +kernel
theorem dX2_step_47 : decode cX2_step 47 = .ok (.aload_n 0, 1) := by decide +kernel
theorem dX2_step_48 : decode cX2_step 48 = .ok (.getfield 89, 3) := by decide +kernel
theorem dX2_step_51 : decode cX2_step 51 = .ok (.ifCond .le 14, 3) := by decide +kernel
theorem dX2_step_54 : decode cX2_step 54 = .ok (.aload_n 0, 1) := by decide +kernel
theorem dX2_step_55 : decode cX2_step 55 = .ok (.invokevirtual 132, 3) := by decide +kernel
theorem dX2_step_58 : decode cX2_step 58 = .ok (.ifCond .ne 7, 3) := by decide +kernel
theorem dX2_step_61 : decode cX2_step 61 = .ok (.iconst 1, 1) := by decide +kernel
theorem dX2_step_62 : decode cX2_step 62 = .ok (.goto 4, 3) := by decide +kernel
theorem dX2_step_65 : decode cX2_step 65 = .ok (.iconst 0, 1) := by decide +kernel
theorem dX2_step_66 : decode cX2_step 66 = .ok (.istore_n 3, 1) := by decide +kernel
theorem dX2_step_67 : decode cX2_step 67 = .ok (.iload_n 2, 1) := by decide +kernel
theorem dX2_step_68 : decode cX2_step 68 = .ok (.ifCond .eq 14, 3) := by decide +kernel
theorem dX2_step_71 : decode cX2_step 71 = .ok (.aload_n 0, 1) := by decide +kernel
theorem dX2_step_72 : decode cX2_step 72 = .ok (.invokevirtual 136, 3) := by decide +kernel
theorem dX2_step_75 : decode cX2_step 75 = .ok (.ifCond .ne 7, 3) := by decide +kernel
theorem dX2_step_78 : decode cX2_step 78 = .ok (.iconst 1, 1) := by decide +kernel
theorem dX2_step_79 : decode cX2_step 79 = .ok (.goto 4, 3) := by decide +kernel
theorem dX2_step_82 : decode cX2_step 82 = .ok (.iconst 0, 1) := by decide +kernel
theorem dX2_step_83 : decode cX2_step 83 = .ok (.istore 4, 2) := by decide +kernel
theorem dX2_step_85 : decode cX2_step 85 = .ok (.aload_n 0, 1) := by decide +kernel
theorem dX2_step_86 : decode cX2_step 86 = .ok (.aload_n 0, 1) := by decide +kernel
theorem dX2_step_87 : decode cX2_step 87 = .ok (.getfield 30, 3) := by decide +kernel
theorem dX2_step_90 : decode cX2_step 90 = .ok (.getfield 58, 3) := by decide +kernel
theorem dX2_step_93 : decode cX2_step 93 = .ok (.invokevirtual 139, 3) := by decide +kernel
theorem dX2_step_96 : decode cX2_step 96 = .ok (.istore 5, 2) := by decide +kernel
theorem dX2_step_98 : decode cX2_step 98 = .ok (.iload_n 3, 1) := by decide +kernel
theorem dX2_step_99 : decode cX2_step 99 = .ok (.ifCond .eq 23, 3) := by decide +kernel
theorem dX2_step_102 : decode cX2_step 102 = .ok (.aload_n 0, 1) := by decide +kernel
theorem dX2_step_103 : decode cX2_step 103 = .ok (.aload_n 0, 1) := by decide +kernel
theorem dX2_step_104 : decode cX2_step 104 = .ok (.aload_n 0, 1) := by decide +kernel
theorem dX2_step_105 : decode cX2_step 105 = .ok (.getfield 30, 3) := by decide +kernel
theorem dX2_step_108 : decode cX2_step 108 = .ok (.getfield 58, 3) := by decide +kernel
theorem dX2_step_111 : decode cX2_step 111 = .ok (.iconst 1, 1) := by decide +kernel
theorem dX2_step_112 : decode cX2_step 112 = .ok (.iadd, 1) := by decide +kernel
theorem dX2_step_113 : decode cX2_step 113 = .ok (.invokevirtual 68, 3) := by decide +kernel
theorem dX2_step_116 : decode cX2_step 116 = .ok (.invokevirtual 139, 3) := by decide +kernel
theorem dX2_step_119 : decode cX2_step 119 = .ok (.goto 5, 3) := by decide +kernel
theorem dX2_step_122 : decode cX2_step 122 = .ok (.iload 5, 2) := by decide +kernel
theorem dX2_step_124 : decode cX2_step 124 = .ok (.istore 6, 2) := by decide +kernel
theorem dX2_step_126 : decode cX2_step 126 = .ok (.aload_n 0, 1) := by decide +kernel
theorem dX2_step_127 : decode cX2_step 127 = .ok (.aload_n 0, 1) := by decide +kernel
theorem dX2_step_128 : decode cX2_step 128 = .ok (.getfield 34, 3) := by decide +kernel
theorem dX2_step_131 : decode cX2_step 131 = .ok (.getfield 58, 3) := by decide +kernel
theorem dX2_step_134 : decode cX2_step 134 = .ok (.invokevirtual 139, 3) := by decide +kernel
theorem dX2_step_137 : decode cX2_step 137 = .ok (.istore 7, 2) := by decide +kernel
theorem dX2_step_139 : decode cX2_step 139 = .ok (.iload 4, 2) := by decide +kernel
theorem dX2_step_141 : decode cX2_step 141 = .ok (.ifCond .eq 23, 3) := by decide +kernel
theorem dX2_step_144 : decode cX2_step 144 = .ok (.aload_n 0, 1) := by decide +kernel
theorem dX2_step_145 : decode cX2_step 145 = .ok (.aload_n 0, 1) := by decide +kernel
theorem dX2_step_146 : decode cX2_step 146 = .ok (.aload_n 0, 1) := by decide +kernel
theorem dX2_step_147 : decode cX2_step 147 = .ok (.getfield 34, 3) := by decide +kernel
theorem dX2_step_150 : decode cX2_step 150 = .ok (.getfield 58, 3) := by decide +kernel
theorem dX2_step_153 : decode cX2_step 153 = .ok (.iconst 1, 1) := by decide +kernel
theorem dX2_step_154 : decode cX2_step 154 = .ok (.iadd, 1) := by decide +kernel
theorem dX2_step_155 : decode cX2_step 155 = .ok (.invokevirtual 68, 3) := by decide +kernel
theorem dX2_step_158 : decode cX2_step 158 = .ok (.invokevirtual 139, 3) := by decide +kernel
theorem dX2_step_161 : decode cX2_step 161 = .ok (.goto 5, 3) := by decide +kernel
theorem dX2_step_164 : decode cX2_step 164 = .ok (.iload 7, 2) := by decide +kernel
theorem dX2_step_166 : decode cX2_step 166 = .ok (.istore 8, 2) := by decide +kernel
theorem dX2_step_168 : decode cX2_step 168 = .ok (.iload_n 1, 1) := by decide +kernel
theorem dX2_step_169 : decode cX2_step 169 = .ok (.ifCond .eq 14, 3) := by decide +kernel
theorem dX2_step_172 : decode cX2_step 172 = .ok (.aload_n 0, 1) := by decide +kernel
theorem dX2_step_173 : decode cX2_step 173 = .ok (.getfield 30, 3) := by decide +kernel
theorem dX2_step_176 : decode cX2_step 176 = .ok (.iload 7, 2) := by decide +kernel
theorem dX2_step_178 : decode cX2_step 178 = .ok (.iload 8, 2) := by decide +kernel
theorem dX2_step_180 : decode cX2_step 180 = .ok (.invokevirtual 142, 3) := by decide +kernel
theorem dX2_step_183 : decode cX2_step 183 = .ok (.iload_n 2, 1) := by decide +kernel
theorem dX2_step_184 : decode cX2_step 184 = .ok (.ifCond .eq 14, 3) := by decide +kernel
theorem dX2_step_187 : decode cX2_step 187 = .ok (.aload_n 0, 1) := by decide +kernel
theorem dX2_step_188 : decode cX2_step 188 = .ok (.getfield 34, 3) := by decide +kernel
theorem dX2_step_191 : decode cX2_step 191 = .ok (.iload 5, 2) := by decide +kernel
theorem dX2_step_193 : decode cX2_step 193 = .ok (.iload 6, 2) := by decide +kernel
theorem dX2_step_195 : decode cX2_step 195 = .ok (.invokevirtual 142, 3) := by decide +kernel
theorem dX2_step_198 : decode cX2_step 198 = .ok (.iload 4, 2) := by decide +kernel
theorem dX2_step_200 : decode cX2_step 200 = .ok (.ifCond .eq 7, 3) := by decide +kernel
theorem dX2_step_203 : decode cX2_step 203 = .ok (.aload_n 0, 1) := by decide +kernel
theorem dX2_step_204 : decode cX2_step 204 = .ok (.invokevirtual 146, 3) := by decide +kernel
theorem dX2_step_207 : decode cX2_step 207 = .ok (.iload_n 3, 1) := by decide +kernel
theorem dX2_step_208 : decode cX2_step 208 = .ok (.ifCond .eq 7, 3) := by decide +kernel
theorem dX2_step_211 : decode cX2_step 211 = .ok (.aload_n 0, 1) := by decide +kernel
theorem dX2_step_212 : decode cX2_step 212 = .ok (.invokevirtual 149, 3) := by decide +kernel
theorem dX2_step_215 : decode cX2_step 215 = .ok (.return_, 1) := by decide +kernel
theorem dX2_takeWord_0 : decode cX2_takeWord 0 = .ok (.aload_n 0, 1) := by decide +kernel
theorem dX2_takeWord_1 : decode cX2_takeWord 1 = .ok (.aload_n 0, 1) := by decide +kernel
theorem dX2_takeWord_2 : decode cX2_takeWord 2 = .ok (.getfield 34, 3) := by decide +kernel
theorem dX2_takeWord_5 : decode cX2_takeWord 5 = .ok (.getfield 58, 3) := by decide +kernel
theorem dX2_takeWord_8 : decode cX2_takeWord 8 = .ok (.invokevirtual 152, 3) := by decide +kernel
theorem dX2_takeWord_11 : decode cX2_takeWord 11 = .ok (.istore_n 1, 1) := by decide +kernel
theorem dX2_takeWord_12 : decode cX2_takeWord 12 = .ok (.aload_n 0, 1) := by decide +kernel
theorem dX2_takeWord_13 : decode cX2_takeWord 13 = .ok (.getfield 37, 3) := by decide +kernel
theorem dX2_takeWord_16 : decode cX2_takeWord 16 = .ok (.iload_n 1, 1) := by decide +kernel
theorem dX2_takeWord_17 : decode cX2_takeWord 17 = .ok (.invokestatic 111, 3) := by decide +kernel
theorem dX2_takeWord_20 : decode cX2_takeWord 20 = .ok (.istore_n 2, 1) := by decide +kernel
theorem dX2_takeWord_21 : decode cX2_takeWord 21 = .ok (.aload_n 0, 1) := by decide +kernel
theorem dX2_takeWord_22 : decode cX2_takeWord 22 = .ok (.getfield 41, 3) := by decide +kernel
theorem dX2_takeWord_25 : decode cX2_takeWord 25 = .ok (.iload_n 1, 1) := by decide +kernel
theorem dX2_takeWord_26 : decode cX2_takeWord 26 = .ok (.invokestatic 111, 3) := by decide +kernel
theorem dX2_takeWord_29 : decode cX2_takeWord 29 = .ok (.aload_n 0, 1) := by decide +kernel
theorem dX2_takeWord_30 : decode cX2_takeWord 30 = .ok (.getfield 83, 3) := by decide +kernel
theorem dX2_takeWord_33 : decode cX2_takeWord 33 = .ok (.if_icmp .ne 7, 3) := by decide +kernel
theorem dX2_takeWord_36 : decode cX2_takeWord 36 = .ok (.iconst 1, 1) := by decide +kernel
theorem dX2_takeWord_37 : decode cX2_takeWord 37 = .ok (.goto 4, 3) := by decide +kernel
theorem dX2_takeWord_40 : decode cX2_takeWord 40 = .ok (.iconst 0, 1) := by decide +kernel
theorem dX2_takeWord_41 : decode cX2_takeWord 41 = .ok (.istore_n 3, 1) := by decide +kernel
theorem dX2_takeWord_42 : decode cX2_takeWord 42 = .ok (.aload_n 0, 1) := by decide +kernel
theorem dX2_takeWord_43 : decode cX2_takeWord 43 = .ok (.getfield 47, 3) := by decide +kernel
theorem dX2_takeWord_46 : decode cX2_takeWord 46 = .ok (.aload_n 0, 1) := by decide +kernel
theorem dX2_takeWord_47 : decode cX2_takeWord 47 = .ok (.getfield 83, 3) := by decide +kernel
theorem dX2_takeWord_50 : decode cX2_takeWord 50 = .ok (.bipush 15, 2) := by decide +kernel
theorem dX2_takeWord_52 : decode cX2_takeWord 52 = .ok (.iand, 1) := by decide +kernel
theorem dX2_takeWord_53 : decode cX2_takeWord 53 = .ok (.iload_n 3, 1) := by decide +kernel
theorem dX2_takeWord_54 : decode cX2_takeWord 54 = .ok (.ifCond .eq 7, 3) := by decide +kernel
theorem dX2_takeWord_57 : decode cX2_takeWord 57 = .ok (.iload_n 2, 1) := by decide +kernel
theorem dX2_takeWord_58 : decode cX2_takeWord 58 = .ok (.goto 7, 3) := by decide +kernel
theorem dX2_takeWord_61 : decode cX2_takeWord 61 = .ok (.iload_n 2, 1) := by decide +kernel
theorem dX2_takeWord_62 : decode cX2_takeWord 62 = .ok (.bipush 100, 2) := by decide +kernel
theorem dX2_takeWord_64 : decode cX2_takeWord 64 = .ok (.iadd, 1) := by decide +kernel
theorem dX2_takeWord_65 : decode cX2_takeWord 65 = .ok (.invokestatic 92, 3) := by decide +kernel
theorem dX2_takeWord_68 : decode cX2_takeWord 68 = .ok (.aload_n 0, 1) := by decide +kernel
theorem dX2_takeWord_69 : decode cX2_takeWord 69 = .ok (.dup, 1) := by decide +kernel
theorem dX2_takeWord_70 : decode cX2_takeWord 70 = .ok (.getfield 83, 3) := by decide +kernel
theorem dX2_takeWord_73 : decode cX2_takeWord 73 = .ok (.iconst 1, 1) := by decide +kernel
theorem dX2_takeWord_74 : decode cX2_takeWord 74 = .ok (.iadd, 1) := by decide +kernel
theorem dX2_takeWord_75 : decode cX2_takeWord 75 = .ok (.putfield 83, 3) := by decide +kernel
theorem dX2_takeWord_78 : decode cX2_takeWord 78 = .ok (.iload_n 3, 1) := by decide +kernel
theorem dX2_takeWord_79 : decode cX2_takeWord 79 = .ok (.ifCond .eq 13, 3) := by decide +kernel
theorem dX2_takeWord_82 : decode cX2_takeWord 82 = .ok (.aload_n 0, 1) := by decide +kernel
theorem dX2_takeWord_83 : decode cX2_takeWord 83 = .ok (.dup, 1) := by decide +kernel
theorem dX2_takeWord_84 : decode cX2_takeWord 84 = .ok (.getfield 86, 3) := by decide +kernel
theorem dX2_takeWord_87 : decode cX2_takeWord 87 = .ok (.iconst 1, 1) := by decide +kernel
theorem dX2_takeWord_88 : decode cX2_takeWord 88 = .ok (.iadd, 1) := by decide +kernel
theorem dX2_takeWord_89 : decode cX2_takeWord 89 = .ok (.putfield 86, 3) := by decide +kernel
theorem dX2_takeWord_92 : decode cX2_takeWord 92 = .ok (.aload_n 0, 1) := by decide +kernel
theorem dX2_takeWord_93 : decode cX2_takeWord 93 = .ok (.getfield 34, 3) := by decide +kernel
theorem dX2_takeWord_96 : decode cX2_takeWord 96 = .ok (.aload_n 0, 1) := by decide +kernel
theorem dX2_takeWord_97 : decode cX2_takeWord 97 = .ok (.aload_n 0, 1) := by decide +kernel
theorem dX2_takeWord_98 : decode cX2_takeWord 98 = .ok (.getfield 34, 3) := by decide +kernel
theorem dX2_takeWord_101 : decode cX2_takeWord 101 = .ok (.getfield 58, 3) := by decide +kernel
theorem dX2_takeWord_104 : decode cX2_takeWord 104 = .ok (.iconst 1, 1) := by decide +kernel
theorem dX2_takeWord_105 : decode cX2_takeWord 105 = .ok (.iadd, 1) := by decide +kernel
theorem dX2_takeWord_106 : decode cX2_takeWord 106 = .ok (.invokevirtual 68, 3) := by decide +kernel
theorem dX2_takeWord_109 : decode cX2_takeWord 109 = .ok (.putfield 58, 3) := by decide +kernel
theorem dX2_takeWord_112 : decode cX2_takeWord 112 = .ok (.return_, 1) := by decide +kernel
theorem dX2_putWord_0 : decode cX2_putWord 0 = .ok (.aload_n 0, 1) := by decide +kernel
theorem dX2_putWord_1 : decode cX2_putWord 1 = .ok (.aload_n 0, 1) := by decide +kernel
theorem dX2_putWord_2 : decode cX2_putWord 2 = .ok (.getfield 30, 3) := by decide +kernel
theorem dX2_putWord_5 : decode cX2_putWord 5 = .ok (.getfield 58, 3) := by decide +kernel
theorem dX2_putWord_8 : decode cX2_putWord 8 = .ok (.invokevirtual 152, 3) := by decide +kernel
theorem dX2_putWord_11 : decode cX2_putWord 11 = .ok (.istore_n 1, 1) := by decide +kernel
theorem dX2_putWord_12 : decode cX2_putWord 12 = .ok (.aload_n 0, 1) := by decide +kernel
theorem dX2_putWord_13 : decode cX2_putWord 13 = .ok (.getfield 37, 3) := by decide +kernel
theorem dX2_putWord_16 : decode cX2_putWord 16 = .ok (.iload_n 1, 1) := by decide +kernel
theorem dX2_putWord_17 : decode cX2_putWord 17 = .ok (.aload_n 0, 1) := by decide +kernel
theorem dX2_putWord_18 : decode cX2_putWord 18 = .ok (.getfield 44, 3) := by decide +kernel
theorem dX2_putWord_21 : decode cX2_putWord 21 = .ok (.iconst 0, 1) := by decide +kernel
theorem dX2_putWord_22 : decode cX2_putWord 22 = .ok (.invokestatic 111, 3) := by decide +kernel
theorem dX2_putWord_25 : decode cX2_putWord 25 = .ok (.invokestatic 92, 3) := by decide +kernel
theorem dX2_putWord_28 : decode cX2_putWord 28 = .ok (.aload_n 0, 1) := by decide +kernel
theorem dX2_putWord_29 : decode cX2_putWord 29 = .ok (.getfield 41, 3) := by decide +kernel
theorem dX2_putWord_32 : decode cX2_putWord 32 = .ok (.iload_n 1, 1) := by decide +kernel
theorem dX2_putWord_33 : decode cX2_putWord 33 = .ok (.aload_n 0, 1) := by decide +kernel
theorem dX2_putWord_34 : decode cX2_putWord 34 = .ok (.getfield 80, 3) := by decide +kernel
theorem dX2_putWord_37 : decode cX2_putWord 37 = .ok (.invokestatic 92, 3) := by decide +kernel
theorem dX2_putWord_40 : decode cX2_putWord 40 = .ok (.aload_n 0, 1) := by decide +kernel
theorem dX2_putWord_41 : decode cX2_putWord 41 = .ok (.dup, 1) := by decide +kernel
theorem dX2_putWord_42 : decode cX2_putWord 42 = .ok (.getfield 80, 3) := by decide +kernel
theorem dX2_putWord_45 : decode cX2_putWord 45 = .ok (.iconst 1, 1) := by decide +kernel
theorem dX2_putWord_46 : decode cX2_putWord 46 = .ok (.iadd, 1) := by decide +kernel
theorem dX2_putWord_47 : decode cX2_putWord 47 = .ok (.putfield 80, 3) := by decide +kernel
theorem dX2_putWord_50 : decode cX2_putWord 50 = .ok (.aload_n 0, 1) := by decide +kernel
theorem dX2_putWord_51 : decode cX2_putWord 51 = .ok (.dup, 1) := by decide +kernel
theorem dX2_putWord_52 : decode cX2_putWord 52 = .ok (.getfield 89, 3) := by decide +kernel
theorem dX2_putWord_55 : decode cX2_putWord 55 = .ok (.iconst 1, 1) := by decide +kernel
theorem dX2_putWord_56 : decode cX2_putWord 56 = .ok (.isub, 1) := by decide +kernel
theorem dX2_putWord_57 : decode cX2_putWord 57 = .ok (.putfield 89, 3) := by decide +kernel
theorem dX2_putWord_60 : decode cX2_putWord 60 = .ok (.iconst 0, 1) := by decide +kernel
theorem dX2_putWord_61 : decode cX2_putWord 61 = .ok (.istore_n 2, 1) := by decide +kernel
theorem dX2_putWord_62 : decode cX2_putWord 62 = .ok (.iload_n 2, 1) := by decide +kernel
theorem dX2_putWord_63 : decode cX2_putWord 63 = .ok (.aload_n 0, 1) := by decide +kernel
theorem dX2_putWord_64 : decode cX2_putWord 64 = .ok (.getfield 89, 3) := by decide +kernel
theorem dX2_putWord_67 : decode cX2_putWord 67 = .ok (.if_icmp .ge 27, 3) := by decide +kernel
theorem dX2_putWord_70 : decode cX2_putWord 70 = .ok (.aload_n 0, 1) := by decide +kernel
theorem dX2_putWord_71 : decode cX2_putWord 71 = .ok (.getfield 44, 3) := by decide +kernel
theorem dX2_putWord_74 : decode cX2_putWord 74 = .ok (.iload_n 2, 1) := by decide +kernel
theorem dX2_putWord_75 : decode cX2_putWord 75 = .ok (.aload_n 0, 1) := by decide +kernel
theorem dX2_putWord_76 : decode cX2_putWord 76 = .ok (.getfield 44, 3) := by decide +kernel
theorem dX2_putWord_79 : decode cX2_putWord 79 = .ok (.iload_n 2, 1) := by decide +kernel
theorem dX2_putWord_80 : decode cX2_putWord 80 = .ok (.iconst 1, 1) := by decide +kernel
theorem dX2_putWord_81 : decode cX2_putWord 81 = .ok (.iadd, 1) := by decide +kernel
theorem dX2_putWord_82 : decode cX2_putWord 82 = .ok (.invokestatic 111, 3) := by decide +kernel
theorem dX2_putWord_85 : decode cX2_putWord 85 = .ok (.invokestatic 92, 3) := by decide +kernel
theorem dX2_putWord_88 : decode cX2_putWord 88 = .ok (.iinc 2 1, 3) := by decide +kernel
theorem dX2_putWord_91 : decode cX2_putWord 91 = .ok (.goto (-29), 3) := by decide +kernel
theorem dX2_putWord_94 : decode cX2_putWord 94 = .ok (.aload_n 0, 1) := by decide +kernel
theorem dX2_putWord_95 : decode cX2_putWord 95 = .ok (.getfield 30, 3) := by decide +kernel
theorem dX2_putWord_98 : decode cX2_putWord 98 = .ok (.aload_n 0, 1) := by decide +kernel
theorem dX2_putWord_99 : decode cX2_putWord 99 = .ok (.aload_n 0, 1) := by decide +kernel
theorem dX2_putWord_100 : decode cX2_putWord 100 = .ok (.getfield 30, 3) := by decide +kernel
theorem dX2_putWord_103 : decode cX2_putWord 103 = .ok (.getfield 58, 3) := by decide +kernel
theorem dX2_putWord_106 : decode cX2_putWord 106 = .ok (.iconst 1, 1) := by decide +kernel
theorem dX2_putWord_107 : decode cX2_putWord 107 = .ok (.iadd, 1) := by decide +kernel
theorem dX2_putWord_108 : decode cX2_putWord 108 = .ok (.invokevirtual 68, 3) := by decide +kernel
theorem dX2_putWord_111 : decode cX2_putWord 111 = .ok (.putfield 58, 3) := by decide +kernel
theorem dX2_putWord_114 : decode cX2_putWord 114 = .ok (.return_, 1) := by decide +kernel
theorem dX2_latestCame_0 : decode cX2_latestCame 0 = .ok (.iload_n 1, 1) := by decide +kernel
theorem dX2_latestCame_1 : decode cX2_latestCame 1 = .ok (.aload_n 0, 1) := by decide +kernel
theorem dX2_latestCame_2 : decode cX2_latestCame 2 = .ok (.getfield 83, 3) := by decide +kernel
theorem dX2_latestCame_5 : decode cX2_latestCame 5 = .ok (.if_icmp .ge 9, 3) := by decide +kernel
theorem dX2_latestCame_8 : decode cX2_latestCame 8 = .ok (.iload_n 1, 1) := by decide +kernel
theorem dX2_latestCame_9 : decode cX2_latestCame 9 = .ok (.bipush 16, 2) := by decide +kernel
theorem dX2_latestCame_11 : decode cX2_latestCame 11 = .ok (.if_icmp .lt 6, 3) := by decide +kernel
theorem dX2_latestCame_14 : decode cX2_latestCame 14 = .ok (.bipush (-5), 2) := by decide +kernel
theorem dX2_latestCame_16 : decode cX2_latestCame 16 = .ok (.ireturn, 1) := by decide +kernel
theorem dX2_latestCame_17 : decode cX2_latestCame 17 = .ok (.aload_n 0, 1) := by decide +kernel
theorem dX2_latestCame_18 : decode cX2_latestCame 18 = .ok (.getfield 47, 3) := by decide +kernel
theorem dX2_latestCame_21 : decode cX2_latestCame 21 = .ok (.aload_n 0, 1) := by decide +kernel
theorem dX2_latestCame_22 : decode cX2_latestCame 22 = .ok (.getfield 83, 3) := by decide +kernel
theorem dX2_latestCame_25 : decode cX2_latestCame 25 = .ok (.iconst 1, 1) := by decide +kernel
theorem dX2_latestCame_26 : decode cX2_latestCame 26 = .ok (.isub, 1) := by decide +kernel
theorem dX2_latestCame_27 : decode cX2_latestCame 27 = .ok (.iload_n 1, 1) := by decide +kernel
theorem dX2_latestCame_28 : decode cX2_latestCame 28 = .ok (.isub, 1) := by decide +kernel
theorem dX2_latestCame_29 : decode cX2_latestCame 29 = .ok (.bipush 15, 2) := by decide +kernel
theorem dX2_latestCame_31 : decode cX2_latestCame 31 = .ok (.iand, 1) := by decide +kernel
theorem dX2_latestCame_32 : decode cX2_latestCame 32 = .ok (.invokestatic 111, 3) := by decide +kernel
theorem dX2_latestCame_35 : decode cX2_latestCame 35 = .ok (.ireturn, 1) := by decide +kernel
theorem dX2_copy_0 : decode cX2_copy 0 = .ok (.aload_n 0, 1) := by decide +kernel
theorem dX2_copy_1 : decode cX2_copy 1 = .ok (.aload_n 1, 1) := by decide +kernel
theorem dX2_copy_2 : decode cX2_copy 2 = .ok (.getfield 9, 3) := by decide +kernel
theorem dX2_copy_5 : decode cX2_copy 5 = .ok (.putfield 9, 3) := by decide +kernel
theorem dX2_copy_8 : decode cX2_copy 8 = .ok (.aload_n 0, 1) := by decide +kernel
theorem dX2_copy_9 : decode cX2_copy 9 = .ok (.aload_n 1, 1) := by decide +kernel
theorem dX2_copy_10 : decode cX2_copy 10 = .ok (.getfield 15, 3) := by decide +kernel
theorem dX2_copy_13 : decode cX2_copy 13 = .ok (.putfield 15, 3) := by decide +kernel
theorem dX2_copy_16 : decode cX2_copy 16 = .ok (.aload_n 0, 1) := by decide +kernel
theorem dX2_copy_17 : decode cX2_copy 17 = .ok (.aload_n 1, 1) := by decide +kernel
theorem dX2_copy_18 : decode cX2_copy 18 = .ok (.getfield 96, 3) := by decide +kernel
theorem dX2_copy_21 : decode cX2_copy 21 = .ok (.putfield 96, 3) := by decide +kernel
theorem dX2_copy_24 : decode cX2_copy 24 = .ok (.aload_n 0, 1) := by decide +kernel
theorem dX2_copy_25 : decode cX2_copy 25 = .ok (.aload_n 1, 1) := by decide +kernel
theorem dX2_copy_26 : decode cX2_copy 26 = .ok (.getfield 19, 3) := by decide +kernel
theorem dX2_copy_29 : decode cX2_copy 29 = .ok (.putfield 19, 3) := by decide +kernel
theorem dX2_copy_32 : decode cX2_copy 32 = .ok (.aload_n 0, 1) := by decide +kernel
theorem dX2_copy_33 : decode cX2_copy 33 = .ok (.aload_n 1, 1) := by decide +kernel
theorem dX2_copy_34 : decode cX2_copy 34 = .ok (.getfield 22, 3) := by decide +kernel
theorem dX2_copy_37 : decode cX2_copy 37 = .ok (.putfield 22, 3) := by decide +kernel
theorem dX2_copy_40 : decode cX2_copy 40 = .ok (.aload_n 0, 1) := by decide +kernel
theorem dX2_copy_41 : decode cX2_copy 41 = .ok (.getfield 30, 3) := by decide +kernel
theorem dX2_copy_44 : decode cX2_copy 44 = .ok (.aload_n 1, 1) := by decide +kernel
theorem dX2_copy_45 : decode cX2_copy 45 = .ok (.getfield 30, 3) := by decide +kernel
theorem dX2_copy_48 : decode cX2_copy 48 = .ok (.invokevirtual 155, 3) := by decide +kernel
theorem dX2_copy_51 : decode cX2_copy 51 = .ok (.aload_n 0, 1) := by decide +kernel
theorem dX2_copy_52 : decode cX2_copy 52 = .ok (.getfield 34, 3) := by decide +kernel
theorem dX2_copy_55 : decode cX2_copy 55 = .ok (.aload_n 1, 1) := by decide +kernel
theorem dX2_copy_56 : decode cX2_copy 56 = .ok (.getfield 34, 3) := by decide +kernel
theorem dX2_copy_59 : decode cX2_copy 59 = .ok (.invokevirtual 155, 3) := by decide +kernel
theorem dX2_copy_62 : decode cX2_copy 62 = .ok (.aload_n 1, 1) := by decide +kernel
theorem dX2_copy_63 : decode cX2_copy 63 = .ok (.getfield 37, 3) := by decide +kernel
theorem dX2_copy_66 : decode cX2_copy 66 = .ok (.aload_n 0, 1) := by decide +kernel
theorem dX2_copy_67 : decode cX2_copy 67 = .ok (.getfield 37, 3) := by decide +kernel
theorem dX2_copy_70 : decode cX2_copy 70 = .ok (.invokestatic 159, 3) := by decide +kernel
theorem dX2_copy_73 : decode cX2_copy 73 = .ok (.aload_n 1, 1) := by decide +kernel
theorem dX2_copy_74 : decode cX2_copy 74 = .ok (.getfield 41, 3) := by decide +kernel
theorem dX2_copy_77 : decode cX2_copy 77 = .ok (.aload_n 0, 1) := by decide +kernel
theorem dX2_copy_78 : decode cX2_copy 78 = .ok (.getfield 41, 3) := by decide +kernel
theorem dX2_copy_81 : decode cX2_copy 81 = .ok (.invokestatic 159, 3) := by decide +kernel
theorem dX2_copy_84 : decode cX2_copy 84 = .ok (.aload_n 1, 1) := by decide +kernel
theorem dX2_copy_85 : decode cX2_copy 85 = .ok (.getfield 44, 3) := by decide +kernel
theorem dX2_copy_88 : decode cX2_copy 88 = .ok (.aload_n 0, 1) := by decide +kernel
theorem dX2_copy_89 : decode cX2_copy 89 = .ok (.getfield 44, 3) := by decide +kernel
theorem dX2_copy_92 : decode cX2_copy 92 = .ok (.invokestatic 159, 3) := by decide +kernel
theorem dX2_copy_95 : decode cX2_copy 95 = .ok (.aload_n 0, 1) := by decide +kernel
theorem dX2_copy_96 : decode cX2_copy 96 = .ok (.aload_n 1, 1) := by decide +kernel
theorem dX2_copy_97 : decode cX2_copy 97 = .ok (.getfield 89, 3) := by decide +kernel
theorem dX2_copy_100 : decode cX2_copy 100 = .ok (.putfield 89, 3) := by decide +kernel
theorem dX2_copy_103 : decode cX2_copy 103 = .ok (.aload_n 1, 1) := by decide +kernel
theorem dX2_copy_104 : decode cX2_copy 104 = .ok (.getfield 47, 3) := by decide +kernel
theorem dX2_copy_107 : decode cX2_copy 107 = .ok (.aload_n 0, 1) := by decide +kernel
theorem dX2_copy_108 : decode cX2_copy 108 = .ok (.getfield 47, 3) := by decide +kernel
theorem dX2_copy_111 : decode cX2_copy 111 = .ok (.invokestatic 159, 3) := by decide +kernel
theorem dX2_copy_114 : decode cX2_copy 114 = .ok (.aload_n 0, 1) := by decide +kernel
theorem dX2_copy_115 : decode cX2_copy 115 = .ok (.aload_n 1, 1) := by decide +kernel
theorem dX2_copy_116 : decode cX2_copy 116 = .ok (.getfield 80, 3) := by decide +kernel
theorem dX2_copy_119 : decode cX2_copy 119 = .ok (.putfield 80, 3) := by decide +kernel
theorem dX2_copy_122 : decode cX2_copy 122 = .ok (.aload_n 0, 1) := by decide +kernel
theorem dX2_copy_123 : decode cX2_copy 123 = .ok (.aload_n 1, 1) := by decide +kernel
theorem dX2_copy_124 : decode cX2_copy 124 = .ok (.getfield 83, 3) := by decide +kernel
theorem dX2_copy_127 : decode cX2_copy 127 = .ok (.putfield 83, 3) := by decide +kernel
theorem dX2_copy_130 : decode cX2_copy 130 = .ok (.aload_n 0, 1) := by decide +kernel
theorem dX2_copy_131 : decode cX2_copy 131 = .ok (.aload_n 1, 1) := by decide +kernel
theorem dX2_copy_132 : decode cX2_copy 132 = .ok (.getfield 86, 3) := by decide +kernel
theorem dX2_copy_135 : decode cX2_copy 135 = .ok (.putfield 86, 3) := by decide +kernel
theorem dX2_copy_138 : decode cX2_copy 138 = .ok (.return_, 1) := by decide +kernel
theorem dX3_init_0 : decode cX3_init 0 = .ok (.aload_n 0, 1) := by decide +kernel
theorem dX3_init_1 : decode cX3_init 1 = .ok (.invokespecial 3, 3) := by decide +kernel
theorem dX3_init_4 : decode cX3_init 4 = .ok (.aload_n 0, 1) := by decide +kernel
theorem dX3_init_5 : decode cX3_init 5 = .ok (.bipush 60, 2) := by decide +kernel
theorem dX3_init_7 : decode cX3_init 7 = .ok (.newarray .char, 2) := by decide +kernel
theorem dX3_init_9 : decode cX3_init 9 = .ok (.putfield 9, 3) := by decide +kernel
theorem dX3_init_12 : decode cX3_init 12 = .ok (.aload_n 0, 1) := by decide +kernel
theorem dX3_init_13 : decode cX3_init 13 = .ok (.bipush 30, 2) := by decide +kernel
theorem dX3_init_15 : decode cX3_init 15 = .ok (.newarray .int, 2) := by decide +kernel
theorem dX3_init_17 : decode cX3_init 17 = .ok (.putfield 15, 3) := by decide +kernel
theorem dX3_init_20 : decode cX3_init 20 = .ok (.aload_n 0, 1) := by decide +kernel
theorem dX3_init_21 : decode cX3_init 21 = .ok (.bipush 30, 2) := by decide +kernel
theorem dX3_init_23 : decode cX3_init 23 = .ok (.newarray .int, 2) := by decide +kernel
theorem dX3_init_25 : decode cX3_init 25 = .ok (.putfield 19, 3) := by decide +kernel
theorem dX3_init_28 : decode cX3_init 28 = .ok (.return_, 1) := by decide +kernel
theorem dX3_append_0 : decode cX3_append 0 = .ok (.aload_n 0, 1) := by decide +kernel
theorem dX3_append_1 : decode cX3_append 1 = .ok (.getfield 22, 3) := by decide +kernel
theorem dX3_append_4 : decode cX3_append 4 = .ok (.ifCond .lt 15, 3) := by decide +kernel
theorem dX3_append_7 : decode cX3_append 7 = .ok (.aload_n 0, 1) := by decide +kernel
theorem dX3_append_8 : decode cX3_append 8 = .ok (.getfield 22, 3) := by decide +kernel
theorem dX3_append_11 : decode cX3_append 11 = .ok (.aload_n 0, 1) := by decide +kernel
theorem dX3_append_12 : decode cX3_append 12 = .ok (.getfield 9, 3) := by decide +kernel
theorem dX3_append_15 : decode cX3_append 15 = .ok (.arraylength, 1) := by decide +kernel
theorem dX3_append_16 : decode cX3_append 16 = .ok (.if_icmp .lt 5, 3) := by decide +kernel
theorem dX3_append_19 : decode cX3_append 19 = .ok (.iconst 0, 1) := by decide +kernel
theorem dX3_append_20 : decode cX3_append 20 = .ok (.ireturn, 1) := by decide +kernel
theorem dX3_append_21 : decode cX3_append 21 = .ok (.aload_n 0, 1) := by decide +kernel
theorem dX3_append_22 : decode cX3_append 22 = .ok (.getfield 9, 3) := by decide +kernel
theorem dX3_append_25 : decode cX3_append 25 = .ok (.aload_n 0, 1) := by decide +kernel
theorem dX3_append_26 : decode cX3_append 26 = .ok (.getfield 22, 3) := by decide +kernel
theorem dX3_append_29 : decode cX3_append 29 = .ok (.iload_n 1, 1) := by decide +kernel
theorem dX3_append_30 : decode cX3_append 30 = .ok (.castore, 1) := by decide +kernel
theorem dX3_append_31 : decode cX3_append 31 = .ok (.aload_n 0, 1) := by decide +kernel
theorem dX3_append_32 : decode cX3_append 32 = .ok (.dup, 1) := by decide +kernel
theorem dX3_append_33 : decode cX3_append 33 = .ok (.getfield 22, 3) := by decide +kernel
theorem dX3_append_36 : decode cX3_append 36 = .ok (.iconst 1, 1) := by decide +kernel
theorem dX3_append_37 : decode cX3_append 37 = .ok (.iadd, 1) := by decide +kernel
theorem dX3_append_38 : decode cX3_append 38 = .ok (.putfield 22, 3) := by decide +kernel
theorem dX3_append_41 : decode cX3_append 41 = .ok (.iconst 1, 1) := by decide +kernel
theorem dX3_append_42 : decode cX3_append 42 = .ok (.ireturn, 1) := by decide +kernel
theorem dX3_read_0 : decode cX3_read 0 = .ok (.aload_n 0, 1) := by decide +kernel
theorem dX3_read_1 : decode cX3_read 1 = .ok (.iconst 0, 1) := by decide +kernel
theorem dX3_read_2 : decode cX3_read 2 = .ok (.putfield 26, 3) := by decide +kernel
theorem dX3_read_5 : decode cX3_read 5 = .ok (.aload_n 0, 1) := by decide +kernel
theorem dX3_read_6 : decode cX3_read 6 = .ok (.iconst 0, 1) := by decide +kernel
theorem dX3_read_7 : decode cX3_read 7 = .ok (.putfield 29, 3) := by decide +kernel
theorem dX3_read_10 : decode cX3_read 10 = .ok (.iconst 0, 1) := by decide +kernel
theorem dX3_read_11 : decode cX3_read 11 = .ok (.istore_n 1, 1) := by decide +kernel
theorem dX3_read_12 : decode cX3_read 12 = .ok (.iload_n 1, 1) := by decide +kernel
theorem dX3_read_13 : decode cX3_read 13 = .ok (.bipush 30, 2) := by decide +kernel
theorem dX3_read_15 : decode cX3_read 15 = .ok (.if_icmp .ge 48, 3) := by decide +kernel
theorem dX3_read_18 : decode cX3_read 18 = .ok (.aload_n 0, 1) := by decide +kernel
theorem dX3_read_19 : decode cX3_read 19 = .ok (.invokevirtual 32, 3) := by decide +kernel
theorem dX3_read_22 : decode cX3_read 22 = .ok (.ifCond .ne 8, 3) := by decide +kernel
theorem dX3_read_25 : decode cX3_read 25 = .ok (.aload_n 0, 1) := by decide +kernel
theorem dX3_read_26 : decode cX3_read 26 = .ok (.getfield 29, 3) := by decide +kernel
theorem dX3_read_29 : decode cX3_read 29 = .ok (.ireturn, 1) := by decide +kernel
theorem dX3_read_30 : decode cX3_read 30 = .ok (.aload_n 0, 1) := by decide +kernel
theorem dX3_read_31 : decode cX3_read 31 = .ok (.getfield 29, 3) := by decide +kernel
theorem dX3_read_34 : decode cX3_read 34 = .ok (.aload_n 0, 1) := by decide +kernel
theorem dX3_read_35 : decode cX3_read 35 = .ok (.getfield 22, 3) := by decide +kernel
theorem dX3_read_38 : decode cX3_read 38 = .ok (.if_icmp .ne 5, 3) := by decide +kernel
theorem dX3_read_41 : decode cX3_read 41 = .ok (.iconst (-1), 1) := by decide +kernel
theorem dX3_read_42 : decode cX3_read 42 = .ok (.ireturn, 1) := by decide +kernel
theorem dX3_read_43 : decode cX3_read 43 = .ok (.aload_n 0, 1) := by decide +kernel
theorem dX3_read_44 : decode cX3_read 44 = .ok (.bipush 44, 2) := by decide +kernel
theorem dX3_read_46 : decode cX3_read 46 = .ok (.invokevirtual 36, 3) := by decide +kernel
theorem dX3_read_49 : decode cX3_read 49 = .ok (.ifCond .ne 8, 3) := by decide +kernel
theorem dX3_read_52 : decode cX3_read 52 = .ok (.aload_n 0, 1) := by decide +kernel
theorem dX3_read_53 : decode cX3_read 53 = .ok (.getfield 29, 3) := by decide +kernel
theorem dX3_read_56 : decode cX3_read 56 = .ok (.ireturn, 1) := by decide +kernel
theorem dX3_read_57 : decode cX3_read 57 = .ok (.iinc 1 1, 3) := by decide +kernel
theorem dX3_read_60 : decode cX3_read 60 = .ok (.goto (-48), 3) := by decide +kernel
theorem dX3_read_63 : decode cX3_read 63 = .ok (.aload_n 0, 1) := by decide +kernel
theorem dX3_read_64 : decode cX3_read 64 = .ok (.getfield 29, 3) := by decide +kernel
theorem dX3_read_67 : decode cX3_read 67 = .ok (.ireturn, 1) := by decide +kernel
theorem dX3_wordsInParts_0 : decode cX3_wordsInParts 0 = .ok (.iconst 0, 1) := by decide +kernel
theorem dX3_wordsInParts_1 : decode cX3_wordsInParts 1 = .ok (.istore_n 1, 1) := by decide +kernel
theorem dX3_wordsInParts_2 : decode cX3_wordsInParts 2 = .ok (.iconst 0, 1) := by decide +kernel
theorem dX3_wordsInParts_3 : decode cX3_wordsInParts 3 = .ok (.istore_n 2, 1) := by decide +kernel
theorem dX3_wordsInParts_4 : decode cX3_wordsInParts 4 = .ok (.iload_n 2, 1) := by decide +kernel
theorem dX3_wordsInParts_5 : decode cX3_wordsInParts 5 = .ok (.aload_n 0, 1) := by decide +kernel
theorem dX3_wordsInParts_6 : decode cX3_wordsInParts 6 = .ok (.getfield 26, 3) := by decide +kernel
theorem dX3_wordsInParts_9 : decode cX3_wordsInParts 9 = .ok (.if_icmp .ge 32, 3) := by decide +kernel
theorem dX3_wordsInParts_12 : decode cX3_wordsInParts 12 = .ok (.aload_n 0, 1) := by decide +kernel
theorem dX3_wordsInParts_13 : decode cX3_wordsInParts 13 = .ok (.getfield 15, 3) := by decide +kernel
theorem dX3_wordsInParts_16 : decode cX3_wordsInParts 16 = .ok (.iload_n 2, 1) := by decide +kernel
theorem dX3_wordsInParts_17 : decode cX3_wordsInParts 17 = .ok (.invokestatic 40, 3) := by decide +kernel
theorem dX3_wordsInParts_20 : decode cX3_wordsInParts 20 = .ok (.iconst (-1), 1) := by decide +kernel
theorem dX3_wordsInParts_21 : decode cX3_wordsInParts 21 = .ok (.if_icmp .eq 14, 3) := by decide +kernel
theorem dX3_wordsInParts_24 : decode cX3_wordsInParts 24 = .ok (.iload_n 1, 1) := by decide +kernel
theorem dX3_wordsInParts_25 : decode cX3_wordsInParts 25 = .ok (.aload_n 0, 1) := by decide +kernel
theorem dX3_wordsInParts_26 : decode cX3_wordsInParts 26 = .ok (.getfield 19, 3) := by decide +kernel
theorem dX3_wordsInParts_29 : decode cX3_wordsInParts 29 = .ok (.iload_n 2, 1) := by decide +kernel
theorem dX3_wordsInParts_30 : decode cX3_wordsInParts 30 = .ok (.invokestatic 40, 3) := by decide +kernel
theorem dX3_wordsInParts_33 : decode cX3_wordsInParts 33 = .ok (.iadd, 1) := by decide +kernel
theorem dX3_wordsInParts_34 : decode cX3_wordsInParts 34 = .ok (.istore_n 1, 1) := by decide +kernel
theorem dX3_wordsInParts_35 : decode cX3_wordsInParts 35 = .ok (.iinc 2 1, 3) := by decide +kernel
theorem dX3_wordsInParts_38 : decode cX3_wordsInParts 38 = .ok (.goto (-34), 3) := by decide +kernel
theorem dX3_wordsInParts_41 : decode cX3_wordsInParts 41 = .ok (.iload_n 1, 1) := by decide +kernel
theorem dX3_wordsInParts_42 : decode cX3_wordsInParts 42 = .ok (.ireturn, 1) := by decide +kernel
theorem dX3_readPart_0 : decode cX3_readPart 0 = .ok (.aload_n 0, 1) := by decide +kernel
theorem dX3_readPart_1 : decode cX3_readPart 1 = .ok (.bipush 46, 2) := by decide +kernel
theorem dX3_readPart_3 : decode cX3_readPart 3 = .ok (.invokevirtual 36, 3) := by decide +kernel
theorem dX3_readPart_6 : decode cX3_readPart 6 = .ok (.ifCond .eq 29, 3) := by decide +kernel
theorem dX3_readPart_9 : decode cX3_readPart 9 = .ok (.aload_n 0, 1) := by decide +kernel
theorem dX3_readPart_10 : decode cX3_readPart 10 = .ok (.iconst 1, 1) := by decide +kernel
theorem dX3_readPart_11 : decode cX3_readPart 11 = .ok (.invokevirtual 44, 3) := by decide +kernel
theorem dX3_readPart_14 : decode cX3_readPart 14 = .ok (.istore_n 1, 1) := by decide +kernel
theorem dX3_readPart_15 : decode cX3_readPart 15 = .ok (.iload_n 1, 1) := by decide +kernel
theorem dX3_readPart_16 : decode cX3_readPart 16 = .ok (.iconst (-1), 1) := by decide +kernel
theorem dX3_readPart_17 : decode cX3_readPart 17 = .ok (.if_icmp .eq 16, 3) := by decide +kernel
theorem dX3_readPart_20 : decode cX3_readPart 20 = .ok (.aload_n 0, 1) := by decide +kernel
theorem dX3_readPart_21 : decode cX3_readPart 21 = .ok (.iconst (-1), 1) := by decide +kernel
theorem dX3_readPart_22 : decode cX3_readPart 22 = .ok (.iload_n 1, 1) := by decide +kernel
theorem dX3_readPart_23 : decode cX3_readPart 23 = .ok (.invokevirtual 48, 3) := by decide +kernel
theorem dX3_readPart_26 : decode cX3_readPart 26 = .ok (.ifCond .eq 7, 3) := by decide +kernel
theorem dX3_readPart_29 : decode cX3_readPart 29 = .ok (.iconst 1, 1) := by decide +kernel
theorem dX3_readPart_30 : decode cX3_readPart 30 = .ok (.goto 4, 3) := by decide +kernel
theorem dX3_readPart_33 : decode cX3_readPart 33 = .ok (.iconst 0, 1) := by decide +kernel
theorem dX3_readPart_34 : decode cX3_readPart 34 = .ok (.ireturn, 1) := by decide +kernel
theorem dX3_readPart_35 : decode cX3_readPart 35 = .ok (.aload_n 0, 1) := by decide +kernel
theorem dX3_readPart_36 : decode cX3_readPart 36 = .ok (.iconst 0, 1) := by decide +kernel
theorem dX3_readPart_37 : decode cX3_readPart 37 = .ok (.invokevirtual 44, 3) := by decide +kernel
theorem dX3_readPart_40 : decode cX3_readPart 40 = .ok (.istore_n 1, 1) := by decide +kernel
theorem dX3_readPart_41 : decode cX3_readPart 41 = .ok (.iload_n 1, 1) := by decide +kernel
theorem dX3_readPart_42 : decode cX3_readPart 42 = .ok (.iconst (-1), 1) := by decide +kernel
theorem dX3_readPart_43 : decode cX3_readPart 43 = .ok (.if_icmp .ne 5, 3) := by decide +kernel
theorem dX3_readPart_46 : decode cX3_readPart 46 = .ok (.iconst 0, 1) := by decide +kernel
theorem dX3_readPart_47 : decode cX3_readPart 47 = .ok (.ireturn, 1) := by decide +kernel
theorem dX3_readPart_48 : decode cX3_readPart 48 = .ok (.aload_n 0, 1) := by decide +kernel
theorem dX3_readPart_49 : decode cX3_readPart 49 = .ok (.bipush 120, 2) := by decide +kernel
theorem dX3_readPart_51 : decode cX3_readPart 51 = .ok (.invokevirtual 36, 3) := by decide +kernel
theorem dX3_readPart_54 : decode cX3_readPart 54 = .ok (.ifCond .ne 10, 3) := by decide +kernel
theorem dX3_readPart_57 : decode cX3_readPart 57 = .ok (.aload_n 0, 1) := by decide +kernel
theorem dX3_readPart_58 : decode cX3_readPart 58 = .ok (.iload_n 1, 1) := by decide +kernel
theorem dX3_readPart_59 : decode cX3_readPart 59 = .ok (.iconst 1, 1) := by decide +kernel
theorem dX3_readPart_60 : decode cX3_readPart 60 = .ok (.invokevirtual 48, 3) := by decide +kernel
theorem dX3_readPart_63 : decode cX3_readPart 63 = .ok (.ireturn, 1) := by decide +kernel
theorem dX3_readPart_64 : decode cX3_readPart 64 = .ok (.aload_n 0, 1) := by decide +kernel
theorem dX3_readPart_65 : decode cX3_readPart 65 = .ok (.invokevirtual 52, 3) := by decide +kernel
theorem dX3_readPart_68 : decode cX3_readPart 68 = .ok (.istore_n 2, 1) := by decide +kernel
theorem dX3_readPart_69 : decode cX3_readPart 69 = .ok (.iload_n 2, 1) := by decide +kernel
theorem dX3_readPart_70 : decode cX3_readPart 70 = .ok (.iconst 2, 1) := by decide +kernel
theorem dX3_readPart_71 : decode cX3_readPart 71 = .ok (.if_icmp .ge 5, 3) := by decide +kernel
theorem dX3_readPart_74 : decode cX3_readPart 74 = .ok (.iconst 0, 1) := by decide +kernel
theorem dX3_readPart_75 : decode cX3_readPart 75 = .ok (.ireturn, 1) := by decide +kernel
theorem dX3_readPart_76 : decode cX3_readPart 76 = .ok (.aload_n 0, 1) := by decide +kernel
theorem dX3_readPart_77 : decode cX3_readPart 77 = .ok (.dup, 1) := by decide +kernel
theorem dX3_readPart_78 : decode cX3_readPart 78 = .ok (.getfield 29, 3) := by decide +kernel
theorem dX3_readPart_81 : decode cX3_readPart 81 = .ok (.iconst 1, 1) := by decide +kernel
theorem dX3_readPart_82 : decode cX3_readPart 82 = .ok (.iadd, 1) := by decide +kernel
theorem dX3_readPart_83 : decode cX3_readPart 83 = .ok (.putfield 29, 3) := by decide +kernel
theorem dX3_readPart_86 : decode cX3_readPart 86 = .ok (.aload_n 0, 1) := by decide +kernel
theorem dX3_readPart_87 : decode cX3_readPart 87 = .ok (.iload_n 1, 1) := by decide +kernel
theorem dX3_readPart_88 : decode cX3_readPart 88 = .ok (.iload_n 2, 1) := by decide +kernel
theorem dX3_readPart_89 : decode cX3_readPart 89 = .ok (.invokevirtual 48, 3) := by decide +kernel
theorem dX3_readPart_92 : decode cX3_readPart 92 = .ok (.ireturn, 1) := by decide +kernel
theorem dX3_readNumber_0 : decode cX3_readNumber 0 = .ok (.aload_n 0, 1) := by decide +kernel
theorem dX3_readNumber_1 : decode cX3_readNumber 1 = .ok (.invokevirtual 52, 3) := by decide +kernel
theorem dX3_readNumber_4 : decode cX3_readNumber 4 = .ok (.istore_n 2, 1) := by decide +kernel
theorem dX3_readNumber_5 : decode cX3_readNumber 5 = .ok (.iload_n 2, 1) := by decide +kernel
theorem dX3_readNumber_6 : decode cX3_readNumber 6 = .ok (.iload_n 1, 1) := by decide +kernel
theorem dX3_readNumber_7 : decode cX3_readNumber 7 = .ok (.if_icmp .ge 5, 3) := by decide +kernel
theorem dX3_readNumber_10 : decode cX3_readNumber 10 = .ok (.iconst (-1), 1) := by decide +kernel
theorem dX3_readNumber_11 : decode cX3_readNumber 11 = .ok (.ireturn, 1) := by decide +kernel
theorem dX3_readNumber_12 : decode cX3_readNumber 12 = .ok (.aload_n 0, 1) := by decide +kernel
theorem dX3_readNumber_13 : decode cX3_readNumber 13 = .ok (.dup, 1) := by decide +kernel
theorem dX3_readNumber_14 : decode cX3_readNumber 14 = .ok (.getfield 29, 3) := by decide +kernel
theorem dX3_readNumber_17 : decode cX3_readNumber 17 = .ok (.iconst 1, 1) := by decide +kernel
theorem dX3_readNumber_18 : decode cX3_readNumber 18 = .ok (.iadd, 1) := by decide +kernel
theorem dX3_readNumber_19 : decode cX3_readNumber 19 = .ok (.putfield 29, 3) := by decide +kernel
theorem dX3_readNumber_22 : decode cX3_readNumber 22 = .ok (.aload_n 0, 1) := by decide +kernel
theorem dX3_readNumber_23 : decode cX3_readNumber 23 = .ok (.invokevirtual 52, 3) := by decide +kernel
theorem dX3_readNumber_26 : decode cX3_readNumber 26 = .ok (.istore_n 3, 1) := by decide +kernel
theorem dX3_readNumber_27 : decode cX3_readNumber 27 = .ok (.iload_n 2, 1) := by decide +kernel
theorem dX3_readNumber_28 : decode cX3_readNumber 28 = .ok (.ifCond .eq 8, 3) := by decide +kernel
theorem dX3_readNumber_31 : decode cX3_readNumber 31 = .ok (.iload_n 3, 1) := by decide +kernel
theorem dX3_readNumber_32 : decode cX3_readNumber 32 = .ok (.iconst (-1), 1) := by decide +kernel
theorem dX3_readNumber_33 : decode cX3_readNumber 33 = .ok (.if_icmp .ne 5, 3) := by decide +kernel
theorem dX3_readNumber_36 : decode cX3_readNumber 36 = .ok (.iload_n 2, 1) := by decide +kernel
theorem dX3_readNumber_37 : decode cX3_readNumber 37 = .ok (.ireturn, 1) := by decide +kernel
theorem dX3_readNumber_38 : decode cX3_readNumber 38 = .ok (.aload_n 0, 1) := by decide +kernel
theorem dX3_readNumber_39 : decode cX3_readNumber 39 = .ok (.dup, 1) := by decide +kernel
theorem dX3_readNumber_40 : decode cX3_readNumber 40 = .ok (.getfield 29, 3) := by decide +kernel
theorem dX3_readNumber_43 : decode cX3_readNumber 43 = .ok (.iconst 1, 1) := by decide +kernel
theorem dX3_readNumber_44 : decode cX3_readNumber 44 = .ok (.iadd, 1) := by decide +kernel
theorem dX3_readNumber_45 : decode cX3_readNumber 45 = .ok (.putfield 29, 3) := by decide +kernel
theorem dX3_readNumber_48 : decode cX3_readNumber 48 = .ok (.iload_n 2, 1) := by decide +kernel
theorem dX3_readNumber_49 : decode cX3_readNumber 49 = .ok (.bipush 10, 2) := by decide +kernel
theorem dX3_readNumber_51 : decode cX3_readNumber 51 = .ok (.imul, 1) := by decide +kernel
theorem dX3_readNumber_52 : decode cX3_readNumber 52 = .ok (.iload_n 3, 1) := by decide +kernel
theorem dX3_readNumber_53 : decode cX3_readNumber 53 = .ok (.iadd, 1) := by decide +kernel
theorem dX3_readNumber_54 : decode cX3_readNumber 54 = .ok (.ireturn, 1) := by decide +kernel
theorem dX3_readSign_0 : decode cX3_readSign 0 = .ok (.aload_n 0, 1) := by decide +kernel
theorem dX3_readSign_1 : decode cX3_readSign 1 = .ok (.invokevirtual 56, 3) := by decide +kernel
theorem dX3_readSign_4 : decode cX3_readSign 4 = .ok (.ifCond .eq 16, 3) := by decide +kernel
theorem dX3_readSign_7 : decode cX3_readSign 7 = .ok (.aload_n 0, 1) := by decide +kernel
theorem dX3_readSign_8 : decode cX3_readSign 8 = .ok (.getfield 9, 3) := by decide +kernel
theorem dX3_readSign_11 : decode cX3_readSign 11 = .ok (.aload_n 0, 1) := by decide +kernel
theorem dX3_readSign_12 : decode cX3_readSign 12 = .ok (.getfield 29, 3) := by decide +kernel
theorem dX3_readSign_15 : decode cX3_readSign 15 = .ok (.caload, 1) := by decide +kernel
theorem dX3_readSign_16 : decode cX3_readSign 16 = .ok (.iload_n 1, 1) := by decide +kernel
theorem dX3_readSign_17 : decode cX3_readSign 17 = .ok (.if_icmp .eq 5, 3) := by decide +kernel
theorem dX3_readSign_20 : decode cX3_readSign 20 = .ok (.iconst 0, 1) := by decide +kernel
theorem dX3_readSign_21 : decode cX3_readSign 21 = .ok (.ireturn, 1) := by decide +kernel
theorem dX3_readSign_22 : decode cX3_readSign 22 = .ok (.aload_n 0, 1) := by decide +kernel
theorem dX3_readSign_23 : decode cX3_readSign 23 = .ok (.dup, 1) := by decide +kernel
theorem dX3_readSign_24 : decode cX3_readSign 24 = .ok (.getfield 29, 3) := by decide +kernel
theorem dX3_readSign_27 : decode cX3_readSign 27 = .ok (.iconst 1, 1) := by decide +kernel
theorem dX3_readSign_28 : decode cX3_readSign 28 = .ok (.iadd, 1) := by decide +kernel
theorem dX3_readSign_29 : decode cX3_readSign 29 = .ok (.putfield 29, 3) := by decide +kernel
theorem dX3_readSign_32 : decode cX3_readSign 32 = .ok (.iconst 1, 1) := by decide +kernel
theorem dX3_readSign_33 : decode cX3_readSign 33 = .ok (.ireturn, 1) := by decide +kernel
theorem dX3_digitAtCursor_0 : decode cX3_digitAtCursor 0 = .ok (.aload_n 0, 1) := by decide +kernel
theorem dX3_digitAtCursor_1 : decode cX3_digitAtCursor 1 = .ok (.invokevirtual 56, 3) := by decide +kernel
theorem dX3_digitAtCursor_4 : decode cX3_digitAtCursor 4 = .ok (.ifCond .eq 31, 3) := by decide +kernel
theorem dX3_digitAtCursor_7 : decode cX3_digitAtCursor 7 = .ok (.aload_n 0, 1) := by decide +kernel
theorem dX3_digitAtCursor_8 : decode cX3_digitAtCursor 8 = .ok (.getfield 9, 3) := by decide +kernel
theorem dX3_digitAtCursor_11 : decode cX3_digitAtCursor 11 = .ok (.aload_n 0, 1) := by decide +kernel
theorem dX3_digitAtCursor_12 : decode cX3_digitAtCursor 12 = .ok (.getfield 29, 3) := by decide +kernel
theorem dX3_digitAtCursor_15 : decode cX3_digitAtCursor 15 = .ok (.caload, 1) := by decide +kernel
theorem dX3_digitAtCursor_16 : decode cX3_digitAtCursor 16 = .ok (.bipush 48, 2) := by decide +kernel
theorem dX3_digitAtCursor_18 : decode cX3_digitAtCursor 18 = .ok (.if_icmp .lt 17, 3) := by decide +kernel
theorem dX3_digitAtCursor_21 : decode cX3_digitAtCursor 21 = .ok (.aload_n 0, 1) := by decide +kernel
theorem dX3_digitAtCursor_22 : decode cX3_digitAtCursor 22 = .ok (.getfield 9, 3) := by decide +kernel
theorem dX3_digitAtCursor_25 : decode cX3_digitAtCursor 25 = .ok (.aload_n 0, 1) := by decide +kernel
theorem dX3_digitAtCursor_26 : decode cX3_digitAtCursor 26 = .ok (.getfield 29, 3) := by decide +kernel
theorem dX3_digitAtCursor_29 : decode cX3_digitAtCursor 29 = .ok (.caload, 1) := by decide +kernel
theorem dX3_digitAtCursor_30 : decode cX3_digitAtCursor 30 = .ok (.bipush 57, 2) := by decide +kernel
theorem dX3_digitAtCursor_32 : decode cX3_digitAtCursor 32 = .ok (.if_icmp .le 5, 3) := by decide +kernel
theorem dX3_digitAtCursor_35 : decode cX3_digitAtCursor 35 = .ok (.iconst (-1), 1) := by decide +kernel
theorem dX3_digitAtCursor_36 : decode cX3_digitAtCursor 36 = .ok (.ireturn, 1) := by decide +kernel
theorem dX3_digitAtCursor_37 : decode cX3_digitAtCursor 37 = .ok (.aload_n 0, 1) := by decide +kernel
theorem dX3_digitAtCursor_38 : decode cX3_digitAtCursor 38 = .ok (.getfield 9, 3) := by decide +kernel
theorem dX3_digitAtCursor_41 : decode cX3_digitAtCursor 41 = .ok (.aload_n 0, 1) := by decide +kernel
theorem dX3_digitAtCursor_42 : decode cX3_digitAtCursor 42 = .ok (.getfield 29, 3) := by decide +kernel
theorem dX3_digitAtCursor_45 : decode cX3_digitAtCursor 45 = .ok (.caload, 1) := by decide +kernel
theorem dX3_digitAtCursor_46 : decode cX3_digitAtCursor 46 = .ok (.bipush 48, 2) := by decide +kernel
theorem dX3_digitAtCursor_48 : decode cX3_digitAtCursor 48 = .ok (.isub, 1) := by decide +kernel
theorem dX3_digitAtCursor_49 : decode cX3_digitAtCursor 49 = .ok (.ireturn, 1) := by decide +kernel
theorem dX3_hasSign_0 : decode cX3_hasSign 0 = .ok (.aload_n 0, 1) := by decide +kernel
theorem dX3_hasSign_1 : decode cX3_hasSign 1 = .ok (.getfield 29, 3) := by decide +kernel
theorem dX3_hasSign_4 : decode cX3_hasSign 4 = .ok (.ifCond .lt 30, 3) := by decide +kernel
theorem dX3_hasSign_7 : decode cX3_hasSign 7 = .ok (.aload_n 0, 1) := by decide +kernel
theorem dX3_hasSign_8 : decode cX3_hasSign 8 = .ok (.getfield 29, 3) := by decide +kernel
theorem dX3_hasSign_11 : decode cX3_hasSign 11 = .ok (.aload_n 0, 1) := by decide +kernel
theorem dX3_hasSign_12 : decode cX3_hasSign 12 = .ok (.getfield 22, 3) := by decide +kernel
theorem dX3_hasSign_15 : decode cX3_hasSign 15 = .ok (.if_icmp .ge 19, 3) := by decide +kernel
theorem dX3_hasSign_18 : decode cX3_hasSign 18 = .ok (.aload_n 0, 1) := by decide +kernel
theorem dX3_hasSign_19 : decode cX3_hasSign 19 = .ok (.getfield 29, 3) := by decide +kernel
theorem dX3_hasSign_22 : decode cX3_hasSign 22 = .ok (.aload_n 0, 1) := by decide +kernel
theorem dX3_hasSign_23 : decode cX3_hasSign 23 = .ok (.getfield 9, 3) := by decide +kernel
theorem dX3_hasSign_26 : decode cX3_hasSign 26 = .ok (.arraylength, 1) := by decide +kernel
theorem dX3_hasSign_27 : decode cX3_hasSign 27 = .ok (.if_icmp .ge 7, 3) := by decide +kernel
theorem dX3_hasSign_30 : decode cX3_hasSign 30 = .ok (.iconst 1, 1) := by decide +kernel
theorem dX3_hasSign_31 : decode cX3_hasSign 31 = .ok (.goto 4, 3) := by decide +kernel
theorem dX3_hasSign_34 : decode cX3_hasSign 34 = .ok (.iconst 0, 1) := by decide +kernel
theorem dX3_hasSign_35 : decode cX3_hasSign 35 = .ok (.ireturn, 1) := by decide +kernel
theorem dX3_addPart_0 : decode cX3_addPart 0 = .ok (.aload_n 0, 1) := by decide +kernel
theorem dX3_addPart_1 : decode cX3_addPart 1 = .ok (.getfield 26, 3) := by decide +kernel
theorem dX3_addPart_4 : decode cX3_addPart 4 = .ok (.bipush 30, 2) := by decide +kernel
theorem dX3_addPart_6 : decode cX3_addPart 6 = .ok (.if_icmp .lt 5, 3) := by decide +kernel
theorem dX3_addPart_9 : decode cX3_addPart 9 = .ok (.iconst 0, 1) := by decide +kernel
theorem dX3_addPart_10 : decode cX3_addPart 10 = .ok (.ireturn, 1) := by decide +kernel
theorem dX3_addPart_11 : decode cX3_addPart 11 = .ok (.aload_n 0, 1) := by decide +kernel
theorem dX3_addPart_12 : decode cX3_addPart 12 = .ok (.getfield 15, 3) := by decide +kernel
theorem dX3_addPart_15 : decode cX3_addPart 15 = .ok (.aload_n 0, 1) := by decide +kernel
theorem dX3_addPart_16 : decode cX3_addPart 16 = .ok (.getfield 26, 3) := by decide +kernel
theorem dX3_addPart_19 : decode cX3_addPart 19 = .ok (.iload_n 1, 1) := by decide +kernel
theorem dX3_addPart_20 : decode cX3_addPart 20 = .ok (.invokestatic 59, 3) := by decide +kernel
theorem dX3_addPart_23 : decode cX3_addPart 23 = .ok (.aload_n 0, 1) := by decide +kernel
theorem dX3_addPart_24 : decode cX3_addPart 24 = .ok (.getfield 19, 3) := by decide +kernel
theorem dX3_addPart_27 : decode cX3_addPart 27 = .ok (.aload_n 0, 1) := by decide +kernel
theorem dX3_addPart_28 : decode cX3_addPart 28 = .ok (.getfield 26, 3) := by decide +kernel
theorem dX3_addPart_31 : decode cX3_addPart 31 = .ok (.iload_n 2, 1) := by decide +kernel
theorem dX3_addPart_32 : decode cX3_addPart 32 = .ok (.invokestatic 59, 3) := by decide +kernel
theorem dX3_addPart_35 : decode cX3_addPart 35 = .ok (.aload_n 0, 1) := by decide +kernel
theorem dX3_addPart_36 : decode cX3_addPart 36 = .ok (.dup, 1) := by decide +kernel
theorem dX3_addPart_37 : decode cX3_addPart 37 = .ok (.getfield 26, 3) := by decide +kernel
theorem dX3_addPart_40 : decode cX3_addPart 40 = .ok (.iconst 1, 1) := by decide +kernel
theorem dX3_addPart_41 : decode cX3_addPart 41 = .ok (.iadd, 1) := by decide +kernel
theorem dX3_addPart_42 : decode cX3_addPart 42 = .ok (.putfield 26, 3) := by decide +kernel
theorem dX3_addPart_45 : decode cX3_addPart 45 = .ok (.iconst 1, 1) := by decide +kernel
theorem dX3_addPart_46 : decode cX3_addPart 46 = .ok (.ireturn, 1) := by decide +kernel
