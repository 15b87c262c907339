theorem dX0_init_0 : decode cX0_init 0 = .ok (.aload_n 0, 1) := by decide +kernel
theorem dX0_init_1 : decode cX0_init 1 = .ok (.invokespecial 3, 3) := by decide +kernel
theorem dX0_init_4 : decode cX0_init 4 = .ok (.aload_n 0, 1) := by decide +kernel
theorem dX0_init_5 : decode cX0_init 5 = .ok (.new 9, 3) := by decide +kernel
theorem dX0_init_8 : decode cX0_init 8 = .ok (.dup, 1) := by decide +kernel
theorem dX0_init_9 : decode cX0_init 9 = .ok (.sipush 662, 3) := by decide +kernel
theorem dX0_init_12 : decode cX0_init 12 = .ok (.invokespecial 11, 3) := by decide +kernel
theorem dX0_init_15 : decode cX0_init 15 = .ok (.putfield 14, 3) := by decide +kernel
theorem dX0_init_18 : decode cX0_init 18 = .ok (.return_, 1) := by decide +kernel
theorem dX0_layWord_0 : decode cX0_layWord 0 = .ok (.aload_n 1, 1) := by decide +kernel
theorem dX0_layWord_1 : decode cX0_layWord 1 = .ok (.getfield 20, 3) := by decide +kernel
theorem dX0_layWord_4 : decode cX0_layWord 4 = .ok (.bipush 121, 2) := by decide +kernel
theorem dX0_layWord_6 : decode cX0_layWord 6 = .ok (.imul, 1) := by decide +kernel
theorem dX0_layWord_7 : decode cX0_layWord 7 = .ok (.istore_n 2, 1) := by decide +kernel
theorem dX0_layWord_8 : decode cX0_layWord 8 = .ok (.iload_n 2, 1) := by decide +kernel
theorem dX0_layWord_9 : decode cX0_layWord 9 = .ok (.ldc 24, 2) := by decide +kernel
theorem dX0_layWord_11 : decode cX0_layWord 11 = .ok (.if_icmp .le 6, 3) := by decide +kernel
theorem dX0_layWord_14 : decode cX0_layWord 14 = .ok (.bipush (-3), 2) := by decide +kernel
theorem dX0_layWord_16 : decode cX0_layWord 16 = .ok (.ireturn, 1) := by decide +kernel
theorem dX0_layWord_17 : decode cX0_layWord 17 = .ok (.aload_n 0, 1) := by decide +kernel
theorem dX0_layWord_18 : decode cX0_layWord 18 = .ok (.getfield 14, 3) := by decide +kernel
theorem dX0_layWord_21 : decode cX0_layWord 21 = .ok (.aload_n 1, 1) := by decide +kernel
theorem dX0_layWord_22 : decode cX0_layWord 22 = .ok (.invokevirtual 25, 3) := by decide +kernel
theorem dX0_layWord_25 : decode cX0_layWord 25 = .ok (.aload_n 0, 1) := by decide +kernel
theorem dX0_layWord_26 : decode cX0_layWord 26 = .ok (.iconst 0, 1) := by decide +kernel
theorem dX0_layWord_27 : decode cX0_layWord 27 = .ok (.putfield 29, 3) := by decide +kernel
theorem dX0_layWord_30 : decode cX0_layWord 30 = .ok (.iload_n 2, 1) := by decide +kernel
theorem dX0_layWord_31 : decode cX0_layWord 31 = .ok (.ireturn, 1) := by decide +kernel
theorem dX0_size_0 : decode cX0_size 0 = .ok (.aload_n 0, 1) := by decide +kernel
theorem dX0_size_1 : decode cX0_size 1 = .ok (.getfield 14, 3) := by decide +kernel
theorem dX0_size_4 : decode cX0_size 4 = .ok (.getfield 20, 3) := by decide +kernel
theorem dX0_size_7 : decode cX0_size 7 = .ok (.bipush 121, 2) := by decide +kernel
theorem dX0_size_9 : decode cX0_size 9 = .ok (.imul, 1) := by decide +kernel
theorem dX0_size_10 : decode cX0_size 10 = .ok (.aload_n 0, 1) := by decide +kernel
theorem dX0_size_11 : decode cX0_size 11 = .ok (.invokevirtual 32, 3) := by decide +kernel
theorem dX0_size_14 : decode cX0_size 14 = .ok (.isub, 1) := by decide +kernel
theorem dX0_size_15 : decode cX0_size 15 = .ok (.ireturn, 1) := by decide +kernel
theorem dX0_gone_0 : decode cX0_gone 0 = .ok (.aload_n 0, 1) := by decide +kernel
theorem dX0_gone_1 : decode cX0_gone 1 = .ok (.getfield 29, 3) := by decide +kernel
theorem dX0_gone_4 : decode cX0_gone 4 = .ok (.bipush 121, 2) := by decide +kernel
theorem dX0_gone_6 : decode cX0_gone 6 = .ok (.irem, 1) := by decide +kernel
theorem dX0_gone_7 : decode cX0_gone 7 = .ok (.ireturn, 1) := by decide +kernel
theorem dX0_get_0 : decode cX0_get 0 = .ok (.iload_n 1, 1) := by decide +kernel
theorem dX0_get_1 : decode cX0_get 1 = .ok (.iconst 0, 1) := by decide +kernel
theorem dX0_get_2 : decode cX0_get 2 = .ok (.aload_n 0, 1) := by decide +kernel
theorem dX0_get_3 : decode cX0_get 3 = .ok (.invokevirtual 36, 3) := by decide +kernel
theorem dX0_get_6 : decode cX0_get 6 = .ok (.iconst 1, 1) := by decide +kernel
theorem dX0_get_7 : decode cX0_get 7 = .ok (.isub, 1) := by decide +kernel
theorem dX0_get_8 : decode cX0_get 8 = .ok (.invokestatic 38, 3) := by decide +kernel
theorem dX0_get_11 : decode cX0_get 11 = .ok (.ifCond .eq 6, 3) := by decide +kernel
theorem dX0_get_14 : decode cX0_get 14 = .ok (.bipush (-9), 2) := by decide +kernel
theorem dX0_get_16 : decode cX0_get 16 = .ok (.ireturn, 1) := by decide +kernel
theorem dX0_get_17 : decode cX0_get 17 = .ok (.iload_n 1, 1) := by decide +kernel
theorem dX0_get_18 : decode cX0_get 18 = .ok (.aload_n 0, 1) := by decide +kernel
theorem dX0_get_19 : decode cX0_get 19 = .ok (.invokevirtual 32, 3) := by decide +kernel
theorem dX0_get_22 : decode cX0_get 22 = .ok (.iadd, 1) := by decide +kernel
theorem dX0_get_23 : decode cX0_get 23 = .ok (.istore_n 2, 1) := by decide +kernel
theorem dX0_get_24 : decode cX0_get 24 = .ok (.aload_n 0, 1) := by decide +kernel
theorem dX0_get_25 : decode cX0_get 25 = .ok (.getfield 14, 3) := by decide +kernel
theorem dX0_get_28 : decode cX0_get 28 = .ok (.iload_n 2, 1) := by decide +kernel
theorem dX0_get_29 : decode cX0_get 29 = .ok (.bipush 121, 2) := by decide +kernel
theorem dX0_get_31 : decode cX0_get 31 = .ok (.idiv, 1) := by decide +kernel
theorem dX0_get_32 : decode cX0_get 32 = .ok (.invokevirtual 42, 3) := by decide +kernel
theorem dX0_get_35 : decode cX0_get 35 = .ok (.iload_n 2, 1) := by decide +kernel
theorem dX0_get_36 : decode cX0_get 36 = .ok (.bipush 121, 2) := by decide +kernel
theorem dX0_get_38 : decode cX0_get 38 = .ok (.irem, 1) := by decide +kernel
theorem dX0_get_39 : decode cX0_get 39 = .ok (.if_icmp .ne 7, 3) := by decide +kernel
theorem dX0_get_42 : decode cX0_get 42 = .ok (.iconst 1, 1) := by decide +kernel
theorem dX0_get_43 : decode cX0_get 43 = .ok (.goto 4, 3) := by decide +kernel
theorem dX0_get_46 : decode cX0_get 46 = .ok (.iconst 0, 1) := by decide +kernel
theorem dX0_get_47 : decode cX0_get 47 = .ok (.invokestatic 46, 3) := by decide +kernel
theorem dX0_get_50 : decode cX0_get 50 = .ok (.ireturn, 1) := by decide +kernel
theorem dX0_ones_0 : decode cX0_ones 0 = .ok (.aload_n 0, 1) := by decide +kernel
theorem dX0_ones_1 : decode cX0_ones 1 = .ok (.getfield 14, 3) := by decide +kernel
theorem dX0_ones_4 : decode cX0_ones 4 = .ok (.getfield 20, 3) := by decide +kernel
theorem dX0_ones_7 : decode cX0_ones 7 = .ok (.ifCond .le 22, 3) := by decide +kernel
theorem dX0_ones_10 : decode cX0_ones 10 = .ok (.aload_n 0, 1) := by decide +kernel
theorem dX0_ones_11 : decode cX0_ones 11 = .ok (.getfield 14, 3) := by decide +kernel
theorem dX0_ones_14 : decode cX0_ones 14 = .ok (.iconst 0, 1) := by decide +kernel
theorem dX0_ones_15 : decode cX0_ones 15 = .ok (.invokevirtual 42, 3) := by decide +kernel
theorem dX0_ones_18 : decode cX0_ones 18 = .ok (.aload_n 0, 1) := by decide +kernel
theorem dX0_ones_19 : decode cX0_ones 19 = .ok (.invokevirtual 32, 3) := by decide +kernel
theorem dX0_ones_22 : decode cX0_ones 22 = .ok (.if_icmp .ge 7, 3) := by decide +kernel
theorem dX0_ones_25 : decode cX0_ones 25 = .ok (.iconst 1, 1) := by decide +kernel
theorem dX0_ones_26 : decode cX0_ones 26 = .ok (.goto 4, 3) := by decide +kernel
theorem dX0_ones_29 : decode cX0_ones 29 = .ok (.iconst 0, 1) := by decide +kernel
theorem dX0_ones_30 : decode cX0_ones 30 = .ok (.istore_n 1, 1) := by decide +kernel
theorem dX0_ones_31 : decode cX0_ones 31 = .ok (.iload_n 1, 1) := by decide +kernel
theorem dX0_ones_32 : decode cX0_ones 32 = .ok (.ifCond .eq 15, 3) := by decide +kernel
theorem dX0_ones_35 : decode cX0_ones 35 = .ok (.aload_n 0, 1) := by decide +kernel
theorem dX0_ones_36 : decode cX0_ones 36 = .ok (.getfield 14, 3) := by decide +kernel
theorem dX0_ones_39 : decode cX0_ones 39 = .ok (.getfield 20, 3) := by decide +kernel
theorem dX0_ones_42 : decode cX0_ones 42 = .ok (.iconst 1, 1) := by decide +kernel
theorem dX0_ones_43 : decode cX0_ones 43 = .ok (.isub, 1) := by decide +kernel
theorem dX0_ones_44 : decode cX0_ones 44 = .ok (.goto 10, 3) := by decide +kernel
theorem dX0_ones_47 : decode cX0_ones 47 = .ok (.aload_n 0, 1) := by decide +kernel
theorem dX0_ones_48 : decode cX0_ones 48 = .ok (.getfield 14, 3) := by decide +kernel
theorem dX0_ones_51 : decode cX0_ones 51 = .ok (.getfield 20, 3) := by decide +kernel
theorem dX0_ones_54 : decode cX0_ones 54 = .ok (.ireturn, 1) := by decide +kernel
theorem dX0_isStill_0 : decode cX0_isStill 0 = .ok (.aload_n 0, 1) := by decide +kernel
theorem dX0_isStill_1 : decode cX0_isStill 1 = .ok (.getfield 29, 3) := by decide +kernel
theorem dX0_isStill_4 : decode cX0_isStill 4 = .ok (.ifCond .ne 33, 3) := by decide +kernel
theorem dX0_isStill_7 : decode cX0_isStill 7 = .ok (.aload_n 0, 1) := by decide +kernel
theorem dX0_isStill_8 : decode cX0_isStill 8 = .ok (.getfield 14, 3) := by decide +kernel
theorem dX0_isStill_11 : decode cX0_isStill 11 = .ok (.getfield 20, 3) := by decide +kernel
theorem dX0_isStill_14 : decode cX0_isStill 14 = .ok (.iconst 2, 1) := by decide +kernel
theorem dX0_isStill_15 : decode cX0_isStill 15 = .ok (.if_icmp .lt 18, 3) := by decide +kernel
theorem dX0_isStill_18 : decode cX0_isStill 18 = .ok (.aload_n 1, 1) := by decide +kernel
theorem dX0_isStill_19 : decode cX0_isStill 19 = .ok (.aload_n 0, 1) := by decide +kernel
theorem dX0_isStill_20 : decode cX0_isStill 20 = .ok (.getfield 14, 3) := by decide +kernel
theorem dX0_isStill_23 : decode cX0_isStill 23 = .ok (.iconst 0, 1) := by decide +kernel
theorem dX0_isStill_24 : decode cX0_isStill 24 = .ok (.invokevirtual 42, 3) := by decide +kernel
theorem dX0_isStill_27 : decode cX0_isStill 27 = .ok (.invokevirtual 50, 3) := by decide +kernel
theorem dX0_isStill_30 : decode cX0_isStill 30 = .ok (.ifCond .ne 7, 3) := by decide +kernel
theorem dX0_isStill_33 : decode cX0_isStill 33 = .ok (.iconst 1, 1) := by decide +kernel
theorem dX0_isStill_34 : decode cX0_isStill 34 = .ok (.goto 4, 3) := by decide +kernel
theorem dX0_isStill_37 : decode cX0_isStill 37 = .ok (.iconst 0, 1) := by decide +kernel
theorem dX0_isStill_38 : decode cX0_isStill 38 = .ok (.ireturn, 1) := by decide +kernel
theorem dX0_doSteps_0 : decode cX0_doSteps 0 = .ok (.iconst 0, 1) := by decide +kernel
theorem dX0_doSteps_1 : decode cX0_doSteps 1 = .ok (.istore_n 3, 1) := by decide +kernel
theorem dX0_doSteps_2 : decode cX0_doSteps 2 = .ok (.iload_n 3, 1) := by decide +kernel
theorem dX0_doSteps_3 : decode cX0_doSteps 3 = .ok (.iload_n 1, 1) := by decide +kernel
theorem dX0_doSteps_4 : decode cX0_doSteps 4 = .ok (.if_icmp .ge 28, 3) := by decide +kernel
theorem dX0_doSteps_7 : decode cX0_doSteps 7 = .ok (.aload_n 0, 1) := by decide +kernel
theorem dX0_doSteps_8 : decode cX0_doSteps 8 = .ok (.iload_n 1, 1) := by decide +kernel
theorem dX0_doSteps_9 : decode cX0_doSteps 9 = .ok (.iload_n 3, 1) := by decide +kernel
theorem dX0_doSteps_10 : decode cX0_doSteps 10 = .ok (.isub, 1) := by decide +kernel
theorem dX0_doSteps_11 : decode cX0_doSteps 11 = .ok (.aload_n 2, 1) := by decide +kernel
theorem dX0_doSteps_12 : decode cX0_doSteps 12 = .ok (.invokevirtual 55, 3) := by decide +kernel
theorem dX0_doSteps_15 : decode cX0_doSteps 15 = .ok (.istore 4, 2) := by decide +kernel
theorem dX0_doSteps_17 : decode cX0_doSteps 17 = .ok (.iload 4, 2) := by decide +kernel
theorem dX0_doSteps_19 : decode cX0_doSteps 19 = .ok (.ifCond .gt 5, 3) := by decide +kernel
theorem dX0_doSteps_22 : decode cX0_doSteps 22 = .ok (.iload_n 3, 1) := by decide +kernel
theorem dX0_doSteps_23 : decode cX0_doSteps 23 = .ok (.ireturn, 1) := by decide +kernel
theorem dX0_doSteps_24 : decode cX0_doSteps 24 = .ok (.iload_n 3, 1) := by decide +kernel
theorem dX0_doSteps_25 : decode cX0_doSteps 25 = .ok (.iload 4, 2) := by decide +kernel
theorem dX0_doSteps_27 : decode cX0_doSteps 27 = .ok (.iadd, 1) := by decide +kernel
theorem dX0_doSteps_28 : decode cX0_doSteps 28 = .ok (.istore_n 3, 1) := by decide +kernel
theorem dX0_doSteps_29 : decode cX0_doSteps 29 = .ok (.goto (-27), 3) := by decide +kernel
theorem dX0_doSteps_32 : decode cX0_doSteps 32 = .ok (.iload_n 3, 1) := by decide +kernel
theorem dX0_doSteps_33 : decode cX0_doSteps 33 = .ok (.ireturn, 1) := by decide +kernel
theorem dX0_take_0 : decode cX0_take 0 = .ok (.aload_n 0, 1) := by decide +kernel
theorem dX0_take_1 : decode cX0_take 1 = .ok (.aload_n 2, 1) := by decide +kernel
theorem dX0_take_2 : decode cX0_take 2 = .ok (.invokevirtual 59, 3) := by decide +kernel
theorem dX0_take_5 : decode cX0_take 5 = .ok (.ifCond .eq 5, 3) := by decide +kernel
theorem dX0_take_8 : decode cX0_take 8 = .ok (.iconst 0, 1) := by decide +kernel
theorem dX0_take_9 : decode cX0_take 9 = .ok (.ireturn, 1) := by decide +kernel
theorem dX0_take_10 : decode cX0_take 10 = .ok (.aload_n 0, 1) := by decide +kernel
theorem dX0_take_11 : decode cX0_take 11 = .ok (.invokevirtual 32, 3) := by decide +kernel
theorem dX0_take_14 : decode cX0_take 14 = .ok (.istore_n 3, 1) := by decide +kernel
theorem dX0_take_15 : decode cX0_take 15 = .ok (.aload_n 0, 1) := by decide +kernel
theorem dX0_take_16 : decode cX0_take 16 = .ok (.getfield 14, 3) := by decide +kernel
theorem dX0_take_19 : decode cX0_take 19 = .ok (.iconst 0, 1) := by decide +kernel
theorem dX0_take_20 : decode cX0_take 20 = .ok (.invokevirtual 42, 3) := by decide +kernel
theorem dX0_take_23 : decode cX0_take 23 = .ok (.istore 4, 2) := by decide +kernel
theorem dX0_take_25 : decode cX0_take 25 = .ok (.iload_n 3, 1) := by decide +kernel
theorem dX0_take_26 : decode cX0_take 26 = .ok (.iload 4, 2) := by decide +kernel
theorem dX0_take_28 : decode cX0_take 28 = .ok (.if_icmp .ne 9, 3) := by decide +kernel
theorem dX0_take_31 : decode cX0_take 31 = .ok (.aload_n 0, 1) := by decide +kernel
theorem dX0_take_32 : decode cX0_take 32 = .ok (.aload_n 2, 1) := by decide +kernel
theorem dX0_take_33 : decode cX0_take 33 = .ok (.invokevirtual 63, 3) := by decide +kernel
theorem dX0_take_36 : decode cX0_take 36 = .ok (.ireturn, 1) := by decide +kernel
theorem dX0_take_37 : decode cX0_take 37 = .ok (.iload_n 3, 1) := by decide +kernel
theorem dX0_take_38 : decode cX0_take 38 = .ok (.iload 4, 2) := by decide +kernel
theorem dX0_take_40 : decode cX0_take 40 = .ok (.if_icmp .ge 10, 3) := by decide +kernel
theorem dX0_take_43 : decode cX0_take 43 = .ok (.iload 4, 2) := by decide +kernel
theorem dX0_take_45 : decode cX0_take 45 = .ok (.iload_n 3, 1) := by decide +kernel
theorem dX0_take_46 : decode cX0_take 46 = .ok (.isub, 1) := by decide +kernel
theorem dX0_take_47 : decode cX0_take 47 = .ok (.goto 7, 3) := by decide +kernel
theorem dX0_take_50 : decode cX0_take 50 = .ok (.bipush 121, 2) := by decide +kernel
theorem dX0_take_52 : decode cX0_take 52 = .ok (.iload_n 3, 1) := by decide +kernel
theorem dX0_take_53 : decode cX0_take 53 = .ok (.isub, 1) := by decide +kernel
theorem dX0_take_54 : decode cX0_take 54 = .ok (.istore 5, 2) := by decide +kernel
theorem dX0_take_56 : decode cX0_take 56 = .ok (.iload 5, 2) := by decide +kernel
theorem dX0_take_58 : decode cX0_take 58 = .ok (.iload_n 1, 1) := by decide +kernel
theorem dX0_take_59 : decode cX0_take 59 = .ok (.invokestatic 67, 3) := by decide +kernel
theorem dX0_take_62 : decode cX0_take 62 = .ok (.istore 6, 2) := by decide +kernel
theorem dX0_take_64 : decode cX0_take 64 = .ok (.aload_n 0, 1) := by decide +kernel
theorem dX0_take_65 : decode cX0_take 65 = .ok (.iload 6, 2) := by decide +kernel
theorem dX0_take_67 : decode cX0_take 67 = .ok (.invokevirtual 73, 3) := by decide +kernel
theorem dX0_take_70 : decode cX0_take 70 = .ok (.iload 6, 2) := by decide +kernel
theorem dX0_take_72 : decode cX0_take 72 = .ok (.ireturn, 1) := by decide +kernel
theorem dX0_takeOne_0 : decode cX0_takeOne 0 = .ok (.aload_n 0, 1) := by decide +kernel
theorem dX0_takeOne_1 : decode cX0_takeOne 1 = .ok (.invokevirtual 36, 3) := by decide +kernel
theorem dX0_takeOne_4 : decode cX0_takeOne 4 = .ok (.iconst 1, 1) := by decide +kernel
theorem dX0_takeOne_5 : decode cX0_takeOne 5 = .ok (.isub, 1) := by decide +kernel
theorem dX0_takeOne_6 : decode cX0_takeOne 6 = .ok (.aload_n 1, 1) := by decide +kernel
theorem dX0_takeOne_7 : decode cX0_takeOne 7 = .ok (.aload_n 0, 1) := by decide +kernel
theorem dX0_takeOne_8 : decode cX0_takeOne 8 = .ok (.getfield 29, 3) := by decide +kernel
theorem dX0_takeOne_11 : decode cX0_takeOne 11 = .ok (.invokevirtual 50, 3) := by decide +kernel
theorem dX0_takeOne_14 : decode cX0_takeOne 14 = .ok (.bipush 121, 2) := by decide +kernel
theorem dX0_takeOne_16 : decode cX0_takeOne 16 = .ok (.imul, 1) := by decide +kernel
theorem dX0_takeOne_17 : decode cX0_takeOne 17 = .ok (.iadd, 1) := by decide +kernel
theorem dX0_takeOne_18 : decode cX0_takeOne 18 = .ok (.ldc 24, 2) := by decide +kernel
theorem dX0_takeOne_20 : decode cX0_takeOne 20 = .ok (.if_icmp .le 5, 3) := by decide +kernel
theorem dX0_takeOne_23 : decode cX0_takeOne 23 = .ok (.iconst 0, 1) := by decide +kernel
theorem dX0_takeOne_24 : decode cX0_takeOne 24 = .ok (.ireturn, 1) := by decide +kernel
theorem dX0_takeOne_25 : decode cX0_takeOne 25 = .ok (.aload_n 1, 1) := by decide +kernel
theorem dX0_takeOne_26 : decode cX0_takeOne 26 = .ok (.aload_n 0, 1) := by decide +kernel
theorem dX0_takeOne_27 : decode cX0_takeOne 27 = .ok (.getfield 14, 3) := by decide +kernel
theorem dX0_takeOne_30 : decode cX0_takeOne 30 = .ok (.aload_n 0, 1) := by decide +kernel
theorem dX0_takeOne_31 : decode cX0_takeOne 31 = .ok (.getfield 29, 3) := by decide +kernel
theorem dX0_takeOne_34 : decode cX0_takeOne 34 = .ok (.invokevirtual 76, 3) := by decide +kernel
theorem dX0_takeOne_37 : decode cX0_takeOne 37 = .ok (.aload_n 0, 1) := by decide +kernel
theorem dX0_takeOne_38 : decode cX0_takeOne 38 = .ok (.iconst 1, 1) := by decide +kernel
theorem dX0_takeOne_39 : decode cX0_takeOne 39 = .ok (.invokevirtual 73, 3) := by decide +kernel
theorem dX0_takeOne_42 : decode cX0_takeOne 42 = .ok (.iconst 1, 1) := by decide +kernel
theorem dX0_takeOne_43 : decode cX0_takeOne 43 = .ok (.ireturn, 1) := by decide +kernel
theorem dX0_pass_0 : decode cX0_pass 0 = .ok (.aload_n 0, 1) := by decide +kernel
theorem dX0_pass_1 : decode cX0_pass 1 = .ok (.dup, 1) := by decide +kernel
theorem dX0_pass_2 : decode cX0_pass 2 = .ok (.getfield 29, 3) := by decide +kernel
theorem dX0_pass_5 : decode cX0_pass 5 = .ok (.iload_n 1, 1) := by decide +kernel
theorem dX0_pass_6 : decode cX0_pass 6 = .ok (.iadd, 1) := by decide +kernel
theorem dX0_pass_7 : decode cX0_pass 7 = .ok (.putfield 29, 3) := by decide +kernel
theorem dX0_pass_10 : decode cX0_pass 10 = .ok (.aload_n 0, 1) := by decide +kernel
theorem dX0_pass_11 : decode cX0_pass 11 = .ok (.invokevirtual 32, 3) := by decide +kernel
theorem dX0_pass_14 : decode cX0_pass 14 = .ok (.ifCond .ne 11, 3) := by decide +kernel
theorem dX0_pass_17 : decode cX0_pass 17 = .ok (.aload_n 0, 1) := by decide +kernel
theorem dX0_pass_18 : decode cX0_pass 18 = .ok (.getfield 14, 3) := by decide +kernel
theorem dX0_pass_21 : decode cX0_pass 21 = .ok (.iconst 1, 1) := by decide +kernel
theorem dX0_pass_22 : decode cX0_pass 22 = .ok (.invokevirtual 80, 3) := by decide +kernel
theorem dX0_pass_25 : decode cX0_pass 25 = .ok (.aload_n 0, 1) := by decide +kernel
theorem dX0_pass_26 : decode cX0_pass 26 = .ok (.getfield 29, 3) := by decide +kernel
theorem dX0_pass_29 : decode cX0_pass 29 = .ok (.sipush 242, 3) := by decide +kernel
theorem dX0_pass_32 : decode cX0_pass 32 = .ok (.if_icmp .lt 8, 3) := by decide +kernel
theorem dX0_pass_35 : decode cX0_pass 35 = .ok (.aload_n 0, 1) := by decide +kernel
theorem dX0_pass_36 : decode cX0_pass 36 = .ok (.iconst 0, 1) := by decide +kernel
theorem dX0_pass_37 : decode cX0_pass 37 = .ok (.putfield 29, 3) := by decide +kernel
theorem dX0_pass_40 : decode cX0_pass 40 = .ok (.return_, 1) := by decide +kernel
theorem dX1_init_0 : decode cX1_init 0 = .ok (.aload_n 0, 1) := by decide +kernel
theorem dX1_init_1 : decode cX1_init 1 = .ok (.invokespecial 3, 3) := by decide +kernel
theorem dX1_init_4 : decode cX1_init 4 = .ok (.aload_n 0, 1) := by decide +kernel
theorem dX1_init_5 : decode cX1_init 5 = .ok (.iconst 4, 1) := by decide +kernel
theorem dX1_init_6 : decode cX1_init 6 = .ok (.newarray .int, 2) := by decide +kernel
theorem dX1_init_8 : decode cX1_init 8 = .ok (.putfield 9, 3) := by decide +kernel
theorem dX1_init_11 : decode cX1_init 11 = .ok (.aload_n 0, 1) := by decide +kernel
theorem dX1_init_12 : decode cX1_init 12 = .ok (.bipush 24, 2) := by decide +kernel
theorem dX1_init_14 : decode cX1_init 14 = .ok (.newarray .int, 2) := by decide +kernel
theorem dX1_init_16 : decode cX1_init 16 = .ok (.putfield 15, 3) := by decide +kernel
theorem dX1_init_19 : decode cX1_init 19 = .ok (.aload_n 0, 1) := by decide +kernel
theorem dX1_init_20 : decode cX1_init 20 = .ok (.bipush 24, 2) := by decide +kernel
theorem dX1_init_22 : decode cX1_init 22 = .ok (.newarray .int, 2) := by decide +kernel
theorem dX1_init_24 : decode cX1_init 24 = .ok (.putfield 18, 3) := by decide +kernel
theorem dX1_init_27 : decode cX1_init 27 = .ok (.aload_n 0, 1) := by decide +kernel
theorem dX1_init_28 : decode cX1_init 28 = .ok (.bipush 24, 2) := by decide +kernel
theorem dX1_init_30 : decode cX1_init 30 = .ok (.newarray .int, 2) := by decide +kernel
theorem dX1_init_32 : decode cX1_init 32 = .ok (.putfield 21, 3) := by decide +kernel
theorem dX1_init_35 : decode cX1_init 35 = .ok (.aload_n 0, 1) := by decide +kernel
theorem dX1_init_36 : decode cX1_init 36 = .ok (.bipush 24, 2) := by decide +kernel
theorem dX1_init_38 : decode cX1_init 38 = .ok (.newarray .int, 2) := by decide +kernel
theorem dX1_init_40 : decode cX1_init 40 = .ok (.putfield 24, 3) := by decide +kernel
theorem dX1_init_43 : decode cX1_init 43 = .ok (.return_, 1) := by decide +kernel
theorem dX1_addLine_0 : decode cX1_addLine 0 = .ok (.aload_n 0, 1) := by decide +kernel
theorem dX1_addLine_1 : decode cX1_addLine 1 = .ok (.getfield 27, 3) := by decide +kernel
theorem dX1_addLine_4 : decode cX1_addLine 4 = .ok (.bipush 24, 2) := by decide +kernel
theorem dX1_addLine_6 : decode cX1_addLine 6 = .ok (.if_icmp .lt 6, 3) := by decide +kernel
theorem dX1_addLine_9 : decode cX1_addLine 9 = .ok (.bipush (-3), 2) := by decide +kernel
theorem dX1_addLine_11 : decode cX1_addLine 11 = .ok (.ireturn, 1) := by decide +kernel
theorem dX1_addLine_12 : decode cX1_addLine 12 = .ok (.aload_n 0, 1) := by decide +kernel
theorem dX1_addLine_13 : decode cX1_addLine 13 = .ok (.getfield 15, 3) := by decide +kernel
theorem dX1_addLine_16 : decode cX1_addLine 16 = .ok (.aload_n 0, 1) := by decide +kernel
theorem dX1_addLine_17 : decode cX1_addLine 17 = .ok (.getfield 27, 3) := by decide +kernel
theorem dX1_addLine_20 : decode cX1_addLine 20 = .ok (.iload_n 1, 1) := by decide +kernel
theorem dX1_addLine_21 : decode cX1_addLine 21 = .ok (.iastore, 1) := by decide +kernel
theorem dX1_addLine_22 : decode cX1_addLine 22 = .ok (.aload_n 0, 1) := by decide +kernel
theorem dX1_addLine_23 : decode cX1_addLine 23 = .ok (.getfield 18, 3) := by decide +kernel
theorem dX1_addLine_26 : decode cX1_addLine 26 = .ok (.aload_n 0, 1) := by decide +kernel
theorem dX1_addLine_27 : decode cX1_addLine 27 = .ok (.getfield 27, 3) := by decide +kernel
theorem dX1_addLine_30 : decode cX1_addLine 30 = .ok (.iload_n 2, 1) := by decide +kernel
theorem dX1_addLine_31 : decode cX1_addLine 31 = .ok (.iastore, 1) := by decide +kernel
theorem dX1_addLine_32 : decode cX1_addLine 32 = .ok (.aload_n 0, 1) := by decide +kernel
theorem dX1_addLine_33 : decode cX1_addLine 33 = .ok (.getfield 21, 3) := by decide +kernel
theorem dX1_addLine_36 : decode cX1_addLine 36 = .ok (.aload_n 0, 1) := by decide +kernel
theorem dX1_addLine_37 : decode cX1_addLine 37 = .ok (.getfield 27, 3) := by decide +kernel
theorem dX1_addLine_40 : decode cX1_addLine 40 = .ok (.iload_n 3, 1) := by decide +kernel
theorem dX1_addLine_41 : decode cX1_addLine 41 = .ok (.iastore, 1) := by decide +kernel
theorem dX1_addLine_42 : decode cX1_addLine 42 = .ok (.aload_n 0, 1) := by decide +kernel
theorem dX1_addLine_43 : decode cX1_addLine 43 = .ok (.getfield 24, 3) := by decide +kernel
theorem dX1_addLine_46 : decode cX1_addLine 46 = .ok (.aload_n 0, 1) := by decide +kernel
theorem dX1_addLine_47 : decode cX1_addLine 47 = .ok (.getfield 27, 3) := by decide +kernel
theorem dX1_addLine_50 : decode cX1_addLine 50 = .ok (.iload 4, 2) := by decide +kernel
theorem dX1_addLine_52 : decode cX1_addLine 52 = .ok (.iastore, 1) := by decide +kernel
theorem dX1_addLine_53 : decode cX1_addLine 53 = .ok (.aload_n 0, 1) := by decide +kernel
theorem dX1_addLine_54 : decode cX1_addLine 54 = .ok (.dup, 1) := by decide +kernel
theorem dX1_addLine_55 : decode cX1_addLine 55 = .ok (.getfield 27, 3) := by decide +kernel
theorem dX1_addLine_58 : decode cX1_addLine 58 = .ok (.iconst 1, 1) := by decide +kernel
theorem dX1_addLine_59 : decode cX1_addLine 59 = .ok (.iadd, 1) := by decide +kernel
theorem dX1_addLine_60 : decode cX1_addLine 60 = .ok (.putfield 27, 3) := by decide +kernel
theorem dX1_addLine_63 : decode cX1_addLine 63 = .ok (.aload_n 0, 1) := by decide +kernel
theorem dX1_addLine_64 : decode cX1_addLine 64 = .ok (.getfield 27, 3) := by decide +kernel
theorem dX1_addLine_67 : decode cX1_addLine 67 = .ok (.ireturn, 1) := by decide +kernel
theorem dX1_forgetLines_0 : decode cX1_forgetLines 0 = .ok (.aload_n 0, 1) := by decide +kernel
theorem dX1_forgetLines_1 : decode cX1_forgetLines 1 = .ok (.getfield 27, 3) := by decide +kernel
theorem dX1_forgetLines_4 : decode cX1_forgetLines 4 = .ok (.istore_n 1, 1) := by decide +kernel
theorem dX1_forgetLines_5 : decode cX1_forgetLines 5 = .ok (.aload_n 0, 1) := by decide +kernel
theorem dX1_forgetLines_6 : decode cX1_forgetLines 6 = .ok (.iconst 0, 1) := by decide +kernel
theorem dX1_forgetLines_7 : decode cX1_forgetLines 7 = .ok (.putfield 27, 3) := by decide +kernel
theorem dX1_forgetLines_10 : decode cX1_forgetLines 10 = .ok (.aload_n 0, 1) := by decide +kernel
theorem dX1_forgetLines_11 : decode cX1_forgetLines 11 = .ok (.iconst 0, 1) := by decide +kernel
theorem dX1_forgetLines_12 : decode cX1_forgetLines 12 = .ok (.putfield 31, 3) := by decide +kernel
theorem dX1_forgetLines_15 : decode cX1_forgetLines 15 = .ok (.iload_n 1, 1) := by decide +kernel
theorem dX1_forgetLines_16 : decode cX1_forgetLines 16 = .ok (.ireturn, 1) := by decide +kernel
theorem dX1_value_0 : decode cX1_value 0 = .ok (.aload_n 0, 1) := by decide +kernel
theorem dX1_value_1 : decode cX1_value 1 = .ok (.getfield 9, 3) := by decide +kernel
theorem dX1_value_4 : decode cX1_value 4 = .ok (.iload_n 1, 1) := by decide +kernel
theorem dX1_value_5 : decode cX1_value 5 = .ok (.iaload, 1) := by decide +kernel
theorem dX1_value_6 : decode cX1_value 6 = .ok (.ireturn, 1) := by decide +kernel
theorem dX1_putValue_0 : decode cX1_putValue 0 = .ok (.aload_n 0, 1) := by decide +kernel
theorem dX1_putValue_1 : decode cX1_putValue 1 = .ok (.getfield 9, 3) := by decide +kernel
theorem dX1_putValue_4 : decode cX1_putValue 4 = .ok (.iload_n 1, 1) := by decide +kernel
theorem dX1_putValue_5 : decode cX1_putValue 5 = .ok (.iaload, 1) := by decide +kernel
theorem dX1_putValue_6 : decode cX1_putValue 6 = .ok (.istore_n 3, 1) := by decide +kernel
theorem dX1_putValue_7 : decode cX1_putValue 7 = .ok (.aload_n 0, 1) := by decide +kernel
theorem dX1_putValue_8 : decode cX1_putValue 8 = .ok (.getfield 9, 3) := by decide +kernel
theorem dX1_putValue_11 : decode cX1_putValue 11 = .ok (.iload_n 1, 1) := by decide +kernel
theorem dX1_putValue_12 : decode cX1_putValue 12 = .ok (.iload_n 2, 1) := by decide +kernel
theorem dX1_putValue_13 : decode cX1_putValue 13 = .ok (.iastore, 1) := by decide +kernel
theorem dX1_putValue_14 : decode cX1_putValue 14 = .ok (.iload_n 3, 1) := by decide +kernel
theorem dX1_putValue_15 : decode cX1_putValue 15 = .ok (.ireturn, 1) := by decide +kernel
theorem dX1_lineNow_0 : decode cX1_lineNow 0 = .ok (.aload_n 0, 1) := by decide +kernel
theorem dX1_lineNow_1 : decode cX1_lineNow 1 = .ok (.getfield 31, 3) := by decide +kernel
theorem dX1_lineNow_4 : decode cX1_lineNow 4 = .ok (.ireturn, 1) := by decide +kernel
theorem dX1_jump_0 : decode cX1_jump 0 = .ok (.aload_n 0, 1) := by decide +kernel
theorem dX1_jump_1 : decode cX1_jump 1 = .ok (.getfield 31, 3) := by decide +kernel
theorem dX1_jump_4 : decode cX1_jump 4 = .ok (.istore_n 2, 1) := by decide +kernel
theorem dX1_jump_5 : decode cX1_jump 5 = .ok (.aload_n 0, 1) := by decide +kernel
theorem dX1_jump_6 : decode cX1_jump 6 = .ok (.iload_n 1, 1) := by decide +kernel
theorem dX1_jump_7 : decode cX1_jump 7 = .ok (.putfield 31, 3) := by decide +kernel
theorem dX1_jump_10 : decode cX1_jump 10 = .ok (.iload_n 2, 1) := by decide +kernel
theorem dX1_jump_11 : decode cX1_jump 11 = .ok (.ireturn, 1) := by decide +kernel
theorem dX1_doLines_0 : decode cX1_doLines 0 = .ok (.iconst 0, 1) := by decide +kernel
theorem dX1_doLines_1 : decode cX1_doLines 1 = .ok (.istore_n 2, 1) := by decide +kernel
theorem dX1_doLines_2 : decode cX1_doLines 2 = .ok (.iload_n 2, 1) := by decide +kernel
theorem dX1_doLines_3 : decode cX1_doLines 3 = .ok (.iload_n 1, 1) := by decide +kernel
theorem dX1_doLines_4 : decode cX1_doLines 4 = .ok (.if_icmp .ge 16, 3) := by decide +kernel
theorem dX1_doLines_7 : decode cX1_doLines 7 = .ok (.aload_n 0, 1) := by decide +kernel
theorem dX1_doLines_8 : decode cX1_doLines 8 = .ok (.invokevirtual 34, 3) := by decide +kernel
theorem dX1_doLines_11 : decode cX1_doLines 11 = .ok (.ifCond .eq 9, 3) := by decide +kernel
theorem dX1_doLines_14 : decode cX1_doLines 14 = .ok (.iinc 2 1, 3) := by decide +kernel
theorem dX1_doLines_17 : decode cX1_doLines 17 = .ok (.goto (-15), 3) := by decide +kernel
theorem dX1_doLines_20 : decode cX1_doLines 20 = .ok (.iload_n 2, 1) := by decide +kernel
theorem dX1_doLines_21 : decode cX1_doLines 21 = .ok (.ireturn, 1) := by decide +kernel
theorem dX1_doLine_0 : decode cX1_doLine 0 = .ok (.aload_n 0, 1) := by decide +kernel
theorem dX1_doLine_1 : decode cX1_doLine 1 = .ok (.getfield 31, 3) := by decide +kernel
theorem dX1_doLine_4 : decode cX1_doLine 4 = .ok (.iconst 0, 1) := by decide +kernel
theorem dX1_doLine_5 : decode cX1_doLine 5 = .ok (.aload_n 0, 1) := by decide +kernel
theorem dX1_doLine_6 : decode cX1_doLine 6 = .ok (.getfield 27, 3) := by decide +kernel
theorem dX1_doLine_9 : decode cX1_doLine 9 = .ok (.iconst 1, 1) := by decide +kernel
theorem dX1_doLine_10 : decode cX1_doLine 10 = .ok (.isub, 1) := by decide +kernel
theorem dX1_doLine_11 : decode cX1_doLine 11 = .ok (.invokestatic 38, 3) := by decide +kernel
theorem dX1_doLine_14 : decode cX1_doLine 14 = .ok (.ifCond .eq 5, 3) := by decide +kernel
theorem dX1_doLine_17 : decode cX1_doLine 17 = .ok (.iconst 0, 1) := by decide +kernel
theorem dX1_doLine_18 : decode cX1_doLine 18 = .ok (.ireturn, 1) := by decide +kernel
theorem dX1_doLine_19 : decode cX1_doLine 19 = .ok (.aload_n 0, 1) := by decide +kernel
theorem dX1_doLine_20 : decode cX1_doLine 20 = .ok (.getfield 15, 3) := by decide +kernel
theorem dX1_doLine_23 : decode cX1_doLine 23 = .ok (.aload_n 0, 1) := by decide +kernel
theorem dX1_doLine_24 : decode cX1_doLine 24 = .ok (.getfield 31, 3) := by decide +kernel
theorem dX1_doLine_27 : decode cX1_doLine 27 = .ok (.iaload, 1) := by decide +kernel
theorem dX1_doLine_28 : decode cX1_doLine 28 = .ok (.lookupswitch 56 #[(0, 28), (1, 42)], 28) := by decide +kernel
theorem dX1_doLine_56 : decode cX1_doLine 56 = .ok (.aload_n 0, 1) := by decide +kernel
theorem dX1_doLine_57 : decode cX1_doLine 57 = .ok (.aload_n 0, 1) := by decide +kernel
theorem dX1_doLine_58 : decode cX1_doLine 58 = .ok (.getfield 18, 3) := by decide +kernel
theorem dX1_doLine_61 : decode cX1_doLine 61 = .ok (.aload_n 0, 1) := by decide +kernel
theorem dX1_doLine_62 : decode cX1_doLine 62 = .ok (.getfield 31, 3) := by decide +kernel
theorem dX1_doLine_65 : decode cX1_doLine 65 = .ok (.iaload, 1) := by decide +kernel
theorem dX1_doLine_66 : decode cX1_doLine 66 = .ok (.invokevirtual 42, 3) := by decide +kernel
theorem dX1_doLine_69 : decode cX1_doLine 69 = .ok (.ireturn, 1) := by decide +kernel
theorem dX1_doLine_70 : decode cX1_doLine 70 = .ok (.aload_n 0, 1) := by decide +kernel
theorem dX1_doLine_71 : decode cX1_doLine 71 = .ok (.aload_n 0, 1) := by decide +kernel
theorem dX1_doLine_72 : decode cX1_doLine 72 = .ok (.getfield 18, 3) := by decide +kernel
theorem dX1_doLine_75 : decode cX1_doLine 75 = .ok (.aload_n 0, 1) := by decide +kernel
theorem dX1_doLine_76 : decode cX1_doLine 76 = .ok (.getfield 31, 3) := by decide +kernel
theorem dX1_doLine_79 : decode cX1_doLine 79 = .ok (.iaload, 1) := by decide +kernel
theorem dX1_doLine_80 : decode cX1_doLine 80 = .ok (.invokevirtual 46, 3) := by decide +kernel
theorem dX1_doLine_83 : decode cX1_doLine 83 = .ok (.ireturn, 1) := by decide +kernel
theorem dX1_doLine_84 : decode cX1_doLine 84 = .ok (.iconst 0, 1) := by decide +kernel
theorem dX1_doLine_85 : decode cX1_doLine 85 = .ok (.ireturn, 1) := by decide +kernel
theorem dX1_countUp_0 : decode cX1_countUp 0 = .ok (.aload_n 0, 1) := by decide +kernel
theorem dX1_countUp_1 : decode cX1_countUp 1 = .ok (.getfield 9, 3) := by decide +kernel
theorem dX1_countUp_4 : decode cX1_countUp 4 = .ok (.iload_n 1, 1) := by decide +kernel
theorem dX1_countUp_5 : decode cX1_countUp 5 = .ok (.iaload, 1) := by decide +kernel
theorem dX1_countUp_6 : decode cX1_countUp 6 = .ok (.sipush 1000, 3) := by decide +kernel
theorem dX1_countUp_9 : decode cX1_countUp 9 = .ok (.if_icmp .lt 5, 3) := by decide +kernel
theorem dX1_countUp_12 : decode cX1_countUp 12 = .ok (.iconst 0, 1) := by decide +kernel
theorem dX1_countUp_13 : decode cX1_countUp 13 = .ok (.ireturn, 1) := by decide +kernel
theorem dX1_countUp_14 : decode cX1_countUp 14 = .ok (.aload_n 0, 1) := by decide +kernel
theorem dX1_countUp_15 : decode cX1_countUp 15 = .ok (.getfield 9, 3) := by decide +kernel
theorem dX1_countUp_18 : decode cX1_countUp 18 = .ok (.iload_n 1, 1) := by decide +kernel
theorem dX1_countUp_19 : decode cX1_countUp 19 = .ok (.dup2, 1) := by decide +kernel
theorem dX1_countUp_20 : decode cX1_countUp 20 = .ok (.iaload, 1) := by decide +kernel
theorem dX1_countUp_21 : decode cX1_countUp 21 = .ok (.iconst 1, 1) := by decide +kernel
theorem dX1_countUp_22 : decode cX1_countUp 22 = .ok (.iadd, 1) := by decide +kernel
theorem dX1_countUp_23 : decode cX1_countUp 23 = .ok (.iastore, 1) := by decide +kernel
theorem dX1_countUp_24 : decode cX1_countUp 24 = .ok (.aload_n 0, 1) := by decide +kernel
theorem dX1_countUp_25 : decode cX1_countUp 25 = .ok (.aload_n 0, 1) := by decide +kernel
theorem dX1_countUp_26 : decode cX1_countUp 26 = .ok (.getfield 21, 3) := by decide +kernel
theorem dX1_countUp_29 : decode cX1_countUp 29 = .ok (.aload_n 0, 1) := by decide +kernel
theorem dX1_countUp_30 : decode cX1_countUp 30 = .ok (.getfield 31, 3) := by decide +kernel
theorem dX1_countUp_33 : decode cX1_countUp 33 = .ok (.iaload, 1) := by decide +kernel
theorem dX1_countUp_34 : decode cX1_countUp 34 = .ok (.putfield 31, 3) := by decide +kernel
theorem dX1_countUp_37 : decode cX1_countUp 37 = .ok (.iconst 1, 1) := by decide +kernel
theorem dX1_countUp_38 : decode cX1_countUp 38 = .ok (.ireturn, 1) := by decide +kernel
theorem dX1_countDown_0 : decode cX1_countDown 0 = .ok (.aload_n 0, 1) := by decide +kernel
theorem dX1_countDown_1 : decode cX1_countDown 1 = .ok (.getfield 9, 3) := by decide +kernel
theorem dX1_countDown_4 : decode cX1_countDown 4 = .ok (.iload_n 1, 1) := by decide +kernel
theorem dX1_countDown_5 : decode cX1_countDown 5 = .ok (.iaload, 1) := by decide +kernel
theorem dX1_countDown_6 : decode cX1_countDown 6 = .ok (.ifCond .ne 19, 3) := by decide +kernel
theorem dX1_countDown_9 : decode cX1_countDown 9 = .ok (.aload_n 0, 1) := by decide +kernel
theorem dX1_countDown_10 : decode cX1_countDown 10 = .ok (.aload_n 0, 1) := by decide +kernel
theorem dX1_countDown_11 : decode cX1_countDown 11 = .ok (.getfield 24, 3) := by decide +kernel
theorem dX1_countDown_14 : decode cX1_countDown 14 = .ok (.aload_n 0, 1) := by decide +kernel
theorem dX1_countDown_15 : decode cX1_countDown 15 = .ok (.getfield 31, 3) := by decide +kernel
theorem dX1_countDown_18 : decode cX1_countDown 18 = .ok (.iaload, 1) := by decide +kernel
theorem dX1_countDown_19 : decode cX1_countDown 19 = .ok (.putfield 31, 3) := by decide +kernel
theorem dX1_countDown_22 : decode cX1_countDown 22 = .ok (.goto 26, 3) := by decide +kernel
theorem dX1_countDown_25 : decode cX1_countDown 25 = .ok (.aload_n 0, 1) := by decide +kernel
theorem dX1_countDown_26 : decode cX1_countDown 26 = .ok (.getfield 9, 3) := by decide +kernel
theorem dX1_countDown_29 : decode cX1_countDown 29 = .ok (.iload_n 1, 1) := by decide +kernel
theorem dX1_countDown_30 : decode cX1_countDown 30 = .ok (.dup2, 1) := by decide +kernel
theorem dX1_countDown_31 : decode cX1_countDown 31 = .ok (.iaload, 1) := by decide +kernel
theorem dX1_countDown_32 : decode cX1_countDown 32 = .ok (.iconst 1, 1) := by decide +kernel
theorem dX1_countDown_33 : decode cX1_countDown 33 = .ok (.isub, 1) := by decide +kernel
theorem dX1_countDown_34 : decode cX1_countDown 34 = .ok (.iastore, 1) := by decide +kernel
theorem dX1_countDown_35 : decode cX1_countDown 35 = .ok (.aload_n 0, 1) := by decide +kernel
theorem dX1_countDown_36 : decode cX1_countDown 36 = .ok (.aload_n 0, 1) := by decide +kernel
theorem dX1_countDown_37 : decode cX1_countDown 37 = .ok (.getfield 21, 3) := by decide +kernel
theorem dX1_countDown_40 : decode cX1_countDown 40 = .ok (.aload_n 0, 1) := by decide +kernel
theorem dX1_countDown_41 : decode cX1_countDown 41 = .ok (.getfield 31, 3) := by decide +kernel
theorem dX1_countDown_44 : decode cX1_countDown 44 = .ok (.iaload, 1) := by decide +kernel
theorem dX1_countDown_45 : decode cX1_countDown 45 = .ok (.putfield 31, 3) := by decide +kernel
theorem dX1_countDown_48 : decode cX1_countDown 48 = .ok (.iconst 1, 1) := by decide +kernel
theorem dX1_countDown_49 : decode cX1_countDown 49 = .ok (.ireturn, 1) := by decide +kernel
theorem dX2_init_0 : decode cX2_init 0 = .ok (.aload_n 0, 1) := by decide +kernel
theorem dX2_init_1 : decode cX2_init 1 = .ok (.invokespecial 3, 3) := by decide +kernel
theorem dX2_init_4 : decode cX2_init 4 = .ok (.aload_n 0, 1) := by decide +kernel
theorem dX2_init_5 : decode cX2_init 5 = .ok (.iload_n 1, 1) := by decide +kernel
theorem dX2_init_6 : decode cX2_init 6 = .ok (.iconst 0, 1) := by decide +kernel
theorem dX2_init_7 : decode cX2_init 7 = .ok (.invokestatic 9, 3) := by decide +kernel
theorem dX2_init_10 : decode cX2_init 10 = .ok (.newarray .int, 2) := by decide +kernel
theorem dX2_init_12 : decode cX2_init 12 = .ok (.putfield 15, 3) := by decide +kernel
theorem dX2_init_15 : decode cX2_init 15 = .ok (.return_, 1) := by decide +kernel
theorem dX2_empty_0 : decode cX2_empty 0 = .ok (.aload_n 0, 1) := by decide +kernel
theorem dX2_empty_1 : decode cX2_empty 1 = .ok (.iconst 0, 1) := by decide +kernel
theorem dX2_empty_2 : decode cX2_empty 2 = .ok (.putfield 21, 3) := by decide +kernel
theorem dX2_empty_5 : decode cX2_empty 5 = .ok (.aload_n 0, 1) := by decide +kernel
theorem dX2_empty_6 : decode cX2_empty 6 = .ok (.iconst 0, 1) := by decide +kernel
theorem dX2_empty_7 : decode cX2_empty 7 = .ok (.putfield 25, 3) := by decide +kernel
theorem dX2_empty_10 : decode cX2_empty 10 = .ok (.return_, 1) := by decide +kernel
theorem dX2_get_0 : decode cX2_get 0 = .ok (.iload_n 1, 1) := by decide +kernel
theorem dX2_get_1 : decode cX2_get 1 = .ok (.iconst 0, 1) := by decide +kernel
theorem dX2_get_2 : decode cX2_get 2 = .ok (.aload_n 0, 1) := by decide +kernel
theorem dX2_get_3 : decode cX2_get 3 = .ok (.getfield 25, 3) := by decide +kernel
theorem dX2_get_6 : decode cX2_get 6 = .ok (.iconst 1, 1) := by decide +kernel
theorem dX2_get_7 : decode cX2_get 7 = .ok (.isub, 1) := by decide +kernel
theorem dX2_get_8 : decode cX2_get 8 = .ok (.invokestatic 28, 3) := by decide +kernel
theorem dX2_get_11 : decode cX2_get 11 = .ok (.ifCond .eq 8, 3) := by decide +kernel
theorem dX2_get_14 : decode cX2_get 14 = .ok (.bipush (-9), 2) := by decide +kernel
theorem dX2_get_16 : decode cX2_get 16 = .ok (.goto 18, 3) := by decide +kernel
theorem dX2_get_19 : decode cX2_get 19 = .ok (.aload_n 0, 1) := by decide +kernel
theorem dX2_get_20 : decode cX2_get 20 = .ok (.getfield 15, 3) := by decide +kernel
theorem dX2_get_23 : decode cX2_get 23 = .ok (.aload_n 0, 1) := by decide +kernel
theorem dX2_get_24 : decode cX2_get 24 = .ok (.aload_n 0, 1) := by decide +kernel
theorem dX2_get_25 : decode cX2_get 25 = .ok (.getfield 21, 3) := by decide +kernel
theorem dX2_get_28 : decode cX2_get 28 = .ok (.iload_n 1, 1) := by decide +kernel
theorem dX2_get_29 : decode cX2_get 29 = .ok (.iadd, 1) := by decide +kernel
theorem dX2_get_30 : decode cX2_get 30 = .ok (.invokevirtual 32, 3) := by decide +kernel
theorem dX2_get_33 : decode cX2_get 33 = .ok (.iaload, 1) := by decide +kernel
theorem dX2_get_34 : decode cX2_get 34 = .ok (.ireturn, 1) := by decide +kernel
theorem dX2_append_0 : decode cX2_append 0 = .ok (.aload_n 0, 1) := by decide +kernel
theorem dX2_append_1 : decode cX2_append 1 = .ok (.getfield 25, 3) := by decide +kernel
theorem dX2_append_4 : decode cX2_append 4 = .ok (.aload_n 0, 1) := by decide +kernel
theorem dX2_append_5 : decode cX2_append 5 = .ok (.getfield 15, 3) := by decide +kernel
theorem dX2_append_8 : decode cX2_append 8 = .ok (.arraylength, 1) := by decide +kernel
theorem dX2_append_9 : decode cX2_append 9 = .ok (.if_icmp .ge 32, 3) := by decide +kernel
theorem dX2_append_12 : decode cX2_append 12 = .ok (.aload_n 0, 1) := by decide +kernel
theorem dX2_append_13 : decode cX2_append 13 = .ok (.getfield 15, 3) := by decide +kernel
theorem dX2_append_16 : decode cX2_append 16 = .ok (.aload_n 0, 1) := by decide +kernel
theorem dX2_append_17 : decode cX2_append 17 = .ok (.aload_n 0, 1) := by decide +kernel
theorem dX2_append_18 : decode cX2_append 18 = .ok (.getfield 21, 3) := by decide +kernel
theorem dX2_append_21 : decode cX2_append 21 = .ok (.aload_n 0, 1) := by decide +kernel
theorem dX2_append_22 : decode cX2_append 22 = .ok (.getfield 25, 3) := by decide +kernel
theorem dX2_append_25 : decode cX2_append 25 = .ok (.iadd, 1) := by decide +kernel
theorem dX2_append_26 : decode cX2_append 26 = .ok (.invokevirtual 32, 3) := by decide +kernel
theorem dX2_append_29 : decode cX2_append 29 = .ok (.iload_n 1, 1) := by decide +kernel
theorem dX2_append_30 : decode cX2_append 30 = .ok (.iastore, 1) := by decide +kernel
theorem dX2_append_31 : decode cX2_append 31 = .ok (.aload_n 0, 1) := by decide +kernel
theorem dX2_append_32 : decode cX2_append 32 = .ok (.dup, 1) := by decide +kernel
theorem dX2_append_33 : decode cX2_append 33 = .ok (.getfield 25, 3) := by decide +kernel
theorem dX2_append_36 : decode cX2_append 36 = .ok (.iconst 1, 1) := by decide +kernel
theorem dX2_append_37 : decode cX2_append 37 = .ok (.iadd, 1) := by decide +kernel
theorem dX2_append_38 : decode cX2_append 38 = .ok (.putfield 25, 3) := by decide +kernel
theorem dX2_append_41 : decode cX2_append 41 = .ok (.return_, 1) := by decide +kernel
theorem dX2_drop_0 : decode cX2_drop 0 = .ok (.iload_n 1, 1) := by decide +kernel
theorem dX2_drop_1 : decode cX2_drop 1 = .ok (.aload_n 0, 1) := by decide +kernel
theorem dX2_drop_2 : decode cX2_drop 2 = .ok (.getfield 25, 3) := by decide +kernel
theorem dX2_drop_5 : decode cX2_drop 5 = .ok (.invokestatic 36, 3) := by decide +kernel
theorem dX2_drop_8 : decode cX2_drop 8 = .ok (.istore_n 2, 1) := by decide +kernel
theorem dX2_drop_9 : decode cX2_drop 9 = .ok (.aload_n 0, 1) := by decide +kernel
theorem dX2_drop_10 : decode cX2_drop 10 = .ok (.aload_n 0, 1) := by decide +kernel
theorem dX2_drop_11 : decode cX2_drop 11 = .ok (.aload_n 0, 1) := by decide +kernel
theorem dX2_drop_12 : decode cX2_drop 12 = .ok (.getfield 21, 3) := by decide +kernel
theorem dX2_drop_15 : decode cX2_drop 15 = .ok (.iload_n 2, 1) := by decide +kernel
theorem dX2_drop_16 : decode cX2_drop 16 = .ok (.iadd, 1) := by decide +kernel
theorem dX2_drop_17 : decode cX2_drop 17 = .ok (.invokevirtual 32, 3) := by decide +kernel
theorem dX2_drop_20 : decode cX2_drop 20 = .ok (.putfield 21, 3) := by decide +kernel
theorem dX2_drop_23 : decode cX2_drop 23 = .ok (.aload_n 0, 1) := by decide +kernel
theorem dX2_drop_24 : decode cX2_drop 24 = .ok (.dup, 1) := by decide +kernel
theorem dX2_drop_25 : decode cX2_drop 25 = .ok (.getfield 25, 3) := by decide +kernel
theorem dX2_drop_28 : decode cX2_drop 28 = .ok (.iload_n 2, 1) := by decide +kernel
theorem dX2_drop_29 : decode cX2_drop 29 = .ok (.isub, 1) := by decide +kernel
theorem dX2_drop_30 : decode cX2_drop 30 = .ok (.putfield 25, 3) := by decide +kernel
theorem dX2_drop_33 : decode cX2_drop 33 = .ok (.return_, 1) := by decide +kernel
theorem dX2_become_0 : decode cX2_become 0 = .ok (.aload_n 0, 1) := by decide +kernel
theorem dX2_become_1 : decode cX2_become 1 = .ok (.invokevirtual 39, 3) := by decide +kernel
theorem dX2_become_4 : decode cX2_become 4 = .ok (.iconst 0, 1) := by decide +kernel
theorem dX2_become_5 : decode cX2_become 5 = .ok (.istore_n 2, 1) := by decide +kernel
theorem dX2_become_6 : decode cX2_become 6 = .ok (.iload_n 2, 1) := by decide +kernel
theorem dX2_become_7 : decode cX2_become 7 = .ok (.aload_n 1, 1) := by decide +kernel
theorem dX2_become_8 : decode cX2_become 8 = .ok (.getfield 25, 3) := by decide +kernel
theorem dX2_become_11 : decode cX2_become 11 = .ok (.if_icmp .ge 18, 3) := by decide +kernel
theorem dX2_become_14 : decode cX2_become 14 = .ok (.aload_n 0, 1) := by decide +kernel
theorem dX2_become_15 : decode cX2_become 15 = .ok (.aload_n 1, 1) := by decide +kernel
theorem dX2_become_16 : decode cX2_become 16 = .ok (.iload_n 2, 1) := by decide +kernel
theorem dX2_become_17 : decode cX2_become 17 = .ok (.invokevirtual 42, 3) := by decide +kernel
theorem dX2_become_20 : decode cX2_become 20 = .ok (.invokevirtual 45, 3) := by decide +kernel
theorem dX2_become_23 : decode cX2_become 23 = .ok (.iinc 2 1, 3) := by decide +kernel
theorem dX2_become_26 : decode cX2_become 26 = .ok (.goto (-20), 3) := by decide +kernel
theorem dX2_become_29 : decode cX2_become 29 = .ok (.return_, 1) := by decide +kernel
theorem dX2_wrapped_0 : decode cX2_wrapped 0 = .ok (.iload_n 1, 1) := by decide +kernel
theorem dX2_wrapped_1 : decode cX2_wrapped 1 = .ok (.aload_n 0, 1) := by decide +kernel
theorem dX2_wrapped_2 : decode cX2_wrapped 2 = .ok (.getfield 15, 3) := by decide +kernel
theorem dX2_wrapped_5 : decode cX2_wrapped 5 = .ok (.arraylength, 1) := by decide +kernel
theorem dX2_wrapped_6 : decode cX2_wrapped 6 = .ok (.if_icmp .ge 7, 3) := by decide +kernel
theorem dX2_wrapped_9 : decode cX2_wrapped 9 = .ok (.iload_n 1, 1) := by decide +kernel
theorem dX2_wrapped_10 : decode cX2_wrapped 10 = .ok (.goto 10, 3) := by decide +kernel
theorem dX2_wrapped_13 : decode cX2_wrapped 13 = .ok (.iload_n 1, 1) := by decide +kernel
theorem dX2_wrapped_14 : decode cX2_wrapped 14 = .ok (.aload_n 0, 1) := by decide +kernel
theorem dX2_wrapped_15 : decode cX2_wrapped 15 = .ok (.getfield 15, 3) := by decide +kernel
theorem dX2_wrapped_18 : decode cX2_wrapped 18 = .ok (.arraylength, 1) := by decide +kernel
theorem dX2_wrapped_19 : decode cX2_wrapped 19 = .ok (.isub, 1) := by decide +kernel
theorem dX2_wrapped_20 : decode cX2_wrapped 20 = .ok (.ireturn, 1) := by decide +kernel
theorem dX3_init_0 : decode cX3_init 0 = .ok (.aload_n 0, 1) := by decide +kernel
theorem dX3_init_1 : decode cX3_init 1 = .ok (.invokespecial 3, 3) := by decide +kernel
theorem dX3_init_4 : decode cX3_init 4 = .ok (.aload_n 0, 1) := by decide +kernel
theorem dX3_init_5 : decode cX3_init 5 = .ok (.bipush 6, 2) := by decide +kernel
theorem dX3_init_7 : decode cX3_init 7 = .ok (.newarray .boolean, 2) := by decide +kernel
theorem dX3_init_9 : decode cX3_init 9 = .ok (.putfield 9, 3) := by decide +kernel
theorem dX3_init_12 : decode cX3_init 12 = .ok (.aload_n 0, 1) := by decide +kernel
theorem dX3_init_13 : decode cX3_init 13 = .ok (.bipush 6, 2) := by decide +kernel
theorem dX3_init_15 : decode cX3_init 15 = .ok (.newarray .int, 2) := by decide +kernel
theorem dX3_init_17 : decode cX3_init 17 = .ok (.putfield 15, 3) := by decide +kernel
theorem dX3_init_20 : decode cX3_init 20 = .ok (.aload_n 0, 1) := by decide +kernel
theorem dX3_init_21 : decode cX3_init 21 = .ok (.bipush 6, 2) := by decide +kernel
theorem dX3_init_23 : decode cX3_init 23 = .ok (.newarray .int, 2) := by decide +kernel
theorem dX3_init_25 : decode cX3_init 25 = .ok (.putfield 19, 3) := by decide +kernel
theorem dX3_init_28 : decode cX3_init 28 = .ok (.aload_n 0, 1) := by decide +kernel
theorem dX3_init_29 : decode cX3_init 29 = .ok (.bipush 6, 2) := by decide +kernel
theorem dX3_init_31 : decode cX3_init 31 = .ok (.newarray .int, 2) := by decide +kernel
theorem dX3_init_33 : decode cX3_init 33 = .ok (.putfield 22, 3) := by decide +kernel
theorem dX3_init_36 : decode cX3_init 36 = .ok (.return_, 1) := by decide +kernel
theorem dX3_putRule_0 : decode cX3_putRule 0 = .ok (.aload_n 0, 1) := by decide +kernel
theorem dX3_putRule_1 : decode cX3_putRule 1 = .ok (.getfield 9, 3) := by decide +kernel
theorem dX3_putRule_4 : decode cX3_putRule 4 = .ok (.iload_n 1, 1) := by decide +kernel
theorem dX3_putRule_5 : decode cX3_putRule 5 = .ok (.baload, 1) := by decide +kernel
theorem dX3_putRule_6 : decode cX3_putRule 6 = .ok (.ifCond .ne 20, 3) := by decide +kernel
theorem dX3_putRule_9 : decode cX3_putRule 9 = .ok (.aload_n 0, 1) := by decide +kernel
theorem dX3_putRule_10 : decode cX3_putRule 10 = .ok (.getfield 9, 3) := by decide +kernel
theorem dX3_putRule_13 : decode cX3_putRule 13 = .ok (.iload_n 1, 1) := by decide +kernel
theorem dX3_putRule_14 : decode cX3_putRule 14 = .ok (.iconst 1, 1) := by decide +kernel
theorem dX3_putRule_15 : decode cX3_putRule 15 = .ok (.bastore, 1) := by decide +kernel
theorem dX3_putRule_16 : decode cX3_putRule 16 = .ok (.aload_n 0, 1) := by decide +kernel
theorem dX3_putRule_17 : decode cX3_putRule 17 = .ok (.dup, 1) := by decide +kernel
theorem dX3_putRule_18 : decode cX3_putRule 18 = .ok (.getfield 25, 3) := by decide +kernel
theorem dX3_putRule_21 : decode cX3_putRule 21 = .ok (.iconst 1, 1) := by decide +kernel
theorem dX3_putRule_22 : decode cX3_putRule 22 = .ok (.iadd, 1) := by decide +kernel
theorem dX3_putRule_23 : decode cX3_putRule 23 = .ok (.putfield 25, 3) := by decide +kernel
theorem dX3_putRule_26 : decode cX3_putRule 26 = .ok (.aload_n 0, 1) := by decide +kernel
theorem dX3_putRule_27 : decode cX3_putRule 27 = .ok (.getfield 15, 3) := by decide +kernel
theorem dX3_putRule_30 : decode cX3_putRule 30 = .ok (.iload_n 1, 1) := by decide +kernel
theorem dX3_putRule_31 : decode cX3_putRule 31 = .ok (.iload_n 2, 1) := by decide +kernel
theorem dX3_putRule_32 : decode cX3_putRule 32 = .ok (.iastore, 1) := by decide +kernel
theorem dX3_putRule_33 : decode cX3_putRule 33 = .ok (.aload_n 0, 1) := by decide +kernel
theorem dX3_putRule_34 : decode cX3_putRule 34 = .ok (.getfield 19, 3) := by decide +kernel
theorem dX3_putRule_37 : decode cX3_putRule 37 = .ok (.iload_n 1, 1) := by decide +kernel
theorem dX3_putRule_38 : decode cX3_putRule 38 = .ok (.iload_n 3, 1) := by decide +kernel
theorem dX3_putRule_39 : decode cX3_putRule 39 = .ok (.iastore, 1) := by decide +kernel
theorem dX3_putRule_40 : decode cX3_putRule 40 = .ok (.aload_n 0, 1) := by decide +kernel
theorem dX3_putRule_41 : decode cX3_putRule 41 = .ok (.getfield 22, 3) := by decide +kernel
theorem dX3_putRule_44 : decode cX3_putRule 44 = .ok (.iload_n 1, 1) := by decide +kernel
theorem dX3_putRule_45 : decode cX3_putRule 45 = .ok (.iload 4, 2) := by decide +kernel
theorem dX3_putRule_47 : decode cX3_putRule 47 = .ok (.iastore, 1) := by decide +kernel
theorem dX3_putRule_48 : decode cX3_putRule 48 = .ok (.aload_n 0, 1) := by decide +kernel
theorem dX3_putRule_49 : decode cX3_putRule 49 = .ok (.getfield 25, 3) := by decide +kernel
theorem dX3_putRule_52 : decode cX3_putRule 52 = .ok (.ireturn, 1) := by decide +kernel
theorem dX3_dropRule_0 : decode cX3_dropRule 0 = .ok (.aload_n 0, 1) := by decide +kernel
theorem dX3_dropRule_1 : decode cX3_dropRule 1 = .ok (.getfield 9, 3) := by decide +kernel
theorem dX3_dropRule_4 : decode cX3_dropRule 4 = .ok (.iload_n 1, 1) := by decide +kernel
theorem dX3_dropRule_5 : decode cX3_dropRule 5 = .ok (.baload, 1) := by decide +kernel
theorem dX3_dropRule_6 : decode cX3_dropRule 6 = .ok (.ifCond .ne 5, 3) := by decide +kernel
theorem dX3_dropRule_9 : decode cX3_dropRule 9 = .ok (.iconst 0, 1) := by decide +kernel
theorem dX3_dropRule_10 : decode cX3_dropRule 10 = .ok (.ireturn, 1) := by decide +kernel
theorem dX3_dropRule_11 : decode cX3_dropRule 11 = .ok (.aload_n 0, 1) := by decide +kernel
theorem dX3_dropRule_12 : decode cX3_dropRule 12 = .ok (.getfield 9, 3) := by decide +kernel
theorem dX3_dropRule_15 : decode cX3_dropRule 15 = .ok (.iload_n 1, 1) := by decide +kernel
theorem dX3_dropRule_16 : decode cX3_dropRule 16 = .ok (.iconst 0, 1) := by decide +kernel
theorem dX3_dropRule_17 : decode cX3_dropRule 17 = .ok (.bastore, 1) := by decide +kernel
theorem dX3_dropRule_18 : decode cX3_dropRule 18 = .ok (.aload_n 0, 1) := by decide +kernel
theorem dX3_dropRule_19 : decode cX3_dropRule 19 = .ok (.dup, 1) := by decide +kernel
theorem dX3_dropRule_20 : decode cX3_dropRule 20 = .ok (.getfield 25, 3) := by decide +kernel
theorem dX3_dropRule_23 : decode cX3_dropRule 23 = .ok (.iconst 1, 1) := by decide +kernel
theorem dX3_dropRule_24 : decode cX3_dropRule 24 = .ok (.isub, 1) := by decide +kernel
theorem dX3_dropRule_25 : decode cX3_dropRule 25 = .ok (.putfield 25, 3) := by decide +kernel
theorem dX3_dropRule_28 : decode cX3_dropRule 28 = .ok (.iconst 1, 1) := by decide +kernel
theorem dX3_dropRule_29 : decode cX3_dropRule 29 = .ok (.ireturn, 1) := by decide +kernel
theorem dX3_putPlace_0 : decode cX3_putPlace 0 = .ok (.aload_n 0, 1) := by decide +kernel
theorem dX3_putPlace_1 : decode cX3_putPlace 1 = .ok (.iload_n 1, 1) := by decide +kernel
theorem dX3_putPlace_2 : decode cX3_putPlace 2 = .ok (.putfield 29, 3) := by decide +kernel
theorem dX3_putPlace_5 : decode cX3_putPlace 5 = .ok (.aload_n 0, 1) := by decide +kernel
theorem dX3_putPlace_6 : decode cX3_putPlace 6 = .ok (.iload_n 2, 1) := by decide +kernel
theorem dX3_putPlace_7 : decode cX3_putPlace 7 = .ok (.putfield 32, 3) := by decide +kernel
theorem dX3_putPlace_10 : decode cX3_putPlace 10 = .ok (.aload_n 0, 1) := by decide +kernel
theorem dX3_putPlace_11 : decode cX3_putPlace 11 = .ok (.iload_n 3, 1) := by decide +kernel
theorem dX3_putPlace_12 : decode cX3_putPlace 12 = .ok (.putfield 35, 3) := by decide +kernel
theorem dX3_putPlace_15 : decode cX3_putPlace 15 = .ok (.aload_n 0, 1) := by decide +kernel
theorem dX3_putPlace_16 : decode cX3_putPlace 16 = .ok (.iload 4, 2) := by decide +kernel
theorem dX3_putPlace_18 : decode cX3_putPlace 18 = .ok (.putfield 38, 3) := by decide +kernel
theorem dX3_putPlace_21 : decode cX3_putPlace 21 = .ok (.return_, 1) := by decide +kernel
theorem dX3_isStill_0 : decode cX3_isStill 0 = .ok (.aload_n 0, 1) := by decide +kernel
theorem dX3_isStill_1 : decode cX3_isStill 1 = .ok (.getfield 9, 3) := by decide +kernel
theorem dX3_isStill_4 : decode cX3_isStill 4 = .ok (.aload_n 0, 1) := by decide +kernel
theorem dX3_isStill_5 : decode cX3_isStill 5 = .ok (.getfield 29, 3) := by decide +kernel
theorem dX3_isStill_8 : decode cX3_isStill 8 = .ok (.aload_n 0, 1) := by decide +kernel
theorem dX3_isStill_9 : decode cX3_isStill 9 = .ok (.getfield 32, 3) := by decide +kernel
theorem dX3_isStill_12 : decode cX3_isStill 12 = .ok (.invokestatic 41, 3) := by decide +kernel
theorem dX3_isStill_15 : decode cX3_isStill 15 = .ok (.baload, 1) := by decide +kernel
theorem dX3_isStill_16 : decode cX3_isStill 16 = .ok (.ifCond .ne 7, 3) := by decide +kernel
theorem dX3_isStill_19 : decode cX3_isStill 19 = .ok (.iconst 1, 1) := by decide +kernel
theorem dX3_isStill_20 : decode cX3_isStill 20 = .ok (.goto 4, 3) := by decide +kernel
theorem dX3_isStill_23 : decode cX3_isStill 23 = .ok (.iconst 0, 1) := by decide +kernel
theorem dX3_isStill_24 : decode cX3_isStill 24 = .ok (.ireturn, 1) := by decide +kernel
theorem dX3_doSteps_0 : decode cX3_doSteps 0 = .ok (.iconst 0, 1) := by decide +kernel
theorem dX3_doSteps_1 : decode cX3_doSteps 1 = .ok (.istore_n 2, 1) := by decide +kernel
theorem dX3_doSteps_2 : decode cX3_doSteps 2 = .ok (.iload_n 2, 1) := by decide +kernel
theorem dX3_doSteps_3 : decode cX3_doSteps 3 = .ok (.iload_n 1, 1) := by decide +kernel
theorem dX3_doSteps_4 : decode cX3_doSteps 4 = .ok (.if_icmp .ge 16, 3) := by decide +kernel
theorem dX3_doSteps_7 : decode cX3_doSteps 7 = .ok (.aload_n 0, 1) := by decide +kernel
theorem dX3_doSteps_8 : decode cX3_doSteps 8 = .ok (.invokevirtual 45, 3) := by decide +kernel
theorem dX3_doSteps_11 : decode cX3_doSteps 11 = .ok (.ifCond .eq 9, 3) := by decide +kernel
theorem dX3_doSteps_14 : decode cX3_doSteps 14 = .ok (.iinc 2 1, 3) := by decide +kernel
theorem dX3_doSteps_17 : decode cX3_doSteps 17 = .ok (.goto (-15), 3) := by decide +kernel
theorem dX3_doSteps_20 : decode cX3_doSteps 20 = .ok (.iload_n 2, 1) := by decide +kernel
theorem dX3_doSteps_21 : decode cX3_doSteps 21 = .ok (.ireturn, 1) := by decide +kernel
theorem dX3_doStep_0 : decode cX3_doStep 0 = .ok (.aload_n 0, 1) := by decide +kernel
theorem dX3_doStep_1 : decode cX3_doStep 1 = .ok (.invokevirtual 49, 3) := by decide +kernel
theorem dX3_doStep_4 : decode cX3_doStep 4 = .ok (.ifCond .eq 5, 3) := by decide +kernel
theorem dX3_doStep_7 : decode cX3_doStep 7 = .ok (.iconst 0, 1) := by decide +kernel
theorem dX3_doStep_8 : decode cX3_doStep 8 = .ok (.ireturn, 1) := by decide +kernel
theorem dX3_doStep_9 : decode cX3_doStep 9 = .ok (.aload_n 0, 1) := by decide +kernel
theorem dX3_doStep_10 : decode cX3_doStep 10 = .ok (.getfield 29, 3) := by decide +kernel
theorem dX3_doStep_13 : decode cX3_doStep 13 = .ok (.aload_n 0, 1) := by decide +kernel
theorem dX3_doStep_14 : decode cX3_doStep 14 = .ok (.getfield 32, 3) := by decide +kernel
theorem dX3_doStep_17 : decode cX3_doStep 17 = .ok (.invokestatic 41, 3) := by decide +kernel
theorem dX3_doStep_20 : decode cX3_doStep 20 = .ok (.istore_n 1, 1) := by decide +kernel
theorem dX3_doStep_21 : decode cX3_doStep 21 = .ok (.aload_n 0, 1) := by decide +kernel
theorem dX3_doStep_22 : decode cX3_doStep 22 = .ok (.getfield 19, 3) := by decide +kernel
theorem dX3_doStep_25 : decode cX3_doStep 25 = .ok (.iload_n 1, 1) := by decide +kernel
theorem dX3_doStep_26 : decode cX3_doStep 26 = .ok (.iaload, 1) := by decide +kernel
theorem dX3_doStep_27 : decode cX3_doStep 27 = .ok (.iconst 1, 1) := by decide +kernel
theorem dX3_doStep_28 : decode cX3_doStep 28 = .ok (.if_icmp .ne 7, 3) := by decide +kernel
theorem dX3_doStep_31 : decode cX3_doStep 31 = .ok (.iconst 1, 1) := by decide +kernel
theorem dX3_doStep_32 : decode cX3_doStep 32 = .ok (.goto 4, 3) := by decide +kernel
theorem dX3_doStep_35 : decode cX3_doStep 35 = .ok (.iconst 0, 1) := by decide +kernel
theorem dX3_doStep_36 : decode cX3_doStep 36 = .ok (.istore_n 2, 1) := by decide +kernel
theorem dX3_doStep_37 : decode cX3_doStep 37 = .ok (.iconst 2, 1) := by decide +kernel
theorem dX3_doStep_38 : decode cX3_doStep 38 = .ok (.iload_n 2, 1) := by decide +kernel
theorem dX3_doStep_39 : decode cX3_doStep 39 = .ok (.ifCond .eq 10, 3) := by decide +kernel
theorem dX3_doStep_42 : decode cX3_doStep 42 = .ok (.aload_n 0, 1) := by decide +kernel
theorem dX3_doStep_43 : decode cX3_doStep 43 = .ok (.getfield 35, 3) := by decide +kernel
theorem dX3_doStep_46 : decode cX3_doStep 46 = .ok (.goto 7, 3) := by decide +kernel
theorem dX3_doStep_49 : decode cX3_doStep 49 = .ok (.aload_n 0, 1) := by decide +kernel
theorem dX3_doStep_50 : decode cX3_doStep 50 = .ok (.getfield 38, 3) := by decide +kernel
theorem dX3_doStep_53 : decode cX3_doStep 53 = .ok (.imul, 1) := by decide +kernel
theorem dX3_doStep_54 : decode cX3_doStep 54 = .ok (.aload_n 0, 1) := by decide +kernel
theorem dX3_doStep_55 : decode cX3_doStep 55 = .ok (.getfield 15, 3) := by decide +kernel
theorem dX3_doStep_58 : decode cX3_doStep 58 = .ok (.iload_n 1, 1) := by decide +kernel
theorem dX3_doStep_59 : decode cX3_doStep 59 = .ok (.iaload, 1) := by decide +kernel
theorem dX3_doStep_60 : decode cX3_doStep 60 = .ok (.iadd, 1) := by decide +kernel
theorem dX3_doStep_61 : decode cX3_doStep 61 = .ok (.istore_n 3, 1) := by decide +kernel
theorem dX3_doStep_62 : decode cX3_doStep 62 = .ok (.iload_n 2, 1) := by decide +kernel
theorem dX3_doStep_63 : decode cX3_doStep 63 = .ok (.ifCond .eq 10, 3) := by decide +kernel
theorem dX3_doStep_66 : decode cX3_doStep 66 = .ok (.aload_n 0, 1) := by decide +kernel
theorem dX3_doStep_67 : decode cX3_doStep 67 = .ok (.getfield 38, 3) := by decide +kernel
theorem dX3_doStep_70 : decode cX3_doStep 70 = .ok (.goto 7, 3) := by decide +kernel
theorem dX3_doStep_73 : decode cX3_doStep 73 = .ok (.aload_n 0, 1) := by decide +kernel
theorem dX3_doStep_74 : decode cX3_doStep 74 = .ok (.getfield 35, 3) := by decide +kernel
theorem dX3_doStep_77 : decode cX3_doStep 77 = .ok (.istore 4, 2) := by decide +kernel
theorem dX3_doStep_79 : decode cX3_doStep 79 = .ok (.iload_n 3, 1) := by decide +kernel
theorem dX3_doStep_80 : decode cX3_doStep 80 = .ok (.ldc 52, 2) := by decide +kernel
theorem dX3_doStep_82 : decode cX3_doStep 82 = .ok (.if_icmp .le 5, 3) := by decide +kernel
theorem dX3_doStep_85 : decode cX3_doStep 85 = .ok (.iconst 0, 1) := by decide +kernel
theorem dX3_doStep_86 : decode cX3_doStep 86 = .ok (.ireturn, 1) := by decide +kernel
theorem dX3_doStep_87 : decode cX3_doStep 87 = .ok (.aload_n 0, 1) := by decide +kernel
theorem dX3_doStep_88 : decode cX3_doStep 88 = .ok (.iload_n 2, 1) := by decide +kernel
theorem dX3_doStep_89 : decode cX3_doStep 89 = .ok (.ifCond .eq 7, 3) := by decide +kernel
theorem dX3_doStep_92 : decode cX3_doStep 92 = .ok (.iload_n 3, 1) := by decide +kernel
theorem dX3_doStep_93 : decode cX3_doStep 93 = .ok (.goto 7, 3) := by decide +kernel
theorem dX3_doStep_96 : decode cX3_doStep 96 = .ok (.iload 4, 2) := by decide +kernel
theorem dX3_doStep_98 : decode cX3_doStep 98 = .ok (.iconst 2, 1) := by decide +kernel
theorem dX3_doStep_99 : decode cX3_doStep 99 = .ok (.idiv, 1) := by decide +kernel
theorem dX3_doStep_100 : decode cX3_doStep 100 = .ok (.putfield 35, 3) := by decide +kernel
theorem dX3_doStep_103 : decode cX3_doStep 103 = .ok (.aload_n 0, 1) := by decide +kernel
theorem dX3_doStep_104 : decode cX3_doStep 104 = .ok (.iload_n 2, 1) := by decide +kernel
theorem dX3_doStep_105 : decode cX3_doStep 105 = .ok (.ifCond .eq 10, 3) := by decide +kernel
theorem dX3_doStep_108 : decode cX3_doStep 108 = .ok (.iload 4, 2) := by decide +kernel
theorem dX3_doStep_110 : decode cX3_doStep 110 = .ok (.iconst 2, 1) := by decide +kernel
theorem dX3_doStep_111 : decode cX3_doStep 111 = .ok (.idiv, 1) := by decide +kernel
theorem dX3_doStep_112 : decode cX3_doStep 112 = .ok (.goto 4, 3) := by decide +kernel
theorem dX3_doStep_115 : decode cX3_doStep 115 = .ok (.iload_n 3, 1) := by decide +kernel
theorem dX3_doStep_116 : decode cX3_doStep 116 = .ok (.putfield 38, 3) := by decide +kernel
theorem dX3_doStep_119 : decode cX3_doStep 119 = .ok (.aload_n 0, 1) := by decide +kernel
theorem dX3_doStep_120 : decode cX3_doStep 120 = .ok (.iload 4, 2) := by decide +kernel
theorem dX3_doStep_122 : decode cX3_doStep 122 = .ok (.iconst 2, 1) := by decide +kernel
theorem dX3_doStep_123 : decode cX3_doStep 123 = .ok (.irem, 1) := by decide +kernel
theorem dX3_doStep_124 : decode cX3_doStep 124 = .ok (.putfield 32, 3) := by decide +kernel
theorem dX3_doStep_127 : decode cX3_doStep 127 = .ok (.aload_n 0, 1) := by decide +kernel
theorem dX3_doStep_128 : decode cX3_doStep 128 = .ok (.aload_n 0, 1) := by decide +kernel
theorem dX3_doStep_129 : decode cX3_doStep 129 = .ok (.getfield 22, 3) := by decide +kernel
theorem dX3_doStep_132 : decode cX3_doStep 132 = .ok (.iload_n 1, 1) := by decide +kernel
theorem dX3_doStep_133 : decode cX3_doStep 133 = .ok (.iaload, 1) := by decide +kernel
theorem dX3_doStep_134 : decode cX3_doStep 134 = .ok (.putfield 29, 3) := by decide +kernel
theorem dX3_doStep_137 : decode cX3_doStep 137 = .ok (.iconst 1, 1) := by decide +kernel
theorem dX3_doStep_138 : decode cX3_doStep 138 = .ok (.ireturn, 1) := by decide +kernel
theorem dX4_init_0 : decode cX4_init 0 = .ok (.aload_n 0, 1) := by decide +kernel
theorem dX4_init_1 : decode cX4_init 1 = .ok (.invokespecial 3, 3) := by decide +kernel
theorem dX4_init_4 : decode cX4_init 4 = .ok (.aload_n 0, 1) := by decide +kernel
theorem dX4_init_5 : decode cX4_init 5 = .ok (.bipush 121, 2) := by decide +kernel
theorem dX4_init_7 : decode cX4_init 7 = .ok (.newarray .int, 2) := by decide +kernel
theorem dX4_init_9 : decode cX4_init 9 = .ok (.putfield 9, 3) := by decide +kernel
theorem dX4_init_12 : decode cX4_init 12 = .ok (.aload_n 0, 1) := by decide +kernel
theorem dX4_init_13 : decode cX4_init 13 = .ok (.sipush 484, 3) := by decide +kernel
theorem dX4_init_16 : decode cX4_init 16 = .ok (.newarray .int, 2) := by decide +kernel
theorem dX4_init_18 : decode cX4_init 18 = .ok (.putfield 15, 3) := by decide +kernel
theorem dX4_init_21 : decode cX4_init 21 = .ok (.iconst 0, 1) := by decide +kernel
theorem dX4_init_22 : decode cX4_init 22 = .ok (.istore_n 1, 1) := by decide +kernel
theorem dX4_init_23 : decode cX4_init 23 = .ok (.iload_n 1, 1) := by decide +kernel
theorem dX4_init_24 : decode cX4_init 24 = .ok (.bipush 6, 2) := by decide +kernel
theorem dX4_init_26 : decode cX4_init 26 = .ok (.if_icmp .ge 14, 3) := by decide +kernel
theorem dX4_init_29 : decode cX4_init 29 = .ok (.aload_n 0, 1) := by decide +kernel
theorem dX4_init_30 : decode cX4_init 30 = .ok (.iload_n 1, 1) := by decide +kernel
theorem dX4_init_31 : decode cX4_init 31 = .ok (.invokevirtual 18, 3) := by decide +kernel
theorem dX4_init_34 : decode cX4_init 34 = .ok (.iinc 1 1, 3) := by decide +kernel
theorem dX4_init_37 : decode cX4_init 37 = .ok (.goto (-14), 3) := by decide +kernel
theorem dX4_init_40 : decode cX4_init 40 = .ok (.return_, 1) := by decide +kernel
theorem dX4_followNone_0 : decode cX4_followNone 0 = .ok (.iconst 1, 1) := by decide +kernel
theorem dX4_followNone_1 : decode cX4_followNone 1 = .ok (.istore_n 2, 1) := by decide +kernel
theorem dX4_followNone_2 : decode cX4_followNone 2 = .ok (.iload_n 2, 1) := by decide +kernel
theorem dX4_followNone_3 : decode cX4_followNone 3 = .ok (.bipush 20, 2) := by decide +kernel
theorem dX4_followNone_5 : decode cX4_followNone 5 = .ok (.if_icmp .gt 21, 3) := by decide +kernel
theorem dX4_followNone_8 : decode cX4_followNone 8 = .ok (.aload_n 0, 1) := by decide +kernel
theorem dX4_followNone_9 : decode cX4_followNone 9 = .ok (.getfield 9, 3) := by decide +kernel
theorem dX4_followNone_12 : decode cX4_followNone 12 = .ok (.iload_n 1, 1) := by decide +kernel
theorem dX4_followNone_13 : decode cX4_followNone 13 = .ok (.bipush 20, 2) := by decide +kernel
theorem dX4_followNone_15 : decode cX4_followNone 15 = .ok (.imul, 1) := by decide +kernel
theorem dX4_followNone_16 : decode cX4_followNone 16 = .ok (.iload_n 2, 1) := by decide +kernel
theorem dX4_followNone_17 : decode cX4_followNone 17 = .ok (.iadd, 1) := by decide +kernel
theorem dX4_followNone_18 : decode cX4_followNone 18 = .ok (.iconst 0, 1) := by decide +kernel
theorem dX4_followNone_19 : decode cX4_followNone 19 = .ok (.iastore, 1) := by decide +kernel
theorem dX4_followNone_20 : decode cX4_followNone 20 = .ok (.iinc 2 1, 3) := by decide +kernel
theorem dX4_followNone_23 : decode cX4_followNone 23 = .ok (.goto (-21), 3) := by decide +kernel
theorem dX4_followNone_26 : decode cX4_followNone 26 = .ok (.aload_n 0, 1) := by decide +kernel
theorem dX4_followNone_27 : decode cX4_followNone 27 = .ok (.ldc 22, 2) := by decide +kernel
theorem dX4_followNone_29 : decode cX4_followNone 29 = .ok (.iload_n 1, 1) := by decide +kernel
theorem dX4_followNone_30 : decode cX4_followNone 30 = .ok (.iconst 0, 1) := by decide +kernel
theorem dX4_followNone_31 : decode cX4_followNone 31 = .ok (.invokevirtual 24, 3) := by decide +kernel
theorem dX4_followNone_34 : decode cX4_followNone 34 = .ok (.return_, 1) := by decide +kernel
theorem dX4_follow_0 : decode cX4_follow 0 = .ok (.iload_n 3, 1) := by decide +kernel
theorem dX4_follow_1 : decode cX4_follow 1 = .ok (.iconst 1, 1) := by decide +kernel
theorem dX4_follow_2 : decode cX4_follow 2 = .ok (.if_icmp .ne 7, 3) := by decide +kernel
theorem dX4_follow_5 : decode cX4_follow 5 = .ok (.iconst 1, 1) := by decide +kernel
theorem dX4_follow_6 : decode cX4_follow 6 = .ok (.goto 4, 3) := by decide +kernel
theorem dX4_follow_9 : decode cX4_follow 9 = .ok (.iconst 0, 1) := by decide +kernel
theorem dX4_follow_10 : decode cX4_follow 10 = .ok (.istore 5, 2) := by decide +kernel
theorem dX4_follow_12 : decode cX4_follow 12 = .ok (.aload_n 0, 1) := by decide +kernel
theorem dX4_follow_13 : decode cX4_follow 13 = .ok (.iload_n 1, 1) := by decide +kernel
theorem dX4_follow_14 : decode cX4_follow 14 = .ok (.invokevirtual 18, 3) := by decide +kernel
theorem dX4_follow_17 : decode cX4_follow 17 = .ok (.aload_n 0, 1) := by decide +kernel
theorem dX4_follow_18 : decode cX4_follow 18 = .ok (.ldc 30, 2) := by decide +kernel
theorem dX4_follow_20 : decode cX4_follow 20 = .ok (.iload_n 1, 1) := by decide +kernel
theorem dX4_follow_21 : decode cX4_follow 21 = .ok (.iload 4, 2) := by decide +kernel
theorem dX4_follow_23 : decode cX4_follow 23 = .ok (.invokevirtual 24, 3) := by decide +kernel
theorem dX4_follow_26 : decode cX4_follow 26 = .ok (.aload_n 0, 1) := by decide +kernel
theorem dX4_follow_27 : decode cX4_follow 27 = .ok (.iload 5, 2) := by decide +kernel
theorem dX4_follow_29 : decode cX4_follow 29 = .ok (.ifCond .eq 8, 3) := by decide +kernel
theorem dX4_follow_32 : decode cX4_follow 32 = .ok (.ldc 32, 2) := by decide +kernel
theorem dX4_follow_34 : decode cX4_follow 34 = .ok (.goto 5, 3) := by decide +kernel
theorem dX4_follow_37 : decode cX4_follow 37 = .ok (.ldc 34, 2) := by decide +kernel
theorem dX4_follow_39 : decode cX4_follow 39 = .ok (.iload_n 1, 1) := by decide +kernel
theorem dX4_follow_40 : decode cX4_follow 40 = .ok (.iload 4, 2) := by decide +kernel
theorem dX4_follow_42 : decode cX4_follow 42 = .ok (.invokevirtual 24, 3) := by decide +kernel
theorem dX4_follow_45 : decode cX4_follow 45 = .ok (.iload_n 2, 1) := by decide +kernel
theorem dX4_follow_46 : decode cX4_follow 46 = .ok (.iconst 1, 1) := by decide +kernel
theorem dX4_follow_47 : decode cX4_follow 47 = .ok (.if_icmp .ne 22, 3) := by decide +kernel
theorem dX4_follow_50 : decode cX4_follow 50 = .ok (.aload_n 0, 1) := by decide +kernel
theorem dX4_follow_51 : decode cX4_follow 51 = .ok (.iload 5, 2) := by decide +kernel
theorem dX4_follow_53 : decode cX4_follow 53 = .ok (.ifCond .eq 8, 3) := by decide +kernel
theorem dX4_follow_56 : decode cX4_follow 56 = .ok (.ldc 36, 2) := by decide +kernel
theorem dX4_follow_58 : decode cX4_follow 58 = .ok (.goto 5, 3) := by decide +kernel
theorem dX4_follow_61 : decode cX4_follow 61 = .ok (.ldc 38, 2) := by decide +kernel
theorem dX4_follow_63 : decode cX4_follow 63 = .ok (.iload_n 1, 1) := by decide +kernel
theorem dX4_follow_64 : decode cX4_follow 64 = .ok (.iload 4, 2) := by decide +kernel
theorem dX4_follow_66 : decode cX4_follow 66 = .ok (.invokevirtual 24, 3) := by decide +kernel
theorem dX4_follow_69 : decode cX4_follow 69 = .ok (.return_, 1) := by decide +kernel
theorem dX4_write_0 : decode cX4_write 0 = .ok (.iconst 0, 1) := by decide +kernel
theorem dX4_write_1 : decode cX4_write 1 = .ok (.istore 4, 2) := by decide +kernel
theorem dX4_write_3 : decode cX4_write 3 = .ok (.iconst 0, 1) := by decide +kernel
theorem dX4_write_4 : decode cX4_write 4 = .ok (.istore 5, 2) := by decide +kernel
theorem dX4_write_6 : decode cX4_write 6 = .ok (.iload 5, 2) := by decide +kernel
theorem dX4_write_8 : decode cX4_write 8 = .ok (.aload_n 1, 1) := by decide +kernel
theorem dX4_write_9 : decode cX4_write 9 = .ok (.invokevirtual 40, 3) := by decide +kernel
theorem dX4_write_12 : decode cX4_write 12 = .ok (.if_icmp .ge 89, 3) := by decide +kernel
theorem dX4_write_15 : decode cX4_write 15 = .ok (.iload 5, 2) := by decide +kernel
theorem dX4_write_17 : decode cX4_write 17 = .ok (.iconst 1, 1) := by decide +kernel
theorem dX4_write_18 : decode cX4_write 18 = .ok (.iadd, 1) := by decide +kernel
theorem dX4_write_19 : decode cX4_write 19 = .ok (.aload_n 1, 1) := by decide +kernel
theorem dX4_write_20 : decode cX4_write 20 = .ok (.invokevirtual 40, 3) := by decide +kernel
theorem dX4_write_23 : decode cX4_write 23 = .ok (.if_icmp .ge 14, 3) := by decide +kernel
theorem dX4_write_26 : decode cX4_write 26 = .ok (.aload_n 1, 1) := by decide +kernel
theorem dX4_write_27 : decode cX4_write 27 = .ok (.iload 5, 2) := by decide +kernel
theorem dX4_write_29 : decode cX4_write 29 = .ok (.iconst 1, 1) := by decide +kernel
theorem dX4_write_30 : decode cX4_write 30 = .ok (.iadd, 1) := by decide +kernel
theorem dX4_write_31 : decode cX4_write 31 = .ok (.invokevirtual 46, 3) := by decide +kernel
theorem dX4_write_34 : decode cX4_write 34 = .ok (.goto 5, 3) := by decide +kernel
theorem dX4_write_37 : decode cX4_write 37 = .ok (.bipush 32, 2) := by decide +kernel
theorem dX4_write_39 : decode cX4_write 39 = .ok (.istore 6, 2) := by decide +kernel
theorem dX4_write_41 : decode cX4_write 41 = .ok (.ldc 50, 2) := by decide +kernel
theorem dX4_write_43 : decode cX4_write 43 = .ok (.aload_n 1, 1) := by decide +kernel
theorem dX4_write_44 : decode cX4_write 44 = .ok (.iload 5, 2) := by decide +kernel
theorem dX4_write_46 : decode cX4_write 46 = .ok (.invokevirtual 46, 3) := by decide +kernel
theorem dX4_write_49 : decode cX4_write 49 = .ok (.invokevirtual 52, 3) := by decide +kernel
theorem dX4_write_52 : decode cX4_write 52 = .ok (.istore 7, 2) := by decide +kernel
theorem dX4_write_54 : decode cX4_write 54 = .ok (.iload 6, 2) := by decide +kernel
theorem dX4_write_56 : decode cX4_write 56 = .ok (.bipush 58, 2) := by decide +kernel
theorem dX4_write_58 : decode cX4_write 58 = .ok (.if_icmp .ne 14, 3) := by decide +kernel
theorem dX4_write_61 : decode cX4_write 61 = .ok (.iload 7, 2) := by decide +kernel
theorem dX4_write_63 : decode cX4_write 63 = .ok (.iload_n 2, 1) := by decide +kernel
theorem dX4_write_64 : decode cX4_write 64 = .ok (.invokestatic 56, 3) := by decide +kernel
theorem dX4_write_67 : decode cX4_write 67 = .ok (.istore 4, 2) := by decide +kernel
theorem dX4_write_69 : decode cX4_write 69 = .ok (.goto 26, 3) := by decide +kernel
theorem dX4_write_72 : decode cX4_write 72 = .ok (.iload 7, 2) := by decide +kernel
theorem dX4_write_74 : decode cX4_write 74 = .ok (.ifCond .lt 21, 3) := by decide +kernel
theorem dX4_write_77 : decode cX4_write 77 = .ok (.aload_n 0, 1) := by decide +kernel
theorem dX4_write_78 : decode cX4_write 78 = .ok (.iload 4, 2) := by decide +kernel
theorem dX4_write_80 : decode cX4_write 80 = .ok (.iload 7, 2) := by decide +kernel
theorem dX4_write_82 : decode cX4_write 82 = .ok (.iload 6, 2) := by decide +kernel
theorem dX4_write_84 : decode cX4_write 84 = .ok (.iload_n 2, 1) := by decide +kernel
theorem dX4_write_85 : decode cX4_write 85 = .ok (.iload_n 3, 1) := by decide +kernel
theorem dX4_write_86 : decode cX4_write 86 = .ok (.invokestatic 60, 3) := by decide +kernel
theorem dX4_write_89 : decode cX4_write 89 = .ok (.invokestatic 56, 3) := by decide +kernel
theorem dX4_write_92 : decode cX4_write 92 = .ok (.invokevirtual 64, 3) := by decide +kernel
theorem dX4_write_95 : decode cX4_write 95 = .ok (.iinc 5 1, 3) := by decide +kernel
theorem dX4_write_98 : decode cX4_write 98 = .ok (.goto (-92), 3) := by decide +kernel
theorem dX4_write_101 : decode cX4_write 101 = .ok (.return_, 1) := by decide +kernel
theorem dX4_pairMarked_0 : decode cX4_pairMarked 0 = .ok (.iload_n 0, 1) := by decide +kernel
theorem dX4_pairMarked_1 : decode cX4_pairMarked 1 = .ok (.bipush 48, 2) := by decide +kernel
theorem dX4_pairMarked_3 : decode cX4_pairMarked 3 = .ok (.if_icmp .ne 9, 3) := by decide +kernel
theorem dX4_pairMarked_6 : decode cX4_pairMarked 6 = .ok (.iload_n 2, 1) := by decide +kernel
theorem dX4_pairMarked_7 : decode cX4_pairMarked 7 = .ok (.iconst 0, 1) := by decide +kernel
theorem dX4_pairMarked_8 : decode cX4_pairMarked 8 = .ok (.invokestatic 68, 3) := by decide +kernel
theorem dX4_pairMarked_11 : decode cX4_pairMarked 11 = .ok (.ireturn, 1) := by decide +kernel
theorem dX4_pairMarked_12 : decode cX4_pairMarked 12 = .ok (.iload_n 0, 1) := by decide +kernel
theorem dX4_pairMarked_13 : decode cX4_pairMarked 13 = .ok (.bipush 49, 2) := by decide +kernel
theorem dX4_pairMarked_15 : decode cX4_pairMarked 15 = .ok (.if_icmp .ne 11, 3) := by decide +kernel
theorem dX4_pairMarked_18 : decode cX4_pairMarked 18 = .ok (.iload_n 2, 1) := by decide +kernel
theorem dX4_pairMarked_19 : decode cX4_pairMarked 19 = .ok (.iconst 1, 1) := by decide +kernel
theorem dX4_pairMarked_20 : decode cX4_pairMarked 20 = .ok (.invokestatic 68, 3) := by decide +kernel
theorem dX4_pairMarked_23 : decode cX4_pairMarked 23 = .ok (.goto 4, 3) := by decide +kernel
theorem dX4_pairMarked_26 : decode cX4_pairMarked 26 = .ok (.iload_n 1, 1) := by decide +kernel
theorem dX4_pairMarked_27 : decode cX4_pairMarked 27 = .ok (.ireturn, 1) := by decide +kernel
theorem dX4_number_0 : decode cX4_number 0 = .ok (.iload_n 0, 1) := by decide +kernel
theorem dX4_number_1 : decode cX4_number 1 = .ok (.ifCond .gt 7, 3) := by decide +kernel
theorem dX4_number_4 : decode cX4_number 4 = .ok (.iconst 0, 1) := by decide +kernel
theorem dX4_number_5 : decode cX4_number 5 = .ok (.goto 9, 3) := by decide +kernel
theorem dX4_number_8 : decode cX4_number 8 = .ok (.iload_n 1, 1) := by decide +kernel
theorem dX4_number_9 : decode cX4_number 9 = .ok (.bipush 20, 2) := by decide +kernel
theorem dX4_number_11 : decode cX4_number 11 = .ok (.imul, 1) := by decide +kernel
theorem dX4_number_12 : decode cX4_number 12 = .ok (.iload_n 0, 1) := by decide +kernel
theorem dX4_number_13 : decode cX4_number 13 = .ok (.iadd, 1) := by decide +kernel
theorem dX4_number_14 : decode cX4_number 14 = .ok (.ireturn, 1) := by decide +kernel
theorem dX4_append_0 : decode cX4_append 0 = .ok (.aload_n 0, 1) := by decide +kernel
theorem dX4_append_1 : decode cX4_append 1 = .ok (.getfield 9, 3) := by decide +kernel
theorem dX4_append_4 : decode cX4_append 4 = .ok (.iload_n 1, 1) := by decide +kernel
theorem dX4_append_5 : decode cX4_append 5 = .ok (.iaload, 1) := by decide +kernel
theorem dX4_append_6 : decode cX4_append 6 = .ok (.iconst 4, 1) := by decide +kernel
theorem dX4_append_7 : decode cX4_append 7 = .ok (.if_icmp .ge 29, 3) := by decide +kernel
theorem dX4_append_10 : decode cX4_append 10 = .ok (.aload_n 0, 1) := by decide +kernel
theorem dX4_append_11 : decode cX4_append 11 = .ok (.getfield 15, 3) := by decide +kernel
theorem dX4_append_14 : decode cX4_append 14 = .ok (.iload_n 1, 1) := by decide +kernel
theorem dX4_append_15 : decode cX4_append 15 = .ok (.iconst 4, 1) := by decide +kernel
theorem dX4_append_16 : decode cX4_append 16 = .ok (.imul, 1) := by decide +kernel
theorem dX4_append_17 : decode cX4_append 17 = .ok (.aload_n 0, 1) := by decide +kernel
theorem dX4_append_18 : decode cX4_append 18 = .ok (.getfield 9, 3) := by decide +kernel
theorem dX4_append_21 : decode cX4_append 21 = .ok (.iload_n 1, 1) := by decide +kernel
theorem dX4_append_22 : decode cX4_append 22 = .ok (.iaload, 1) := by decide +kernel
theorem dX4_append_23 : decode cX4_append 23 = .ok (.iadd, 1) := by decide +kernel
theorem dX4_append_24 : decode cX4_append 24 = .ok (.iload_n 2, 1) := by decide +kernel
theorem dX4_append_25 : decode cX4_append 25 = .ok (.iastore, 1) := by decide +kernel
theorem dX4_append_26 : decode cX4_append 26 = .ok (.aload_n 0, 1) := by decide +kernel
theorem dX4_append_27 : decode cX4_append 27 = .ok (.getfield 9, 3) := by decide +kernel
theorem dX4_append_30 : decode cX4_append 30 = .ok (.iload_n 1, 1) := by decide +kernel
theorem dX4_append_31 : decode cX4_append 31 = .ok (.dup2, 1) := by decide +kernel
theorem dX4_append_32 : decode cX4_append 32 = .ok (.iaload, 1) := by decide +kernel
theorem dX4_append_33 : decode cX4_append 33 = .ok (.iconst 1, 1) := by decide +kernel
theorem dX4_append_34 : decode cX4_append 34 = .ok (.iadd, 1) := by decide +kernel
theorem dX4_append_35 : decode cX4_append 35 = .ok (.iastore, 1) := by decide +kernel
theorem dX4_append_36 : decode cX4_append 36 = .ok (.return_, 1) := by decide +kernel
theorem dX4_sizeOf_0 : decode cX4_sizeOf 0 = .ok (.iload_n 1, 1) := by decide +kernel
theorem dX4_sizeOf_1 : decode cX4_sizeOf 1 = .ok (.iconst 0, 1) := by decide +kernel
theorem dX4_sizeOf_2 : decode cX4_sizeOf 2 = .ok (.bipush 120, 2) := by decide +kernel
theorem dX4_sizeOf_4 : decode cX4_sizeOf 4 = .ok (.invokestatic 71, 3) := by decide +kernel
theorem dX4_sizeOf_7 : decode cX4_sizeOf 7 = .ok (.ifCond .eq 7, 3) := by decide +kernel
theorem dX4_sizeOf_10 : decode cX4_sizeOf 10 = .ok (.iconst 0, 1) := by decide +kernel
theorem dX4_sizeOf_11 : decode cX4_sizeOf 11 = .ok (.goto 9, 3) := by decide +kernel
theorem dX4_sizeOf_14 : decode cX4_sizeOf 14 = .ok (.aload_n 0, 1) := by decide +kernel
theorem dX4_sizeOf_15 : decode cX4_sizeOf 15 = .ok (.getfield 9, 3) := by decide +kernel
theorem dX4_sizeOf_18 : decode cX4_sizeOf 18 = .ok (.iload_n 1, 1) := by decide +kernel
theorem dX4_sizeOf_19 : decode cX4_sizeOf 19 = .ok (.iaload, 1) := by decide +kernel
theorem dX4_sizeOf_20 : decode cX4_sizeOf 20 = .ok (.ireturn, 1) := by decide +kernel
theorem dX4_letterAt_0 : decode cX4_letterAt 0 = .ok (.iload_n 2, 1) := by decide +kernel
theorem dX4_letterAt_1 : decode cX4_letterAt 1 = .ok (.iconst 0, 1) := by decide +kernel
theorem dX4_letterAt_2 : decode cX4_letterAt 2 = .ok (.aload_n 0, 1) := by decide +kernel
theorem dX4_letterAt_3 : decode cX4_letterAt 3 = .ok (.iload_n 1, 1) := by decide +kernel
theorem dX4_letterAt_4 : decode cX4_letterAt 4 = .ok (.invokevirtual 75, 3) := by decide +kernel
theorem dX4_letterAt_7 : decode cX4_letterAt 7 = .ok (.iconst 1, 1) := by decide +kernel
theorem dX4_letterAt_8 : decode cX4_letterAt 8 = .ok (.isub, 1) := by decide +kernel
theorem dX4_letterAt_9 : decode cX4_letterAt 9 = .ok (.invokestatic 71, 3) := by decide +kernel
theorem dX4_letterAt_12 : decode cX4_letterAt 12 = .ok (.ifCond .eq 8, 3) := by decide +kernel
theorem dX4_letterAt_15 : decode cX4_letterAt 15 = .ok (.bipush (-9), 2) := by decide +kernel
theorem dX4_letterAt_17 : decode cX4_letterAt 17 = .ok (.goto 13, 3) := by decide +kernel
theorem dX4_letterAt_20 : decode cX4_letterAt 20 = .ok (.aload_n 0, 1) := by decide +kernel
theorem dX4_letterAt_21 : decode cX4_letterAt 21 = .ok (.getfield 15, 3) := by decide +kernel
theorem dX4_letterAt_24 : decode cX4_letterAt 24 = .ok (.iload_n 1, 1) := by decide +kernel
theorem dX4_letterAt_25 : decode cX4_letterAt 25 = .ok (.iconst 4, 1) := by decide +kernel
theorem dX4_letterAt_26 : decode cX4_letterAt 26 = .ok (.imul, 1) := by decide +kernel
theorem dX4_letterAt_27 : decode cX4_letterAt 27 = .ok (.iload_n 2, 1) := by decide +kernel
theorem dX4_letterAt_28 : decode cX4_letterAt 28 = .ok (.iadd, 1) := by decide +kernel
theorem dX4_letterAt_29 : decode cX4_letterAt 29 = .ok (.iaload, 1) := by decide +kernel
theorem dX4_letterAt_30 : decode cX4_letterAt 30 = .ok (.ireturn, 1) := by decide +kernel
theorem dX4_bitAt_0 : decode cX4_bitAt 0 = .ok (.iload_n 2, 1) := by decide +kernel
theorem dX4_bitAt_1 : decode cX4_bitAt 1 = .ok (.iconst 0, 1) := by decide +kernel
theorem dX4_bitAt_2 : decode cX4_bitAt 2 = .ok (.aload_n 0, 1) := by decide +kernel
theorem dX4_bitAt_3 : decode cX4_bitAt 3 = .ok (.iload_n 1, 1) := by decide +kernel
theorem dX4_bitAt_4 : decode cX4_bitAt 4 = .ok (.invokevirtual 75, 3) := by decide +kernel
theorem dX4_bitAt_7 : decode cX4_bitAt 7 = .ok (.bipush 121, 2) := by decide +kernel
theorem dX4_bitAt_9 : decode cX4_bitAt 9 = .ok (.imul, 1) := by decide +kernel
theorem dX4_bitAt_10 : decode cX4_bitAt 10 = .ok (.iconst 1, 1) := by decide +kernel
theorem dX4_bitAt_11 : decode cX4_bitAt 11 = .ok (.isub, 1) := by decide +kernel
theorem dX4_bitAt_12 : decode cX4_bitAt 12 = .ok (.invokestatic 71, 3) := by decide +kernel
theorem dX4_bitAt_15 : decode cX4_bitAt 15 = .ok (.ifCond .eq 6, 3) := by decide +kernel
theorem dX4_bitAt_18 : decode cX4_bitAt 18 = .ok (.bipush (-9), 2) := by decide +kernel
theorem dX4_bitAt_20 : decode cX4_bitAt 20 = .ok (.ireturn, 1) := by decide +kernel
theorem dX4_bitAt_21 : decode cX4_bitAt 21 = .ok (.aload_n 0, 1) := by decide +kernel
theorem dX4_bitAt_22 : decode cX4_bitAt 22 = .ok (.iload_n 1, 1) := by decide +kernel
theorem dX4_bitAt_23 : decode cX4_bitAt 23 = .ok (.iload_n 2, 1) := by decide +kernel
theorem dX4_bitAt_24 : decode cX4_bitAt 24 = .ok (.bipush 121, 2) := by decide +kernel
theorem dX4_bitAt_26 : decode cX4_bitAt 26 = .ok (.idiv, 1) := by decide +kernel
theorem dX4_bitAt_27 : decode cX4_bitAt 27 = .ok (.invokevirtual 78, 3) := by decide +kernel
theorem dX4_bitAt_30 : decode cX4_bitAt 30 = .ok (.iload_n 2, 1) := by decide +kernel
theorem dX4_bitAt_31 : decode cX4_bitAt 31 = .ok (.bipush 121, 2) := by decide +kernel
theorem dX4_bitAt_33 : decode cX4_bitAt 33 = .ok (.irem, 1) := by decide +kernel
theorem dX4_bitAt_34 : decode cX4_bitAt 34 = .ok (.if_icmp .ne 7, 3) := by decide +kernel
theorem dX4_bitAt_37 : decode cX4_bitAt 37 = .ok (.iconst 1, 1) := by decide +kernel
theorem dX4_bitAt_38 : decode cX4_bitAt 38 = .ok (.goto 4, 3) := by decide +kernel
theorem dX4_bitAt_41 : decode cX4_bitAt 41 = .ok (.iconst 0, 1) := by decide +kernel
theorem dX4_bitAt_42 : decode cX4_bitAt 42 = .ok (.invokestatic 81, 3) := by decide +kernel
theorem dX4_bitAt_45 : decode cX4_bitAt 45 = .ok (.ireturn, 1) := by decide +kernel
theorem dX4_appendTo_0 : decode cX4_appendTo 0 = .ok (.iload_n 2, 1) := by decide +kernel
theorem dX4_appendTo_1 : decode cX4_appendTo 1 = .ok (.iconst 4, 1) := by decide +kernel
theorem dX4_appendTo_2 : decode cX4_appendTo 2 = .ok (.imul, 1) := by decide +kernel
theorem dX4_appendTo_3 : decode cX4_appendTo 3 = .ok (.istore_n 3, 1) := by decide +kernel
theorem dX4_appendTo_4 : decode cX4_appendTo 4 = .ok (.iload_n 3, 1) := by decide +kernel
theorem dX4_appendTo_5 : decode cX4_appendTo 5 = .ok (.aload_n 0, 1) := by decide +kernel
theorem dX4_appendTo_6 : decode cX4_appendTo 6 = .ok (.iload_n 2, 1) := by decide +kernel
theorem dX4_appendTo_7 : decode cX4_appendTo 7 = .ok (.invokevirtual 75, 3) := by decide +kernel
theorem dX4_appendTo_10 : decode cX4_appendTo 10 = .ok (.iadd, 1) := by decide +kernel
theorem dX4_appendTo_11 : decode cX4_appendTo 11 = .ok (.istore 4, 2) := by decide +kernel
theorem dX4_appendTo_13 : decode cX4_appendTo 13 = .ok (.iload_n 3, 1) := by decide +kernel
theorem dX4_appendTo_14 : decode cX4_appendTo 14 = .ok (.istore 5, 2) := by decide +kernel
theorem dX4_appendTo_16 : decode cX4_appendTo 16 = .ok (.iload 5, 2) := by decide +kernel
theorem dX4_appendTo_18 : decode cX4_appendTo 18 = .ok (.iload 4, 2) := by decide +kernel
theorem dX4_appendTo_20 : decode cX4_appendTo 20 = .ok (.if_icmp .ge 20, 3) := by decide +kernel
theorem dX4_appendTo_23 : decode cX4_appendTo 23 = .ok (.aload_n 1, 1) := by decide +kernel
theorem dX4_appendTo_24 : decode cX4_appendTo 24 = .ok (.aload_n 0, 1) := by decide +kernel
theorem dX4_appendTo_25 : decode cX4_appendTo 25 = .ok (.getfield 15, 3) := by decide +kernel
theorem dX4_appendTo_28 : decode cX4_appendTo 28 = .ok (.iload 5, 2) := by decide +kernel
theorem dX4_appendTo_30 : decode cX4_appendTo 30 = .ok (.iaload, 1) := by decide +kernel
theorem dX4_appendTo_31 : decode cX4_appendTo 31 = .ok (.invokevirtual 85, 3) := by decide +kernel
theorem dX4_appendTo_34 : decode cX4_appendTo 34 = .ok (.iinc 5 1, 3) := by decide +kernel
theorem dX4_appendTo_37 : decode cX4_appendTo 37 = .ok (.goto (-21), 3) := by decide +kernel
theorem dX4_appendTo_40 : decode cX4_appendTo 40 = .ok (.return_, 1) := by decide +kernel
theorem dX5_init_0 : decode cX5_init 0 = .ok (.aload_n 0, 1) := by decide +kernel
theorem dX5_init_1 : decode cX5_init 1 = .ok (.invokespecial 3, 3) := by decide +kernel
theorem dX5_init_4 : decode cX5_init 4 = .ok (.aload_n 0, 1) := by decide +kernel
theorem dX5_init_5 : decode cX5_init 5 = .ok (.new 9, 3) := by decide +kernel
theorem dX5_init_8 : decode cX5_init 8 = .ok (.dup, 1) := by decide +kernel
theorem dX5_init_9 : decode cX5_init 9 = .ok (.sipush 600, 3) := by decide +kernel
theorem dX5_init_12 : decode cX5_init 12 = .ok (.invokespecial 11, 3) := by decide +kernel
theorem dX5_init_15 : decode cX5_init 15 = .ok (.putfield 14, 3) := by decide +kernel
theorem dX5_init_18 : decode cX5_init 18 = .ok (.aload_n 0, 1) := by decide +kernel
theorem dX5_init_19 : decode cX5_init 19 = .ok (.new 9, 3) := by decide +kernel
theorem dX5_init_22 : decode cX5_init 22 = .ok (.dup, 1) := by decide +kernel
theorem dX5_init_23 : decode cX5_init 23 = .ok (.sipush 600, 3) := by decide +kernel
theorem dX5_init_26 : decode cX5_init 26 = .ok (.invokespecial 11, 3) := by decide +kernel
theorem dX5_init_29 : decode cX5_init 29 = .ok (.putfield 20, 3) := by decide +kernel
theorem dX5_init_32 : decode cX5_init 32 = .ok (.return_, 1) := by decide +kernel
theorem dX5_layPlace_0 : decode cX5_layPlace 0 = .ok (.iconst 4, 1) := by decide +kernel
theorem dX5_layPlace_1 : decode cX5_layPlace 1 = .ok (.iconst 2, 1) := by decide +kernel
theorem dX5_layPlace_2 : decode cX5_layPlace 2 = .ok (.iload_n 2, 1) := by decide +kernel
theorem dX5_layPlace_3 : decode cX5_layPlace 3 = .ok (.iload_n 3, 1) := by decide +kernel
theorem dX5_layPlace_4 : decode cX5_layPlace 4 = .ok (.iadd, 1) := by decide +kernel
theorem dX5_layPlace_5 : decode cX5_layPlace 5 = .ok (.imul, 1) := by decide +kernel
theorem dX5_layPlace_6 : decode cX5_layPlace 6 = .ok (.iadd, 1) := by decide +kernel
theorem dX5_layPlace_7 : decode cX5_layPlace 7 = .ok (.sipush 600, 3) := by decide +kernel
theorem dX5_layPlace_10 : decode cX5_layPlace 10 = .ok (.if_icmp .le 6, 3) := by decide +kernel
theorem dX5_layPlace_13 : decode cX5_layPlace 13 = .ok (.bipush (-3), 2) := by decide +kernel
theorem dX5_layPlace_15 : decode cX5_layPlace 15 = .ok (.ireturn, 1) := by decide +kernel
theorem dX5_layPlace_16 : decode cX5_layPlace 16 = .ok (.iload_n 1, 1) := by decide +kernel
theorem dX5_layPlace_17 : decode cX5_layPlace 17 = .ok (.bipush 20, 2) := by decide +kernel
theorem dX5_layPlace_19 : decode cX5_layPlace 19 = .ok (.imul, 1) := by decide +kernel
theorem dX5_layPlace_20 : decode cX5_layPlace 20 = .ok (.istore 4, 2) := by decide +kernel
theorem dX5_layPlace_22 : decode cX5_layPlace 22 = .ok (.aload_n 0, 1) := by decide +kernel
theorem dX5_layPlace_23 : decode cX5_layPlace 23 = .ok (.getfield 14, 3) := by decide +kernel
theorem dX5_layPlace_26 : decode cX5_layPlace 26 = .ok (.invokevirtual 23, 3) := by decide +kernel
theorem dX5_layPlace_29 : decode cX5_layPlace 29 = .ok (.aload_n 0, 1) := by decide +kernel
theorem dX5_layPlace_30 : decode cX5_layPlace 30 = .ok (.iload 4, 2) := by decide +kernel
theorem dX5_layPlace_32 : decode cX5_layPlace 32 = .ok (.iconst 1, 1) := by decide +kernel
theorem dX5_layPlace_33 : decode cX5_layPlace 33 = .ok (.iadd, 1) := by decide +kernel
theorem dX5_layPlace_34 : decode cX5_layPlace 34 = .ok (.iconst 1, 1) := by decide +kernel
theorem dX5_layPlace_35 : decode cX5_layPlace 35 = .ok (.invokevirtual 26, 3) := by decide +kernel
theorem dX5_layPlace_38 : decode cX5_layPlace 38 = .ok (.aload_n 0, 1) := by decide +kernel
theorem dX5_layPlace_39 : decode cX5_layPlace 39 = .ok (.iload 4, 2) := by decide +kernel
theorem dX5_layPlace_41 : decode cX5_layPlace 41 = .ok (.iconst 2, 1) := by decide +kernel
theorem dX5_layPlace_42 : decode cX5_layPlace 42 = .ok (.iadd, 1) := by decide +kernel
theorem dX5_layPlace_43 : decode cX5_layPlace 43 = .ok (.iload_n 2, 1) := by decide +kernel
theorem dX5_layPlace_44 : decode cX5_layPlace 44 = .ok (.invokevirtual 26, 3) := by decide +kernel
theorem dX5_layPlace_47 : decode cX5_layPlace 47 = .ok (.aload_n 0, 1) := by decide +kernel
theorem dX5_layPlace_48 : decode cX5_layPlace 48 = .ok (.iload 4, 2) := by decide +kernel
theorem dX5_layPlace_50 : decode cX5_layPlace 50 = .ok (.iconst 5, 1) := by decide +kernel
theorem dX5_layPlace_51 : decode cX5_layPlace 51 = .ok (.iadd, 1) := by decide +kernel
theorem dX5_layPlace_52 : decode cX5_layPlace 52 = .ok (.iconst 1, 1) := by decide +kernel
theorem dX5_layPlace_53 : decode cX5_layPlace 53 = .ok (.invokevirtual 26, 3) := by decide +kernel
theorem dX5_layPlace_56 : decode cX5_layPlace 56 = .ok (.aload_n 0, 1) := by decide +kernel
theorem dX5_layPlace_57 : decode cX5_layPlace 57 = .ok (.iload 4, 2) := by decide +kernel
theorem dX5_layPlace_59 : decode cX5_layPlace 59 = .ok (.bipush 6, 2) := by decide +kernel
theorem dX5_layPlace_61 : decode cX5_layPlace 61 = .ok (.iadd, 1) := by decide +kernel
theorem dX5_layPlace_62 : decode cX5_layPlace 62 = .ok (.iload_n 3, 1) := by decide +kernel
theorem dX5_layPlace_63 : decode cX5_layPlace 63 = .ok (.invokevirtual 26, 3) := by decide +kernel
theorem dX5_layPlace_66 : decode cX5_layPlace 66 = .ok (.aload_n 0, 1) := by decide +kernel
theorem dX5_layPlace_67 : decode cX5_layPlace 67 = .ok (.getfield 14, 3) := by decide +kernel
theorem dX5_layPlace_70 : decode cX5_layPlace 70 = .ok (.getfield 30, 3) := by decide +kernel
theorem dX5_layPlace_73 : decode cX5_layPlace 73 = .ok (.ireturn, 1) := by decide +kernel
theorem dX5_appendTwos_0 : decode cX5_appendTwos 0 = .ok (.iconst 0, 1) := by decide +kernel
theorem dX5_appendTwos_1 : decode cX5_appendTwos 1 = .ok (.istore_n 3, 1) := by decide +kernel
theorem dX5_appendTwos_2 : decode cX5_appendTwos 2 = .ok (.iload_n 3, 1) := by decide +kernel
theorem dX5_appendTwos_3 : decode cX5_appendTwos 3 = .ok (.iload_n 2, 1) := by decide +kernel
theorem dX5_appendTwos_4 : decode cX5_appendTwos 4 = .ok (.if_icmp .ge 25, 3) := by decide +kernel
theorem dX5_appendTwos_7 : decode cX5_appendTwos 7 = .ok (.aload_n 0, 1) := by decide +kernel
theorem dX5_appendTwos_8 : decode cX5_appendTwos 8 = .ok (.getfield 14, 3) := by decide +kernel
theorem dX5_appendTwos_11 : decode cX5_appendTwos 11 = .ok (.iload_n 1, 1) := by decide +kernel
theorem dX5_appendTwos_12 : decode cX5_appendTwos 12 = .ok (.invokevirtual 34, 3) := by decide +kernel
theorem dX5_appendTwos_15 : decode cX5_appendTwos 15 = .ok (.aload_n 0, 1) := by decide +kernel
theorem dX5_appendTwos_16 : decode cX5_appendTwos 16 = .ok (.getfield 14, 3) := by decide +kernel
theorem dX5_appendTwos_19 : decode cX5_appendTwos 19 = .ok (.iconst 0, 1) := by decide +kernel
theorem dX5_appendTwos_20 : decode cX5_appendTwos 20 = .ok (.invokevirtual 34, 3) := by decide +kernel
theorem dX5_appendTwos_23 : decode cX5_appendTwos 23 = .ok (.iinc 3 1, 3) := by decide +kernel
theorem dX5_appendTwos_26 : decode cX5_appendTwos 26 = .ok (.goto (-24), 3) := by decide +kernel
theorem dX5_appendTwos_29 : decode cX5_appendTwos 29 = .ok (.return_, 1) := by decide +kernel
theorem dX5_addLetter_0 : decode cX5_addLetter 0 = .ok (.aload_n 0, 1) := by decide +kernel
theorem dX5_addLetter_1 : decode cX5_addLetter 1 = .ok (.getfield 14, 3) := by decide +kernel
theorem dX5_addLetter_4 : decode cX5_addLetter 4 = .ok (.getfield 30, 3) := by decide +kernel
theorem dX5_addLetter_7 : decode cX5_addLetter 7 = .ok (.sipush 600, 3) := by decide +kernel
theorem dX5_addLetter_10 : decode cX5_addLetter 10 = .ok (.if_icmp .lt 6, 3) := by decide +kernel
theorem dX5_addLetter_13 : decode cX5_addLetter 13 = .ok (.bipush (-3), 2) := by decide +kernel
theorem dX5_addLetter_15 : decode cX5_addLetter 15 = .ok (.ireturn, 1) := by decide +kernel
theorem dX5_addLetter_16 : decode cX5_addLetter 16 = .ok (.aload_n 0, 1) := by decide +kernel
theorem dX5_addLetter_17 : decode cX5_addLetter 17 = .ok (.getfield 14, 3) := by decide +kernel
theorem dX5_addLetter_20 : decode cX5_addLetter 20 = .ok (.iload_n 1, 1) := by decide +kernel
theorem dX5_addLetter_21 : decode cX5_addLetter 21 = .ok (.invokevirtual 34, 3) := by decide +kernel
theorem dX5_addLetter_24 : decode cX5_addLetter 24 = .ok (.aload_n 0, 1) := by decide +kernel
theorem dX5_addLetter_25 : decode cX5_addLetter 25 = .ok (.getfield 14, 3) := by decide +kernel
theorem dX5_addLetter_28 : decode cX5_addLetter 28 = .ok (.getfield 30, 3) := by decide +kernel
theorem dX5_addLetter_31 : decode cX5_addLetter 31 = .ok (.ireturn, 1) := by decide +kernel
theorem dX5_doSteps_0 : decode cX5_doSteps 0 = .ok (.iconst 0, 1) := by decide +kernel
theorem dX5_doSteps_1 : decode cX5_doSteps 1 = .ok (.istore_n 3, 1) := by decide +kernel
theorem dX5_doSteps_2 : decode cX5_doSteps 2 = .ok (.iload_n 3, 1) := by decide +kernel
theorem dX5_doSteps_3 : decode cX5_doSteps 3 = .ok (.iload_n 1, 1) := by decide +kernel
theorem dX5_doSteps_4 : decode cX5_doSteps 4 = .ok (.if_icmp .ge 17, 3) := by decide +kernel
theorem dX5_doSteps_7 : decode cX5_doSteps 7 = .ok (.aload_n 0, 1) := by decide +kernel
theorem dX5_doSteps_8 : decode cX5_doSteps 8 = .ok (.aload_n 2, 1) := by decide +kernel
theorem dX5_doSteps_9 : decode cX5_doSteps 9 = .ok (.invokevirtual 37, 3) := by decide +kernel
theorem dX5_doSteps_12 : decode cX5_doSteps 12 = .ok (.ifCond .eq 9, 3) := by decide +kernel
theorem dX5_doSteps_15 : decode cX5_doSteps 15 = .ok (.iinc 3 1, 3) := by decide +kernel
theorem dX5_doSteps_18 : decode cX5_doSteps 18 = .ok (.goto (-16), 3) := by decide +kernel
theorem dX5_doSteps_21 : decode cX5_doSteps 21 = .ok (.iload_n 3, 1) := by decide +kernel
theorem dX5_doSteps_22 : decode cX5_doSteps 22 = .ok (.ireturn, 1) := by decide +kernel
theorem dX5_stepsToPlace_0 : decode cX5_stepsToPlace 0 = .ok (.aload_n 0, 1) := by decide +kernel
theorem dX5_stepsToPlace_1 : decode cX5_stepsToPlace 1 = .ok (.getfield 20, 3) := by decide +kernel
theorem dX5_stepsToPlace_4 : decode cX5_stepsToPlace 4 = .ok (.aload_n 0, 1) := by decide +kernel
theorem dX5_stepsToPlace_5 : decode cX5_stepsToPlace 5 = .ok (.getfield 14, 3) := by decide +kernel
theorem dX5_stepsToPlace_8 : decode cX5_stepsToPlace 8 = .ok (.invokevirtual 41, 3) := by decide +kernel
theorem dX5_stepsToPlace_11 : decode cX5_stepsToPlace 11 = .ok (.iconst 0, 1) := by decide +kernel
theorem dX5_stepsToPlace_12 : decode cX5_stepsToPlace 12 = .ok (.istore_n 2, 1) := by decide +kernel
theorem dX5_stepsToPlace_13 : decode cX5_stepsToPlace 13 = .ok (.iload_n 2, 1) := by decide +kernel
theorem dX5_stepsToPlace_14 : decode cX5_stepsToPlace 14 = .ok (.sipush 20000, 3) := by decide +kernel
theorem dX5_stepsToPlace_17 : decode cX5_stepsToPlace 17 = .ok (.if_icmp .ge 25, 3) := by decide +kernel
theorem dX5_stepsToPlace_20 : decode cX5_stepsToPlace 20 = .ok (.aload_n 0, 1) := by decide +kernel
theorem dX5_stepsToPlace_21 : decode cX5_stepsToPlace 21 = .ok (.aload_n 1, 1) := by decide +kernel
theorem dX5_stepsToPlace_22 : decode cX5_stepsToPlace 22 = .ok (.invokevirtual 37, 3) := by decide +kernel
theorem dX5_stepsToPlace_25 : decode cX5_stepsToPlace 25 = .ok (.ifCond .eq 17, 3) := by decide +kernel
theorem dX5_stepsToPlace_28 : decode cX5_stepsToPlace 28 = .ok (.iinc 2 1, 3) := by decide +kernel
theorem dX5_stepsToPlace_31 : decode cX5_stepsToPlace 31 = .ok (.aload_n 0, 1) := by decide +kernel
theorem dX5_stepsToPlace_32 : decode cX5_stepsToPlace 32 = .ok (.invokevirtual 45, 3) := by decide +kernel
theorem dX5_stepsToPlace_35 : decode cX5_stepsToPlace 35 = .ok (.bipush (-9), 2) := by decide +kernel
theorem dX5_stepsToPlace_37 : decode cX5_stepsToPlace 37 = .ok (.if_icmp .eq (-24), 3) := by decide +kernel
theorem dX5_stepsToPlace_40 : decode cX5_stepsToPlace 40 = .ok (.iload_n 2, 1) := by decide +kernel
theorem dX5_stepsToPlace_41 : decode cX5_stepsToPlace 41 = .ok (.ireturn, 1) := by decide +kernel
theorem dX5_stepsToPlace_42 : decode cX5_stepsToPlace 42 = .ok (.aload_n 0, 1) := by decide +kernel
theorem dX5_stepsToPlace_43 : decode cX5_stepsToPlace 43 = .ok (.getfield 14, 3) := by decide +kernel
theorem dX5_stepsToPlace_46 : decode cX5_stepsToPlace 46 = .ok (.aload_n 0, 1) := by decide +kernel
theorem dX5_stepsToPlace_47 : decode cX5_stepsToPlace 47 = .ok (.getfield 20, 3) := by decide +kernel
theorem dX5_stepsToPlace_50 : decode cX5_stepsToPlace 50 = .ok (.invokevirtual 41, 3) := by decide +kernel
theorem dX5_stepsToPlace_53 : decode cX5_stepsToPlace 53 = .ok (.bipush (-2), 2) := by decide +kernel
theorem dX5_stepsToPlace_55 : decode cX5_stepsToPlace 55 = .ok (.ireturn, 1) := by decide +kernel
theorem dX5_doStep_0 : decode cX5_doStep 0 = .ok (.aload_n 0, 1) := by decide +kernel
theorem dX5_doStep_1 : decode cX5_doStep 1 = .ok (.getfield 14, 3) := by decide +kernel
theorem dX5_doStep_4 : decode cX5_doStep 4 = .ok (.iconst 0, 1) := by decide +kernel
theorem dX5_doStep_5 : decode cX5_doStep 5 = .ok (.invokevirtual 49, 3) := by decide +kernel
theorem dX5_doStep_8 : decode cX5_doStep 8 = .ok (.istore_n 2, 1) := by decide +kernel
theorem dX5_doStep_9 : decode cX5_doStep 9 = .ok (.aload_n 1, 1) := by decide +kernel
theorem dX5_doStep_10 : decode cX5_doStep 10 = .ok (.iload_n 2, 1) := by decide +kernel
theorem dX5_doStep_11 : decode cX5_doStep 11 = .ok (.invokevirtual 53, 3) := by decide +kernel
theorem dX5_doStep_14 : decode cX5_doStep 14 = .ok (.istore_n 3, 1) := by decide +kernel
theorem dX5_doStep_15 : decode cX5_doStep 15 = .ok (.aload_n 0, 1) := by decide +kernel
theorem dX5_doStep_16 : decode cX5_doStep 16 = .ok (.getfield 14, 3) := by decide +kernel
theorem dX5_doStep_19 : decode cX5_doStep 19 = .ok (.getfield 30, 3) := by decide +kernel
theorem dX5_doStep_22 : decode cX5_doStep 22 = .ok (.iconst 2, 1) := by decide +kernel
theorem dX5_doStep_23 : decode cX5_doStep 23 = .ok (.if_icmp .lt 24, 3) := by decide +kernel
theorem dX5_doStep_26 : decode cX5_doStep 26 = .ok (.iload_n 3, 1) := by decide +kernel
theorem dX5_doStep_27 : decode cX5_doStep 27 = .ok (.ifCond .eq 20, 3) := by decide +kernel
theorem dX5_doStep_30 : decode cX5_doStep 30 = .ok (.aload_n 0, 1) := by decide +kernel
theorem dX5_doStep_31 : decode cX5_doStep 31 = .ok (.getfield 14, 3) := by decide +kernel
theorem dX5_doStep_34 : decode cX5_doStep 34 = .ok (.getfield 30, 3) := by decide +kernel
theorem dX5_doStep_37 : decode cX5_doStep 37 = .ok (.iconst 2, 1) := by decide +kernel
theorem dX5_doStep_38 : decode cX5_doStep 38 = .ok (.isub, 1) := by decide +kernel
theorem dX5_doStep_39 : decode cX5_doStep 39 = .ok (.iload_n 3, 1) := by decide +kernel
theorem dX5_doStep_40 : decode cX5_doStep 40 = .ok (.iadd, 1) := by decide +kernel
theorem dX5_doStep_41 : decode cX5_doStep 41 = .ok (.sipush 600, 3) := by decide +kernel
theorem dX5_doStep_44 : decode cX5_doStep 44 = .ok (.if_icmp .le 5, 3) := by decide +kernel
theorem dX5_doStep_47 : decode cX5_doStep 47 = .ok (.iconst 0, 1) := by decide +kernel
theorem dX5_doStep_48 : decode cX5_doStep 48 = .ok (.ireturn, 1) := by decide +kernel
theorem dX5_doStep_49 : decode cX5_doStep 49 = .ok (.aload_n 0, 1) := by decide +kernel
theorem dX5_doStep_50 : decode cX5_doStep 50 = .ok (.getfield 14, 3) := by decide +kernel
theorem dX5_doStep_53 : decode cX5_doStep 53 = .ok (.iconst 2, 1) := by decide +kernel
theorem dX5_doStep_54 : decode cX5_doStep 54 = .ok (.invokevirtual 58, 3) := by decide +kernel
theorem dX5_doStep_57 : decode cX5_doStep 57 = .ok (.aload_n 1, 1) := by decide +kernel
theorem dX5_doStep_58 : decode cX5_doStep 58 = .ok (.aload_n 0, 1) := by decide +kernel
theorem dX5_doStep_59 : decode cX5_doStep 59 = .ok (.getfield 14, 3) := by decide +kernel
theorem dX5_doStep_62 : decode cX5_doStep 62 = .ok (.iload_n 2, 1) := by decide +kernel
theorem dX5_doStep_63 : decode cX5_doStep 63 = .ok (.invokevirtual 61, 3) := by decide +kernel
theorem dX5_doStep_66 : decode cX5_doStep 66 = .ok (.iconst 1, 1) := by decide +kernel
theorem dX5_doStep_67 : decode cX5_doStep 67 = .ok (.ireturn, 1) := by decide +kernel
theorem dX5_tellPlace_0 : decode cX5_tellPlace 0 = .ok (.aload_n 0, 1) := by decide +kernel
theorem dX5_tellPlace_1 : decode cX5_tellPlace 1 = .ok (.invokevirtual 45, 3) := by decide +kernel
theorem dX5_tellPlace_4 : decode cX5_tellPlace 4 = .ok (.istore_n 2, 1) := by decide +kernel
theorem dX5_tellPlace_5 : decode cX5_tellPlace 5 = .ok (.iload_n 2, 1) := by decide +kernel
theorem dX5_tellPlace_6 : decode cX5_tellPlace 6 = .ok (.bipush (-9), 2) := by decide +kernel
theorem dX5_tellPlace_8 : decode cX5_tellPlace 8 = .ok (.if_icmp .ne 6, 3) := by decide +kernel
theorem dX5_tellPlace_11 : decode cX5_tellPlace 11 = .ok (.bipush (-9), 2) := by decide +kernel
theorem dX5_tellPlace_13 : decode cX5_tellPlace 13 = .ok (.ireturn, 1) := by decide +kernel
theorem dX5_tellPlace_14 : decode cX5_tellPlace 14 = .ok (.aload_n 0, 1) := by decide +kernel
theorem dX5_tellPlace_15 : decode cX5_tellPlace 15 = .ok (.getfield 14, 3) := by decide +kernel
theorem dX5_tellPlace_18 : decode cX5_tellPlace 18 = .ok (.iconst 0, 1) := by decide +kernel
theorem dX5_tellPlace_19 : decode cX5_tellPlace 19 = .ok (.invokevirtual 49, 3) := by decide +kernel
theorem dX5_tellPlace_22 : decode cX5_tellPlace 22 = .ok (.bipush 20, 2) := by decide +kernel
theorem dX5_tellPlace_24 : decode cX5_tellPlace 24 = .ok (.idiv, 1) := by decide +kernel
theorem dX5_tellPlace_25 : decode cX5_tellPlace 25 = .ok (.istore_n 3, 1) := by decide +kernel
theorem dX5_tellPlace_26 : decode cX5_tellPlace 26 = .ok (.iload_n 1, 1) := by decide +kernel
theorem dX5_tellPlace_27 : decode cX5_tellPlace 27 = .ok (.tableswitch 39 0 2 #[25, 29, 33], 25) := by decide +kernel
theorem dX5_tellPlace_52 : decode cX5_tellPlace 52 = .ok (.iload_n 3, 1) := by decide +kernel
theorem dX5_tellPlace_53 : decode cX5_tellPlace 53 = .ok (.iconst 2, 1) := by decide +kernel
theorem dX5_tellPlace_54 : decode cX5_tellPlace 54 = .ok (.idiv, 1) := by decide +kernel
theorem dX5_tellPlace_55 : decode cX5_tellPlace 55 = .ok (.ireturn, 1) := by decide +kernel
theorem dX5_tellPlace_56 : decode cX5_tellPlace 56 = .ok (.iload_n 3, 1) := by decide +kernel
theorem dX5_tellPlace_57 : decode cX5_tellPlace 57 = .ok (.iconst 2, 1) := by decide +kernel
theorem dX5_tellPlace_58 : decode cX5_tellPlace 58 = .ok (.irem, 1) := by decide +kernel
theorem dX5_tellPlace_59 : decode cX5_tellPlace 59 = .ok (.ireturn, 1) := by decide +kernel
theorem dX5_tellPlace_60 : decode cX5_tellPlace 60 = .ok (.iload_n 2, 1) := by decide +kernel
theorem dX5_tellPlace_61 : decode cX5_tellPlace 61 = .ok (.iconst 2, 1) := by decide +kernel
theorem dX5_tellPlace_62 : decode cX5_tellPlace 62 = .ok (.isub, 1) := by decide +kernel
theorem dX5_tellPlace_63 : decode cX5_tellPlace 63 = .ok (.iconst 2, 1) := by decide +kernel
theorem dX5_tellPlace_64 : decode cX5_tellPlace 64 = .ok (.idiv, 1) := by decide +kernel
theorem dX5_tellPlace_65 : decode cX5_tellPlace 65 = .ok (.ireturn, 1) := by decide +kernel
theorem dX5_tellPlace_66 : decode cX5_tellPlace 66 = .ok (.aload_n 0, 1) := by decide +kernel
theorem dX5_tellPlace_67 : decode cX5_tellPlace 67 = .ok (.getfield 14, 3) := by decide +kernel
theorem dX5_tellPlace_70 : decode cX5_tellPlace 70 = .ok (.getfield 30, 3) := by decide +kernel
theorem dX5_tellPlace_73 : decode cX5_tellPlace 73 = .ok (.iload_n 2, 1) := by decide +kernel
theorem dX5_tellPlace_74 : decode cX5_tellPlace 74 = .ok (.isub, 1) := by decide +kernel
theorem dX5_tellPlace_75 : decode cX5_tellPlace 75 = .ok (.iconst 2, 1) := by decide +kernel
theorem dX5_tellPlace_76 : decode cX5_tellPlace 76 = .ok (.isub, 1) := by decide +kernel
theorem dX5_tellPlace_77 : decode cX5_tellPlace 77 = .ok (.iconst 2, 1) := by decide +kernel
theorem dX5_tellPlace_78 : decode cX5_tellPlace 78 = .ok (.idiv, 1) := by decide +kernel
theorem dX5_tellPlace_79 : decode cX5_tellPlace 79 = .ok (.ireturn, 1) := by decide +kernel
theorem dX5_middle_0 : decode cX5_middle 0 = .ok (.aload_n 0, 1) := by decide +kernel
theorem dX5_middle_1 : decode cX5_middle 1 = .ok (.getfield 14, 3) := by decide +kernel
theorem dX5_middle_4 : decode cX5_middle 4 = .ok (.iconst 0, 1) := by decide +kernel
theorem dX5_middle_5 : decode cX5_middle 5 = .ok (.invokevirtual 49, 3) := by decide +kernel
theorem dX5_middle_8 : decode cX5_middle 8 = .ok (.istore_n 1, 1) := by decide +kernel
theorem dX5_middle_9 : decode cX5_middle 9 = .ok (.iload_n 1, 1) := by decide +kernel
theorem dX5_middle_10 : decode cX5_middle 10 = .ok (.bipush 20, 2) := by decide +kernel
theorem dX5_middle_12 : decode cX5_middle 12 = .ok (.irem, 1) := by decide +kernel
theorem dX5_middle_13 : decode cX5_middle 13 = .ok (.iconst 1, 1) := by decide +kernel
theorem dX5_middle_14 : decode cX5_middle 14 = .ok (.if_icmp .ne 14, 3) := by decide +kernel
theorem dX5_middle_17 : decode cX5_middle 17 = .ok (.aload_n 0, 1) := by decide +kernel
theorem dX5_middle_18 : decode cX5_middle 18 = .ok (.getfield 14, 3) := by decide +kernel
theorem dX5_middle_21 : decode cX5_middle 21 = .ok (.iconst 1, 1) := by decide +kernel
theorem dX5_middle_22 : decode cX5_middle 22 = .ok (.invokevirtual 49, 3) := by decide +kernel
theorem dX5_middle_25 : decode cX5_middle 25 = .ok (.ifCond .eq 6, 3) := by decide +kernel
theorem dX5_middle_28 : decode cX5_middle 28 = .ok (.bipush (-9), 2) := by decide +kernel
theorem dX5_middle_30 : decode cX5_middle 30 = .ok (.ireturn, 1) := by decide +kernel
theorem dX5_middle_31 : decode cX5_middle 31 = .ok (.iload_n 1, 1) := by decide +kernel
theorem dX5_middle_32 : decode cX5_middle 32 = .ok (.iconst 1, 1) := by decide +kernel
theorem dX5_middle_33 : decode cX5_middle 33 = .ok (.isub, 1) := by decide +kernel
theorem dX5_middle_34 : decode cX5_middle 34 = .ok (.istore_n 2, 1) := by decide +kernel
theorem dX5_middle_35 : decode cX5_middle 35 = .ok (.aload_n 0, 1) := by decide +kernel
theorem dX5_middle_36 : decode cX5_middle 36 = .ok (.iload_n 2, 1) := by decide +kernel
theorem dX5_middle_37 : decode cX5_middle 37 = .ok (.iconst 2, 1) := by decide +kernel
theorem dX5_middle_38 : decode cX5_middle 38 = .ok (.iadd, 1) := by decide +kernel
theorem dX5_middle_39 : decode cX5_middle 39 = .ok (.iconst 2, 1) := by decide +kernel
theorem dX5_middle_40 : decode cX5_middle 40 = .ok (.invokevirtual 65, 3) := by decide +kernel
theorem dX5_middle_43 : decode cX5_middle 43 = .ok (.istore_n 3, 1) := by decide +kernel
theorem dX5_middle_44 : decode cX5_middle 44 = .ok (.aload_n 0, 1) := by decide +kernel
theorem dX5_middle_45 : decode cX5_middle 45 = .ok (.getfield 14, 3) := by decide +kernel
theorem dX5_middle_48 : decode cX5_middle 48 = .ok (.iload_n 3, 1) := by decide +kernel
theorem dX5_middle_49 : decode cX5_middle 49 = .ok (.invokevirtual 49, 3) := by decide +kernel
theorem dX5_middle_52 : decode cX5_middle 52 = .ok (.iload_n 2, 1) := by decide +kernel
theorem dX5_middle_53 : decode cX5_middle 53 = .ok (.iconst 5, 1) := by decide +kernel
theorem dX5_middle_54 : decode cX5_middle 54 = .ok (.iadd, 1) := by decide +kernel
theorem dX5_middle_55 : decode cX5_middle 55 = .ok (.if_icmp .ne 16, 3) := by decide +kernel
theorem dX5_middle_58 : decode cX5_middle 58 = .ok (.aload_n 0, 1) := by decide +kernel
theorem dX5_middle_59 : decode cX5_middle 59 = .ok (.getfield 14, 3) := by decide +kernel
theorem dX5_middle_62 : decode cX5_middle 62 = .ok (.iload_n 3, 1) := by decide +kernel
theorem dX5_middle_63 : decode cX5_middle 63 = .ok (.iconst 1, 1) := by decide +kernel
theorem dX5_middle_64 : decode cX5_middle 64 = .ok (.iadd, 1) := by decide +kernel
theorem dX5_middle_65 : decode cX5_middle 65 = .ok (.invokevirtual 49, 3) := by decide +kernel
theorem dX5_middle_68 : decode cX5_middle 68 = .ok (.ifCond .eq 6, 3) := by decide +kernel
theorem dX5_middle_71 : decode cX5_middle 71 = .ok (.bipush (-9), 2) := by decide +kernel
theorem dX5_middle_73 : decode cX5_middle 73 = .ok (.ireturn, 1) := by decide +kernel
theorem dX5_middle_74 : decode cX5_middle 74 = .ok (.aload_n 0, 1) := by decide +kernel
theorem dX5_middle_75 : decode cX5_middle 75 = .ok (.iload_n 2, 1) := by decide +kernel
theorem dX5_middle_76 : decode cX5_middle 76 = .ok (.bipush 6, 2) := by decide +kernel
theorem dX5_middle_78 : decode cX5_middle 78 = .ok (.iadd, 1) := by decide +kernel
theorem dX5_middle_79 : decode cX5_middle 79 = .ok (.iload_n 3, 1) := by decide +kernel
theorem dX5_middle_80 : decode cX5_middle 80 = .ok (.iconst 2, 1) := by decide +kernel
theorem dX5_middle_81 : decode cX5_middle 81 = .ok (.iadd, 1) := by decide +kernel
theorem dX5_middle_82 : decode cX5_middle 82 = .ok (.invokevirtual 65, 3) := by decide +kernel
theorem dX5_middle_85 : decode cX5_middle 85 = .ok (.aload_n 0, 1) := by decide +kernel
theorem dX5_middle_86 : decode cX5_middle 86 = .ok (.getfield 14, 3) := by decide +kernel
theorem dX5_middle_89 : decode cX5_middle 89 = .ok (.getfield 30, 3) := by decide +kernel
theorem dX5_middle_92 : decode cX5_middle 92 = .ok (.if_icmp .ne 7, 3) := by decide +kernel
theorem dX5_middle_95 : decode cX5_middle 95 = .ok (.iload_n 3, 1) := by decide +kernel
theorem dX5_middle_96 : decode cX5_middle 96 = .ok (.goto 5, 3) := by decide +kernel
theorem dX5_middle_99 : decode cX5_middle 99 = .ok (.bipush (-9), 2) := by decide +kernel
theorem dX5_middle_101 : decode cX5_middle 101 = .ok (.ireturn, 1) := by decide +kernel
theorem dX5_behindTwos_0 : decode cX5_behindTwos 0 = .ok (.iload_n 2, 1) := by decide +kernel
theorem dX5_behindTwos_1 : decode cX5_behindTwos 1 = .ok (.istore_n 3, 1) := by decide +kernel
theorem dX5_behindTwos_2 : decode cX5_behindTwos 2 = .ok (.iload_n 3, 1) := by decide +kernel
theorem dX5_behindTwos_3 : decode cX5_behindTwos 3 = .ok (.aload_n 0, 1) := by decide +kernel
theorem dX5_behindTwos_4 : decode cX5_behindTwos 4 = .ok (.getfield 14, 3) := by decide +kernel
theorem dX5_behindTwos_7 : decode cX5_behindTwos 7 = .ok (.getfield 30, 3) := by decide +kernel
theorem dX5_behindTwos_10 : decode cX5_behindTwos 10 = .ok (.if_icmp .ge 34, 3) := by decide +kernel
theorem dX5_behindTwos_13 : decode cX5_behindTwos 13 = .ok (.aload_n 0, 1) := by decide +kernel
theorem dX5_behindTwos_14 : decode cX5_behindTwos 14 = .ok (.getfield 14, 3) := by decide +kernel
theorem dX5_behindTwos_17 : decode cX5_behindTwos 17 = .ok (.iload_n 3, 1) := by decide +kernel
theorem dX5_behindTwos_18 : decode cX5_behindTwos 18 = .ok (.invokevirtual 49, 3) := by decide +kernel
theorem dX5_behindTwos_21 : decode cX5_behindTwos 21 = .ok (.iload_n 1, 1) := by decide +kernel
theorem dX5_behindTwos_22 : decode cX5_behindTwos 22 = .ok (.if_icmp .ne 22, 3) := by decide +kernel
theorem dX5_behindTwos_25 : decode cX5_behindTwos 25 = .ok (.aload_n 0, 1) := by decide +kernel
theorem dX5_behindTwos_26 : decode cX5_behindTwos 26 = .ok (.getfield 14, 3) := by decide +kernel
theorem dX5_behindTwos_29 : decode cX5_behindTwos 29 = .ok (.iload_n 3, 1) := by decide +kernel
theorem dX5_behindTwos_30 : decode cX5_behindTwos 30 = .ok (.iconst 1, 1) := by decide +kernel
theorem dX5_behindTwos_31 : decode cX5_behindTwos 31 = .ok (.iadd, 1) := by decide +kernel
theorem dX5_behindTwos_32 : decode cX5_behindTwos 32 = .ok (.invokevirtual 49, 3) := by decide +kernel
theorem dX5_behindTwos_35 : decode cX5_behindTwos 35 = .ok (.ifCond .ne 9, 3) := by decide +kernel
theorem dX5_behindTwos_38 : decode cX5_behindTwos 38 = .ok (.iinc 3 2, 3) := by decide +kernel
theorem dX5_behindTwos_41 : decode cX5_behindTwos 41 = .ok (.goto (-39), 3) := by decide +kernel
theorem dX5_behindTwos_44 : decode cX5_behindTwos 44 = .ok (.iload_n 3, 1) := by decide +kernel
theorem dX5_behindTwos_45 : decode cX5_behindTwos 45 = .ok (.ireturn, 1) := by decide +kernel
theorem dJ9_max_7cf53_0 : decode cJ9_max_7cf53 0 = .ok (.iload_n 0, 1) := by decide +kernel
theorem dJ9_max_7cf53_1 : decode cJ9_max_7cf53 1 = .ok (.iload_n 1, 1) := by decide +kernel
theorem dJ9_max_7cf53_2 : decode cJ9_max_7cf53 2 = .ok (.if_icmp .lt 7, 3) := by decide +kernel
theorem dJ9_max_7cf53_5 : decode cJ9_max_7cf53 5 = .ok (.iload_n 0, 1) := by decide +kernel
theorem dJ9_max_7cf53_6 : decode cJ9_max_7cf53 6 = .ok (.goto 4, 3) := by decide +kernel
theorem dJ9_max_7cf53_9 : decode cJ9_max_7cf53 9 = .ok (.iload_n 1, 1) := by decide +kernel
theorem dJ9_max_7cf53_10 : decode cJ9_max_7cf53 10 = .ok (.ireturn, 1) := by decide +kernel
theorem dJ9_min_7cf53_0 : decode cJ9_min_7cf53 0 = .ok (.iload_n 0, 1) := by decide +kernel
theorem dJ9_min_7cf53_1 : decode cJ9_min_7cf53 1 = .ok (.iload_n 1, 1) := by decide +kernel
theorem dJ9_min_7cf53_2 : decode cJ9_min_7cf53 2 = .ok (.if_icmp .gt 7, 3) := by decide +kernel
theorem dJ9_min_7cf53_5 : decode cJ9_min_7cf53 5 = .ok (.iload_n 0, 1) := by decide +kernel
theorem dJ9_min_7cf53_6 : decode cJ9_min_7cf53 6 = .ok (.goto 4, 3) := by decide +kernel
theorem dJ9_min_7cf53_9 : decode cJ9_min_7cf53 9 = .ok (.iload_n 1, 1) := by decide +kernel
theorem dJ9_min_7cf53_10 : decode cJ9_min_7cf53 10 = .ok (.ireturn, 1) := by decide +kernel
theorem dJ0_length_8abf5_0 : decode cJ0_length_8abf5 0 = .ok (.aload_n 0, 1) := by decide +kernel
theorem dJ0_length_8abf5_1 : decode cJ0_length_8abf5 1 = .ok (.getfield 9, 3) := by decide +kernel
theorem dJ0_length_8abf5_4 : decode cJ0_length_8abf5 4 = .ok (.arraylength, 1) := by decide +kernel
theorem dJ0_length_8abf5_5 : decode cJ0_length_8abf5 5 = .ok (.aload_n 0, 1) := by decide +kernel
theorem dJ0_length_8abf5_6 : decode cJ0_length_8abf5 6 = .ok (.invokevirtual 335, 3) := by decide +kernel
theorem dJ0_length_8abf5_9 : decode cJ0_length_8abf5 9 = .ok (.ishr, 1) := by decide +kernel
theorem dJ0_length_8abf5_10 : decode cJ0_length_8abf5 10 = .ok (.ireturn, 1) := by decide +kernel
theorem dJ0_charAt_5068e_0 : decode cJ0_charAt_5068e 0 = .ok (.aload_n 0, 1) := by decide +kernel
theorem dJ0_charAt_5068e_1 : decode cJ0_charAt_5068e 1 = .ok (.invokevirtual 492, 3) := by decide +kernel
theorem dJ0_charAt_5068e_4 : decode cJ0_charAt_5068e 4 = .ok (.ifCond .eq 12, 3) := by decide +kernel
theorem dJ0_charAt_5068e_7 : decode cJ0_charAt_5068e 7 = .ok (.aload_n 0, 1) := by decide +kernel
theorem dJ0_charAt_5068e_8 : decode cJ0_charAt_5068e 8 = .ok (.getfield 9, 3) := by decide +kernel
theorem dJ0_charAt_5068e_11 : decode cJ0_charAt_5068e 11 = .ok (.iload_n 1, 1) := by decide +kernel
theorem dJ0_charAt_5068e_12 : decode cJ0_charAt_5068e 12 = .ok (.invokestatic 495, 3) := by decide +kernel
theorem dJ0_charAt_5068e_15 : decode cJ0_charAt_5068e 15 = .ok (.ireturn, 1) := by decide +kernel
theorem dJ0_charAt_5068e_16 : decode cJ0_charAt_5068e 16 = .ok (.aload_n 0, 1) := by decide +kernel
theorem dJ0_charAt_5068e_17 : decode cJ0_charAt_5068e 17 = .ok (.getfield 9, 3) := by decide +kernel
theorem dJ0_charAt_5068e_20 : decode cJ0_charAt_5068e 20 = .ok (.iload_n 1, 1) := by decide +kernel
theorem dJ0_charAt_5068e_21 : decode cJ0_charAt_5068e 21 = .ok (.invokestatic 498, 3) := by decide +kernel
theorem dJ0_charAt_5068e_24 : decode cJ0_charAt_5068e 24 = .ok (.ireturn, 1) := by decide +kernel
theorem dJ0_indexOf_0f7a4_0 : decode cJ0_indexOf_0f7a4 0 = .ok (.aload_n 0, 1) := by decide +kernel
theorem dJ0_indexOf_0f7a4_1 : decode cJ0_indexOf_0f7a4 1 = .ok (.iload_n 1, 1) := by decide +kernel
theorem dJ0_indexOf_0f7a4_2 : decode cJ0_indexOf_0f7a4 2 = .ok (.iconst 0, 1) := by decide +kernel
theorem dJ0_indexOf_0f7a4_3 : decode cJ0_indexOf_0f7a4 3 = .ok (.invokevirtual 633, 3) := by decide +kernel
theorem dJ0_indexOf_0f7a4_6 : decode cJ0_indexOf_0f7a4 6 = .ok (.ireturn, 1) := by decide +kernel
theorem dJ0_indexOf_7cf53_0 : decode cJ0_indexOf_7cf53 0 = .ok (.aload_n 0, 1) := by decide +kernel
theorem dJ0_indexOf_7cf53_1 : decode cJ0_indexOf_7cf53 1 = .ok (.invokevirtual 492, 3) := by decide +kernel
theorem dJ0_indexOf_7cf53_4 : decode cJ0_indexOf_7cf53 4 = .ok (.ifCond .eq 19, 3) := by decide +kernel
theorem dJ0_indexOf_7cf53_7 : decode cJ0_indexOf_7cf53 7 = .ok (.aload_n 0, 1) := by decide +kernel
theorem dJ0_indexOf_7cf53_8 : decode cJ0_indexOf_7cf53 8 = .ok (.getfield 9, 3) := by decide +kernel
theorem dJ0_indexOf_7cf53_11 : decode cJ0_indexOf_7cf53 11 = .ok (.iload_n 1, 1) := by decide +kernel
theorem dJ0_indexOf_7cf53_12 : decode cJ0_indexOf_7cf53 12 = .ok (.iload_n 2, 1) := by decide +kernel
theorem dJ0_indexOf_7cf53_13 : decode cJ0_indexOf_7cf53 13 = .ok (.aload_n 0, 1) := by decide +kernel
theorem dJ0_indexOf_7cf53_14 : decode cJ0_indexOf_7cf53 14 = .ok (.invokevirtual 505, 3) := by decide +kernel
theorem dJ0_indexOf_7cf53_17 : decode cJ0_indexOf_7cf53 17 = .ok (.invokestatic 637, 3) := by decide +kernel
theorem dJ0_indexOf_7cf53_20 : decode cJ0_indexOf_7cf53 20 = .ok (.goto 16, 3) := by decide +kernel
theorem dJ0_indexOf_7cf53_23 : decode cJ0_indexOf_7cf53 23 = .ok (.aload_n 0, 1) := by decide +kernel
theorem dJ0_indexOf_7cf53_24 : decode cJ0_indexOf_7cf53 24 = .ok (.getfield 9, 3) := by decide +kernel
theorem dJ0_indexOf_7cf53_27 : decode cJ0_indexOf_7cf53 27 = .ok (.iload_n 1, 1) := by decide +kernel
theorem dJ0_indexOf_7cf53_28 : decode cJ0_indexOf_7cf53 28 = .ok (.iload_n 2, 1) := by decide +kernel
theorem dJ0_indexOf_7cf53_29 : decode cJ0_indexOf_7cf53 29 = .ok (.aload_n 0, 1) := by decide +kernel
theorem dJ0_indexOf_7cf53_30 : decode cJ0_indexOf_7cf53 30 = .ok (.invokevirtual 505, 3) := by decide +kernel
theorem dJ0_indexOf_7cf53_33 : decode cJ0_indexOf_7cf53 33 = .ok (.invokestatic 640, 3) := by decide +kernel
theorem dJ0_indexOf_7cf53_36 : decode cJ0_indexOf_7cf53 36 = .ok (.ireturn, 1) := by decide +kernel
theorem dJ0_coder_7d493_0 : decode cJ0_coder_7d493 0 = .ok (.getstatic 38, 3) := by decide +kernel
theorem dJ0_coder_7d493_3 : decode cJ0_coder_7d493 3 = .ok (.ifCond .eq 10, 3) := by decide +kernel
theorem dJ0_coder_7d493_6 : decode cJ0_coder_7d493 6 = .ok (.aload_n 0, 1) := by decide +kernel
theorem dJ0_coder_7d493_7 : decode cJ0_coder_7d493 7 = .ok (.getfield 15, 3) := by decide +kernel
theorem dJ0_coder_7d493_10 : decode cJ0_coder_7d493 10 = .ok (.goto 4, 3) := by decide +kernel
theorem dJ0_coder_7d493_13 : decode cJ0_coder_7d493 13 = .ok (.iconst 1, 1) := by decide +kernel
theorem dJ0_coder_7d493_14 : decode cJ0_coder_7d493 14 = .ok (.ireturn, 1) := by decide +kernel
theorem dJ0_isLatin1_aae02_0 : decode cJ0_isLatin1_aae02 0 = .ok (.getstatic 38, 3) := by decide +kernel
theorem dJ0_isLatin1_aae02_3 : decode cJ0_isLatin1_aae02 3 = .ok (.ifCond .eq 14, 3) := by decide +kernel
theorem dJ0_isLatin1_aae02_6 : decode cJ0_isLatin1_aae02 6 = .ok (.aload_n 0, 1) := by decide +kernel
theorem dJ0_isLatin1_aae02_7 : decode cJ0_isLatin1_aae02 7 = .ok (.getfield 15, 3) := by decide +kernel
theorem dJ0_isLatin1_aae02_10 : decode cJ0_isLatin1_aae02 10 = .ok (.ifCond .ne 7, 3) := by decide +kernel
theorem dJ0_isLatin1_aae02_13 : decode cJ0_isLatin1_aae02 13 = .ok (.iconst 1, 1) := by decide +kernel
theorem dJ0_isLatin1_aae02_14 : decode cJ0_isLatin1_aae02 14 = .ok (.goto 4, 3) := by decide +kernel
theorem dJ0_isLatin1_aae02_17 : decode cJ0_isLatin1_aae02 17 = .ok (.iconst 0, 1) := by decide +kernel
theorem dJ0_isLatin1_aae02_18 : decode cJ0_isLatin1_aae02 18 = .ok (.ireturn, 1) := by decide +kernel
theorem dJ0_checkIndex_df160_0 : decode cJ0_checkIndex_df160 0 = .ok (.iload_n 0, 1) := by decide +kernel
theorem dJ0_checkIndex_df160_1 : decode cJ0_checkIndex_df160 1 = .ok (.iload_n 1, 1) := by decide +kernel
theorem dJ0_checkIndex_df160_2 : decode cJ0_checkIndex_df160 2 = .ok (.getstatic 1053, 3) := by decide +kernel
theorem dJ0_checkIndex_df160_5 : decode cJ0_checkIndex_df160 5 = .ok (.invokestatic 1059, 3) := by decide +kernel
theorem dJ0_checkIndex_df160_8 : decode cJ0_checkIndex_df160 8 = .ok (.pop, 1) := by decide +kernel
theorem dJ0_checkIndex_df160_9 : decode cJ0_checkIndex_df160 9 = .ok (.return_, 1) := by decide +kernel
theorem dJ1_charAt_3b067_0 : decode cJ1_charAt_3b067 0 = .ok (.iload_n 1, 1) := by decide +kernel
theorem dJ1_charAt_3b067_1 : decode cJ1_charAt_3b067 1 = .ok (.aload_n 0, 1) := by decide +kernel
theorem dJ1_charAt_3b067_2 : decode cJ1_charAt_3b067 2 = .ok (.arraylength, 1) := by decide +kernel
theorem dJ1_charAt_3b067_3 : decode cJ1_charAt_3b067 3 = .ok (.invokestatic 9, 3) := by decide +kernel
theorem dJ1_charAt_3b067_6 : decode cJ1_charAt_3b067 6 = .ok (.aload_n 0, 1) := by decide +kernel
theorem dJ1_charAt_3b067_7 : decode cJ1_charAt_3b067 7 = .ok (.iload_n 1, 1) := by decide +kernel
theorem dJ1_charAt_3b067_8 : decode cJ1_charAt_3b067 8 = .ok (.baload, 1) := by decide +kernel
theorem dJ1_charAt_3b067_9 : decode cJ1_charAt_3b067 9 = .ok (.sipush 255, 3) := by decide +kernel
theorem dJ1_charAt_3b067_12 : decode cJ1_charAt_3b067 12 = .ok (.iand, 1) := by decide +kernel
theorem dJ1_charAt_3b067_13 : decode cJ1_charAt_3b067 13 = .ok (.i2c, 1) := by decide +kernel
theorem dJ1_charAt_3b067_14 : decode cJ1_charAt_3b067 14 = .ok (.ireturn, 1) := by decide +kernel
theorem dJ1_canEncode_9a6ad_0 : decode cJ1_canEncode_9a6ad 0 = .ok (.iload_n 0, 1) := by decide +kernel
theorem dJ1_canEncode_9a6ad_1 : decode cJ1_canEncode_9a6ad 1 = .ok (.ifCond .lt 14, 3) := by decide +kernel
theorem dJ1_canEncode_9a6ad_4 : decode cJ1_canEncode_9a6ad 4 = .ok (.iload_n 0, 1) := by decide +kernel
theorem dJ1_canEncode_9a6ad_5 : decode cJ1_canEncode_9a6ad 5 = .ok (.sipush 255, 3) := by decide +kernel
theorem dJ1_canEncode_9a6ad_8 : decode cJ1_canEncode_9a6ad 8 = .ok (.if_icmp .gt 7, 3) := by decide +kernel
theorem dJ1_canEncode_9a6ad_11 : decode cJ1_canEncode_9a6ad 11 = .ok (.iconst 1, 1) := by decide +kernel
theorem dJ1_canEncode_9a6ad_12 : decode cJ1_canEncode_9a6ad 12 = .ok (.goto 4, 3) := by decide +kernel
theorem dJ1_canEncode_9a6ad_15 : decode cJ1_canEncode_9a6ad 15 = .ok (.iconst 0, 1) := by decide +kernel
theorem dJ1_canEncode_9a6ad_16 : decode cJ1_canEncode_9a6ad 16 = .ok (.ireturn, 1) := by decide +kernel
theorem dJ1_indexOf_4cfef_0 : decode cJ1_indexOf_4cfef 0 = .ok (.iload_n 1, 1) := by decide +kernel
theorem dJ1_indexOf_4cfef_1 : decode cJ1_indexOf_4cfef 1 = .ok (.invokestatic 88, 3) := by decide +kernel
theorem dJ1_indexOf_4cfef_4 : decode cJ1_indexOf_4cfef 4 = .ok (.ifCond .ne 5, 3) := by decide +kernel
theorem dJ1_indexOf_4cfef_7 : decode cJ1_indexOf_4cfef 7 = .ok (.iconst (-1), 1) := by decide +kernel
theorem dJ1_indexOf_4cfef_8 : decode cJ1_indexOf_4cfef 8 = .ok (.ireturn, 1) := by decide +kernel
theorem dJ1_indexOf_4cfef_9 : decode cJ1_indexOf_4cfef 9 = .ok (.iload_n 2, 1) := by decide +kernel
theorem dJ1_indexOf_4cfef_10 : decode cJ1_indexOf_4cfef 10 = .ok (.iconst 0, 1) := by decide +kernel
theorem dJ1_indexOf_4cfef_11 : decode cJ1_indexOf_4cfef 11 = .ok (.invokestatic 92, 3) := by decide +kernel
theorem dJ1_indexOf_4cfef_14 : decode cJ1_indexOf_4cfef 14 = .ok (.istore_n 2, 1) := by decide +kernel
theorem dJ1_indexOf_4cfef_15 : decode cJ1_indexOf_4cfef 15 = .ok (.iload_n 3, 1) := by decide +kernel
theorem dJ1_indexOf_4cfef_16 : decode cJ1_indexOf_4cfef 16 = .ok (.aload_n 0, 1) := by decide +kernel
theorem dJ1_indexOf_4cfef_17 : decode cJ1_indexOf_4cfef 17 = .ok (.arraylength, 1) := by decide +kernel
theorem dJ1_indexOf_4cfef_18 : decode cJ1_indexOf_4cfef 18 = .ok (.invokestatic 38, 3) := by decide +kernel
theorem dJ1_indexOf_4cfef_21 : decode cJ1_indexOf_4cfef 21 = .ok (.istore_n 3, 1) := by decide +kernel
theorem dJ1_indexOf_4cfef_22 : decode cJ1_indexOf_4cfef 22 = .ok (.iload_n 2, 1) := by decide +kernel
theorem dJ1_indexOf_4cfef_23 : decode cJ1_indexOf_4cfef 23 = .ok (.iload_n 3, 1) := by decide +kernel
theorem dJ1_indexOf_4cfef_24 : decode cJ1_indexOf_4cfef 24 = .ok (.if_icmp .lt 5, 3) := by decide +kernel
theorem dJ1_indexOf_4cfef_27 : decode cJ1_indexOf_4cfef 27 = .ok (.iconst (-1), 1) := by decide +kernel
theorem dJ1_indexOf_4cfef_28 : decode cJ1_indexOf_4cfef 28 = .ok (.ireturn, 1) := by decide +kernel
theorem dJ1_indexOf_4cfef_29 : decode cJ1_indexOf_4cfef 29 = .ok (.aload_n 0, 1) := by decide +kernel
theorem dJ1_indexOf_4cfef_30 : decode cJ1_indexOf_4cfef 30 = .ok (.iload_n 1, 1) := by decide +kernel
theorem dJ1_indexOf_4cfef_31 : decode cJ1_indexOf_4cfef 31 = .ok (.iload_n 2, 1) := by decide +kernel
theorem dJ1_indexOf_4cfef_32 : decode cJ1_indexOf_4cfef 32 = .ok (.iload_n 3, 1) := by decide +kernel
theorem dJ1_indexOf_4cfef_33 : decode cJ1_indexOf_4cfef 33 = .ok (.invokestatic 95, 3) := by decide +kernel
theorem dJ1_indexOf_4cfef_36 : decode cJ1_indexOf_4cfef 36 = .ok (.ireturn, 1) := by decide +kernel
theorem dJ1_indexOfChar_4cfef_0 : decode cJ1_indexOfChar_4cfef 0 = .ok (.iload_n 1, 1) := by decide +kernel
theorem dJ1_indexOfChar_4cfef_1 : decode cJ1_indexOfChar_4cfef 1 = .ok (.i2b, 1) := by decide +kernel
theorem dJ1_indexOfChar_4cfef_2 : decode cJ1_indexOfChar_4cfef 2 = .ok (.istore 4, 2) := by decide +kernel
theorem dJ1_indexOfChar_4cfef_4 : decode cJ1_indexOfChar_4cfef 4 = .ok (.iload_n 2, 1) := by decide +kernel
theorem dJ1_indexOfChar_4cfef_5 : decode cJ1_indexOfChar_4cfef 5 = .ok (.istore 5, 2) := by decide +kernel
theorem dJ1_indexOfChar_4cfef_7 : decode cJ1_indexOfChar_4cfef 7 = .ok (.iload 5, 2) := by decide +kernel
theorem dJ1_indexOfChar_4cfef_9 : decode cJ1_indexOfChar_4cfef 9 = .ok (.iload_n 3, 1) := by decide +kernel
theorem dJ1_indexOfChar_4cfef_10 : decode cJ1_indexOfChar_4cfef 10 = .ok (.if_icmp .ge 21, 3) := by decide +kernel
theorem dJ1_indexOfChar_4cfef_13 : decode cJ1_indexOfChar_4cfef 13 = .ok (.aload_n 0, 1) := by decide +kernel
theorem dJ1_indexOfChar_4cfef_14 : decode cJ1_indexOfChar_4cfef 14 = .ok (.iload 5, 2) := by decide +kernel
theorem dJ1_indexOfChar_4cfef_16 : decode cJ1_indexOfChar_4cfef 16 = .ok (.baload, 1) := by decide +kernel
theorem dJ1_indexOfChar_4cfef_17 : decode cJ1_indexOfChar_4cfef 17 = .ok (.iload 4, 2) := by decide +kernel
theorem dJ1_indexOfChar_4cfef_19 : decode cJ1_indexOfChar_4cfef 19 = .ok (.if_icmp .ne 6, 3) := by decide +kernel
theorem dJ1_indexOfChar_4cfef_22 : decode cJ1_indexOfChar_4cfef 22 = .ok (.iload 5, 2) := by decide +kernel
theorem dJ1_indexOfChar_4cfef_24 : decode cJ1_indexOfChar_4cfef 24 = .ok (.ireturn, 1) := by decide +kernel
theorem dJ1_indexOfChar_4cfef_25 : decode cJ1_indexOfChar_4cfef 25 = .ok (.iinc 5 1, 3) := by decide +kernel
theorem dJ1_indexOfChar_4cfef_28 : decode cJ1_indexOfChar_4cfef 28 = .ok (.goto (-21), 3) := by decide +kernel
theorem dJ1_indexOfChar_4cfef_31 : decode cJ1_indexOfChar_4cfef 31 = .ok (.iconst (-1), 1) := by decide +kernel
theorem dJ1_indexOfChar_4cfef_32 : decode cJ1_indexOfChar_4cfef 32 = .ok (.ireturn, 1) := by decide +kernel
theorem dJ3_checkIndex_8e157_0 : decode cJ3_checkIndex_8e157 0 = .ok (.iload_n 0, 1) := by decide +kernel
theorem dJ3_checkIndex_8e157_1 : decode cJ3_checkIndex_8e157 1 = .ok (.ifCond .lt 8, 3) := by decide +kernel
theorem dJ3_checkIndex_8e157_4 : decode cJ3_checkIndex_8e157 4 = .ok (.iload_n 0, 1) := by decide +kernel
theorem dJ3_checkIndex_8e157_5 : decode cJ3_checkIndex_8e157 5 = .ok (.iload_n 1, 1) := by decide +kernel
theorem dJ3_checkIndex_8e157_6 : decode cJ3_checkIndex_8e157 6 = .ok (.if_icmp .lt 10, 3) := by decide +kernel
theorem dJ3_checkIndex_8e157_9 : decode cJ3_checkIndex_8e157 9 = .ok (.aload_n 2, 1) := by decide +kernel
theorem dJ3_checkIndex_8e157_10 : decode cJ3_checkIndex_8e157 10 = .ok (.iload_n 0, 1) := by decide +kernel
theorem dJ3_checkIndex_8e157_11 : decode cJ3_checkIndex_8e157 11 = .ok (.iload_n 1, 1) := by decide +kernel
theorem dJ3_checkIndex_8e157_12 : decode cJ3_checkIndex_8e157 12 = .ok (.invokestatic 95, 3) := by decide +kernel
theorem dJ3_checkIndex_8e157_15 : decode cJ3_checkIndex_8e157 15 = .ok (.athrow, 1) := by decide +kernel
theorem dJ3_checkIndex_8e157_16 : decode cJ3_checkIndex_8e157 16 = .ok (.iload_n 0, 1) := by decide +kernel
theorem dJ3_checkIndex_8e157_17 : decode cJ3_checkIndex_8e157 17 = .ok (.ireturn, 1) := by decide +kernel
