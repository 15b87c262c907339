theorem dX7_produce_0 : decode cX7_produce 0 = .ok (.aload_n 0, 1) := by decide +kernel
theorem dX7_produce_1 : decode cX7_produce 1 = .ok (.iconst 0, 1) := by decide +kernel
theorem dX7_produce_2 : decode cX7_produce 2 = .ok (.putfield 97, 3) := by decide +kernel
theorem dX7_produce_5 : decode cX7_produce 5 = .ok (.iload_n 1, 1) := by decide +kernel
theorem dX7_produce_6 : decode cX7_produce 6 = .ok (.ifCond .ne 4, 3) := by decide +kernel
theorem dX7_produce_9 : decode cX7_produce 9 = .ok (.return_, 1) := by decide +kernel
theorem dX7_produce_10 : decode cX7_produce 10 = .ok (.iload_n 1, 1) := by decide +kernel
theorem dX7_produce_11 : decode cX7_produce 11 = .ok (.iconst 1, 1) := by decide +kernel
theorem dX7_produce_12 : decode cX7_produce 12 = .ok (.isub, 1) := by decide +kernel
theorem dX7_produce_13 : decode cX7_produce 13 = .ok (.bipush 20, 2) := by decide +kernel
theorem dX7_produce_15 : decode cX7_produce 15 = .ok (.idiv, 1) := by decide +kernel
theorem dX7_produce_16 : decode cX7_produce 16 = .ok (.istore_n 2, 1) := by decide +kernel
theorem dX7_produce_17 : decode cX7_produce 17 = .ok (.iload_n 1, 1) := by decide +kernel
theorem dX7_produce_18 : decode cX7_produce 18 = .ok (.iconst 1, 1) := by decide +kernel
theorem dX7_produce_19 : decode cX7_produce 19 = .ok (.isub, 1) := by decide +kernel
theorem dX7_produce_20 : decode cX7_produce 20 = .ok (.bipush 20, 2) := by decide +kernel
theorem dX7_produce_22 : decode cX7_produce 22 = .ok (.irem, 1) := by decide +kernel
theorem dX7_produce_23 : decode cX7_produce 23 = .ok (.istore_n 3, 1) := by decide +kernel
theorem dX7_produce_24 : decode cX7_produce 24 = .ok (.iload_n 3, 1) := by decide +kernel
theorem dX7_produce_25 : decode cX7_produce 25 = .ok (.bipush 6, 2) := by decide +kernel
theorem dX7_produce_27 : decode cX7_produce 27 = .ok (.if_icmp .ne 15, 3) := by decide +kernel
theorem dX7_produce_30 : decode cX7_produce 30 = .ok (.aload_n 0, 1) := by decide +kernel
theorem dX7_produce_31 : decode cX7_produce 31 = .ok (.iload_n 2, 1) := by decide +kernel
theorem dX7_produce_32 : decode cX7_produce 32 = .ok (.iconst 4, 1) := by decide +kernel
theorem dX7_produce_33 : decode cX7_produce 33 = .ok (.invokestatic 103, 3) := by decide +kernel
theorem dX7_produce_36 : decode cX7_produce 36 = .ok (.invokevirtual 107, 3) := by decide +kernel
theorem dX7_produce_39 : decode cX7_produce 39 = .ok (.goto 54, 3) := by decide +kernel
theorem dX7_produce_42 : decode cX7_produce 42 = .ok (.iload_n 3, 1) := by decide +kernel
theorem dX7_produce_43 : decode cX7_produce 43 = .ok (.bipush 7, 2) := by decide +kernel
theorem dX7_produce_45 : decode cX7_produce 45 = .ok (.if_icmp .ne 15, 3) := by decide +kernel
theorem dX7_produce_48 : decode cX7_produce 48 = .ok (.aload_n 0, 1) := by decide +kernel
theorem dX7_produce_49 : decode cX7_produce 49 = .ok (.iload_n 2, 1) := by decide +kernel
theorem dX7_produce_50 : decode cX7_produce 50 = .ok (.iconst 5, 1) := by decide +kernel
theorem dX7_produce_51 : decode cX7_produce 51 = .ok (.invokestatic 103, 3) := by decide +kernel
theorem dX7_produce_54 : decode cX7_produce 54 = .ok (.invokevirtual 107, 3) := by decide +kernel
theorem dX7_produce_57 : decode cX7_produce 57 = .ok (.goto 36, 3) := by decide +kernel
theorem dX7_produce_60 : decode cX7_produce 60 = .ok (.aload_n 0, 1) := by decide +kernel
theorem dX7_produce_61 : decode cX7_produce 61 = .ok (.getfield 25, 3) := by decide +kernel
theorem dX7_produce_64 : decode cX7_produce 64 = .ok (.iload_n 2, 1) := by decide +kernel
theorem dX7_produce_65 : decode cX7_produce 65 = .ok (.iaload, 1) := by decide +kernel
theorem dX7_produce_66 : decode cX7_produce 66 = .ok (.ifCond .lt 27, 3) := by decide +kernel
theorem dX7_produce_69 : decode cX7_produce 69 = .ok (.aload_n 0, 1) := by decide +kernel
theorem dX7_produce_70 : decode cX7_produce 70 = .ok (.iload_n 2, 1) := by decide +kernel
theorem dX7_produce_71 : decode cX7_produce 71 = .ok (.iload_n 3, 1) := by decide +kernel
theorem dX7_produce_72 : decode cX7_produce 72 = .ok (.iconst 2, 1) := by decide +kernel
theorem dX7_produce_73 : decode cX7_produce 73 = .ok (.aload_n 0, 1) := by decide +kernel
theorem dX7_produce_74 : decode cX7_produce 74 = .ok (.getfield 31, 3) := by decide +kernel
theorem dX7_produce_77 : decode cX7_produce 77 = .ok (.iload_n 2, 1) := by decide +kernel
theorem dX7_produce_78 : decode cX7_produce 78 = .ok (.iaload, 1) := by decide +kernel
theorem dX7_produce_79 : decode cX7_produce 79 = .ok (.imul, 1) := by decide +kernel
theorem dX7_produce_80 : decode cX7_produce 80 = .ok (.iconst 1, 1) := by decide +kernel
theorem dX7_produce_81 : decode cX7_produce 81 = .ok (.iadd, 1) := by decide +kernel
theorem dX7_produce_82 : decode cX7_produce 82 = .ok (.iconst 2, 1) := by decide +kernel
theorem dX7_produce_83 : decode cX7_produce 83 = .ok (.aload_n 0, 1) := by decide +kernel
theorem dX7_produce_84 : decode cX7_produce 84 = .ok (.getfield 31, 3) := by decide +kernel
theorem dX7_produce_87 : decode cX7_produce 87 = .ok (.iload_n 2, 1) := by decide +kernel
theorem dX7_produce_88 : decode cX7_produce 88 = .ok (.iaload, 1) := by decide +kernel
theorem dX7_produce_89 : decode cX7_produce 89 = .ok (.imul, 1) := by decide +kernel
theorem dX7_produce_90 : decode cX7_produce 90 = .ok (.invokevirtual 114, 3) := by decide +kernel
theorem dX7_produce_93 : decode cX7_produce 93 = .ok (.return_, 1) := by decide +kernel
theorem dX7_production_0 : decode cX7_production 0 = .ok (.aload_n 0, 1) := by decide +kernel
theorem dX7_production_1 : decode cX7_production 1 = .ok (.iconst 0, 1) := by decide +kernel
theorem dX7_production_2 : decode cX7_production 2 = .ok (.putfield 47, 3) := by decide +kernel
theorem dX7_production_5 : decode cX7_production 5 = .ok (.iload_n 1, 1) := by decide +kernel
theorem dX7_production_6 : decode cX7_production 6 = .ok (.i2l, 1) := by decide +kernel
theorem dX7_production_7 : decode cX7_production 7 = .ok (.lconst 0, 1) := by decide +kernel
theorem dX7_production_8 : decode cX7_production 8 = .ok (.ldc2_w 118, 3) := by decide +kernel
theorem dX7_production_11 : decode cX7_production 11 = .ok (.invokestatic 53, 3) := by decide +kernel
theorem dX7_production_14 : decode cX7_production 14 = .ok (.ifCond .ne 5, 3) := by decide +kernel
theorem dX7_production_17 : decode cX7_production 17 = .ok (.iconst (-1), 1) := by decide +kernel
theorem dX7_production_18 : decode cX7_production 18 = .ok (.ireturn, 1) := by decide +kernel
theorem dX7_production_19 : decode cX7_production 19 = .ok (.aload_n 0, 1) := by decide +kernel
theorem dX7_production_20 : decode cX7_production 20 = .ok (.iload_n 1, 1) := by decide +kernel
theorem dX7_production_21 : decode cX7_production 21 = .ok (.invokevirtual 120, 3) := by decide +kernel
theorem dX7_production_24 : decode cX7_production 24 = .ok (.iload_n 2, 1) := by decide +kernel
theorem dX7_production_25 : decode cX7_production 25 = .ok (.i2l, 1) := by decide +kernel
theorem dX7_production_26 : decode cX7_production 26 = .ok (.lconst 0, 1) := by decide +kernel
theorem dX7_production_27 : decode cX7_production 27 = .ok (.aload_n 0, 1) := by decide +kernel
theorem dX7_production_28 : decode cX7_production 28 = .ok (.getfield 97, 3) := by decide +kernel
theorem dX7_production_31 : decode cX7_production 31 = .ok (.iconst 1, 1) := by decide +kernel
theorem dX7_production_32 : decode cX7_production 32 = .ok (.isub, 1) := by decide +kernel
theorem dX7_production_33 : decode cX7_production 33 = .ok (.i2l, 1) := by decide +kernel
theorem dX7_production_34 : decode cX7_production 34 = .ok (.invokestatic 53, 3) := by decide +kernel
theorem dX7_production_37 : decode cX7_production 37 = .ok (.ifCond .eq 12, 3) := by decide +kernel
theorem dX7_production_40 : decode cX7_production 40 = .ok (.aload_n 0, 1) := by decide +kernel
theorem dX7_production_41 : decode cX7_production 41 = .ok (.getfield 44, 3) := by decide +kernel
theorem dX7_production_44 : decode cX7_production 44 = .ok (.iload_n 2, 1) := by decide +kernel
theorem dX7_production_45 : decode cX7_production 45 = .ok (.iaload, 1) := by decide +kernel
theorem dX7_production_46 : decode cX7_production 46 = .ok (.goto 5, 3) := by decide +kernel
theorem dX7_production_49 : decode cX7_production 49 = .ok (.bipush (-9), 2) := by decide +kernel
theorem dX7_production_51 : decode cX7_production 51 = .ok (.ireturn, 1) := by decide +kernel
theorem dX7_letterAt_0 : decode cX7_letterAt 0 = .ok (.aload_n 0, 1) := by decide +kernel
theorem dX7_letterAt_1 : decode cX7_letterAt 1 = .ok (.getfield 34, 3) := by decide +kernel
theorem dX7_letterAt_4 : decode cX7_letterAt 4 = .ok (.aload_n 0, 1) := by decide +kernel
theorem dX7_letterAt_5 : decode cX7_letterAt 5 = .ok (.getfield 123, 3) := by decide +kernel
theorem dX7_letterAt_8 : decode cX7_letterAt 8 = .ok (.iload_n 1, 1) := by decide +kernel
theorem dX7_letterAt_9 : decode cX7_letterAt 9 = .ok (.iadd, 1) := by decide +kernel
theorem dX7_letterAt_10 : decode cX7_letterAt 10 = .ok (.sipush 700, 3) := by decide +kernel
theorem dX7_letterAt_13 : decode cX7_letterAt 13 = .ok (.irem, 1) := by decide +kernel
theorem dX7_letterAt_14 : decode cX7_letterAt 14 = .ok (.iaload, 1) := by decide +kernel
theorem dX7_letterAt_15 : decode cX7_letterAt 15 = .ok (.ireturn, 1) := by decide +kernel
theorem dX7_puts_0 : decode cX7_puts 0 = .ok (.aload_n 0, 1) := by decide +kernel
theorem dX7_puts_1 : decode cX7_puts 1 = .ok (.getfield 34, 3) := by decide +kernel
theorem dX7_puts_4 : decode cX7_puts 4 = .ok (.aload_n 0, 1) := by decide +kernel
theorem dX7_puts_5 : decode cX7_puts 5 = .ok (.getfield 123, 3) := by decide +kernel
theorem dX7_puts_8 : decode cX7_puts 8 = .ok (.aload_n 0, 1) := by decide +kernel
theorem dX7_puts_9 : decode cX7_puts 9 = .ok (.getfield 126, 3) := by decide +kernel
theorem dX7_puts_12 : decode cX7_puts 12 = .ok (.iadd, 1) := by decide +kernel
theorem dX7_puts_13 : decode cX7_puts 13 = .ok (.sipush 700, 3) := by decide +kernel
theorem dX7_puts_16 : decode cX7_puts 16 = .ok (.irem, 1) := by decide +kernel
theorem dX7_puts_17 : decode cX7_puts 17 = .ok (.iload_n 1, 1) := by decide +kernel
theorem dX7_puts_18 : decode cX7_puts 18 = .ok (.iastore, 1) := by decide +kernel
theorem dX7_puts_19 : decode cX7_puts 19 = .ok (.aload_n 0, 1) := by decide +kernel
theorem dX7_puts_20 : decode cX7_puts 20 = .ok (.dup, 1) := by decide +kernel
theorem dX7_puts_21 : decode cX7_puts 21 = .ok (.getfield 126, 3) := by decide +kernel
theorem dX7_puts_24 : decode cX7_puts 24 = .ok (.iconst 1, 1) := by decide +kernel
theorem dX7_puts_25 : decode cX7_puts 25 = .ok (.iadd, 1) := by decide +kernel
theorem dX7_puts_26 : decode cX7_puts 26 = .ok (.putfield 126, 3) := by decide +kernel
theorem dX7_puts_29 : decode cX7_puts 29 = .ok (.return_, 1) := by decide +kernel
theorem dX7_lay_0 : decode cX7_lay 0 = .ok (.aload_n 0, 1) := by decide +kernel
theorem dX7_lay_1 : decode cX7_lay 1 = .ok (.iconst 0, 1) := by decide +kernel
theorem dX7_lay_2 : decode cX7_lay 2 = .ok (.putfield 47, 3) := by decide +kernel
theorem dX7_lay_5 : decode cX7_lay 5 = .ok (.iconst 4, 1) := by decide +kernel
theorem dX7_lay_6 : decode cX7_lay 6 = .ok (.iconst 2, 1) := by decide +kernel
theorem dX7_lay_7 : decode cX7_lay 7 = .ok (.aload_n 0, 1) := by decide +kernel
theorem dX7_lay_8 : decode cX7_lay 8 = .ok (.getfield 87, 3) := by decide +kernel
theorem dX7_lay_11 : decode cX7_lay 11 = .ok (.aload_n 0, 1) := by decide +kernel
theorem dX7_lay_12 : decode cX7_lay 12 = .ok (.getfield 90, 3) := by decide +kernel
theorem dX7_lay_15 : decode cX7_lay 15 = .ok (.iadd, 1) := by decide +kernel
theorem dX7_lay_16 : decode cX7_lay 16 = .ok (.imul, 1) := by decide +kernel
theorem dX7_lay_17 : decode cX7_lay 17 = .ok (.iadd, 1) := by decide +kernel
theorem dX7_lay_18 : decode cX7_lay 18 = .ok (.sipush 600, 3) := by decide +kernel
theorem dX7_lay_21 : decode cX7_lay 21 = .ok (.if_icmp .le 6, 3) := by decide +kernel
theorem dX7_lay_24 : decode cX7_lay 24 = .ok (.bipush (-3), 2) := by decide +kernel
theorem dX7_lay_26 : decode cX7_lay 26 = .ok (.ireturn, 1) := by decide +kernel
theorem dX7_lay_27 : decode cX7_lay 27 = .ok (.iconst 2, 1) := by decide +kernel
theorem dX7_lay_28 : decode cX7_lay 28 = .ok (.aload_n 0, 1) := by decide +kernel
theorem dX7_lay_29 : decode cX7_lay 29 = .ok (.getfield 81, 3) := by decide +kernel
theorem dX7_lay_32 : decode cX7_lay 32 = .ok (.imul, 1) := by decide +kernel
theorem dX7_lay_33 : decode cX7_lay 33 = .ok (.aload_n 0, 1) := by decide +kernel
theorem dX7_lay_34 : decode cX7_lay 34 = .ok (.getfield 84, 3) := by decide +kernel
theorem dX7_lay_37 : decode cX7_lay 37 = .ok (.iadd, 1) := by decide +kernel
theorem dX7_lay_38 : decode cX7_lay 38 = .ok (.istore_n 1, 1) := by decide +kernel
theorem dX7_lay_39 : decode cX7_lay 39 = .ok (.aload_n 0, 1) := by decide +kernel
theorem dX7_lay_40 : decode cX7_lay 40 = .ok (.iconst 0, 1) := by decide +kernel
theorem dX7_lay_41 : decode cX7_lay 41 = .ok (.putfield 123, 3) := by decide +kernel
theorem dX7_lay_44 : decode cX7_lay 44 = .ok (.aload_n 0, 1) := by decide +kernel
theorem dX7_lay_45 : decode cX7_lay 45 = .ok (.iconst 0, 1) := by decide +kernel
theorem dX7_lay_46 : decode cX7_lay 46 = .ok (.putfield 126, 3) := by decide +kernel
theorem dX7_lay_49 : decode cX7_lay 49 = .ok (.aload_n 0, 1) := by decide +kernel
theorem dX7_lay_50 : decode cX7_lay 50 = .ok (.iload_n 1, 1) := by decide +kernel
theorem dX7_lay_51 : decode cX7_lay 51 = .ok (.iconst 0, 1) := by decide +kernel
theorem dX7_lay_52 : decode cX7_lay 52 = .ok (.invokestatic 103, 3) := by decide +kernel
theorem dX7_lay_55 : decode cX7_lay 55 = .ok (.invokevirtual 129, 3) := by decide +kernel
theorem dX7_lay_58 : decode cX7_lay 58 = .ok (.aload_n 0, 1) := by decide +kernel
theorem dX7_lay_59 : decode cX7_lay 59 = .ok (.iconst 0, 1) := by decide +kernel
theorem dX7_lay_60 : decode cX7_lay 60 = .ok (.invokevirtual 129, 3) := by decide +kernel
theorem dX7_lay_63 : decode cX7_lay 63 = .ok (.iconst 0, 1) := by decide +kernel
theorem dX7_lay_64 : decode cX7_lay 64 = .ok (.istore_n 2, 1) := by decide +kernel
theorem dX7_lay_65 : decode cX7_lay 65 = .ok (.iload_n 2, 1) := by decide +kernel
theorem dX7_lay_66 : decode cX7_lay 66 = .ok (.aload_n 0, 1) := by decide +kernel
theorem dX7_lay_67 : decode cX7_lay 67 = .ok (.getfield 87, 3) := by decide +kernel
theorem dX7_lay_70 : decode cX7_lay 70 = .ok (.if_icmp .ge 23, 3) := by decide +kernel
theorem dX7_lay_73 : decode cX7_lay 73 = .ok (.aload_n 0, 1) := by decide +kernel
theorem dX7_lay_74 : decode cX7_lay 74 = .ok (.iload_n 1, 1) := by decide +kernel
theorem dX7_lay_75 : decode cX7_lay 75 = .ok (.iconst 1, 1) := by decide +kernel
theorem dX7_lay_76 : decode cX7_lay 76 = .ok (.invokestatic 103, 3) := by decide +kernel
theorem dX7_lay_79 : decode cX7_lay 79 = .ok (.invokevirtual 129, 3) := by decide +kernel
theorem dX7_lay_82 : decode cX7_lay 82 = .ok (.aload_n 0, 1) := by decide +kernel
theorem dX7_lay_83 : decode cX7_lay 83 = .ok (.iconst 0, 1) := by decide +kernel
theorem dX7_lay_84 : decode cX7_lay 84 = .ok (.invokevirtual 129, 3) := by decide +kernel
theorem dX7_lay_87 : decode cX7_lay 87 = .ok (.iinc 2 1, 3) := by decide +kernel
theorem dX7_lay_90 : decode cX7_lay 90 = .ok (.goto (-25), 3) := by decide +kernel
theorem dX7_lay_93 : decode cX7_lay 93 = .ok (.aload_n 0, 1) := by decide +kernel
theorem dX7_lay_94 : decode cX7_lay 94 = .ok (.iload_n 1, 1) := by decide +kernel
theorem dX7_lay_95 : decode cX7_lay 95 = .ok (.iconst 4, 1) := by decide +kernel
theorem dX7_lay_96 : decode cX7_lay 96 = .ok (.invokestatic 103, 3) := by decide +kernel
theorem dX7_lay_99 : decode cX7_lay 99 = .ok (.invokevirtual 129, 3) := by decide +kernel
theorem dX7_lay_102 : decode cX7_lay 102 = .ok (.aload_n 0, 1) := by decide +kernel
theorem dX7_lay_103 : decode cX7_lay 103 = .ok (.iconst 0, 1) := by decide +kernel
theorem dX7_lay_104 : decode cX7_lay 104 = .ok (.invokevirtual 129, 3) := by decide +kernel
theorem dX7_lay_107 : decode cX7_lay 107 = .ok (.iconst 0, 1) := by decide +kernel
theorem dX7_lay_108 : decode cX7_lay 108 = .ok (.istore_n 2, 1) := by decide +kernel
theorem dX7_lay_109 : decode cX7_lay 109 = .ok (.iload_n 2, 1) := by decide +kernel
theorem dX7_lay_110 : decode cX7_lay 110 = .ok (.aload_n 0, 1) := by decide +kernel
theorem dX7_lay_111 : decode cX7_lay 111 = .ok (.getfield 90, 3) := by decide +kernel
theorem dX7_lay_114 : decode cX7_lay 114 = .ok (.if_icmp .ge 23, 3) := by decide +kernel
theorem dX7_lay_117 : decode cX7_lay 117 = .ok (.aload_n 0, 1) := by decide +kernel
theorem dX7_lay_118 : decode cX7_lay 118 = .ok (.iload_n 1, 1) := by decide +kernel
theorem dX7_lay_119 : decode cX7_lay 119 = .ok (.iconst 5, 1) := by decide +kernel
theorem dX7_lay_120 : decode cX7_lay 120 = .ok (.invokestatic 103, 3) := by decide +kernel
theorem dX7_lay_123 : decode cX7_lay 123 = .ok (.invokevirtual 129, 3) := by decide +kernel
theorem dX7_lay_126 : decode cX7_lay 126 = .ok (.aload_n 0, 1) := by decide +kernel
theorem dX7_lay_127 : decode cX7_lay 127 = .ok (.iconst 0, 1) := by decide +kernel
theorem dX7_lay_128 : decode cX7_lay 128 = .ok (.invokevirtual 129, 3) := by decide +kernel
theorem dX7_lay_131 : decode cX7_lay 131 = .ok (.iinc 2 1, 3) := by decide +kernel
theorem dX7_lay_134 : decode cX7_lay 134 = .ok (.goto (-25), 3) := by decide +kernel
theorem dX7_lay_137 : decode cX7_lay 137 = .ok (.aload_n 0, 1) := by decide +kernel
theorem dX7_lay_138 : decode cX7_lay 138 = .ok (.getfield 126, 3) := by decide +kernel
theorem dX7_lay_141 : decode cX7_lay 141 = .ok (.ireturn, 1) := by decide +kernel
theorem dX7_add_0 : decode cX7_add 0 = .ok (.aload_n 0, 1) := by decide +kernel
theorem dX7_add_1 : decode cX7_add 1 = .ok (.iconst 0, 1) := by decide +kernel
theorem dX7_add_2 : decode cX7_add 2 = .ok (.putfield 47, 3) := by decide +kernel
theorem dX7_add_5 : decode cX7_add 5 = .ok (.iload_n 1, 1) := by decide +kernel
theorem dX7_add_6 : decode cX7_add 6 = .ok (.i2l, 1) := by decide +kernel
theorem dX7_add_7 : decode cX7_add 7 = .ok (.lconst 0, 1) := by decide +kernel
theorem dX7_add_8 : decode cX7_add 8 = .ok (.ldc2_w 118, 3) := by decide +kernel
theorem dX7_add_11 : decode cX7_add 11 = .ok (.invokestatic 53, 3) := by decide +kernel
theorem dX7_add_14 : decode cX7_add 14 = .ok (.ifCond .ne 5, 3) := by decide +kernel
theorem dX7_add_17 : decode cX7_add 17 = .ok (.iconst (-1), 1) := by decide +kernel
theorem dX7_add_18 : decode cX7_add 18 = .ok (.ireturn, 1) := by decide +kernel
theorem dX7_add_19 : decode cX7_add 19 = .ok (.aload_n 0, 1) := by decide +kernel
theorem dX7_add_20 : decode cX7_add 20 = .ok (.getfield 126, 3) := by decide +kernel
theorem dX7_add_23 : decode cX7_add 23 = .ok (.sipush 600, 3) := by decide +kernel
theorem dX7_add_26 : decode cX7_add 26 = .ok (.if_icmp .ne 6, 3) := by decide +kernel
theorem dX7_add_29 : decode cX7_add 29 = .ok (.bipush (-3), 2) := by decide +kernel
theorem dX7_add_31 : decode cX7_add 31 = .ok (.ireturn, 1) := by decide +kernel
theorem dX7_add_32 : decode cX7_add 32 = .ok (.aload_n 0, 1) := by decide +kernel
theorem dX7_add_33 : decode cX7_add 33 = .ok (.iload_n 1, 1) := by decide +kernel
theorem dX7_add_34 : decode cX7_add 34 = .ok (.invokevirtual 129, 3) := by decide +kernel
theorem dX7_add_37 : decode cX7_add 37 = .ok (.aload_n 0, 1) := by decide +kernel
theorem dX7_add_38 : decode cX7_add 38 = .ok (.getfield 126, 3) := by decide +kernel
theorem dX7_add_41 : decode cX7_add 41 = .ok (.ireturn, 1) := by decide +kernel
theorem dX7_clear_0 : decode cX7_clear 0 = .ok (.aload_n 0, 1) := by decide +kernel
theorem dX7_clear_1 : decode cX7_clear 1 = .ok (.iconst 0, 1) := by decide +kernel
theorem dX7_clear_2 : decode cX7_clear 2 = .ok (.putfield 47, 3) := by decide +kernel
theorem dX7_clear_5 : decode cX7_clear 5 = .ok (.aload_n 0, 1) := by decide +kernel
theorem dX7_clear_6 : decode cX7_clear 6 = .ok (.getfield 126, 3) := by decide +kernel
theorem dX7_clear_9 : decode cX7_clear 9 = .ok (.istore_n 1, 1) := by decide +kernel
theorem dX7_clear_10 : decode cX7_clear 10 = .ok (.aload_n 0, 1) := by decide +kernel
theorem dX7_clear_11 : decode cX7_clear 11 = .ok (.iconst 0, 1) := by decide +kernel
theorem dX7_clear_12 : decode cX7_clear 12 = .ok (.putfield 126, 3) := by decide +kernel
theorem dX7_clear_15 : decode cX7_clear 15 = .ok (.iload_n 1, 1) := by decide +kernel
theorem dX7_clear_16 : decode cX7_clear 16 = .ok (.ireturn, 1) := by decide +kernel
theorem dX7_letter_0 : decode cX7_letter 0 = .ok (.aload_n 0, 1) := by decide +kernel
theorem dX7_letter_1 : decode cX7_letter 1 = .ok (.iconst 0, 1) := by decide +kernel
theorem dX7_letter_2 : decode cX7_letter 2 = .ok (.putfield 47, 3) := by decide +kernel
theorem dX7_letter_5 : decode cX7_letter 5 = .ok (.iload_n 1, 1) := by decide +kernel
theorem dX7_letter_6 : decode cX7_letter 6 = .ok (.i2l, 1) := by decide +kernel
theorem dX7_letter_7 : decode cX7_letter 7 = .ok (.lconst 0, 1) := by decide +kernel
theorem dX7_letter_8 : decode cX7_letter 8 = .ok (.aload_n 0, 1) := by decide +kernel
theorem dX7_letter_9 : decode cX7_letter 9 = .ok (.getfield 126, 3) := by decide +kernel
theorem dX7_letter_12 : decode cX7_letter 12 = .ok (.iconst 1, 1) := by decide +kernel
theorem dX7_letter_13 : decode cX7_letter 13 = .ok (.isub, 1) := by decide +kernel
theorem dX7_letter_14 : decode cX7_letter 14 = .ok (.i2l, 1) := by decide +kernel
theorem dX7_letter_15 : decode cX7_letter 15 = .ok (.invokestatic 53, 3) := by decide +kernel
theorem dX7_letter_18 : decode cX7_letter 18 = .ok (.ifCond .eq 11, 3) := by decide +kernel
theorem dX7_letter_21 : decode cX7_letter 21 = .ok (.aload_n 0, 1) := by decide +kernel
theorem dX7_letter_22 : decode cX7_letter 22 = .ok (.iload_n 1, 1) := by decide +kernel
theorem dX7_letter_23 : decode cX7_letter 23 = .ok (.invokevirtual 132, 3) := by decide +kernel
theorem dX7_letter_26 : decode cX7_letter 26 = .ok (.goto 5, 3) := by decide +kernel
theorem dX7_letter_29 : decode cX7_letter 29 = .ok (.bipush (-9), 2) := by decide +kernel
theorem dX7_letter_31 : decode cX7_letter 31 = .ok (.ireturn, 1) := by decide +kernel
theorem dX7_length_0 : decode cX7_length 0 = .ok (.aload_n 0, 1) := by decide +kernel
theorem dX7_length_1 : decode cX7_length 1 = .ok (.iconst 0, 1) := by decide +kernel
theorem dX7_length_2 : decode cX7_length 2 = .ok (.putfield 47, 3) := by decide +kernel
theorem dX7_length_5 : decode cX7_length 5 = .ok (.aload_n 0, 1) := by decide +kernel
theorem dX7_length_6 : decode cX7_length 6 = .ok (.getfield 126, 3) := by decide +kernel
theorem dX7_length_9 : decode cX7_length 9 = .ok (.ireturn, 1) := by decide +kernel
theorem dX7_tags_0 : decode cX7_tags 0 = .ok (.aload_n 0, 1) := by decide +kernel
theorem dX7_tags_1 : decode cX7_tags 1 = .ok (.getfield 126, 3) := by decide +kernel
theorem dX7_tags_4 : decode cX7_tags 4 = .ok (.iconst 2, 1) := by decide +kernel
theorem dX7_tags_5 : decode cX7_tags 5 = .ok (.if_icmp .ge 5, 3) := by decide +kernel
theorem dX7_tags_8 : decode cX7_tags 8 = .ok (.iconst 0, 1) := by decide +kernel
theorem dX7_tags_9 : decode cX7_tags 9 = .ok (.ireturn, 1) := by decide +kernel
theorem dX7_tags_10 : decode cX7_tags 10 = .ok (.aload_n 0, 1) := by decide +kernel
theorem dX7_tags_11 : decode cX7_tags 11 = .ok (.aload_n 0, 1) := by decide +kernel
theorem dX7_tags_12 : decode cX7_tags 12 = .ok (.iconst 0, 1) := by decide +kernel
theorem dX7_tags_13 : decode cX7_tags 13 = .ok (.invokevirtual 132, 3) := by decide +kernel
theorem dX7_tags_16 : decode cX7_tags 16 = .ok (.invokevirtual 120, 3) := by decide +kernel
theorem dX7_tags_19 : decode cX7_tags 19 = .ok (.aload_n 0, 1) := by decide +kernel
theorem dX7_tags_20 : decode cX7_tags 20 = .ok (.getfield 97, 3) := by decide +kernel
theorem dX7_tags_23 : decode cX7_tags 23 = .ok (.ifCond .eq 20, 3) := by decide +kernel
theorem dX7_tags_26 : decode cX7_tags 26 = .ok (.aload_n 0, 1) := by decide +kernel
theorem dX7_tags_27 : decode cX7_tags 27 = .ok (.getfield 126, 3) := by decide +kernel
theorem dX7_tags_30 : decode cX7_tags 30 = .ok (.iconst 2, 1) := by decide +kernel
theorem dX7_tags_31 : decode cX7_tags 31 = .ok (.isub, 1) := by decide +kernel
theorem dX7_tags_32 : decode cX7_tags 32 = .ok (.aload_n 0, 1) := by decide +kernel
theorem dX7_tags_33 : decode cX7_tags 33 = .ok (.getfield 97, 3) := by decide +kernel
theorem dX7_tags_36 : decode cX7_tags 36 = .ok (.iadd, 1) := by decide +kernel
theorem dX7_tags_37 : decode cX7_tags 37 = .ok (.sipush 600, 3) := by decide +kernel
theorem dX7_tags_40 : decode cX7_tags 40 = .ok (.if_icmp .le 5, 3) := by decide +kernel
theorem dX7_tags_43 : decode cX7_tags 43 = .ok (.iconst 0, 1) := by decide +kernel
theorem dX7_tags_44 : decode cX7_tags 44 = .ok (.ireturn, 1) := by decide +kernel
theorem dX7_tags_45 : decode cX7_tags 45 = .ok (.aload_n 0, 1) := by decide +kernel
theorem dX7_tags_46 : decode cX7_tags 46 = .ok (.aload_n 0, 1) := by decide +kernel
theorem dX7_tags_47 : decode cX7_tags 47 = .ok (.getfield 123, 3) := by decide +kernel
theorem dX7_tags_50 : decode cX7_tags 50 = .ok (.iconst 2, 1) := by decide +kernel
theorem dX7_tags_51 : decode cX7_tags 51 = .ok (.iadd, 1) := by decide +kernel
theorem dX7_tags_52 : decode cX7_tags 52 = .ok (.sipush 700, 3) := by decide +kernel
theorem dX7_tags_55 : decode cX7_tags 55 = .ok (.irem, 1) := by decide +kernel
theorem dX7_tags_56 : decode cX7_tags 56 = .ok (.putfield 123, 3) := by decide +kernel
theorem dX7_tags_59 : decode cX7_tags 59 = .ok (.aload_n 0, 1) := by decide +kernel
theorem dX7_tags_60 : decode cX7_tags 60 = .ok (.dup, 1) := by decide +kernel
theorem dX7_tags_61 : decode cX7_tags 61 = .ok (.getfield 126, 3) := by decide +kernel
theorem dX7_tags_64 : decode cX7_tags 64 = .ok (.iconst 2, 1) := by decide +kernel
theorem dX7_tags_65 : decode cX7_tags 65 = .ok (.isub, 1) := by decide +kernel
theorem dX7_tags_66 : decode cX7_tags 66 = .ok (.putfield 126, 3) := by decide +kernel
theorem dX7_tags_69 : decode cX7_tags 69 = .ok (.iconst 0, 1) := by decide +kernel
theorem dX7_tags_70 : decode cX7_tags 70 = .ok (.istore_n 1, 1) := by decide +kernel
theorem dX7_tags_71 : decode cX7_tags 71 = .ok (.iload_n 1, 1) := by decide +kernel
theorem dX7_tags_72 : decode cX7_tags 72 = .ok (.aload_n 0, 1) := by decide +kernel
theorem dX7_tags_73 : decode cX7_tags 73 = .ok (.getfield 97, 3) := by decide +kernel
theorem dX7_tags_76 : decode cX7_tags 76 = .ok (.if_icmp .ge 19, 3) := by decide +kernel
theorem dX7_tags_79 : decode cX7_tags 79 = .ok (.aload_n 0, 1) := by decide +kernel
theorem dX7_tags_80 : decode cX7_tags 80 = .ok (.aload_n 0, 1) := by decide +kernel
theorem dX7_tags_81 : decode cX7_tags 81 = .ok (.getfield 44, 3) := by decide +kernel
theorem dX7_tags_84 : decode cX7_tags 84 = .ok (.iload_n 1, 1) := by decide +kernel
theorem dX7_tags_85 : decode cX7_tags 85 = .ok (.iaload, 1) := by decide +kernel
theorem dX7_tags_86 : decode cX7_tags 86 = .ok (.invokevirtual 129, 3) := by decide +kernel
theorem dX7_tags_89 : decode cX7_tags 89 = .ok (.iinc 1 1, 3) := by decide +kernel
theorem dX7_tags_92 : decode cX7_tags 92 = .ok (.goto (-21), 3) := by decide +kernel
theorem dX7_tags_95 : decode cX7_tags 95 = .ok (.iconst 1, 1) := by decide +kernel
theorem dX7_tags_96 : decode cX7_tags 96 = .ok (.ireturn, 1) := by decide +kernel
theorem dX7_tag_0 : decode cX7_tag 0 = .ok (.aload_n 0, 1) := by decide +kernel
theorem dX7_tag_1 : decode cX7_tag 1 = .ok (.iconst 0, 1) := by decide +kernel
theorem dX7_tag_2 : decode cX7_tag 2 = .ok (.putfield 47, 3) := by decide +kernel
theorem dX7_tag_5 : decode cX7_tag 5 = .ok (.iload_n 1, 1) := by decide +kernel
theorem dX7_tag_6 : decode cX7_tag 6 = .ok (.i2l, 1) := by decide +kernel
theorem dX7_tag_7 : decode cX7_tag 7 = .ok (.lconst 1, 1) := by decide +kernel
theorem dX7_tag_8 : decode cX7_tag 8 = .ok (.ldc2_w 136, 3) := by decide +kernel
theorem dX7_tag_11 : decode cX7_tag 11 = .ok (.invokestatic 53, 3) := by decide +kernel
theorem dX7_tag_14 : decode cX7_tag 14 = .ok (.ifCond .ne 5, 3) := by decide +kernel
theorem dX7_tag_17 : decode cX7_tag 17 = .ok (.iconst (-1), 1) := by decide +kernel
theorem dX7_tag_18 : decode cX7_tag 18 = .ok (.ireturn, 1) := by decide +kernel
theorem dX7_tag_19 : decode cX7_tag 19 = .ok (.iconst 0, 1) := by decide +kernel
theorem dX7_tag_20 : decode cX7_tag 20 = .ok (.istore_n 2, 1) := by decide +kernel
theorem dX7_tag_21 : decode cX7_tag 21 = .ok (.iload_n 2, 1) := by decide +kernel
theorem dX7_tag_22 : decode cX7_tag 22 = .ok (.iload_n 1, 1) := by decide +kernel
theorem dX7_tag_23 : decode cX7_tag 23 = .ok (.if_icmp .ge 16, 3) := by decide +kernel
theorem dX7_tag_26 : decode cX7_tag 26 = .ok (.aload_n 0, 1) := by decide +kernel
theorem dX7_tag_27 : decode cX7_tag 27 = .ok (.invokevirtual 138, 3) := by decide +kernel
theorem dX7_tag_30 : decode cX7_tag 30 = .ok (.ifCond .eq 9, 3) := by decide +kernel
theorem dX7_tag_33 : decode cX7_tag 33 = .ok (.iinc 2 1, 3) := by decide +kernel
theorem dX7_tag_36 : decode cX7_tag 36 = .ok (.goto (-15), 3) := by decide +kernel
theorem dX7_tag_39 : decode cX7_tag 39 = .ok (.iload_n 2, 1) := by decide +kernel
theorem dX7_tag_40 : decode cX7_tag 40 = .ok (.ireturn, 1) := by decide +kernel
theorem dX7_tells_0 : decode cX7_tells 0 = .ok (.aload_n 0, 1) := by decide +kernel
theorem dX7_tells_1 : decode cX7_tells 1 = .ok (.getfield 126, 3) := by decide +kernel
theorem dX7_tells_4 : decode cX7_tells 4 = .ok (.iconst 4, 1) := by decide +kernel
theorem dX7_tells_5 : decode cX7_tells 5 = .ok (.if_icmp .lt 34, 3) := by decide +kernel
theorem dX7_tells_8 : decode cX7_tells 8 = .ok (.aload_n 0, 1) := by decide +kernel
theorem dX7_tells_9 : decode cX7_tells 9 = .ok (.getfield 126, 3) := by decide +kernel
theorem dX7_tells_12 : decode cX7_tells 12 = .ok (.iconst 2, 1) := by decide +kernel
theorem dX7_tells_13 : decode cX7_tells 13 = .ok (.irem, 1) := by decide +kernel
theorem dX7_tells_14 : decode cX7_tells 14 = .ok (.iconst 1, 1) := by decide +kernel
theorem dX7_tells_15 : decode cX7_tells 15 = .ok (.if_icmp .eq 24, 3) := by decide +kernel
theorem dX7_tells_18 : decode cX7_tells 18 = .ok (.aload_n 0, 1) := by decide +kernel
theorem dX7_tells_19 : decode cX7_tells 19 = .ok (.iconst 0, 1) := by decide +kernel
theorem dX7_tells_20 : decode cX7_tells 20 = .ok (.invokevirtual 132, 3) := by decide +kernel
theorem dX7_tells_23 : decode cX7_tells 23 = .ok (.ifCond .eq 16, 3) := by decide +kernel
theorem dX7_tells_26 : decode cX7_tells 26 = .ok (.aload_n 0, 1) := by decide +kernel
theorem dX7_tells_27 : decode cX7_tells 27 = .ok (.iconst 0, 1) := by decide +kernel
theorem dX7_tells_28 : decode cX7_tells 28 = .ok (.invokevirtual 132, 3) := by decide +kernel
theorem dX7_tells_31 : decode cX7_tells 31 = .ok (.iconst 1, 1) := by decide +kernel
theorem dX7_tells_32 : decode cX7_tells 32 = .ok (.isub, 1) := by decide +kernel
theorem dX7_tells_33 : decode cX7_tells 33 = .ok (.bipush 20, 2) := by decide +kernel
theorem dX7_tells_35 : decode cX7_tells 35 = .ok (.irem, 1) := by decide +kernel
theorem dX7_tells_36 : decode cX7_tells 36 = .ok (.ifCond .eq 5, 3) := by decide +kernel
theorem dX7_tells_39 : decode cX7_tells 39 = .ok (.iconst 0, 1) := by decide +kernel
theorem dX7_tells_40 : decode cX7_tells 40 = .ok (.ireturn, 1) := by decide +kernel
theorem dX7_tells_41 : decode cX7_tells 41 = .ok (.aload_n 0, 1) := by decide +kernel
theorem dX7_tells_42 : decode cX7_tells 42 = .ok (.aload_n 0, 1) := by decide +kernel
theorem dX7_tells_43 : decode cX7_tells 43 = .ok (.iconst 0, 1) := by decide +kernel
theorem dX7_tells_44 : decode cX7_tells 44 = .ok (.invokevirtual 132, 3) := by decide +kernel
theorem dX7_tells_47 : decode cX7_tells 47 = .ok (.iconst 1, 1) := by decide +kernel
theorem dX7_tells_48 : decode cX7_tells 48 = .ok (.isub, 1) := by decide +kernel
theorem dX7_tells_49 : decode cX7_tells 49 = .ok (.bipush 20, 2) := by decide +kernel
theorem dX7_tells_51 : decode cX7_tells 51 = .ok (.idiv, 1) := by decide +kernel
theorem dX7_tells_52 : decode cX7_tells 52 = .ok (.putfield 141, 3) := by decide +kernel
theorem dX7_tells_55 : decode cX7_tells 55 = .ok (.aload_n 0, 1) := by decide +kernel
theorem dX7_tells_56 : decode cX7_tells 56 = .ok (.iconst 0, 1) := by decide +kernel
theorem dX7_tells_57 : decode cX7_tells 57 = .ok (.putfield 144, 3) := by decide +kernel
theorem dX7_tells_60 : decode cX7_tells 60 = .ok (.aload_n 0, 1) := by decide +kernel
theorem dX7_tells_61 : decode cX7_tells 61 = .ok (.iconst 0, 1) := by decide +kernel
theorem dX7_tells_62 : decode cX7_tells 62 = .ok (.putfield 147, 3) := by decide +kernel
theorem dX7_tells_65 : decode cX7_tells 65 = .ok (.iconst 0, 1) := by decide +kernel
theorem dX7_tells_66 : decode cX7_tells 66 = .ok (.istore_n 1, 1) := by decide +kernel
theorem dX7_tells_67 : decode cX7_tells 67 = .ok (.iconst 0, 1) := by decide +kernel
theorem dX7_tells_68 : decode cX7_tells 68 = .ok (.istore_n 2, 1) := by decide +kernel
theorem dX7_tells_69 : decode cX7_tells 69 = .ok (.iload_n 2, 1) := by decide +kernel
theorem dX7_tells_70 : decode cX7_tells 70 = .ok (.aload_n 0, 1) := by decide +kernel
theorem dX7_tells_71 : decode cX7_tells 71 = .ok (.getfield 126, 3) := by decide +kernel
theorem dX7_tells_74 : decode cX7_tells 74 = .ok (.if_icmp .ge 121, 3) := by decide +kernel
theorem dX7_tells_77 : decode cX7_tells 77 = .ok (.aload_n 0, 1) := by decide +kernel
theorem dX7_tells_78 : decode cX7_tells 78 = .ok (.iload_n 2, 1) := by decide +kernel
theorem dX7_tells_79 : decode cX7_tells 79 = .ok (.invokevirtual 132, 3) := by decide +kernel
theorem dX7_tells_82 : decode cX7_tells 82 = .ok (.istore_n 3, 1) := by decide +kernel
theorem dX7_tells_83 : decode cX7_tells 83 = .ok (.aload_n 0, 1) := by decide +kernel
theorem dX7_tells_84 : decode cX7_tells 84 = .ok (.iload_n 2, 1) := by decide +kernel
theorem dX7_tells_85 : decode cX7_tells 85 = .ok (.iconst 1, 1) := by decide +kernel
theorem dX7_tells_86 : decode cX7_tells 86 = .ok (.iadd, 1) := by decide +kernel
theorem dX7_tells_87 : decode cX7_tells 87 = .ok (.invokevirtual 132, 3) := by decide +kernel
theorem dX7_tells_90 : decode cX7_tells 90 = .ok (.ifCond .eq 5, 3) := by decide +kernel
theorem dX7_tells_93 : decode cX7_tells 93 = .ok (.iconst 0, 1) := by decide +kernel
theorem dX7_tells_94 : decode cX7_tells 94 = .ok (.ireturn, 1) := by decide +kernel
theorem dX7_tells_95 : decode cX7_tells 95 = .ok (.iload_n 2, 1) := by decide +kernel
theorem dX7_tells_96 : decode cX7_tells 96 = .ok (.ifCond .le 24, 3) := by decide +kernel
theorem dX7_tells_99 : decode cX7_tells 99 = .ok (.iload_n 3, 1) := by decide +kernel
theorem dX7_tells_100 : decode cX7_tells 100 = .ok (.aload_n 0, 1) := by decide +kernel
theorem dX7_tells_101 : decode cX7_tells 101 = .ok (.getfield 141, 3) := by decide +kernel
theorem dX7_tells_104 : decode cX7_tells 104 = .ok (.iconst 4, 1) := by decide +kernel
theorem dX7_tells_105 : decode cX7_tells 105 = .ok (.invokestatic 103, 3) := by decide +kernel
theorem dX7_tells_108 : decode cX7_tells 108 = .ok (.if_icmp .ne 12, 3) := by decide +kernel
theorem dX7_tells_111 : decode cX7_tells 111 = .ok (.iload_n 1, 1) := by decide +kernel
theorem dX7_tells_112 : decode cX7_tells 112 = .ok (.ifCond .ne 8, 3) := by decide +kernel
theorem dX7_tells_115 : decode cX7_tells 115 = .ok (.iconst 1, 1) := by decide +kernel
theorem dX7_tells_116 : decode cX7_tells 116 = .ok (.istore_n 1, 1) := by decide +kernel
theorem dX7_tells_117 : decode cX7_tells 117 = .ok (.goto 72, 3) := by decide +kernel
theorem dX7_tells_120 : decode cX7_tells 120 = .ok (.iload_n 2, 1) := by decide +kernel
theorem dX7_tells_121 : decode cX7_tells 121 = .ok (.ifCond .le 62, 3) := by decide +kernel
theorem dX7_tells_124 : decode cX7_tells 124 = .ok (.iload_n 3, 1) := by decide +kernel
theorem dX7_tells_125 : decode cX7_tells 125 = .ok (.aload_n 0, 1) := by decide +kernel
theorem dX7_tells_126 : decode cX7_tells 126 = .ok (.getfield 141, 3) := by decide +kernel
theorem dX7_tells_129 : decode cX7_tells 129 = .ok (.iload_n 1, 1) := by decide +kernel
theorem dX7_tells_130 : decode cX7_tells 130 = .ok (.ifCond .eq 7, 3) := by decide +kernel
theorem dX7_tells_133 : decode cX7_tells 133 = .ok (.iconst 5, 1) := by decide +kernel
theorem dX7_tells_134 : decode cX7_tells 134 = .ok (.goto 4, 3) := by decide +kernel
theorem dX7_tells_137 : decode cX7_tells 137 = .ok (.iconst 1, 1) := by decide +kernel
theorem dX7_tells_138 : decode cX7_tells 138 = .ok (.invokestatic 103, 3) := by decide +kernel
theorem dX7_tells_141 : decode cX7_tells 141 = .ok (.if_icmp .ne 42, 3) := by decide +kernel
theorem dX7_tells_144 : decode cX7_tells 144 = .ok (.aload_n 0, 1) := by decide +kernel
theorem dX7_tells_145 : decode cX7_tells 145 = .ok (.dup, 1) := by decide +kernel
theorem dX7_tells_146 : decode cX7_tells 146 = .ok (.getfield 144, 3) := by decide +kernel
theorem dX7_tells_149 : decode cX7_tells 149 = .ok (.iload_n 1, 1) := by decide +kernel
theorem dX7_tells_150 : decode cX7_tells 150 = .ok (.ifCond .eq 7, 3) := by decide +kernel
theorem dX7_tells_153 : decode cX7_tells 153 = .ok (.iconst 0, 1) := by decide +kernel
theorem dX7_tells_154 : decode cX7_tells 154 = .ok (.goto 4, 3) := by decide +kernel
theorem dX7_tells_157 : decode cX7_tells 157 = .ok (.iconst 1, 1) := by decide +kernel
theorem dX7_tells_158 : decode cX7_tells 158 = .ok (.iadd, 1) := by decide +kernel
theorem dX7_tells_159 : decode cX7_tells 159 = .ok (.putfield 144, 3) := by decide +kernel
theorem dX7_tells_162 : decode cX7_tells 162 = .ok (.aload_n 0, 1) := by decide +kernel
theorem dX7_tells_163 : decode cX7_tells 163 = .ok (.dup, 1) := by decide +kernel
theorem dX7_tells_164 : decode cX7_tells 164 = .ok (.getfield 147, 3) := by decide +kernel
theorem dX7_tells_167 : decode cX7_tells 167 = .ok (.iload_n 1, 1) := by decide +kernel
theorem dX7_tells_168 : decode cX7_tells 168 = .ok (.ifCond .eq 7, 3) := by decide +kernel
theorem dX7_tells_171 : decode cX7_tells 171 = .ok (.iconst 1, 1) := by decide +kernel
theorem dX7_tells_172 : decode cX7_tells 172 = .ok (.goto 4, 3) := by decide +kernel
theorem dX7_tells_175 : decode cX7_tells 175 = .ok (.iconst 0, 1) := by decide +kernel
theorem dX7_tells_176 : decode cX7_tells 176 = .ok (.iadd, 1) := by decide +kernel
theorem dX7_tells_177 : decode cX7_tells 177 = .ok (.putfield 147, 3) := by decide +kernel
theorem dX7_tells_180 : decode cX7_tells 180 = .ok (.goto 9, 3) := by decide +kernel
theorem dX7_tells_183 : decode cX7_tells 183 = .ok (.iload_n 2, 1) := by decide +kernel
theorem dX7_tells_184 : decode cX7_tells 184 = .ok (.ifCond .le 5, 3) := by decide +kernel
theorem dX7_tells_187 : decode cX7_tells 187 = .ok (.iconst 0, 1) := by decide +kernel
theorem dX7_tells_188 : decode cX7_tells 188 = .ok (.ireturn, 1) := by decide +kernel
theorem dX7_tells_189 : decode cX7_tells 189 = .ok (.iinc 2 2, 3) := by decide +kernel
theorem dX7_tells_192 : decode cX7_tells 192 = .ok (.goto (-123), 3) := by decide +kernel
theorem dX7_tells_195 : decode cX7_tells 195 = .ok (.iload_n 1, 1) := by decide +kernel
theorem dX7_tells_196 : decode cX7_tells 196 = .ok (.ireturn, 1) := by decide +kernel
theorem dX7_next_0 : decode cX7_next 0 = .ok (.aload_n 0, 1) := by decide +kernel
theorem dX7_next_1 : decode cX7_next 1 = .ok (.iconst 0, 1) := by decide +kernel
theorem dX7_next_2 : decode cX7_next 2 = .ok (.putfield 47, 3) := by decide +kernel
theorem dX7_next_5 : decode cX7_next 5 = .ok (.aload_n 0, 1) := by decide +kernel
theorem dX7_next_6 : decode cX7_next 6 = .ok (.aload_n 0, 1) := by decide +kernel
theorem dX7_next_7 : decode cX7_next 7 = .ok (.getfield 126, 3) := by decide +kernel
theorem dX7_next_10 : decode cX7_next 10 = .ok (.putfield 150, 3) := by decide +kernel
theorem dX7_next_13 : decode cX7_next 13 = .ok (.iconst 0, 1) := by decide +kernel
theorem dX7_next_14 : decode cX7_next 14 = .ok (.istore_n 1, 1) := by decide +kernel
theorem dX7_next_15 : decode cX7_next 15 = .ok (.iload_n 1, 1) := by decide +kernel
theorem dX7_next_16 : decode cX7_next 16 = .ok (.aload_n 0, 1) := by decide +kernel
theorem dX7_next_17 : decode cX7_next 17 = .ok (.getfield 126, 3) := by decide +kernel
theorem dX7_next_20 : decode cX7_next 20 = .ok (.if_icmp .ge 20, 3) := by decide +kernel
theorem dX7_next_23 : decode cX7_next 23 = .ok (.aload_n 0, 1) := by decide +kernel
theorem dX7_next_24 : decode cX7_next 24 = .ok (.getfield 37, 3) := by decide +kernel
theorem dX7_next_27 : decode cX7_next 27 = .ok (.iload_n 1, 1) := by decide +kernel
theorem dX7_next_28 : decode cX7_next 28 = .ok (.aload_n 0, 1) := by decide +kernel
theorem dX7_next_29 : decode cX7_next 29 = .ok (.iload_n 1, 1) := by decide +kernel
theorem dX7_next_30 : decode cX7_next 30 = .ok (.invokevirtual 132, 3) := by decide +kernel
theorem dX7_next_33 : decode cX7_next 33 = .ok (.iastore, 1) := by decide +kernel
theorem dX7_next_34 : decode cX7_next 34 = .ok (.iinc 1 1, 3) := by decide +kernel
theorem dX7_next_37 : decode cX7_next 37 = .ok (.goto (-22), 3) := by decide +kernel
theorem dX7_next_40 : decode cX7_next 40 = .ok (.iconst 0, 1) := by decide +kernel
theorem dX7_next_41 : decode cX7_next 41 = .ok (.istore_n 1, 1) := by decide +kernel
theorem dX7_next_42 : decode cX7_next 42 = .ok (.iload_n 1, 1) := by decide +kernel
theorem dX7_next_43 : decode cX7_next 43 = .ok (.sipush 20000, 3) := by decide +kernel
theorem dX7_next_46 : decode cX7_next 46 = .ok (.if_icmp .ge 22, 3) := by decide +kernel
theorem dX7_next_49 : decode cX7_next 49 = .ok (.aload_n 0, 1) := by decide +kernel
theorem dX7_next_50 : decode cX7_next 50 = .ok (.invokevirtual 138, 3) := by decide +kernel
theorem dX7_next_53 : decode cX7_next 53 = .ok (.ifCond .eq 15, 3) := by decide +kernel
theorem dX7_next_56 : decode cX7_next 56 = .ok (.iinc 1 1, 3) := by decide +kernel
theorem dX7_next_59 : decode cX7_next 59 = .ok (.aload_n 0, 1) := by decide +kernel
theorem dX7_next_60 : decode cX7_next 60 = .ok (.invokevirtual 153, 3) := by decide +kernel
theorem dX7_next_63 : decode cX7_next 63 = .ok (.ifCond .eq (-21), 3) := by decide +kernel
theorem dX7_next_66 : decode cX7_next 66 = .ok (.iload_n 1, 1) := by decide +kernel
theorem dX7_next_67 : decode cX7_next 67 = .ok (.ireturn, 1) := by decide +kernel
theorem dX7_next_68 : decode cX7_next 68 = .ok (.aload_n 0, 1) := by decide +kernel
theorem dX7_next_69 : decode cX7_next 69 = .ok (.iconst 0, 1) := by decide +kernel
theorem dX7_next_70 : decode cX7_next 70 = .ok (.putfield 123, 3) := by decide +kernel
theorem dX7_next_73 : decode cX7_next 73 = .ok (.aload_n 0, 1) := by decide +kernel
theorem dX7_next_74 : decode cX7_next 74 = .ok (.iconst 0, 1) := by decide +kernel
theorem dX7_next_75 : decode cX7_next 75 = .ok (.putfield 126, 3) := by decide +kernel
theorem dX7_next_78 : decode cX7_next 78 = .ok (.iconst 0, 1) := by decide +kernel
theorem dX7_next_79 : decode cX7_next 79 = .ok (.istore_n 2, 1) := by decide +kernel
theorem dX7_next_80 : decode cX7_next 80 = .ok (.iload_n 2, 1) := by decide +kernel
theorem dX7_next_81 : decode cX7_next 81 = .ok (.aload_n 0, 1) := by decide +kernel
theorem dX7_next_82 : decode cX7_next 82 = .ok (.getfield 150, 3) := by decide +kernel
theorem dX7_next_85 : decode cX7_next 85 = .ok (.if_icmp .ge 19, 3) := by decide +kernel
theorem dX7_next_88 : decode cX7_next 88 = .ok (.aload_n 0, 1) := by decide +kernel
theorem dX7_next_89 : decode cX7_next 89 = .ok (.aload_n 0, 1) := by decide +kernel
theorem dX7_next_90 : decode cX7_next 90 = .ok (.getfield 37, 3) := by decide +kernel
theorem dX7_next_93 : decode cX7_next 93 = .ok (.iload_n 2, 1) := by decide +kernel
theorem dX7_next_94 : decode cX7_next 94 = .ok (.iaload, 1) := by decide +kernel
theorem dX7_next_95 : decode cX7_next 95 = .ok (.invokevirtual 129, 3) := by decide +kernel
theorem dX7_next_98 : decode cX7_next 98 = .ok (.iinc 2 1, 3) := by decide +kernel
theorem dX7_next_101 : decode cX7_next 101 = .ok (.goto (-21), 3) := by decide +kernel
theorem dX7_next_104 : decode cX7_next 104 = .ok (.bipush (-2), 2) := by decide +kernel
theorem dX7_next_106 : decode cX7_next 106 = .ok (.ireturn, 1) := by decide +kernel
theorem dX7_told_0 : decode cX7_told 0 = .ok (.aload_n 0, 1) := by decide +kernel
theorem dX7_told_1 : decode cX7_told 1 = .ok (.iconst 0, 1) := by decide +kernel
theorem dX7_told_2 : decode cX7_told 2 = .ok (.putfield 47, 3) := by decide +kernel
theorem dX7_told_5 : decode cX7_told 5 = .ok (.iload_n 1, 1) := by decide +kernel
theorem dX7_told_6 : decode cX7_told 6 = .ok (.i2l, 1) := by decide +kernel
theorem dX7_told_7 : decode cX7_told 7 = .ok (.lconst 0, 1) := by decide +kernel
theorem dX7_told_8 : decode cX7_told 8 = .ok (.ldc2_w 57, 3) := by decide +kernel
theorem dX7_told_11 : decode cX7_told 11 = .ok (.invokestatic 53, 3) := by decide +kernel
theorem dX7_told_14 : decode cX7_told 14 = .ok (.ifCond .ne 5, 3) := by decide +kernel
theorem dX7_told_17 : decode cX7_told 17 = .ok (.iconst (-1), 1) := by decide +kernel
theorem dX7_told_18 : decode cX7_told 18 = .ok (.ireturn, 1) := by decide +kernel
theorem dX7_told_19 : decode cX7_told 19 = .ok (.aload_n 0, 1) := by decide +kernel
theorem dX7_told_20 : decode cX7_told 20 = .ok (.invokevirtual 153, 3) := by decide +kernel
theorem dX7_told_23 : decode cX7_told 23 = .ok (.ifCond .ne 6, 3) := by decide +kernel
theorem dX7_told_26 : decode cX7_told 26 = .ok (.bipush (-9), 2) := by decide +kernel
theorem dX7_told_28 : decode cX7_told 28 = .ok (.ireturn, 1) := by decide +kernel
theorem dX7_told_29 : decode cX7_told 29 = .ok (.iload_n 1, 1) := by decide +kernel
theorem dX7_told_30 : decode cX7_told 30 = .ok (.ifCond .ne 12, 3) := by decide +kernel
theorem dX7_told_33 : decode cX7_told 33 = .ok (.aload_n 0, 1) := by decide +kernel
theorem dX7_told_34 : decode cX7_told 34 = .ok (.getfield 141, 3) := by decide +kernel
theorem dX7_told_37 : decode cX7_told 37 = .ok (.iconst 2, 1) := by decide +kernel
theorem dX7_told_38 : decode cX7_told 38 = .ok (.idiv, 1) := by decide +kernel
theorem dX7_told_39 : decode cX7_told 39 = .ok (.goto 33, 3) := by decide +kernel
theorem dX7_told_42 : decode cX7_told 42 = .ok (.iload_n 1, 1) := by decide +kernel
theorem dX7_told_43 : decode cX7_told 43 = .ok (.iconst 1, 1) := by decide +kernel
theorem dX7_told_44 : decode cX7_told 44 = .ok (.if_icmp .ne 12, 3) := by decide +kernel
theorem dX7_told_47 : decode cX7_told 47 = .ok (.aload_n 0, 1) := by decide +kernel
theorem dX7_told_48 : decode cX7_told 48 = .ok (.getfield 141, 3) := by decide +kernel
theorem dX7_told_51 : decode cX7_told 51 = .ok (.iconst 2, 1) := by decide +kernel
theorem dX7_told_52 : decode cX7_told 52 = .ok (.irem, 1) := by decide +kernel
theorem dX7_told_53 : decode cX7_told 53 = .ok (.goto 19, 3) := by decide +kernel
theorem dX7_told_56 : decode cX7_told 56 = .ok (.iload_n 1, 1) := by decide +kernel
theorem dX7_told_57 : decode cX7_told 57 = .ok (.iconst 2, 1) := by decide +kernel
theorem dX7_told_58 : decode cX7_told 58 = .ok (.if_icmp .ne 10, 3) := by decide +kernel
theorem dX7_told_61 : decode cX7_told 61 = .ok (.aload_n 0, 1) := by decide +kernel
theorem dX7_told_62 : decode cX7_told 62 = .ok (.getfield 144, 3) := by decide +kernel
theorem dX7_told_65 : decode cX7_told 65 = .ok (.goto 7, 3) := by decide +kernel
theorem dX7_told_68 : decode cX7_told 68 = .ok (.aload_n 0, 1) := by decide +kernel
theorem dX7_told_69 : decode cX7_told 69 = .ok (.getfield 147, 3) := by decide +kernel
theorem dX7_told_72 : decode cX7_told 72 = .ok (.ireturn, 1) := by decide +kernel
theorem dX7_bitAt_0 : decode cX7_bitAt 0 = .ok (.aload_n 0, 1) := by decide +kernel
theorem dX7_bitAt_1 : decode cX7_bitAt 1 = .ok (.getfield 41, 3) := by decide +kernel
theorem dX7_bitAt_4 : decode cX7_bitAt 4 = .ok (.aload_n 0, 1) := by decide +kernel
theorem dX7_bitAt_5 : decode cX7_bitAt 5 = .ok (.getfield 156, 3) := by decide +kernel
theorem dX7_bitAt_8 : decode cX7_bitAt 8 = .ok (.iload_n 1, 1) := by decide +kernel
theorem dX7_bitAt_9 : decode cX7_bitAt 9 = .ok (.iadd, 1) := by decide +kernel
theorem dX7_bitAt_10 : decode cX7_bitAt 10 = .ok (.ldc 40, 2) := by decide +kernel
theorem dX7_bitAt_12 : decode cX7_bitAt 12 = .ok (.irem, 1) := by decide +kernel
theorem dX7_bitAt_13 : decode cX7_bitAt 13 = .ok (.iaload, 1) := by decide +kernel
theorem dX7_bitAt_14 : decode cX7_bitAt 14 = .ok (.ireturn, 1) := by decide +kernel
theorem dX7_putBit_0 : decode cX7_putBit 0 = .ok (.aload_n 0, 1) := by decide +kernel
theorem dX7_putBit_1 : decode cX7_putBit 1 = .ok (.getfield 41, 3) := by decide +kernel
theorem dX7_putBit_4 : decode cX7_putBit 4 = .ok (.aload_n 0, 1) := by decide +kernel
theorem dX7_putBit_5 : decode cX7_putBit 5 = .ok (.getfield 156, 3) := by decide +kernel
theorem dX7_putBit_8 : decode cX7_putBit 8 = .ok (.aload_n 0, 1) := by decide +kernel
theorem dX7_putBit_9 : decode cX7_putBit 9 = .ok (.getfield 159, 3) := by decide +kernel
theorem dX7_putBit_12 : decode cX7_putBit 12 = .ok (.iadd, 1) := by decide +kernel
theorem dX7_putBit_13 : decode cX7_putBit 13 = .ok (.ldc 40, 2) := by decide +kernel
theorem dX7_putBit_15 : decode cX7_putBit 15 = .ok (.irem, 1) := by decide +kernel
theorem dX7_putBit_16 : decode cX7_putBit 16 = .ok (.iload_n 1, 1) := by decide +kernel
theorem dX7_putBit_17 : decode cX7_putBit 17 = .ok (.iastore, 1) := by decide +kernel
theorem dX7_putBit_18 : decode cX7_putBit 18 = .ok (.aload_n 0, 1) := by decide +kernel
theorem dX7_putBit_19 : decode cX7_putBit 19 = .ok (.dup, 1) := by decide +kernel
theorem dX7_putBit_20 : decode cX7_putBit 20 = .ok (.getfield 159, 3) := by decide +kernel
theorem dX7_putBit_23 : decode cX7_putBit 23 = .ok (.iconst 1, 1) := by decide +kernel
theorem dX7_putBit_24 : decode cX7_putBit 24 = .ok (.iadd, 1) := by decide +kernel
theorem dX7_putBit_25 : decode cX7_putBit 25 = .ok (.putfield 159, 3) := by decide +kernel
theorem dX7_putBit_28 : decode cX7_putBit 28 = .ok (.return_, 1) := by decide +kernel
theorem dX7_appendant_0 : decode cX7_appendant 0 = .ok (.aload_n 0, 1) := by decide +kernel
theorem dX7_appendant_1 : decode cX7_appendant 1 = .ok (.iconst 0, 1) := by decide +kernel
theorem dX7_appendant_2 : decode cX7_appendant 2 = .ok (.putfield 47, 3) := by decide +kernel
theorem dX7_appendant_5 : decode cX7_appendant 5 = .ok (.iload_n 1, 1) := by decide +kernel
theorem dX7_appendant_6 : decode cX7_appendant 6 = .ok (.i2l, 1) := by decide +kernel
theorem dX7_appendant_7 : decode cX7_appendant 7 = .ok (.lconst 0, 1) := by decide +kernel
theorem dX7_appendant_8 : decode cX7_appendant 8 = .ok (.ldc2_w 162, 3) := by decide +kernel
theorem dX7_appendant_11 : decode cX7_appendant 11 = .ok (.invokestatic 53, 3) := by decide +kernel
theorem dX7_appendant_14 : decode cX7_appendant 14 = .ok (.ifCond .ne 5, 3) := by decide +kernel
theorem dX7_appendant_17 : decode cX7_appendant 17 = .ok (.iconst (-1), 1) := by decide +kernel
theorem dX7_appendant_18 : decode cX7_appendant 18 = .ok (.ireturn, 1) := by decide +kernel
theorem dX7_appendant_19 : decode cX7_appendant 19 = .ok (.aload_n 0, 1) := by decide +kernel
theorem dX7_appendant_20 : decode cX7_appendant 20 = .ok (.iconst 0, 1) := by decide +kernel
theorem dX7_appendant_21 : decode cX7_appendant 21 = .ok (.putfield 97, 3) := by decide +kernel
theorem dX7_appendant_24 : decode cX7_appendant 24 = .ok (.iload_n 1, 1) := by decide +kernel
theorem dX7_appendant_25 : decode cX7_appendant 25 = .ok (.bipush 121, 2) := by decide +kernel
theorem dX7_appendant_27 : decode cX7_appendant 27 = .ok (.if_icmp .ge 8, 3) := by decide +kernel
theorem dX7_appendant_30 : decode cX7_appendant 30 = .ok (.aload_n 0, 1) := by decide +kernel
theorem dX7_appendant_31 : decode cX7_appendant 31 = .ok (.iload_n 1, 1) := by decide +kernel
theorem dX7_appendant_32 : decode cX7_appendant 32 = .ok (.invokevirtual 120, 3) := by decide +kernel
theorem dX7_appendant_35 : decode cX7_appendant 35 = .ok (.iload_n 2, 1) := by decide +kernel
theorem dX7_appendant_36 : decode cX7_appendant 36 = .ok (.i2l, 1) := by decide +kernel
theorem dX7_appendant_37 : decode cX7_appendant 37 = .ok (.lconst 0, 1) := by decide +kernel
theorem dX7_appendant_38 : decode cX7_appendant 38 = .ok (.bipush 121, 2) := by decide +kernel
theorem dX7_appendant_40 : decode cX7_appendant 40 = .ok (.aload_n 0, 1) := by decide +kernel
theorem dX7_appendant_41 : decode cX7_appendant 41 = .ok (.getfield 97, 3) := by decide +kernel
theorem dX7_appendant_44 : decode cX7_appendant 44 = .ok (.imul, 1) := by decide +kernel
theorem dX7_appendant_45 : decode cX7_appendant 45 = .ok (.iconst 1, 1) := by decide +kernel
theorem dX7_appendant_46 : decode cX7_appendant 46 = .ok (.isub, 1) := by decide +kernel
theorem dX7_appendant_47 : decode cX7_appendant 47 = .ok (.i2l, 1) := by decide +kernel
theorem dX7_appendant_48 : decode cX7_appendant 48 = .ok (.invokestatic 53, 3) := by decide +kernel
theorem dX7_appendant_51 : decode cX7_appendant 51 = .ok (.ifCond .eq 27, 3) := by decide +kernel
theorem dX7_appendant_54 : decode cX7_appendant 54 = .ok (.aload_n 0, 1) := by decide +kernel
theorem dX7_appendant_55 : decode cX7_appendant 55 = .ok (.getfield 44, 3) := by decide +kernel
theorem dX7_appendant_58 : decode cX7_appendant 58 = .ok (.iload_n 2, 1) := by decide +kernel
theorem dX7_appendant_59 : decode cX7_appendant 59 = .ok (.bipush 121, 2) := by decide +kernel
theorem dX7_appendant_61 : decode cX7_appendant 61 = .ok (.idiv, 1) := by decide +kernel
theorem dX7_appendant_62 : decode cX7_appendant 62 = .ok (.iaload, 1) := by decide +kernel
theorem dX7_appendant_63 : decode cX7_appendant 63 = .ok (.iload_n 2, 1) := by decide +kernel
theorem dX7_appendant_64 : decode cX7_appendant 64 = .ok (.bipush 121, 2) := by decide +kernel
theorem dX7_appendant_66 : decode cX7_appendant 66 = .ok (.irem, 1) := by decide +kernel
theorem dX7_appendant_67 : decode cX7_appendant 67 = .ok (.if_icmp .ne 7, 3) := by decide +kernel
theorem dX7_appendant_70 : decode cX7_appendant 70 = .ok (.iconst 1, 1) := by decide +kernel
theorem dX7_appendant_71 : decode cX7_appendant 71 = .ok (.goto 9, 3) := by decide +kernel
theorem dX7_appendant_74 : decode cX7_appendant 74 = .ok (.iconst 0, 1) := by decide +kernel
theorem dX7_appendant_75 : decode cX7_appendant 75 = .ok (.goto 5, 3) := by decide +kernel
theorem dX7_appendant_78 : decode cX7_appendant 78 = .ok (.bipush (-9), 2) := by decide +kernel
theorem dX7_appendant_80 : decode cX7_appendant 80 = .ok (.ireturn, 1) := by decide +kernel
theorem dX7_spread_0 : decode cX7_spread 0 = .ok (.aload_n 0, 1) := by decide +kernel
theorem dX7_spread_1 : decode cX7_spread 1 = .ok (.iconst 0, 1) := by decide +kernel
theorem dX7_spread_2 : decode cX7_spread 2 = .ok (.putfield 47, 3) := by decide +kernel
theorem dX7_spread_5 : decode cX7_spread 5 = .ok (.bipush 121, 2) := by decide +kernel
theorem dX7_spread_7 : decode cX7_spread 7 = .ok (.aload_n 0, 1) := by decide +kernel
theorem dX7_spread_8 : decode cX7_spread 8 = .ok (.getfield 126, 3) := by decide +kernel
theorem dX7_spread_11 : decode cX7_spread 11 = .ok (.imul, 1) := by decide +kernel
theorem dX7_spread_12 : decode cX7_spread 12 = .ok (.ldc 164, 2) := by decide +kernel
theorem dX7_spread_14 : decode cX7_spread 14 = .ok (.if_icmp .le 6, 3) := by decide +kernel
theorem dX7_spread_17 : decode cX7_spread 17 = .ok (.bipush (-3), 2) := by decide +kernel
theorem dX7_spread_19 : decode cX7_spread 19 = .ok (.ireturn, 1) := by decide +kernel
theorem dX7_spread_20 : decode cX7_spread 20 = .ok (.aload_n 0, 1) := by decide +kernel
theorem dX7_spread_21 : decode cX7_spread 21 = .ok (.iconst 0, 1) := by decide +kernel
theorem dX7_spread_22 : decode cX7_spread 22 = .ok (.putfield 156, 3) := by decide +kernel
theorem dX7_spread_25 : decode cX7_spread 25 = .ok (.aload_n 0, 1) := by decide +kernel
theorem dX7_spread_26 : decode cX7_spread 26 = .ok (.iconst 0, 1) := by decide +kernel
theorem dX7_spread_27 : decode cX7_spread 27 = .ok (.putfield 159, 3) := by decide +kernel
theorem dX7_spread_30 : decode cX7_spread 30 = .ok (.aload_n 0, 1) := by decide +kernel
theorem dX7_spread_31 : decode cX7_spread 31 = .ok (.iconst 0, 1) := by decide +kernel
theorem dX7_spread_32 : decode cX7_spread 32 = .ok (.putfield 165, 3) := by decide +kernel
theorem dX7_spread_35 : decode cX7_spread 35 = .ok (.iconst 0, 1) := by decide +kernel
theorem dX7_spread_36 : decode cX7_spread 36 = .ok (.istore_n 1, 1) := by decide +kernel
theorem dX7_spread_37 : decode cX7_spread 37 = .ok (.iload_n 1, 1) := by decide +kernel
theorem dX7_spread_38 : decode cX7_spread 38 = .ok (.aload_n 0, 1) := by decide +kernel
theorem dX7_spread_39 : decode cX7_spread 39 = .ok (.getfield 126, 3) := by decide +kernel
theorem dX7_spread_42 : decode cX7_spread 42 = .ok (.if_icmp .ge 41, 3) := by decide +kernel
theorem dX7_spread_45 : decode cX7_spread 45 = .ok (.iconst 0, 1) := by decide +kernel
theorem dX7_spread_46 : decode cX7_spread 46 = .ok (.istore_n 2, 1) := by decide +kernel
theorem dX7_spread_47 : decode cX7_spread 47 = .ok (.iload_n 2, 1) := by decide +kernel
theorem dX7_spread_48 : decode cX7_spread 48 = .ok (.bipush 121, 2) := by decide +kernel
theorem dX7_spread_50 : decode cX7_spread 50 = .ok (.if_icmp .ge 27, 3) := by decide +kernel
theorem dX7_spread_53 : decode cX7_spread 53 = .ok (.aload_n 0, 1) := by decide +kernel
theorem dX7_spread_54 : decode cX7_spread 54 = .ok (.aload_n 0, 1) := by decide +kernel
theorem dX7_spread_55 : decode cX7_spread 55 = .ok (.iload_n 1, 1) := by decide +kernel
theorem dX7_spread_56 : decode cX7_spread 56 = .ok (.invokevirtual 132, 3) := by decide +kernel
theorem dX7_spread_59 : decode cX7_spread 59 = .ok (.iload_n 2, 1) := by decide +kernel
theorem dX7_spread_60 : decode cX7_spread 60 = .ok (.if_icmp .ne 7, 3) := by decide +kernel
theorem dX7_spread_63 : decode cX7_spread 63 = .ok (.iconst 1, 1) := by decide +kernel
theorem dX7_spread_64 : decode cX7_spread 64 = .ok (.goto 4, 3) := by decide +kernel
theorem dX7_spread_67 : decode cX7_spread 67 = .ok (.iconst 0, 1) := by decide +kernel
theorem dX7_spread_68 : decode cX7_spread 68 = .ok (.invokevirtual 168, 3) := by decide +kernel
theorem dX7_spread_71 : decode cX7_spread 71 = .ok (.iinc 2 1, 3) := by decide +kernel
theorem dX7_spread_74 : decode cX7_spread 74 = .ok (.goto (-27), 3) := by decide +kernel
theorem dX7_spread_77 : decode cX7_spread 77 = .ok (.iinc 1 1, 3) := by decide +kernel
theorem dX7_spread_80 : decode cX7_spread 80 = .ok (.goto (-43), 3) := by decide +kernel
theorem dX7_spread_83 : decode cX7_spread 83 = .ok (.aload_n 0, 1) := by decide +kernel
theorem dX7_spread_84 : decode cX7_spread 84 = .ok (.getfield 159, 3) := by decide +kernel
theorem dX7_spread_87 : decode cX7_spread 87 = .ok (.ireturn, 1) := by decide +kernel
theorem dX7_letterOf_0 : decode cX7_letterOf 0 = .ok (.bipush (-9), 2) := by decide +kernel
theorem dX7_letterOf_2 : decode cX7_letterOf 2 = .ok (.istore_n 2, 1) := by decide +kernel
theorem dX7_letterOf_3 : decode cX7_letterOf 3 = .ok (.iconst 0, 1) := by decide +kernel
theorem dX7_letterOf_4 : decode cX7_letterOf 4 = .ok (.istore_n 3, 1) := by decide +kernel
theorem dX7_letterOf_5 : decode cX7_letterOf 5 = .ok (.iconst 0, 1) := by decide +kernel
theorem dX7_letterOf_6 : decode cX7_letterOf 6 = .ok (.istore 4, 2) := by decide +kernel
theorem dX7_letterOf_8 : decode cX7_letterOf 8 = .ok (.iload 4, 2) := by decide +kernel
theorem dX7_letterOf_10 : decode cX7_letterOf 10 = .ok (.bipush 121, 2) := by decide +kernel
theorem dX7_letterOf_12 : decode cX7_letterOf 12 = .ok (.if_icmp .ge 27, 3) := by decide +kernel
theorem dX7_letterOf_15 : decode cX7_letterOf 15 = .ok (.aload_n 0, 1) := by decide +kernel
theorem dX7_letterOf_16 : decode cX7_letterOf 16 = .ok (.iload_n 1, 1) := by decide +kernel
theorem dX7_letterOf_17 : decode cX7_letterOf 17 = .ok (.iload 4, 2) := by decide +kernel
theorem dX7_letterOf_19 : decode cX7_letterOf 19 = .ok (.iadd, 1) := by decide +kernel
theorem dX7_letterOf_20 : decode cX7_letterOf 20 = .ok (.invokevirtual 171, 3) := by decide +kernel
theorem dX7_letterOf_23 : decode cX7_letterOf 23 = .ok (.iconst 1, 1) := by decide +kernel
theorem dX7_letterOf_24 : decode cX7_letterOf 24 = .ok (.if_icmp .ne 9, 3) := by decide +kernel
theorem dX7_letterOf_27 : decode cX7_letterOf 27 = .ok (.iload 4, 2) := by decide +kernel
theorem dX7_letterOf_29 : decode cX7_letterOf 29 = .ok (.istore_n 2, 1) := by decide +kernel
theorem dX7_letterOf_30 : decode cX7_letterOf 30 = .ok (.iinc 3 1, 3) := by decide +kernel
theorem dX7_letterOf_33 : decode cX7_letterOf 33 = .ok (.iinc 4 1, 3) := by decide +kernel
theorem dX7_letterOf_36 : decode cX7_letterOf 36 = .ok (.goto (-28), 3) := by decide +kernel
theorem dX7_letterOf_39 : decode cX7_letterOf 39 = .ok (.iload_n 3, 1) := by decide +kernel
theorem dX7_letterOf_40 : decode cX7_letterOf 40 = .ok (.iconst 1, 1) := by decide +kernel
theorem dX7_letterOf_41 : decode cX7_letterOf 41 = .ok (.if_icmp .ne 7, 3) := by decide +kernel
theorem dX7_letterOf_44 : decode cX7_letterOf 44 = .ok (.iload_n 2, 1) := by decide +kernel
theorem dX7_letterOf_45 : decode cX7_letterOf 45 = .ok (.goto 5, 3) := by decide +kernel
theorem dX7_letterOf_48 : decode cX7_letterOf 48 = .ok (.bipush (-9), 2) := by decide +kernel
theorem dX7_letterOf_50 : decode cX7_letterOf 50 = .ok (.ireturn, 1) := by decide +kernel
theorem dX7_isStill_0 : decode cX7_isStill 0 = .ok (.aload_n 0, 1) := by decide +kernel
theorem dX7_isStill_1 : decode cX7_isStill 1 = .ok (.getfield 165, 3) := by decide +kernel
theorem dX7_isStill_4 : decode cX7_isStill 4 = .ok (.ifCond .eq 5, 3) := by decide +kernel
theorem dX7_isStill_7 : decode cX7_isStill 7 = .ok (.iconst 0, 1) := by decide +kernel
theorem dX7_isStill_8 : decode cX7_isStill 8 = .ok (.ireturn, 1) := by decide +kernel
theorem dX7_isStill_9 : decode cX7_isStill 9 = .ok (.aload_n 0, 1) := by decide +kernel
theorem dX7_isStill_10 : decode cX7_isStill 10 = .ok (.getfield 159, 3) := by decide +kernel
theorem dX7_isStill_13 : decode cX7_isStill 13 = .ok (.sipush 242, 3) := by decide +kernel
theorem dX7_isStill_16 : decode cX7_isStill 16 = .ok (.if_icmp .ge 5, 3) := by decide +kernel
theorem dX7_isStill_19 : decode cX7_isStill 19 = .ok (.iconst 1, 1) := by decide +kernel
theorem dX7_isStill_20 : decode cX7_isStill 20 = .ok (.ireturn, 1) := by decide +kernel
theorem dX7_isStill_21 : decode cX7_isStill 21 = .ok (.aload_n 0, 1) := by decide +kernel
theorem dX7_isStill_22 : decode cX7_isStill 22 = .ok (.iconst 0, 1) := by decide +kernel
theorem dX7_isStill_23 : decode cX7_isStill 23 = .ok (.invokevirtual 174, 3) := by decide +kernel
theorem dX7_isStill_26 : decode cX7_isStill 26 = .ok (.istore_n 1, 1) := by decide +kernel
theorem dX7_isStill_27 : decode cX7_isStill 27 = .ok (.iload_n 1, 1) := by decide +kernel
theorem dX7_isStill_28 : decode cX7_isStill 28 = .ok (.bipush (-9), 2) := by decide +kernel
theorem dX7_isStill_30 : decode cX7_isStill 30 = .ok (.if_icmp .ne 5, 3) := by decide +kernel
theorem dX7_isStill_33 : decode cX7_isStill 33 = .ok (.iconst 0, 1) := by decide +kernel
theorem dX7_isStill_34 : decode cX7_isStill 34 = .ok (.ireturn, 1) := by decide +kernel
theorem dX7_isStill_35 : decode cX7_isStill 35 = .ok (.aload_n 0, 1) := by decide +kernel
theorem dX7_isStill_36 : decode cX7_isStill 36 = .ok (.iload_n 1, 1) := by decide +kernel
theorem dX7_isStill_37 : decode cX7_isStill 37 = .ok (.invokevirtual 120, 3) := by decide +kernel
theorem dX7_isStill_40 : decode cX7_isStill 40 = .ok (.aload_n 0, 1) := by decide +kernel
theorem dX7_isStill_41 : decode cX7_isStill 41 = .ok (.getfield 97, 3) := by decide +kernel
theorem dX7_isStill_44 : decode cX7_isStill 44 = .ok (.ifCond .ne 7, 3) := by decide +kernel
theorem dX7_isStill_47 : decode cX7_isStill 47 = .ok (.iconst 1, 1) := by decide +kernel
theorem dX7_isStill_48 : decode cX7_isStill 48 = .ok (.goto 4, 3) := by decide +kernel
theorem dX7_isStill_51 : decode cX7_isStill 51 = .ok (.iconst 0, 1) := by decide +kernel
theorem dX7_isStill_52 : decode cX7_isStill 52 = .ok (.ireturn, 1) := by decide +kernel
theorem dX7_cycles_0 : decode cX7_cycles 0 = .ok (.aload_n 0, 1) := by decide +kernel
theorem dX7_cycles_1 : decode cX7_cycles 1 = .ok (.invokevirtual 177, 3) := by decide +kernel
theorem dX7_cycles_4 : decode cX7_cycles 4 = .ok (.ifCond .eq 5, 3) := by decide +kernel
theorem dX7_cycles_7 : decode cX7_cycles 7 = .ok (.iconst 0, 1) := by decide +kernel
theorem dX7_cycles_8 : decode cX7_cycles 8 = .ok (.ireturn, 1) := by decide +kernel
theorem dX7_cycles_9 : decode cX7_cycles 9 = .ok (.aload_n 0, 1) := by decide +kernel
theorem dX7_cycles_10 : decode cX7_cycles 10 = .ok (.iconst 0, 1) := by decide +kernel
theorem dX7_cycles_11 : decode cX7_cycles 11 = .ok (.invokevirtual 171, 3) := by decide +kernel
theorem dX7_cycles_14 : decode cX7_cycles 14 = .ok (.iconst 1, 1) := by decide +kernel
theorem dX7_cycles_15 : decode cX7_cycles 15 = .ok (.if_icmp .ne 7, 3) := by decide +kernel
theorem dX7_cycles_18 : decode cX7_cycles 18 = .ok (.iconst 1, 1) := by decide +kernel
theorem dX7_cycles_19 : decode cX7_cycles 19 = .ok (.goto 4, 3) := by decide +kernel
theorem dX7_cycles_22 : decode cX7_cycles 22 = .ok (.iconst 0, 1) := by decide +kernel
theorem dX7_cycles_23 : decode cX7_cycles 23 = .ok (.istore_n 1, 1) := by decide +kernel
theorem dX7_cycles_24 : decode cX7_cycles 24 = .ok (.aload_n 0, 1) := by decide +kernel
theorem dX7_cycles_25 : decode cX7_cycles 25 = .ok (.iconst 0, 1) := by decide +kernel
theorem dX7_cycles_26 : decode cX7_cycles 26 = .ok (.putfield 97, 3) := by decide +kernel
theorem dX7_cycles_29 : decode cX7_cycles 29 = .ok (.iload_n 1, 1) := by decide +kernel
theorem dX7_cycles_30 : decode cX7_cycles 30 = .ok (.ifCond .eq 20, 3) := by decide +kernel
theorem dX7_cycles_33 : decode cX7_cycles 33 = .ok (.aload_n 0, 1) := by decide +kernel
theorem dX7_cycles_34 : decode cX7_cycles 34 = .ok (.getfield 165, 3) := by decide +kernel
theorem dX7_cycles_37 : decode cX7_cycles 37 = .ok (.bipush 121, 2) := by decide +kernel
theorem dX7_cycles_39 : decode cX7_cycles 39 = .ok (.if_icmp .ge 11, 3) := by decide +kernel
theorem dX7_cycles_42 : decode cX7_cycles 42 = .ok (.aload_n 0, 1) := by decide +kernel
theorem dX7_cycles_43 : decode cX7_cycles 43 = .ok (.aload_n 0, 1) := by decide +kernel
theorem dX7_cycles_44 : decode cX7_cycles 44 = .ok (.getfield 165, 3) := by decide +kernel
theorem dX7_cycles_47 : decode cX7_cycles 47 = .ok (.invokevirtual 120, 3) := by decide +kernel
theorem dX7_cycles_50 : decode cX7_cycles 50 = .ok (.aload_n 0, 1) := by decide +kernel
theorem dX7_cycles_51 : decode cX7_cycles 51 = .ok (.getfield 159, 3) := by decide +kernel
theorem dX7_cycles_54 : decode cX7_cycles 54 = .ok (.iconst 1, 1) := by decide +kernel
theorem dX7_cycles_55 : decode cX7_cycles 55 = .ok (.isub, 1) := by decide +kernel
theorem dX7_cycles_56 : decode cX7_cycles 56 = .ok (.bipush 121, 2) := by decide +kernel
theorem dX7_cycles_58 : decode cX7_cycles 58 = .ok (.aload_n 0, 1) := by decide +kernel
theorem dX7_cycles_59 : decode cX7_cycles 59 = .ok (.getfield 97, 3) := by decide +kernel
theorem dX7_cycles_62 : decode cX7_cycles 62 = .ok (.imul, 1) := by decide +kernel
theorem dX7_cycles_63 : decode cX7_cycles 63 = .ok (.iadd, 1) := by decide +kernel
theorem dX7_cycles_64 : decode cX7_cycles 64 = .ok (.ldc 164, 2) := by decide +kernel
theorem dX7_cycles_66 : decode cX7_cycles 66 = .ok (.if_icmp .le 5, 3) := by decide +kernel
theorem dX7_cycles_69 : decode cX7_cycles 69 = .ok (.iconst 0, 1) := by decide +kernel
theorem dX7_cycles_70 : decode cX7_cycles 70 = .ok (.ireturn, 1) := by decide +kernel
theorem dX7_cycles_71 : decode cX7_cycles 71 = .ok (.aload_n 0, 1) := by decide +kernel
theorem dX7_cycles_72 : decode cX7_cycles 72 = .ok (.aload_n 0, 1) := by decide +kernel
theorem dX7_cycles_73 : decode cX7_cycles 73 = .ok (.getfield 156, 3) := by decide +kernel
theorem dX7_cycles_76 : decode cX7_cycles 76 = .ok (.iconst 1, 1) := by decide +kernel
theorem dX7_cycles_77 : decode cX7_cycles 77 = .ok (.iadd, 1) := by decide +kernel
theorem dX7_cycles_78 : decode cX7_cycles 78 = .ok (.ldc 40, 2) := by decide +kernel
theorem dX7_cycles_80 : decode cX7_cycles 80 = .ok (.irem, 1) := by decide +kernel
theorem dX7_cycles_81 : decode cX7_cycles 81 = .ok (.putfield 156, 3) := by decide +kernel
theorem dX7_cycles_84 : decode cX7_cycles 84 = .ok (.aload_n 0, 1) := by decide +kernel
theorem dX7_cycles_85 : decode cX7_cycles 85 = .ok (.dup, 1) := by decide +kernel
theorem dX7_cycles_86 : decode cX7_cycles 86 = .ok (.getfield 159, 3) := by decide +kernel
theorem dX7_cycles_89 : decode cX7_cycles 89 = .ok (.iconst 1, 1) := by decide +kernel
theorem dX7_cycles_90 : decode cX7_cycles 90 = .ok (.isub, 1) := by decide +kernel
theorem dX7_cycles_91 : decode cX7_cycles 91 = .ok (.putfield 159, 3) := by decide +kernel
theorem dX7_cycles_94 : decode cX7_cycles 94 = .ok (.iconst 0, 1) := by decide +kernel
theorem dX7_cycles_95 : decode cX7_cycles 95 = .ok (.istore_n 2, 1) := by decide +kernel
theorem dX7_cycles_96 : decode cX7_cycles 96 = .ok (.iload_n 2, 1) := by decide +kernel
theorem dX7_cycles_97 : decode cX7_cycles 97 = .ok (.aload_n 0, 1) := by decide +kernel
theorem dX7_cycles_98 : decode cX7_cycles 98 = .ok (.getfield 97, 3) := by decide +kernel
theorem dX7_cycles_101 : decode cX7_cycles 101 = .ok (.if_icmp .ge 42, 3) := by decide +kernel
theorem dX7_cycles_104 : decode cX7_cycles 104 = .ok (.iconst 0, 1) := by decide +kernel
theorem dX7_cycles_105 : decode cX7_cycles 105 = .ok (.istore_n 3, 1) := by decide +kernel
theorem dX7_cycles_106 : decode cX7_cycles 106 = .ok (.iload_n 3, 1) := by decide +kernel
theorem dX7_cycles_107 : decode cX7_cycles 107 = .ok (.bipush 121, 2) := by decide +kernel
theorem dX7_cycles_109 : decode cX7_cycles 109 = .ok (.if_icmp .ge 28, 3) := by decide +kernel
theorem dX7_cycles_112 : decode cX7_cycles 112 = .ok (.aload_n 0, 1) := by decide +kernel
theorem dX7_cycles_113 : decode cX7_cycles 113 = .ok (.aload_n 0, 1) := by decide +kernel
theorem dX7_cycles_114 : decode cX7_cycles 114 = .ok (.getfield 44, 3) := by decide +kernel
theorem dX7_cycles_117 : decode cX7_cycles 117 = .ok (.iload_n 2, 1) := by decide +kernel
theorem dX7_cycles_118 : decode cX7_cycles 118 = .ok (.iaload, 1) := by decide +kernel
theorem dX7_cycles_119 : decode cX7_cycles 119 = .ok (.iload_n 3, 1) := by decide +kernel
theorem dX7_cycles_120 : decode cX7_cycles 120 = .ok (.if_icmp .ne 7, 3) := by decide +kernel
theorem dX7_cycles_123 : decode cX7_cycles 123 = .ok (.iconst 1, 1) := by decide +kernel
theorem dX7_cycles_124 : decode cX7_cycles 124 = .ok (.goto 4, 3) := by decide +kernel
theorem dX7_cycles_127 : decode cX7_cycles 127 = .ok (.iconst 0, 1) := by decide +kernel
theorem dX7_cycles_128 : decode cX7_cycles 128 = .ok (.invokevirtual 168, 3) := by decide +kernel
theorem dX7_cycles_131 : decode cX7_cycles 131 = .ok (.iinc 3 1, 3) := by decide +kernel
theorem dX7_cycles_134 : decode cX7_cycles 134 = .ok (.goto (-28), 3) := by decide +kernel
theorem dX7_cycles_137 : decode cX7_cycles 137 = .ok (.iinc 2 1, 3) := by decide +kernel
theorem dX7_cycles_140 : decode cX7_cycles 140 = .ok (.goto (-44), 3) := by decide +kernel
theorem dX7_cycles_143 : decode cX7_cycles 143 = .ok (.aload_n 0, 1) := by decide +kernel
theorem dX7_cycles_144 : decode cX7_cycles 144 = .ok (.aload_n 0, 1) := by decide +kernel
theorem dX7_cycles_145 : decode cX7_cycles 145 = .ok (.getfield 165, 3) := by decide +kernel
theorem dX7_cycles_148 : decode cX7_cycles 148 = .ok (.iconst 1, 1) := by decide +kernel
theorem dX7_cycles_149 : decode cX7_cycles 149 = .ok (.iadd, 1) := by decide +kernel
theorem dX7_cycles_150 : decode cX7_cycles 150 = .ok (.sipush 242, 3) := by decide +kernel
theorem dX7_cycles_153 : decode cX7_cycles 153 = .ok (.irem, 1) := by decide +kernel
theorem dX7_cycles_154 : decode cX7_cycles 154 = .ok (.putfield 165, 3) := by decide +kernel
theorem dX7_cycles_157 : decode cX7_cycles 157 = .ok (.iconst 1, 1) := by decide +kernel
theorem dX7_cycles_158 : decode cX7_cycles 158 = .ok (.ireturn, 1) := by decide +kernel
theorem dX7_cycle_0 : decode cX7_cycle 0 = .ok (.aload_n 0, 1) := by decide +kernel
theorem dX7_cycle_1 : decode cX7_cycle 1 = .ok (.iconst 0, 1) := by decide +kernel
theorem dX7_cycle_2 : decode cX7_cycle 2 = .ok (.putfield 47, 3) := by decide +kernel
theorem dX7_cycle_5 : decode cX7_cycle 5 = .ok (.iload_n 1, 1) := by decide +kernel
theorem dX7_cycle_6 : decode cX7_cycle 6 = .ok (.i2l, 1) := by decide +kernel
theorem dX7_cycle_7 : decode cX7_cycle 7 = .ok (.lconst 1, 1) := by decide +kernel
theorem dX7_cycle_8 : decode cX7_cycle 8 = .ok (.ldc2_w 180, 3) := by decide +kernel
theorem dX7_cycle_11 : decode cX7_cycle 11 = .ok (.invokestatic 53, 3) := by decide +kernel
theorem dX7_cycle_14 : decode cX7_cycle 14 = .ok (.ifCond .ne 5, 3) := by decide +kernel
theorem dX7_cycle_17 : decode cX7_cycle 17 = .ok (.iconst (-1), 1) := by decide +kernel
theorem dX7_cycle_18 : decode cX7_cycle 18 = .ok (.ireturn, 1) := by decide +kernel
theorem dX7_cycle_19 : decode cX7_cycle 19 = .ok (.iconst 0, 1) := by decide +kernel
theorem dX7_cycle_20 : decode cX7_cycle 20 = .ok (.istore_n 2, 1) := by decide +kernel
theorem dX7_cycle_21 : decode cX7_cycle 21 = .ok (.iload_n 2, 1) := by decide +kernel
theorem dX7_cycle_22 : decode cX7_cycle 22 = .ok (.iload_n 1, 1) := by decide +kernel
theorem dX7_cycle_23 : decode cX7_cycle 23 = .ok (.if_icmp .ge 16, 3) := by decide +kernel
theorem dX7_cycle_26 : decode cX7_cycle 26 = .ok (.aload_n 0, 1) := by decide +kernel
theorem dX7_cycle_27 : decode cX7_cycle 27 = .ok (.invokevirtual 182, 3) := by decide +kernel
theorem dX7_cycle_30 : decode cX7_cycle 30 = .ok (.ifCond .eq 9, 3) := by decide +kernel
theorem dX7_cycle_33 : decode cX7_cycle 33 = .ok (.iinc 2 1, 3) := by decide +kernel
theorem dX7_cycle_36 : decode cX7_cycle 36 = .ok (.goto (-15), 3) := by decide +kernel
theorem dX7_cycle_39 : decode cX7_cycle 39 = .ok (.iload_n 2, 1) := by decide +kernel
theorem dX7_cycle_40 : decode cX7_cycle 40 = .ok (.ireturn, 1) := by decide +kernel
theorem dX7_bit_0 : decode cX7_bit 0 = .ok (.aload_n 0, 1) := by decide +kernel
theorem dX7_bit_1 : decode cX7_bit 1 = .ok (.iconst 0, 1) := by decide +kernel
theorem dX7_bit_2 : decode cX7_bit 2 = .ok (.putfield 47, 3) := by decide +kernel
theorem dX7_bit_5 : decode cX7_bit 5 = .ok (.iload_n 1, 1) := by decide +kernel
theorem dX7_bit_6 : decode cX7_bit 6 = .ok (.i2l, 1) := by decide +kernel
theorem dX7_bit_7 : decode cX7_bit 7 = .ok (.lconst 0, 1) := by decide +kernel
theorem dX7_bit_8 : decode cX7_bit 8 = .ok (.aload_n 0, 1) := by decide +kernel
theorem dX7_bit_9 : decode cX7_bit 9 = .ok (.getfield 159, 3) := by decide +kernel
theorem dX7_bit_12 : decode cX7_bit 12 = .ok (.iconst 1, 1) := by decide +kernel
theorem dX7_bit_13 : decode cX7_bit 13 = .ok (.isub, 1) := by decide +kernel
theorem dX7_bit_14 : decode cX7_bit 14 = .ok (.i2l, 1) := by decide +kernel
theorem dX7_bit_15 : decode cX7_bit 15 = .ok (.invokestatic 53, 3) := by decide +kernel
theorem dX7_bit_18 : decode cX7_bit 18 = .ok (.ifCond .eq 11, 3) := by decide +kernel
theorem dX7_bit_21 : decode cX7_bit 21 = .ok (.aload_n 0, 1) := by decide +kernel
theorem dX7_bit_22 : decode cX7_bit 22 = .ok (.iload_n 1, 1) := by decide +kernel
theorem dX7_bit_23 : decode cX7_bit 23 = .ok (.invokevirtual 171, 3) := by decide +kernel
theorem dX7_bit_26 : decode cX7_bit 26 = .ok (.goto 5, 3) := by decide +kernel
theorem dX7_bit_29 : decode cX7_bit 29 = .ok (.bipush (-9), 2) := by decide +kernel
theorem dX7_bit_31 : decode cX7_bit 31 = .ok (.ireturn, 1) := by decide +kernel
theorem dX7_bits_0 : decode cX7_bits 0 = .ok (.aload_n 0, 1) := by decide +kernel
theorem dX7_bits_1 : decode cX7_bits 1 = .ok (.iconst 0, 1) := by decide +kernel
theorem dX7_bits_2 : decode cX7_bits 2 = .ok (.putfield 47, 3) := by decide +kernel
theorem dX7_bits_5 : decode cX7_bits 5 = .ok (.iload_n 1, 1) := by decide +kernel
theorem dX7_bits_6 : decode cX7_bits 6 = .ok (.tableswitch 81 0 3 #[30, 35, 40, 68], 30) := by decide +kernel
theorem dX7_bits_36 : decode cX7_bits 36 = .ok (.aload_n 0, 1) := by decide +kernel
theorem dX7_bits_37 : decode cX7_bits 37 = .ok (.getfield 159, 3) := by decide +kernel
theorem dX7_bits_40 : decode cX7_bits 40 = .ok (.ireturn, 1) := by decide +kernel
theorem dX7_bits_41 : decode cX7_bits 41 = .ok (.aload_n 0, 1) := by decide +kernel
theorem dX7_bits_42 : decode cX7_bits 42 = .ok (.getfield 165, 3) := by decide +kernel
theorem dX7_bits_45 : decode cX7_bits 45 = .ok (.ireturn, 1) := by decide +kernel
theorem dX7_bits_46 : decode cX7_bits 46 = .ok (.iconst 0, 1) := by decide +kernel
theorem dX7_bits_47 : decode cX7_bits 47 = .ok (.istore_n 2, 1) := by decide +kernel
theorem dX7_bits_48 : decode cX7_bits 48 = .ok (.iconst 0, 1) := by decide +kernel
theorem dX7_bits_49 : decode cX7_bits 49 = .ok (.istore_n 3, 1) := by decide +kernel
theorem dX7_bits_50 : decode cX7_bits 50 = .ok (.iload_n 3, 1) := by decide +kernel
theorem dX7_bits_51 : decode cX7_bits 51 = .ok (.aload_n 0, 1) := by decide +kernel
theorem dX7_bits_52 : decode cX7_bits 52 = .ok (.getfield 159, 3) := by decide +kernel
theorem dX7_bits_55 : decode cX7_bits 55 = .ok (.if_icmp .ge 17, 3) := by decide +kernel
theorem dX7_bits_58 : decode cX7_bits 58 = .ok (.iload_n 2, 1) := by decide +kernel
theorem dX7_bits_59 : decode cX7_bits 59 = .ok (.aload_n 0, 1) := by decide +kernel
theorem dX7_bits_60 : decode cX7_bits 60 = .ok (.iload_n 3, 1) := by decide +kernel
theorem dX7_bits_61 : decode cX7_bits 61 = .ok (.invokevirtual 171, 3) := by decide +kernel
theorem dX7_bits_64 : decode cX7_bits 64 = .ok (.iadd, 1) := by decide +kernel
theorem dX7_bits_65 : decode cX7_bits 65 = .ok (.istore_n 2, 1) := by decide +kernel
theorem dX7_bits_66 : decode cX7_bits 66 = .ok (.iinc 3 1, 3) := by decide +kernel
theorem dX7_bits_69 : decode cX7_bits 69 = .ok (.goto (-19), 3) := by decide +kernel
theorem dX7_bits_72 : decode cX7_bits 72 = .ok (.iload_n 2, 1) := by decide +kernel
theorem dX7_bits_73 : decode cX7_bits 73 = .ok (.ireturn, 1) := by decide +kernel
theorem dX7_bits_74 : decode cX7_bits 74 = .ok (.aload_n 0, 1) := by decide +kernel
theorem dX7_bits_75 : decode cX7_bits 75 = .ok (.invokevirtual 177, 3) := by decide +kernel
theorem dX7_bits_78 : decode cX7_bits 78 = .ok (.ifCond .eq 7, 3) := by decide +kernel
theorem dX7_bits_81 : decode cX7_bits 81 = .ok (.iconst 1, 1) := by decide +kernel
theorem dX7_bits_82 : decode cX7_bits 82 = .ok (.goto 4, 3) := by decide +kernel
theorem dX7_bits_85 : decode cX7_bits 85 = .ok (.iconst 0, 1) := by decide +kernel
theorem dX7_bits_86 : decode cX7_bits 86 = .ok (.ireturn, 1) := by decide +kernel
theorem dX7_bits_87 : decode cX7_bits 87 = .ok (.iconst (-1), 1) := by decide +kernel
theorem dX7_bits_88 : decode cX7_bits 88 = .ok (.ireturn, 1) := by decide +kernel
theorem dX7_gather_0 : decode cX7_gather 0 = .ok (.aload_n 0, 1) := by decide +kernel
theorem dX7_gather_1 : decode cX7_gather 1 = .ok (.iconst 0, 1) := by decide +kernel
theorem dX7_gather_2 : decode cX7_gather 2 = .ok (.putfield 47, 3) := by decide +kernel
theorem dX7_gather_5 : decode cX7_gather 5 = .ok (.aload_n 0, 1) := by decide +kernel
theorem dX7_gather_6 : decode cX7_gather 6 = .ok (.getfield 165, 3) := by decide +kernel
theorem dX7_gather_9 : decode cX7_gather 9 = .ok (.ifCond .ne 13, 3) := by decide +kernel
theorem dX7_gather_12 : decode cX7_gather 12 = .ok (.aload_n 0, 1) := by decide +kernel
theorem dX7_gather_13 : decode cX7_gather 13 = .ok (.getfield 159, 3) := by decide +kernel
theorem dX7_gather_16 : decode cX7_gather 16 = .ok (.bipush 121, 2) := by decide +kernel
theorem dX7_gather_18 : decode cX7_gather 18 = .ok (.irem, 1) := by decide +kernel
theorem dX7_gather_19 : decode cX7_gather 19 = .ok (.ifCond .eq 6, 3) := by decide +kernel
theorem dX7_gather_22 : decode cX7_gather 22 = .ok (.bipush (-2), 2) := by decide +kernel
theorem dX7_gather_24 : decode cX7_gather 24 = .ok (.ireturn, 1) := by decide +kernel
theorem dX7_gather_25 : decode cX7_gather 25 = .ok (.iconst 0, 1) := by decide +kernel
theorem dX7_gather_26 : decode cX7_gather 26 = .ok (.istore_n 1, 1) := by decide +kernel
theorem dX7_gather_27 : decode cX7_gather 27 = .ok (.iload_n 1, 1) := by decide +kernel
theorem dX7_gather_28 : decode cX7_gather 28 = .ok (.aload_n 0, 1) := by decide +kernel
theorem dX7_gather_29 : decode cX7_gather 29 = .ok (.getfield 159, 3) := by decide +kernel
theorem dX7_gather_32 : decode cX7_gather 32 = .ok (.if_icmp .ge 22, 3) := by decide +kernel
theorem dX7_gather_35 : decode cX7_gather 35 = .ok (.aload_n 0, 1) := by decide +kernel
theorem dX7_gather_36 : decode cX7_gather 36 = .ok (.iload_n 1, 1) := by decide +kernel
theorem dX7_gather_37 : decode cX7_gather 37 = .ok (.invokevirtual 174, 3) := by decide +kernel
theorem dX7_gather_40 : decode cX7_gather 40 = .ok (.bipush (-9), 2) := by decide +kernel
theorem dX7_gather_42 : decode cX7_gather 42 = .ok (.if_icmp .ne 6, 3) := by decide +kernel
theorem dX7_gather_45 : decode cX7_gather 45 = .ok (.bipush (-2), 2) := by decide +kernel
theorem dX7_gather_47 : decode cX7_gather 47 = .ok (.ireturn, 1) := by decide +kernel
theorem dX7_gather_48 : decode cX7_gather 48 = .ok (.iinc 1 121, 3) := by decide +kernel
theorem dX7_gather_51 : decode cX7_gather 51 = .ok (.goto (-24), 3) := by decide +kernel
theorem dX7_gather_54 : decode cX7_gather 54 = .ok (.aload_n 0, 1) := by decide +kernel
theorem dX7_gather_55 : decode cX7_gather 55 = .ok (.getfield 159, 3) := by decide +kernel
theorem dX7_gather_58 : decode cX7_gather 58 = .ok (.bipush 121, 2) := by decide +kernel
theorem dX7_gather_60 : decode cX7_gather 60 = .ok (.idiv, 1) := by decide +kernel
theorem dX7_gather_61 : decode cX7_gather 61 = .ok (.sipush 600, 3) := by decide +kernel
theorem dX7_gather_64 : decode cX7_gather 64 = .ok (.if_icmp .le 6, 3) := by decide +kernel
theorem dX7_gather_67 : decode cX7_gather 67 = .ok (.bipush (-3), 2) := by decide +kernel
theorem dX7_gather_69 : decode cX7_gather 69 = .ok (.ireturn, 1) := by decide +kernel
theorem dX7_gather_70 : decode cX7_gather 70 = .ok (.aload_n 0, 1) := by decide +kernel
theorem dX7_gather_71 : decode cX7_gather 71 = .ok (.iconst 0, 1) := by decide +kernel
theorem dX7_gather_72 : decode cX7_gather 72 = .ok (.putfield 123, 3) := by decide +kernel
theorem dX7_gather_75 : decode cX7_gather 75 = .ok (.aload_n 0, 1) := by decide +kernel
theorem dX7_gather_76 : decode cX7_gather 76 = .ok (.iconst 0, 1) := by decide +kernel
theorem dX7_gather_77 : decode cX7_gather 77 = .ok (.putfield 126, 3) := by decide +kernel
theorem dX7_gather_80 : decode cX7_gather 80 = .ok (.iconst 0, 1) := by decide +kernel
theorem dX7_gather_81 : decode cX7_gather 81 = .ok (.istore_n 1, 1) := by decide +kernel
theorem dX7_gather_82 : decode cX7_gather 82 = .ok (.iload_n 1, 1) := by decide +kernel
theorem dX7_gather_83 : decode cX7_gather 83 = .ok (.aload_n 0, 1) := by decide +kernel
theorem dX7_gather_84 : decode cX7_gather 84 = .ok (.getfield 159, 3) := by decide +kernel
theorem dX7_gather_87 : decode cX7_gather 87 = .ok (.if_icmp .ge 18, 3) := by decide +kernel
theorem dX7_gather_90 : decode cX7_gather 90 = .ok (.aload_n 0, 1) := by decide +kernel
theorem dX7_gather_91 : decode cX7_gather 91 = .ok (.aload_n 0, 1) := by decide +kernel
theorem dX7_gather_92 : decode cX7_gather 92 = .ok (.iload_n 1, 1) := by decide +kernel
theorem dX7_gather_93 : decode cX7_gather 93 = .ok (.invokevirtual 174, 3) := by decide +kernel
theorem dX7_gather_96 : decode cX7_gather 96 = .ok (.invokevirtual 129, 3) := by decide +kernel
theorem dX7_gather_99 : decode cX7_gather 99 = .ok (.iinc 1 121, 3) := by decide +kernel
theorem dX7_gather_102 : decode cX7_gather 102 = .ok (.goto (-20), 3) := by decide +kernel
theorem dX7_gather_105 : decode cX7_gather 105 = .ok (.aload_n 0, 1) := by decide +kernel
theorem dX7_gather_106 : decode cX7_gather 106 = .ok (.getfield 126, 3) := by decide +kernel
theorem dX7_gather_109 : decode cX7_gather 109 = .ok (.ireturn, 1) := by decide +kernel
