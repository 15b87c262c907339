theorem dX7_init_0 : decode cX7_init 0 = .ok (.aload_n 0, 1) := by decide +kernel
theorem dX7_init_1 : decode cX7_init 1 = .ok (.invokespecial 1, 3) := by decide +kernel
theorem dX7_init_4 : decode cX7_init 4 = .ok (.aload_n 0, 1) := by decide +kernel
theorem dX7_init_5 : decode cX7_init 5 = .ok (.iconst 4, 1) := by decide +kernel
theorem dX7_init_6 : decode cX7_init 6 = .ok (.newarray .int, 2) := by decide +kernel
theorem dX7_init_8 : decode cX7_init 8 = .ok (.putfield 7, 3) := by decide +kernel
theorem dX7_init_11 : decode cX7_init 11 = .ok (.aload_n 0, 1) := by decide +kernel
theorem dX7_init_12 : decode cX7_init 12 = .ok (.bipush 24, 2) := by decide +kernel
theorem dX7_init_14 : decode cX7_init 14 = .ok (.newarray .int, 2) := by decide +kernel
theorem dX7_init_16 : decode cX7_init 16 = .ok (.putfield 13, 3) := by decide +kernel
theorem dX7_init_19 : decode cX7_init 19 = .ok (.aload_n 0, 1) := by decide +kernel
theorem dX7_init_20 : decode cX7_init 20 = .ok (.bipush 24, 2) := by decide +kernel
theorem dX7_init_22 : decode cX7_init 22 = .ok (.newarray .int, 2) := by decide +kernel
theorem dX7_init_24 : decode cX7_init 24 = .ok (.putfield 16, 3) := by decide +kernel
theorem dX7_init_27 : decode cX7_init 27 = .ok (.aload_n 0, 1) := by decide +kernel
theorem dX7_init_28 : decode cX7_init 28 = .ok (.bipush 24, 2) := by decide +kernel
theorem dX7_init_30 : decode cX7_init 30 = .ok (.newarray .int, 2) := by decide +kernel
theorem dX7_init_32 : decode cX7_init 32 = .ok (.putfield 19, 3) := by decide +kernel
theorem dX7_init_35 : decode cX7_init 35 = .ok (.aload_n 0, 1) := by decide +kernel
theorem dX7_init_36 : decode cX7_init 36 = .ok (.bipush 24, 2) := by decide +kernel
theorem dX7_init_38 : decode cX7_init 38 = .ok (.newarray .int, 2) := by decide +kernel
theorem dX7_init_40 : decode cX7_init 40 = .ok (.putfield 22, 3) := by decide +kernel
theorem dX7_init_43 : decode cX7_init 43 = .ok (.aload_n 0, 1) := by decide +kernel
theorem dX7_init_44 : decode cX7_init 44 = .ok (.bipush 6, 2) := by decide +kernel
theorem dX7_init_46 : decode cX7_init 46 = .ok (.newarray .int, 2) := by decide +kernel
theorem dX7_init_48 : decode cX7_init 48 = .ok (.dup, 1) := by decide +kernel
theorem dX7_init_49 : decode cX7_init 49 = .ok (.iconst 0, 1) := by decide +kernel
theorem dX7_init_50 : decode cX7_init 50 = .ok (.iconst (-1), 1) := by decide +kernel
theorem dX7_init_51 : decode cX7_init 51 = .ok (.iastore, 1) := by decide +kernel
theorem dX7_init_52 : decode cX7_init 52 = .ok (.dup, 1) := by decide +kernel
theorem dX7_init_53 : decode cX7_init 53 = .ok (.iconst 1, 1) := by decide +kernel
theorem dX7_init_54 : decode cX7_init 54 = .ok (.iconst (-1), 1) := by decide +kernel
theorem dX7_init_55 : decode cX7_init 55 = .ok (.iastore, 1) := by decide +kernel
theorem dX7_init_56 : decode cX7_init 56 = .ok (.dup, 1) := by decide +kernel
theorem dX7_init_57 : decode cX7_init 57 = .ok (.iconst 2, 1) := by decide +kernel
theorem dX7_init_58 : decode cX7_init 58 = .ok (.iconst (-1), 1) := by decide +kernel
theorem dX7_init_59 : decode cX7_init 59 = .ok (.iastore, 1) := by decide +kernel
theorem dX7_init_60 : decode cX7_init 60 = .ok (.dup, 1) := by decide +kernel
theorem dX7_init_61 : decode cX7_init 61 = .ok (.iconst 3, 1) := by decide +kernel
theorem dX7_init_62 : decode cX7_init 62 = .ok (.iconst (-1), 1) := by decide +kernel
theorem dX7_init_63 : decode cX7_init 63 = .ok (.iastore, 1) := by decide +kernel
theorem dX7_init_64 : decode cX7_init 64 = .ok (.dup, 1) := by decide +kernel
theorem dX7_init_65 : decode cX7_init 65 = .ok (.iconst 4, 1) := by decide +kernel
theorem dX7_init_66 : decode cX7_init 66 = .ok (.iconst (-1), 1) := by decide +kernel
theorem dX7_init_67 : decode cX7_init 67 = .ok (.iastore, 1) := by decide +kernel
theorem dX7_init_68 : decode cX7_init 68 = .ok (.dup, 1) := by decide +kernel
theorem dX7_init_69 : decode cX7_init 69 = .ok (.iconst 5, 1) := by decide +kernel
theorem dX7_init_70 : decode cX7_init 70 = .ok (.iconst (-1), 1) := by decide +kernel
theorem dX7_init_71 : decode cX7_init 71 = .ok (.iastore, 1) := by decide +kernel
theorem dX7_init_72 : decode cX7_init 72 = .ok (.putfield 25, 3) := by decide +kernel
theorem dX7_init_75 : decode cX7_init 75 = .ok (.aload_n 0, 1) := by decide +kernel
theorem dX7_init_76 : decode cX7_init 76 = .ok (.bipush 6, 2) := by decide +kernel
theorem dX7_init_78 : decode cX7_init 78 = .ok (.newarray .int, 2) := by decide +kernel
theorem dX7_init_80 : decode cX7_init 80 = .ok (.putfield 28, 3) := by decide +kernel
theorem dX7_init_83 : decode cX7_init 83 = .ok (.aload_n 0, 1) := by decide +kernel
theorem dX7_init_84 : decode cX7_init 84 = .ok (.bipush 6, 2) := by decide +kernel
theorem dX7_init_86 : decode cX7_init 86 = .ok (.newarray .int, 2) := by decide +kernel
theorem dX7_init_88 : decode cX7_init 88 = .ok (.putfield 31, 3) := by decide +kernel
theorem dX7_init_91 : decode cX7_init 91 = .ok (.aload_n 0, 1) := by decide +kernel
theorem dX7_init_92 : decode cX7_init 92 = .ok (.sipush 700, 3) := by decide +kernel
theorem dX7_init_95 : decode cX7_init 95 = .ok (.newarray .int, 2) := by decide +kernel
theorem dX7_init_97 : decode cX7_init 97 = .ok (.putfield 34, 3) := by decide +kernel
theorem dX7_init_100 : decode cX7_init 100 = .ok (.aload_n 0, 1) := by decide +kernel
theorem dX7_init_101 : decode cX7_init 101 = .ok (.sipush 700, 3) := by decide +kernel
theorem dX7_init_104 : decode cX7_init 104 = .ok (.newarray .int, 2) := by decide +kernel
theorem dX7_init_106 : decode cX7_init 106 = .ok (.putfield 37, 3) := by decide +kernel
theorem dX7_init_109 : decode cX7_init 109 = .ok (.aload_n 0, 1) := by decide +kernel
theorem dX7_init_110 : decode cX7_init 110 = .ok (.ldc 40, 2) := by decide +kernel
theorem dX7_init_112 : decode cX7_init 112 = .ok (.newarray .int, 2) := by decide +kernel
theorem dX7_init_114 : decode cX7_init 114 = .ok (.putfield 41, 3) := by decide +kernel
theorem dX7_init_117 : decode cX7_init 117 = .ok (.aload_n 0, 1) := by decide +kernel
theorem dX7_init_118 : decode cX7_init 118 = .ok (.bipush 6, 2) := by decide +kernel
theorem dX7_init_120 : decode cX7_init 120 = .ok (.newarray .int, 2) := by decide +kernel
theorem dX7_init_122 : decode cX7_init 122 = .ok (.putfield 44, 3) := by decide +kernel
theorem dX7_init_125 : decode cX7_init 125 = .ok (.return_, 1) := by decide +kernel
theorem dX7_in_0 : decode cX7_in 0 = .ok (.lload_n 0, 1) := by decide +kernel
theorem dX7_in_1 : decode cX7_in 1 = .ok (.lload_n 2, 1) := by decide +kernel
theorem dX7_in_2 : decode cX7_in 2 = .ok (.lcmp, 1) := by decide +kernel
theorem dX7_in_3 : decode cX7_in 3 = .ok (.ifCond .lt 14, 3) := by decide +kernel
theorem dX7_in_6 : decode cX7_in 6 = .ok (.lload_n 0, 1) := by decide +kernel
theorem dX7_in_7 : decode cX7_in 7 = .ok (.lload 4, 2) := by decide +kernel
theorem dX7_in_9 : decode cX7_in 9 = .ok (.lcmp, 1) := by decide +kernel
theorem dX7_in_10 : decode cX7_in 10 = .ok (.ifCond .gt 7, 3) := by decide +kernel
theorem dX7_in_13 : decode cX7_in 13 = .ok (.iconst 1, 1) := by decide +kernel
theorem dX7_in_14 : decode cX7_in 14 = .ok (.goto 4, 3) := by decide +kernel
theorem dX7_in_17 : decode cX7_in 17 = .ok (.iconst 0, 1) := by decide +kernel
theorem dX7_in_18 : decode cX7_in 18 = .ok (.ireturn, 1) := by decide +kernel
theorem dX7_line_0 : decode cX7_line 0 = .ok (.aload_n 0, 1) := by decide +kernel
theorem dX7_line_1 : decode cX7_line 1 = .ok (.iconst 0, 1) := by decide +kernel
theorem dX7_line_2 : decode cX7_line 2 = .ok (.putfield 47, 3) := by decide +kernel
theorem dX7_line_5 : decode cX7_line 5 = .ok (.iload_n 1, 1) := by decide +kernel
theorem dX7_line_6 : decode cX7_line 6 = .ok (.i2l, 1) := by decide +kernel
theorem dX7_line_7 : decode cX7_line 7 = .ok (.lconst 0, 1) := by decide +kernel
theorem dX7_line_8 : decode cX7_line 8 = .ok (.ldc2_w 51, 3) := by decide +kernel
theorem dX7_line_11 : decode cX7_line 11 = .ok (.invokestatic 53, 3) := by decide +kernel
theorem dX7_line_14 : decode cX7_line 14 = .ok (.ifCond .eq 40, 3) := by decide +kernel
theorem dX7_line_17 : decode cX7_line 17 = .ok (.iload_n 2, 1) := by decide +kernel
theorem dX7_line_18 : decode cX7_line 18 = .ok (.i2l, 1) := by decide +kernel
theorem dX7_line_19 : decode cX7_line 19 = .ok (.lconst 0, 1) := by decide +kernel
theorem dX7_line_20 : decode cX7_line 20 = .ok (.ldc2_w 57, 3) := by decide +kernel
theorem dX7_line_23 : decode cX7_line 23 = .ok (.invokestatic 53, 3) := by decide +kernel
theorem dX7_line_26 : decode cX7_line 26 = .ok (.ifCond .eq 28, 3) := by decide +kernel
theorem dX7_line_29 : decode cX7_line 29 = .ok (.iload_n 3, 1) := by decide +kernel
theorem dX7_line_30 : decode cX7_line 30 = .ok (.i2l, 1) := by decide +kernel
theorem dX7_line_31 : decode cX7_line 31 = .ok (.lconst 0, 1) := by decide +kernel
theorem dX7_line_32 : decode cX7_line 32 = .ok (.ldc2_w 59, 3) := by decide +kernel
theorem dX7_line_35 : decode cX7_line 35 = .ok (.invokestatic 53, 3) := by decide +kernel
theorem dX7_line_38 : decode cX7_line 38 = .ok (.ifCond .eq 16, 3) := by decide +kernel
theorem dX7_line_41 : decode cX7_line 41 = .ok (.iload 4, 2) := by decide +kernel
theorem dX7_line_43 : decode cX7_line 43 = .ok (.i2l, 1) := by decide +kernel
theorem dX7_line_44 : decode cX7_line 44 = .ok (.lconst 0, 1) := by decide +kernel
theorem dX7_line_45 : decode cX7_line 45 = .ok (.ldc2_w 59, 3) := by decide +kernel
theorem dX7_line_48 : decode cX7_line 48 = .ok (.invokestatic 53, 3) := by decide +kernel
theorem dX7_line_51 : decode cX7_line 51 = .ok (.ifCond .ne 5, 3) := by decide +kernel
theorem dX7_line_54 : decode cX7_line 54 = .ok (.iconst (-1), 1) := by decide +kernel
theorem dX7_line_55 : decode cX7_line 55 = .ok (.ireturn, 1) := by decide +kernel
theorem dX7_line_56 : decode cX7_line 56 = .ok (.aload_n 0, 1) := by decide +kernel
theorem dX7_line_57 : decode cX7_line 57 = .ok (.getfield 61, 3) := by decide +kernel
theorem dX7_line_60 : decode cX7_line 60 = .ok (.bipush 24, 2) := by decide +kernel
theorem dX7_line_62 : decode cX7_line 62 = .ok (.if_icmp .ne 6, 3) := by decide +kernel
theorem dX7_line_65 : decode cX7_line 65 = .ok (.bipush (-3), 2) := by decide +kernel
theorem dX7_line_67 : decode cX7_line 67 = .ok (.ireturn, 1) := by decide +kernel
theorem dX7_line_68 : decode cX7_line 68 = .ok (.aload_n 0, 1) := by decide +kernel
theorem dX7_line_69 : decode cX7_line 69 = .ok (.getfield 13, 3) := by decide +kernel
theorem dX7_line_72 : decode cX7_line 72 = .ok (.aload_n 0, 1) := by decide +kernel
theorem dX7_line_73 : decode cX7_line 73 = .ok (.getfield 61, 3) := by decide +kernel
theorem dX7_line_76 : decode cX7_line 76 = .ok (.iload_n 1, 1) := by decide +kernel
theorem dX7_line_77 : decode cX7_line 77 = .ok (.iastore, 1) := by decide +kernel
theorem dX7_line_78 : decode cX7_line 78 = .ok (.aload_n 0, 1) := by decide +kernel
theorem dX7_line_79 : decode cX7_line 79 = .ok (.getfield 16, 3) := by decide +kernel
theorem dX7_line_82 : decode cX7_line 82 = .ok (.aload_n 0, 1) := by decide +kernel
theorem dX7_line_83 : decode cX7_line 83 = .ok (.getfield 61, 3) := by decide +kernel
theorem dX7_line_86 : decode cX7_line 86 = .ok (.iload_n 2, 1) := by decide +kernel
theorem dX7_line_87 : decode cX7_line 87 = .ok (.iastore, 1) := by decide +kernel
theorem dX7_line_88 : decode cX7_line 88 = .ok (.aload_n 0, 1) := by decide +kernel
theorem dX7_line_89 : decode cX7_line 89 = .ok (.getfield 19, 3) := by decide +kernel
theorem dX7_line_92 : decode cX7_line 92 = .ok (.aload_n 0, 1) := by decide +kernel
theorem dX7_line_93 : decode cX7_line 93 = .ok (.getfield 61, 3) := by decide +kernel
theorem dX7_line_96 : decode cX7_line 96 = .ok (.iload_n 3, 1) := by decide +kernel
theorem dX7_line_97 : decode cX7_line 97 = .ok (.iastore, 1) := by decide +kernel
theorem dX7_line_98 : decode cX7_line 98 = .ok (.aload_n 0, 1) := by decide +kernel
theorem dX7_line_99 : decode cX7_line 99 = .ok (.getfield 22, 3) := by decide +kernel
theorem dX7_line_102 : decode cX7_line 102 = .ok (.aload_n 0, 1) := by decide +kernel
theorem dX7_line_103 : decode cX7_line 103 = .ok (.getfield 61, 3) := by decide +kernel
theorem dX7_line_106 : decode cX7_line 106 = .ok (.iload 4, 2) := by decide +kernel
theorem dX7_line_108 : decode cX7_line 108 = .ok (.iastore, 1) := by decide +kernel
theorem dX7_line_109 : decode cX7_line 109 = .ok (.aload_n 0, 1) := by decide +kernel
theorem dX7_line_110 : decode cX7_line 110 = .ok (.dup, 1) := by decide +kernel
theorem dX7_line_111 : decode cX7_line 111 = .ok (.getfield 61, 3) := by decide +kernel
theorem dX7_line_114 : decode cX7_line 114 = .ok (.iconst 1, 1) := by decide +kernel
theorem dX7_line_115 : decode cX7_line 115 = .ok (.iadd, 1) := by decide +kernel
theorem dX7_line_116 : decode cX7_line 116 = .ok (.putfield 61, 3) := by decide +kernel
theorem dX7_line_119 : decode cX7_line 119 = .ok (.aload_n 0, 1) := by decide +kernel
theorem dX7_line_120 : decode cX7_line 120 = .ok (.getfield 61, 3) := by decide +kernel
theorem dX7_line_123 : decode cX7_line 123 = .ok (.ireturn, 1) := by decide +kernel
theorem dX7_wipe_0 : decode cX7_wipe 0 = .ok (.aload_n 0, 1) := by decide +kernel
theorem dX7_wipe_1 : decode cX7_wipe 1 = .ok (.iconst 0, 1) := by decide +kernel
theorem dX7_wipe_2 : decode cX7_wipe 2 = .ok (.putfield 47, 3) := by decide +kernel
theorem dX7_wipe_5 : decode cX7_wipe 5 = .ok (.aload_n 0, 1) := by decide +kernel
theorem dX7_wipe_6 : decode cX7_wipe 6 = .ok (.getfield 61, 3) := by decide +kernel
theorem dX7_wipe_9 : decode cX7_wipe 9 = .ok (.istore_n 1, 1) := by decide +kernel
theorem dX7_wipe_10 : decode cX7_wipe 10 = .ok (.aload_n 0, 1) := by decide +kernel
theorem dX7_wipe_11 : decode cX7_wipe 11 = .ok (.iconst 0, 1) := by decide +kernel
theorem dX7_wipe_12 : decode cX7_wipe 12 = .ok (.putfield 61, 3) := by decide +kernel
theorem dX7_wipe_15 : decode cX7_wipe 15 = .ok (.aload_n 0, 1) := by decide +kernel
theorem dX7_wipe_16 : decode cX7_wipe 16 = .ok (.iconst 0, 1) := by decide +kernel
theorem dX7_wipe_17 : decode cX7_wipe 17 = .ok (.putfield 64, 3) := by decide +kernel
theorem dX7_wipe_20 : decode cX7_wipe 20 = .ok (.iload_n 1, 1) := by decide +kernel
theorem dX7_wipe_21 : decode cX7_wipe 21 = .ok (.ireturn, 1) := by decide +kernel
theorem dX7_set_0 : decode cX7_set 0 = .ok (.aload_n 0, 1) := by decide +kernel
theorem dX7_set_1 : decode cX7_set 1 = .ok (.iconst 0, 1) := by decide +kernel
theorem dX7_set_2 : decode cX7_set 2 = .ok (.putfield 47, 3) := by decide +kernel
theorem dX7_set_5 : decode cX7_set 5 = .ok (.iload_n 1, 1) := by decide +kernel
theorem dX7_set_6 : decode cX7_set 6 = .ok (.i2l, 1) := by decide +kernel
theorem dX7_set_7 : decode cX7_set 7 = .ok (.lconst 0, 1) := by decide +kernel
theorem dX7_set_8 : decode cX7_set 8 = .ok (.ldc2_w 57, 3) := by decide +kernel
theorem dX7_set_11 : decode cX7_set 11 = .ok (.invokestatic 53, 3) := by decide +kernel
theorem dX7_set_14 : decode cX7_set 14 = .ok (.ifCond .eq 15, 3) := by decide +kernel
theorem dX7_set_17 : decode cX7_set 17 = .ok (.iload_n 2, 1) := by decide +kernel
theorem dX7_set_18 : decode cX7_set 18 = .ok (.i2l, 1) := by decide +kernel
theorem dX7_set_19 : decode cX7_set 19 = .ok (.lconst 0, 1) := by decide +kernel
theorem dX7_set_20 : decode cX7_set 20 = .ok (.ldc2_w 67, 3) := by decide +kernel
theorem dX7_set_23 : decode cX7_set 23 = .ok (.invokestatic 53, 3) := by decide +kernel
theorem dX7_set_26 : decode cX7_set 26 = .ok (.ifCond .ne 5, 3) := by decide +kernel
theorem dX7_set_29 : decode cX7_set 29 = .ok (.iconst (-1), 1) := by decide +kernel
theorem dX7_set_30 : decode cX7_set 30 = .ok (.ireturn, 1) := by decide +kernel
theorem dX7_set_31 : decode cX7_set 31 = .ok (.aload_n 0, 1) := by decide +kernel
theorem dX7_set_32 : decode cX7_set 32 = .ok (.getfield 7, 3) := by decide +kernel
theorem dX7_set_35 : decode cX7_set 35 = .ok (.iload_n 1, 1) := by decide +kernel
theorem dX7_set_36 : decode cX7_set 36 = .ok (.iaload, 1) := by decide +kernel
theorem dX7_set_37 : decode cX7_set 37 = .ok (.istore_n 3, 1) := by decide +kernel
theorem dX7_set_38 : decode cX7_set 38 = .ok (.aload_n 0, 1) := by decide +kernel
theorem dX7_set_39 : decode cX7_set 39 = .ok (.getfield 7, 3) := by decide +kernel
theorem dX7_set_42 : decode cX7_set 42 = .ok (.iload_n 1, 1) := by decide +kernel
theorem dX7_set_43 : decode cX7_set 43 = .ok (.iload_n 2, 1) := by decide +kernel
theorem dX7_set_44 : decode cX7_set 44 = .ok (.iastore, 1) := by decide +kernel
theorem dX7_set_45 : decode cX7_set 45 = .ok (.iload_n 3, 1) := by decide +kernel
theorem dX7_set_46 : decode cX7_set 46 = .ok (.ireturn, 1) := by decide +kernel
theorem dX7_counter_0 : decode cX7_counter 0 = .ok (.aload_n 0, 1) := by decide +kernel
theorem dX7_counter_1 : decode cX7_counter 1 = .ok (.iconst 0, 1) := by decide +kernel
theorem dX7_counter_2 : decode cX7_counter 2 = .ok (.putfield 47, 3) := by decide +kernel
theorem dX7_counter_5 : decode cX7_counter 5 = .ok (.iload_n 1, 1) := by decide +kernel
theorem dX7_counter_6 : decode cX7_counter 6 = .ok (.i2l, 1) := by decide +kernel
theorem dX7_counter_7 : decode cX7_counter 7 = .ok (.lconst 0, 1) := by decide +kernel
theorem dX7_counter_8 : decode cX7_counter 8 = .ok (.ldc2_w 57, 3) := by decide +kernel
theorem dX7_counter_11 : decode cX7_counter 11 = .ok (.invokestatic 53, 3) := by decide +kernel
theorem dX7_counter_14 : decode cX7_counter 14 = .ok (.ifCond .eq 12, 3) := by decide +kernel
theorem dX7_counter_17 : decode cX7_counter 17 = .ok (.aload_n 0, 1) := by decide +kernel
theorem dX7_counter_18 : decode cX7_counter 18 = .ok (.getfield 7, 3) := by decide +kernel
theorem dX7_counter_21 : decode cX7_counter 21 = .ok (.iload_n 1, 1) := by decide +kernel
theorem dX7_counter_22 : decode cX7_counter 22 = .ok (.iaload, 1) := by decide +kernel
theorem dX7_counter_23 : decode cX7_counter 23 = .ok (.goto 4, 3) := by decide +kernel
theorem dX7_counter_26 : decode cX7_counter 26 = .ok (.iconst (-1), 1) := by decide +kernel
theorem dX7_counter_27 : decode cX7_counter 27 = .ok (.ireturn, 1) := by decide +kernel
theorem dX7_mayDo_0 : decode cX7_mayDo 0 = .ok (.aload_n 0, 1) := by decide +kernel
theorem dX7_mayDo_1 : decode cX7_mayDo 1 = .ok (.getfield 64, 3) := by decide +kernel
theorem dX7_mayDo_4 : decode cX7_mayDo 4 = .ok (.aload_n 0, 1) := by decide +kernel
theorem dX7_mayDo_5 : decode cX7_mayDo 5 = .ok (.getfield 61, 3) := by decide +kernel
theorem dX7_mayDo_8 : decode cX7_mayDo 8 = .ok (.if_icmp .ge 52, 3) := by decide +kernel
theorem dX7_mayDo_11 : decode cX7_mayDo 11 = .ok (.aload_n 0, 1) := by decide +kernel
theorem dX7_mayDo_12 : decode cX7_mayDo 12 = .ok (.getfield 13, 3) := by decide +kernel
theorem dX7_mayDo_15 : decode cX7_mayDo 15 = .ok (.aload_n 0, 1) := by decide +kernel
theorem dX7_mayDo_16 : decode cX7_mayDo 16 = .ok (.getfield 64, 3) := by decide +kernel
theorem dX7_mayDo_19 : decode cX7_mayDo 19 = .ok (.iaload, 1) := by decide +kernel
theorem dX7_mayDo_20 : decode cX7_mayDo 20 = .ok (.iconst 2, 1) := by decide +kernel
theorem dX7_mayDo_21 : decode cX7_mayDo 21 = .ok (.if_icmp .eq 39, 3) := by decide +kernel
theorem dX7_mayDo_24 : decode cX7_mayDo 24 = .ok (.aload_n 0, 1) := by decide +kernel
theorem dX7_mayDo_25 : decode cX7_mayDo 25 = .ok (.getfield 13, 3) := by decide +kernel
theorem dX7_mayDo_28 : decode cX7_mayDo 28 = .ok (.aload_n 0, 1) := by decide +kernel
theorem dX7_mayDo_29 : decode cX7_mayDo 29 = .ok (.getfield 64, 3) := by decide +kernel
theorem dX7_mayDo_32 : decode cX7_mayDo 32 = .ok (.iaload, 1) := by decide +kernel
theorem dX7_mayDo_33 : decode cX7_mayDo 33 = .ok (.ifCond .ne 23, 3) := by decide +kernel
theorem dX7_mayDo_36 : decode cX7_mayDo 36 = .ok (.aload_n 0, 1) := by decide +kernel
theorem dX7_mayDo_37 : decode cX7_mayDo 37 = .ok (.getfield 7, 3) := by decide +kernel
theorem dX7_mayDo_40 : decode cX7_mayDo 40 = .ok (.aload_n 0, 1) := by decide +kernel
theorem dX7_mayDo_41 : decode cX7_mayDo 41 = .ok (.getfield 16, 3) := by decide +kernel
theorem dX7_mayDo_44 : decode cX7_mayDo 44 = .ok (.aload_n 0, 1) := by decide +kernel
theorem dX7_mayDo_45 : decode cX7_mayDo 45 = .ok (.getfield 64, 3) := by decide +kernel
theorem dX7_mayDo_48 : decode cX7_mayDo 48 = .ok (.iaload, 1) := by decide +kernel
theorem dX7_mayDo_49 : decode cX7_mayDo 49 = .ok (.iaload, 1) := by decide +kernel
theorem dX7_mayDo_50 : decode cX7_mayDo 50 = .ok (.sipush 1000, 3) := by decide +kernel
theorem dX7_mayDo_53 : decode cX7_mayDo 53 = .ok (.if_icmp .eq 7, 3) := by decide +kernel
theorem dX7_mayDo_56 : decode cX7_mayDo 56 = .ok (.iconst 1, 1) := by decide +kernel
theorem dX7_mayDo_57 : decode cX7_mayDo 57 = .ok (.goto 4, 3) := by decide +kernel
theorem dX7_mayDo_60 : decode cX7_mayDo 60 = .ok (.iconst 0, 1) := by decide +kernel
theorem dX7_mayDo_61 : decode cX7_mayDo 61 = .ok (.ireturn, 1) := by decide +kernel
theorem dX7_count_0 : decode cX7_count 0 = .ok (.aload_n 0, 1) := by decide +kernel
theorem dX7_count_1 : decode cX7_count 1 = .ok (.iconst 0, 1) := by decide +kernel
theorem dX7_count_2 : decode cX7_count 2 = .ok (.putfield 47, 3) := by decide +kernel
theorem dX7_count_5 : decode cX7_count 5 = .ok (.iload_n 1, 1) := by decide +kernel
theorem dX7_count_6 : decode cX7_count 6 = .ok (.i2l, 1) := by decide +kernel
theorem dX7_count_7 : decode cX7_count 7 = .ok (.lconst 1, 1) := by decide +kernel
theorem dX7_count_8 : decode cX7_count 8 = .ok (.ldc2_w 69, 3) := by decide +kernel
theorem dX7_count_11 : decode cX7_count 11 = .ok (.invokestatic 53, 3) := by decide +kernel
theorem dX7_count_14 : decode cX7_count 14 = .ok (.ifCond .ne 5, 3) := by decide +kernel
theorem dX7_count_17 : decode cX7_count 17 = .ok (.iconst (-1), 1) := by decide +kernel
theorem dX7_count_18 : decode cX7_count 18 = .ok (.ireturn, 1) := by decide +kernel
theorem dX7_count_19 : decode cX7_count 19 = .ok (.iconst 0, 1) := by decide +kernel
theorem dX7_count_20 : decode cX7_count 20 = .ok (.istore_n 2, 1) := by decide +kernel
theorem dX7_count_21 : decode cX7_count 21 = .ok (.iload_n 2, 1) := by decide +kernel
theorem dX7_count_22 : decode cX7_count 22 = .ok (.iload_n 1, 1) := by decide +kernel
theorem dX7_count_23 : decode cX7_count 23 = .ok (.if_icmp .ge 112, 3) := by decide +kernel
theorem dX7_count_26 : decode cX7_count 26 = .ok (.aload_n 0, 1) := by decide +kernel
theorem dX7_count_27 : decode cX7_count 27 = .ok (.invokevirtual 71, 3) := by decide +kernel
theorem dX7_count_30 : decode cX7_count 30 = .ok (.ifCond .eq 105, 3) := by decide +kernel
theorem dX7_count_33 : decode cX7_count 33 = .ok (.aload_n 0, 1) := by decide +kernel
theorem dX7_count_34 : decode cX7_count 34 = .ok (.getfield 16, 3) := by decide +kernel
theorem dX7_count_37 : decode cX7_count 37 = .ok (.aload_n 0, 1) := by decide +kernel
theorem dX7_count_38 : decode cX7_count 38 = .ok (.getfield 64, 3) := by decide +kernel
theorem dX7_count_41 : decode cX7_count 41 = .ok (.iaload, 1) := by decide +kernel
theorem dX7_count_42 : decode cX7_count 42 = .ok (.istore_n 3, 1) := by decide +kernel
theorem dX7_count_43 : decode cX7_count 43 = .ok (.aload_n 0, 1) := by decide +kernel
theorem dX7_count_44 : decode cX7_count 44 = .ok (.getfield 13, 3) := by decide +kernel
theorem dX7_count_47 : decode cX7_count 47 = .ok (.aload_n 0, 1) := by decide +kernel
theorem dX7_count_48 : decode cX7_count 48 = .ok (.getfield 64, 3) := by decide +kernel
theorem dX7_count_51 : decode cX7_count 51 = .ok (.iaload, 1) := by decide +kernel
theorem dX7_count_52 : decode cX7_count 52 = .ok (.ifCond .ne 29, 3) := by decide +kernel
theorem dX7_count_55 : decode cX7_count 55 = .ok (.aload_n 0, 1) := by decide +kernel
theorem dX7_count_56 : decode cX7_count 56 = .ok (.getfield 7, 3) := by decide +kernel
theorem dX7_count_59 : decode cX7_count 59 = .ok (.iload_n 3, 1) := by decide +kernel
theorem dX7_count_60 : decode cX7_count 60 = .ok (.dup2, 1) := by decide +kernel
theorem dX7_count_61 : decode cX7_count 61 = .ok (.iaload, 1) := by decide +kernel
theorem dX7_count_62 : decode cX7_count 62 = .ok (.iconst 1, 1) := by decide +kernel
theorem dX7_count_63 : decode cX7_count 63 = .ok (.iadd, 1) := by decide +kernel
theorem dX7_count_64 : decode cX7_count 64 = .ok (.iastore, 1) := by decide +kernel
theorem dX7_count_65 : decode cX7_count 65 = .ok (.aload_n 0, 1) := by decide +kernel
theorem dX7_count_66 : decode cX7_count 66 = .ok (.aload_n 0, 1) := by decide +kernel
theorem dX7_count_67 : decode cX7_count 67 = .ok (.getfield 19, 3) := by decide +kernel
theorem dX7_count_70 : decode cX7_count 70 = .ok (.aload_n 0, 1) := by decide +kernel
theorem dX7_count_71 : decode cX7_count 71 = .ok (.getfield 64, 3) := by decide +kernel
theorem dX7_count_74 : decode cX7_count 74 = .ok (.iaload, 1) := by decide +kernel
theorem dX7_count_75 : decode cX7_count 75 = .ok (.putfield 64, 3) := by decide +kernel
theorem dX7_count_78 : decode cX7_count 78 = .ok (.goto 51, 3) := by decide +kernel
theorem dX7_count_81 : decode cX7_count 81 = .ok (.aload_n 0, 1) := by decide +kernel
theorem dX7_count_82 : decode cX7_count 82 = .ok (.getfield 7, 3) := by decide +kernel
theorem dX7_count_85 : decode cX7_count 85 = .ok (.iload_n 3, 1) := by decide +kernel
theorem dX7_count_86 : decode cX7_count 86 = .ok (.iaload, 1) := by decide +kernel
theorem dX7_count_87 : decode cX7_count 87 = .ok (.ifCond .ne 19, 3) := by decide +kernel
theorem dX7_count_90 : decode cX7_count 90 = .ok (.aload_n 0, 1) := by decide +kernel
theorem dX7_count_91 : decode cX7_count 91 = .ok (.aload_n 0, 1) := by decide +kernel
theorem dX7_count_92 : decode cX7_count 92 = .ok (.getfield 22, 3) := by decide +kernel
theorem dX7_count_95 : decode cX7_count 95 = .ok (.aload_n 0, 1) := by decide +kernel
theorem dX7_count_96 : decode cX7_count 96 = .ok (.getfield 64, 3) := by decide +kernel
theorem dX7_count_99 : decode cX7_count 99 = .ok (.iaload, 1) := by decide +kernel
theorem dX7_count_100 : decode cX7_count 100 = .ok (.putfield 64, 3) := by decide +kernel
theorem dX7_count_103 : decode cX7_count 103 = .ok (.goto 26, 3) := by decide +kernel
theorem dX7_count_106 : decode cX7_count 106 = .ok (.aload_n 0, 1) := by decide +kernel
theorem dX7_count_107 : decode cX7_count 107 = .ok (.getfield 7, 3) := by decide +kernel
theorem dX7_count_110 : decode cX7_count 110 = .ok (.iload_n 3, 1) := by decide +kernel
theorem dX7_count_111 : decode cX7_count 111 = .ok (.dup2, 1) := by decide +kernel
theorem dX7_count_112 : decode cX7_count 112 = .ok (.iaload, 1) := by decide +kernel
theorem dX7_count_113 : decode cX7_count 113 = .ok (.iconst 1, 1) := by decide +kernel
theorem dX7_count_114 : decode cX7_count 114 = .ok (.isub, 1) := by decide +kernel
theorem dX7_count_115 : decode cX7_count 115 = .ok (.iastore, 1) := by decide +kernel
theorem dX7_count_116 : decode cX7_count 116 = .ok (.aload_n 0, 1) := by decide +kernel
theorem dX7_count_117 : decode cX7_count 117 = .ok (.aload_n 0, 1) := by decide +kernel
theorem dX7_count_118 : decode cX7_count 118 = .ok (.getfield 19, 3) := by decide +kernel
theorem dX7_count_121 : decode cX7_count 121 = .ok (.aload_n 0, 1) := by decide +kernel
theorem dX7_count_122 : decode cX7_count 122 = .ok (.getfield 64, 3) := by decide +kernel
theorem dX7_count_125 : decode cX7_count 125 = .ok (.iaload, 1) := by decide +kernel
theorem dX7_count_126 : decode cX7_count 126 = .ok (.putfield 64, 3) := by decide +kernel
theorem dX7_count_129 : decode cX7_count 129 = .ok (.iinc 2 1, 3) := by decide +kernel
theorem dX7_count_132 : decode cX7_count 132 = .ok (.goto (-111), 3) := by decide +kernel
theorem dX7_count_135 : decode cX7_count 135 = .ok (.iload_n 2, 1) := by decide +kernel
theorem dX7_count_136 : decode cX7_count 136 = .ok (.ireturn, 1) := by decide +kernel
theorem dX7_at_0 : decode cX7_at 0 = .ok (.aload_n 0, 1) := by decide +kernel
theorem dX7_at_1 : decode cX7_at 1 = .ok (.iconst 0, 1) := by decide +kernel
theorem dX7_at_2 : decode cX7_at 2 = .ok (.putfield 47, 3) := by decide +kernel
theorem dX7_at_5 : decode cX7_at 5 = .ok (.aload_n 0, 1) := by decide +kernel
theorem dX7_at_6 : decode cX7_at 6 = .ok (.getfield 64, 3) := by decide +kernel
theorem dX7_at_9 : decode cX7_at 9 = .ok (.ireturn, 1) := by decide +kernel
theorem dX7_go_0 : decode cX7_go 0 = .ok (.aload_n 0, 1) := by decide +kernel
theorem dX7_go_1 : decode cX7_go 1 = .ok (.iconst 0, 1) := by decide +kernel
theorem dX7_go_2 : decode cX7_go 2 = .ok (.putfield 47, 3) := by decide +kernel
theorem dX7_go_5 : decode cX7_go 5 = .ok (.iload_n 1, 1) := by decide +kernel
theorem dX7_go_6 : decode cX7_go 6 = .ok (.i2l, 1) := by decide +kernel
theorem dX7_go_7 : decode cX7_go 7 = .ok (.lconst 0, 1) := by decide +kernel
theorem dX7_go_8 : decode cX7_go 8 = .ok (.ldc2_w 59, 3) := by decide +kernel
theorem dX7_go_11 : decode cX7_go 11 = .ok (.invokestatic 53, 3) := by decide +kernel
theorem dX7_go_14 : decode cX7_go 14 = .ok (.ifCond .ne 5, 3) := by decide +kernel
theorem dX7_go_17 : decode cX7_go 17 = .ok (.iconst (-1), 1) := by decide +kernel
theorem dX7_go_18 : decode cX7_go 18 = .ok (.ireturn, 1) := by decide +kernel
theorem dX7_go_19 : decode cX7_go 19 = .ok (.aload_n 0, 1) := by decide +kernel
theorem dX7_go_20 : decode cX7_go 20 = .ok (.getfield 64, 3) := by decide +kernel
theorem dX7_go_23 : decode cX7_go 23 = .ok (.istore_n 2, 1) := by decide +kernel
theorem dX7_go_24 : decode cX7_go 24 = .ok (.aload_n 0, 1) := by decide +kernel
theorem dX7_go_25 : decode cX7_go 25 = .ok (.iload_n 1, 1) := by decide +kernel
theorem dX7_go_26 : decode cX7_go 26 = .ok (.putfield 64, 3) := by decide +kernel
theorem dX7_go_29 : decode cX7_go 29 = .ok (.iload_n 2, 1) := by decide +kernel
theorem dX7_go_30 : decode cX7_go 30 = .ok (.ireturn, 1) := by decide +kernel
theorem dX7_isPair_0 : decode cX7_isPair 0 = .ok (.iload_n 0, 1) := by decide +kernel
theorem dX7_isPair_1 : decode cX7_isPair 1 = .ok (.i2l, 1) := by decide +kernel
theorem dX7_isPair_2 : decode cX7_isPair 2 = .ok (.lconst 0, 1) := by decide +kernel
theorem dX7_isPair_3 : decode cX7_isPair 3 = .ok (.ldc2_w 51, 3) := by decide +kernel
theorem dX7_isPair_6 : decode cX7_isPair 6 = .ok (.invokestatic 53, 3) := by decide +kernel
theorem dX7_isPair_9 : decode cX7_isPair 9 = .ok (.ifCond .eq 17, 3) := by decide +kernel
theorem dX7_isPair_12 : decode cX7_isPair 12 = .ok (.iload_n 1, 1) := by decide +kernel
theorem dX7_isPair_13 : decode cX7_isPair 13 = .ok (.i2l, 1) := by decide +kernel
theorem dX7_isPair_14 : decode cX7_isPair 14 = .ok (.lconst 0, 1) := by decide +kernel
theorem dX7_isPair_15 : decode cX7_isPair 15 = .ok (.lconst 1, 1) := by decide +kernel
theorem dX7_isPair_16 : decode cX7_isPair 16 = .ok (.invokestatic 53, 3) := by decide +kernel
theorem dX7_isPair_19 : decode cX7_isPair 19 = .ok (.ifCond .eq 7, 3) := by decide +kernel
theorem dX7_isPair_22 : decode cX7_isPair 22 = .ok (.iconst 1, 1) := by decide +kernel
theorem dX7_isPair_23 : decode cX7_isPair 23 = .ok (.goto 4, 3) := by decide +kernel
theorem dX7_isPair_26 : decode cX7_isPair 26 = .ok (.iconst 0, 1) := by decide +kernel
theorem dX7_isPair_27 : decode cX7_isPair 27 = .ok (.ireturn, 1) := by decide +kernel
theorem dX7_rule_0 : decode cX7_rule 0 = .ok (.aload_n 0, 1) := by decide +kernel
theorem dX7_rule_1 : decode cX7_rule 1 = .ok (.iconst 0, 1) := by decide +kernel
theorem dX7_rule_2 : decode cX7_rule 2 = .ok (.putfield 47, 3) := by decide +kernel
theorem dX7_rule_5 : decode cX7_rule 5 = .ok (.iload_n 1, 1) := by decide +kernel
theorem dX7_rule_6 : decode cX7_rule 6 = .ok (.iload_n 2, 1) := by decide +kernel
theorem dX7_rule_7 : decode cX7_rule 7 = .ok (.invokestatic 75, 3) := by decide +kernel
theorem dX7_rule_10 : decode cX7_rule 10 = .ok (.ifCond .eq 37, 3) := by decide +kernel
theorem dX7_rule_13 : decode cX7_rule 13 = .ok (.iload_n 3, 1) := by decide +kernel
theorem dX7_rule_14 : decode cX7_rule 14 = .ok (.i2l, 1) := by decide +kernel
theorem dX7_rule_15 : decode cX7_rule 15 = .ok (.lconst 0, 1) := by decide +kernel
theorem dX7_rule_16 : decode cX7_rule 16 = .ok (.lconst 1, 1) := by decide +kernel
theorem dX7_rule_17 : decode cX7_rule 17 = .ok (.invokestatic 53, 3) := by decide +kernel
theorem dX7_rule_20 : decode cX7_rule 20 = .ok (.ifCond .eq 27, 3) := by decide +kernel
theorem dX7_rule_23 : decode cX7_rule 23 = .ok (.iload 4, 2) := by decide +kernel
theorem dX7_rule_25 : decode cX7_rule 25 = .ok (.i2l, 1) := by decide +kernel
theorem dX7_rule_26 : decode cX7_rule 26 = .ok (.lconst 0, 1) := by decide +kernel
theorem dX7_rule_27 : decode cX7_rule 27 = .ok (.lconst 1, 1) := by decide +kernel
theorem dX7_rule_28 : decode cX7_rule 28 = .ok (.invokestatic 53, 3) := by decide +kernel
theorem dX7_rule_31 : decode cX7_rule 31 = .ok (.ifCond .eq 16, 3) := by decide +kernel
theorem dX7_rule_34 : decode cX7_rule 34 = .ok (.iload 5, 2) := by decide +kernel
theorem dX7_rule_36 : decode cX7_rule 36 = .ok (.i2l, 1) := by decide +kernel
theorem dX7_rule_37 : decode cX7_rule 37 = .ok (.lconst 0, 1) := by decide +kernel
theorem dX7_rule_38 : decode cX7_rule 38 = .ok (.ldc2_w 51, 3) := by decide +kernel
theorem dX7_rule_41 : decode cX7_rule 41 = .ok (.invokestatic 53, 3) := by decide +kernel
theorem dX7_rule_44 : decode cX7_rule 44 = .ok (.ifCond .ne 5, 3) := by decide +kernel
theorem dX7_rule_47 : decode cX7_rule 47 = .ok (.iconst (-1), 1) := by decide +kernel
theorem dX7_rule_48 : decode cX7_rule 48 = .ok (.ireturn, 1) := by decide +kernel
theorem dX7_rule_49 : decode cX7_rule 49 = .ok (.iconst 2, 1) := by decide +kernel
theorem dX7_rule_50 : decode cX7_rule 50 = .ok (.iload_n 1, 1) := by decide +kernel
theorem dX7_rule_51 : decode cX7_rule 51 = .ok (.imul, 1) := by decide +kernel
theorem dX7_rule_52 : decode cX7_rule 52 = .ok (.iload_n 2, 1) := by decide +kernel
theorem dX7_rule_53 : decode cX7_rule 53 = .ok (.iadd, 1) := by decide +kernel
theorem dX7_rule_54 : decode cX7_rule 54 = .ok (.istore 6, 2) := by decide +kernel
theorem dX7_rule_56 : decode cX7_rule 56 = .ok (.aload_n 0, 1) := by decide +kernel
theorem dX7_rule_57 : decode cX7_rule 57 = .ok (.getfield 25, 3) := by decide +kernel
theorem dX7_rule_60 : decode cX7_rule 60 = .ok (.iload 6, 2) := by decide +kernel
theorem dX7_rule_62 : decode cX7_rule 62 = .ok (.iload_n 3, 1) := by decide +kernel
theorem dX7_rule_63 : decode cX7_rule 63 = .ok (.iastore, 1) := by decide +kernel
theorem dX7_rule_64 : decode cX7_rule 64 = .ok (.aload_n 0, 1) := by decide +kernel
theorem dX7_rule_65 : decode cX7_rule 65 = .ok (.getfield 28, 3) := by decide +kernel
theorem dX7_rule_68 : decode cX7_rule 68 = .ok (.iload 6, 2) := by decide +kernel
theorem dX7_rule_70 : decode cX7_rule 70 = .ok (.iload 4, 2) := by decide +kernel
theorem dX7_rule_72 : decode cX7_rule 72 = .ok (.iastore, 1) := by decide +kernel
theorem dX7_rule_73 : decode cX7_rule 73 = .ok (.aload_n 0, 1) := by decide +kernel
theorem dX7_rule_74 : decode cX7_rule 74 = .ok (.getfield 31, 3) := by decide +kernel
theorem dX7_rule_77 : decode cX7_rule 77 = .ok (.iload 6, 2) := by decide +kernel
theorem dX7_rule_79 : decode cX7_rule 79 = .ok (.iload 5, 2) := by decide +kernel
theorem dX7_rule_81 : decode cX7_rule 81 = .ok (.iastore, 1) := by decide +kernel
theorem dX7_rule_82 : decode cX7_rule 82 = .ok (.iconst 0, 1) := by decide +kernel
theorem dX7_rule_83 : decode cX7_rule 83 = .ok (.istore 7, 2) := by decide +kernel
theorem dX7_rule_85 : decode cX7_rule 85 = .ok (.iconst 0, 1) := by decide +kernel
theorem dX7_rule_86 : decode cX7_rule 86 = .ok (.istore 8, 2) := by decide +kernel
theorem dX7_rule_88 : decode cX7_rule 88 = .ok (.iload 8, 2) := by decide +kernel
theorem dX7_rule_90 : decode cX7_rule 90 = .ok (.bipush 6, 2) := by decide +kernel
theorem dX7_rule_92 : decode cX7_rule 92 = .ok (.if_icmp .ge 29, 3) := by decide +kernel
theorem dX7_rule_95 : decode cX7_rule 95 = .ok (.iload 7, 2) := by decide +kernel
theorem dX7_rule_97 : decode cX7_rule 97 = .ok (.aload_n 0, 1) := by decide +kernel
theorem dX7_rule_98 : decode cX7_rule 98 = .ok (.getfield 25, 3) := by decide +kernel
theorem dX7_rule_101 : decode cX7_rule 101 = .ok (.iload 8, 2) := by decide +kernel
theorem dX7_rule_103 : decode cX7_rule 103 = .ok (.iaload, 1) := by decide +kernel
theorem dX7_rule_104 : decode cX7_rule 104 = .ok (.ifCond .ge 7, 3) := by decide +kernel
theorem dX7_rule_107 : decode cX7_rule 107 = .ok (.iconst 0, 1) := by decide +kernel
theorem dX7_rule_108 : decode cX7_rule 108 = .ok (.goto 4, 3) := by decide +kernel
theorem dX7_rule_111 : decode cX7_rule 111 = .ok (.iconst 1, 1) := by decide +kernel
theorem dX7_rule_112 : decode cX7_rule 112 = .ok (.iadd, 1) := by decide +kernel
theorem dX7_rule_113 : decode cX7_rule 113 = .ok (.istore 7, 2) := by decide +kernel
theorem dX7_rule_115 : decode cX7_rule 115 = .ok (.iinc 8 1, 3) := by decide +kernel
theorem dX7_rule_118 : decode cX7_rule 118 = .ok (.goto (-30), 3) := by decide +kernel
theorem dX7_rule_121 : decode cX7_rule 121 = .ok (.iload 7, 2) := by decide +kernel
theorem dX7_rule_123 : decode cX7_rule 123 = .ok (.ireturn, 1) := by decide +kernel
theorem dX7_unrule_0 : decode cX7_unrule 0 = .ok (.aload_n 0, 1) := by decide +kernel
theorem dX7_unrule_1 : decode cX7_unrule 1 = .ok (.iconst 0, 1) := by decide +kernel
theorem dX7_unrule_2 : decode cX7_unrule 2 = .ok (.putfield 47, 3) := by decide +kernel
theorem dX7_unrule_5 : decode cX7_unrule 5 = .ok (.iload_n 1, 1) := by decide +kernel
theorem dX7_unrule_6 : decode cX7_unrule 6 = .ok (.iload_n 2, 1) := by decide +kernel
theorem dX7_unrule_7 : decode cX7_unrule 7 = .ok (.invokestatic 75, 3) := by decide +kernel
theorem dX7_unrule_10 : decode cX7_unrule 10 = .ok (.ifCond .ne 5, 3) := by decide +kernel
theorem dX7_unrule_13 : decode cX7_unrule 13 = .ok (.iconst (-1), 1) := by decide +kernel
theorem dX7_unrule_14 : decode cX7_unrule 14 = .ok (.ireturn, 1) := by decide +kernel
theorem dX7_unrule_15 : decode cX7_unrule 15 = .ok (.aload_n 0, 1) := by decide +kernel
theorem dX7_unrule_16 : decode cX7_unrule 16 = .ok (.getfield 25, 3) := by decide +kernel
theorem dX7_unrule_19 : decode cX7_unrule 19 = .ok (.iconst 2, 1) := by decide +kernel
theorem dX7_unrule_20 : decode cX7_unrule 20 = .ok (.iload_n 1, 1) := by decide +kernel
theorem dX7_unrule_21 : decode cX7_unrule 21 = .ok (.imul, 1) := by decide +kernel
theorem dX7_unrule_22 : decode cX7_unrule 22 = .ok (.iload_n 2, 1) := by decide +kernel
theorem dX7_unrule_23 : decode cX7_unrule 23 = .ok (.iadd, 1) := by decide +kernel
theorem dX7_unrule_24 : decode cX7_unrule 24 = .ok (.iaload, 1) := by decide +kernel
theorem dX7_unrule_25 : decode cX7_unrule 25 = .ok (.ifCond .ge 7, 3) := by decide +kernel
theorem dX7_unrule_28 : decode cX7_unrule 28 = .ok (.iconst 0, 1) := by decide +kernel
theorem dX7_unrule_29 : decode cX7_unrule 29 = .ok (.goto 4, 3) := by decide +kernel
theorem dX7_unrule_32 : decode cX7_unrule 32 = .ok (.iconst 1, 1) := by decide +kernel
theorem dX7_unrule_33 : decode cX7_unrule 33 = .ok (.istore_n 3, 1) := by decide +kernel
theorem dX7_unrule_34 : decode cX7_unrule 34 = .ok (.aload_n 0, 1) := by decide +kernel
theorem dX7_unrule_35 : decode cX7_unrule 35 = .ok (.getfield 25, 3) := by decide +kernel
theorem dX7_unrule_38 : decode cX7_unrule 38 = .ok (.iconst 2, 1) := by decide +kernel
theorem dX7_unrule_39 : decode cX7_unrule 39 = .ok (.iload_n 1, 1) := by decide +kernel
theorem dX7_unrule_40 : decode cX7_unrule 40 = .ok (.imul, 1) := by decide +kernel
theorem dX7_unrule_41 : decode cX7_unrule 41 = .ok (.iload_n 2, 1) := by decide +kernel
theorem dX7_unrule_42 : decode cX7_unrule 42 = .ok (.iadd, 1) := by decide +kernel
theorem dX7_unrule_43 : decode cX7_unrule 43 = .ok (.iconst (-1), 1) := by decide +kernel
theorem dX7_unrule_44 : decode cX7_unrule 44 = .ok (.iastore, 1) := by decide +kernel
theorem dX7_unrule_45 : decode cX7_unrule 45 = .ok (.iload_n 3, 1) := by decide +kernel
theorem dX7_unrule_46 : decode cX7_unrule 46 = .ok (.ireturn, 1) := by decide +kernel
theorem dX7_place_0 : decode cX7_place 0 = .ok (.aload_n 0, 1) := by decide +kernel
theorem dX7_place_1 : decode cX7_place 1 = .ok (.iconst 0, 1) := by decide +kernel
theorem dX7_place_2 : decode cX7_place 2 = .ok (.putfield 47, 3) := by decide +kernel
theorem dX7_place_5 : decode cX7_place 5 = .ok (.iload_n 1, 1) := by decide +kernel
theorem dX7_place_6 : decode cX7_place 6 = .ok (.iload_n 2, 1) := by decide +kernel
theorem dX7_place_7 : decode cX7_place 7 = .ok (.invokestatic 75, 3) := by decide +kernel
theorem dX7_place_10 : decode cX7_place 10 = .ok (.ifCond .eq 28, 3) := by decide +kernel
theorem dX7_place_13 : decode cX7_place 13 = .ok (.iload_n 3, 1) := by decide +kernel
theorem dX7_place_14 : decode cX7_place 14 = .ok (.i2l, 1) := by decide +kernel
theorem dX7_place_15 : decode cX7_place 15 = .ok (.lconst 0, 1) := by decide +kernel
theorem dX7_place_16 : decode cX7_place 16 = .ok (.ldc2_w 79, 3) := by decide +kernel
theorem dX7_place_19 : decode cX7_place 19 = .ok (.invokestatic 53, 3) := by decide +kernel
theorem dX7_place_22 : decode cX7_place 22 = .ok (.ifCond .eq 16, 3) := by decide +kernel
theorem dX7_place_25 : decode cX7_place 25 = .ok (.iload 4, 2) := by decide +kernel
theorem dX7_place_27 : decode cX7_place 27 = .ok (.i2l, 1) := by decide +kernel
theorem dX7_place_28 : decode cX7_place 28 = .ok (.lconst 0, 1) := by decide +kernel
theorem dX7_place_29 : decode cX7_place 29 = .ok (.ldc2_w 79, 3) := by decide +kernel
theorem dX7_place_32 : decode cX7_place 32 = .ok (.invokestatic 53, 3) := by decide +kernel
theorem dX7_place_35 : decode cX7_place 35 = .ok (.ifCond .ne 5, 3) := by decide +kernel
theorem dX7_place_38 : decode cX7_place 38 = .ok (.iconst (-1), 1) := by decide +kernel
theorem dX7_place_39 : decode cX7_place 39 = .ok (.ireturn, 1) := by decide +kernel
theorem dX7_place_40 : decode cX7_place 40 = .ok (.aload_n 0, 1) := by decide +kernel
theorem dX7_place_41 : decode cX7_place 41 = .ok (.iload_n 1, 1) := by decide +kernel
theorem dX7_place_42 : decode cX7_place 42 = .ok (.putfield 81, 3) := by decide +kernel
theorem dX7_place_45 : decode cX7_place 45 = .ok (.aload_n 0, 1) := by decide +kernel
theorem dX7_place_46 : decode cX7_place 46 = .ok (.iload_n 2, 1) := by decide +kernel
theorem dX7_place_47 : decode cX7_place 47 = .ok (.putfield 84, 3) := by decide +kernel
theorem dX7_place_50 : decode cX7_place 50 = .ok (.aload_n 0, 1) := by decide +kernel
theorem dX7_place_51 : decode cX7_place 51 = .ok (.iload_n 3, 1) := by decide +kernel
theorem dX7_place_52 : decode cX7_place 52 = .ok (.putfield 87, 3) := by decide +kernel
theorem dX7_place_55 : decode cX7_place 55 = .ok (.aload_n 0, 1) := by decide +kernel
theorem dX7_place_56 : decode cX7_place 56 = .ok (.iload 4, 2) := by decide +kernel
theorem dX7_place_58 : decode cX7_place 58 = .ok (.putfield 90, 3) := by decide +kernel
theorem dX7_place_61 : decode cX7_place 61 = .ok (.iconst 1, 1) := by decide +kernel
theorem dX7_place_62 : decode cX7_place 62 = .ok (.ireturn, 1) := by decide +kernel
theorem dX7_mayMove_0 : decode cX7_mayMove 0 = .ok (.iconst 2, 1) := by decide +kernel
theorem dX7_mayMove_1 : decode cX7_mayMove 1 = .ok (.aload_n 0, 1) := by decide +kernel
theorem dX7_mayMove_2 : decode cX7_mayMove 2 = .ok (.getfield 81, 3) := by decide +kernel
theorem dX7_mayMove_5 : decode cX7_mayMove 5 = .ok (.imul, 1) := by decide +kernel
theorem dX7_mayMove_6 : decode cX7_mayMove 6 = .ok (.aload_n 0, 1) := by decide +kernel
theorem dX7_mayMove_7 : decode cX7_mayMove 7 = .ok (.getfield 84, 3) := by decide +kernel
theorem dX7_mayMove_10 : decode cX7_mayMove 10 = .ok (.iadd, 1) := by decide +kernel
theorem dX7_mayMove_11 : decode cX7_mayMove 11 = .ok (.istore_n 1, 1) := by decide +kernel
theorem dX7_mayMove_12 : decode cX7_mayMove 12 = .ok (.aload_n 0, 1) := by decide +kernel
theorem dX7_mayMove_13 : decode cX7_mayMove 13 = .ok (.getfield 25, 3) := by decide +kernel
theorem dX7_mayMove_16 : decode cX7_mayMove 16 = .ok (.iload_n 1, 1) := by decide +kernel
theorem dX7_mayMove_17 : decode cX7_mayMove 17 = .ok (.iaload, 1) := by decide +kernel
theorem dX7_mayMove_18 : decode cX7_mayMove 18 = .ok (.ifCond .lt 42, 3) := by decide +kernel
theorem dX7_mayMove_21 : decode cX7_mayMove 21 = .ok (.iconst 2, 1) := by decide +kernel
theorem dX7_mayMove_22 : decode cX7_mayMove 22 = .ok (.aload_n 0, 1) := by decide +kernel
theorem dX7_mayMove_23 : decode cX7_mayMove 23 = .ok (.getfield 28, 3) := by decide +kernel
theorem dX7_mayMove_26 : decode cX7_mayMove 26 = .ok (.iload_n 1, 1) := by decide +kernel
theorem dX7_mayMove_27 : decode cX7_mayMove 27 = .ok (.iaload, 1) := by decide +kernel
theorem dX7_mayMove_28 : decode cX7_mayMove 28 = .ok (.iconst 1, 1) := by decide +kernel
theorem dX7_mayMove_29 : decode cX7_mayMove 29 = .ok (.if_icmp .ne 10, 3) := by decide +kernel
theorem dX7_mayMove_32 : decode cX7_mayMove 32 = .ok (.aload_n 0, 1) := by decide +kernel
theorem dX7_mayMove_33 : decode cX7_mayMove 33 = .ok (.getfield 87, 3) := by decide +kernel
theorem dX7_mayMove_36 : decode cX7_mayMove 36 = .ok (.goto 7, 3) := by decide +kernel
theorem dX7_mayMove_39 : decode cX7_mayMove 39 = .ok (.aload_n 0, 1) := by decide +kernel
theorem dX7_mayMove_40 : decode cX7_mayMove 40 = .ok (.getfield 90, 3) := by decide +kernel
theorem dX7_mayMove_43 : decode cX7_mayMove 43 = .ok (.imul, 1) := by decide +kernel
theorem dX7_mayMove_44 : decode cX7_mayMove 44 = .ok (.aload_n 0, 1) := by decide +kernel
theorem dX7_mayMove_45 : decode cX7_mayMove 45 = .ok (.getfield 25, 3) := by decide +kernel
theorem dX7_mayMove_48 : decode cX7_mayMove 48 = .ok (.iload_n 1, 1) := by decide +kernel
theorem dX7_mayMove_49 : decode cX7_mayMove 49 = .ok (.iaload, 1) := by decide +kernel
theorem dX7_mayMove_50 : decode cX7_mayMove 50 = .ok (.iadd, 1) := by decide +kernel
theorem dX7_mayMove_51 : decode cX7_mayMove 51 = .ok (.ldc 93, 2) := by decide +kernel
theorem dX7_mayMove_53 : decode cX7_mayMove 53 = .ok (.if_icmp .gt 7, 3) := by decide +kernel
theorem dX7_mayMove_56 : decode cX7_mayMove 56 = .ok (.iconst 1, 1) := by decide +kernel
theorem dX7_mayMove_57 : decode cX7_mayMove 57 = .ok (.goto 4, 3) := by decide +kernel
theorem dX7_mayMove_60 : decode cX7_mayMove 60 = .ok (.iconst 0, 1) := by decide +kernel
theorem dX7_mayMove_61 : decode cX7_mayMove 61 = .ok (.ireturn, 1) := by decide +kernel
theorem dX7_move_0 : decode cX7_move 0 = .ok (.aload_n 0, 1) := by decide +kernel
theorem dX7_move_1 : decode cX7_move 1 = .ok (.iconst 0, 1) := by decide +kernel
theorem dX7_move_2 : decode cX7_move 2 = .ok (.putfield 47, 3) := by decide +kernel
theorem dX7_move_5 : decode cX7_move 5 = .ok (.iload_n 1, 1) := by decide +kernel
theorem dX7_move_6 : decode cX7_move 6 = .ok (.i2l, 1) := by decide +kernel
theorem dX7_move_7 : decode cX7_move 7 = .ok (.lconst 1, 1) := by decide +kernel
theorem dX7_move_8 : decode cX7_move 8 = .ok (.ldc2_w 69, 3) := by decide +kernel
theorem dX7_move_11 : decode cX7_move 11 = .ok (.invokestatic 53, 3) := by decide +kernel
theorem dX7_move_14 : decode cX7_move 14 = .ok (.ifCond .ne 5, 3) := by decide +kernel
theorem dX7_move_17 : decode cX7_move 17 = .ok (.iconst (-1), 1) := by decide +kernel
theorem dX7_move_18 : decode cX7_move 18 = .ok (.ireturn, 1) := by decide +kernel
theorem dX7_move_19 : decode cX7_move 19 = .ok (.iconst 0, 1) := by decide +kernel
theorem dX7_move_20 : decode cX7_move 20 = .ok (.istore_n 2, 1) := by decide +kernel
theorem dX7_move_21 : decode cX7_move 21 = .ok (.iload_n 2, 1) := by decide +kernel
theorem dX7_move_22 : decode cX7_move 22 = .ok (.iload_n 1, 1) := by decide +kernel
theorem dX7_move_23 : decode cX7_move 23 = .ok (.if_icmp .ge 125, 3) := by decide +kernel
theorem dX7_move_26 : decode cX7_move 26 = .ok (.aload_n 0, 1) := by decide +kernel
theorem dX7_move_27 : decode cX7_move 27 = .ok (.invokevirtual 94, 3) := by decide +kernel
theorem dX7_move_30 : decode cX7_move 30 = .ok (.ifCond .eq 118, 3) := by decide +kernel
theorem dX7_move_33 : decode cX7_move 33 = .ok (.iconst 2, 1) := by decide +kernel
theorem dX7_move_34 : decode cX7_move 34 = .ok (.aload_n 0, 1) := by decide +kernel
theorem dX7_move_35 : decode cX7_move 35 = .ok (.getfield 81, 3) := by decide +kernel
theorem dX7_move_38 : decode cX7_move 38 = .ok (.imul, 1) := by decide +kernel
theorem dX7_move_39 : decode cX7_move 39 = .ok (.aload_n 0, 1) := by decide +kernel
theorem dX7_move_40 : decode cX7_move 40 = .ok (.getfield 84, 3) := by decide +kernel
theorem dX7_move_43 : decode cX7_move 43 = .ok (.iadd, 1) := by decide +kernel
theorem dX7_move_44 : decode cX7_move 44 = .ok (.istore_n 3, 1) := by decide +kernel
theorem dX7_move_45 : decode cX7_move 45 = .ok (.aload_n 0, 1) := by decide +kernel
theorem dX7_move_46 : decode cX7_move 46 = .ok (.getfield 28, 3) := by decide +kernel
theorem dX7_move_49 : decode cX7_move 49 = .ok (.iload_n 3, 1) := by decide +kernel
theorem dX7_move_50 : decode cX7_move 50 = .ok (.iaload, 1) := by decide +kernel
theorem dX7_move_51 : decode cX7_move 51 = .ok (.iconst 1, 1) := by decide +kernel
theorem dX7_move_52 : decode cX7_move 52 = .ok (.if_icmp .ne 43, 3) := by decide +kernel
theorem dX7_move_55 : decode cX7_move 55 = .ok (.aload_n 0, 1) := by decide +kernel
theorem dX7_move_56 : decode cX7_move 56 = .ok (.iconst 2, 1) := by decide +kernel
theorem dX7_move_57 : decode cX7_move 57 = .ok (.aload_n 0, 1) := by decide +kernel
theorem dX7_move_58 : decode cX7_move 58 = .ok (.getfield 87, 3) := by decide +kernel
theorem dX7_move_61 : decode cX7_move 61 = .ok (.imul, 1) := by decide +kernel
theorem dX7_move_62 : decode cX7_move 62 = .ok (.aload_n 0, 1) := by decide +kernel
theorem dX7_move_63 : decode cX7_move 63 = .ok (.getfield 25, 3) := by decide +kernel
theorem dX7_move_66 : decode cX7_move 66 = .ok (.iload_n 3, 1) := by decide +kernel
theorem dX7_move_67 : decode cX7_move 67 = .ok (.iaload, 1) := by decide +kernel
theorem dX7_move_68 : decode cX7_move 68 = .ok (.iadd, 1) := by decide +kernel
theorem dX7_move_69 : decode cX7_move 69 = .ok (.putfield 87, 3) := by decide +kernel
theorem dX7_move_72 : decode cX7_move 72 = .ok (.aload_n 0, 1) := by decide +kernel
theorem dX7_move_73 : decode cX7_move 73 = .ok (.aload_n 0, 1) := by decide +kernel
theorem dX7_move_74 : decode cX7_move 74 = .ok (.getfield 90, 3) := by decide +kernel
theorem dX7_move_77 : decode cX7_move 77 = .ok (.iconst 2, 1) := by decide +kernel
theorem dX7_move_78 : decode cX7_move 78 = .ok (.irem, 1) := by decide +kernel
theorem dX7_move_79 : decode cX7_move 79 = .ok (.putfield 84, 3) := by decide +kernel
theorem dX7_move_82 : decode cX7_move 82 = .ok (.aload_n 0, 1) := by decide +kernel
theorem dX7_move_83 : decode cX7_move 83 = .ok (.dup, 1) := by decide +kernel
theorem dX7_move_84 : decode cX7_move 84 = .ok (.getfield 90, 3) := by decide +kernel
theorem dX7_move_87 : decode cX7_move 87 = .ok (.iconst 2, 1) := by decide +kernel
theorem dX7_move_88 : decode cX7_move 88 = .ok (.idiv, 1) := by decide +kernel
theorem dX7_move_89 : decode cX7_move 89 = .ok (.putfield 90, 3) := by decide +kernel
theorem dX7_move_92 : decode cX7_move 92 = .ok (.goto 40, 3) := by decide +kernel
theorem dX7_move_95 : decode cX7_move 95 = .ok (.aload_n 0, 1) := by decide +kernel
theorem dX7_move_96 : decode cX7_move 96 = .ok (.iconst 2, 1) := by decide +kernel
theorem dX7_move_97 : decode cX7_move 97 = .ok (.aload_n 0, 1) := by decide +kernel
theorem dX7_move_98 : decode cX7_move 98 = .ok (.getfield 90, 3) := by decide +kernel
theorem dX7_move_101 : decode cX7_move 101 = .ok (.imul, 1) := by decide +kernel
theorem dX7_move_102 : decode cX7_move 102 = .ok (.aload_n 0, 1) := by decide +kernel
theorem dX7_move_103 : decode cX7_move 103 = .ok (.getfield 25, 3) := by decide +kernel
theorem dX7_move_106 : decode cX7_move 106 = .ok (.iload_n 3, 1) := by decide +kernel
theorem dX7_move_107 : decode cX7_move 107 = .ok (.iaload, 1) := by decide +kernel
theorem dX7_move_108 : decode cX7_move 108 = .ok (.iadd, 1) := by decide +kernel
theorem dX7_move_109 : decode cX7_move 109 = .ok (.putfield 90, 3) := by decide +kernel
theorem dX7_move_112 : decode cX7_move 112 = .ok (.aload_n 0, 1) := by decide +kernel
theorem dX7_move_113 : decode cX7_move 113 = .ok (.aload_n 0, 1) := by decide +kernel
theorem dX7_move_114 : decode cX7_move 114 = .ok (.getfield 87, 3) := by decide +kernel
theorem dX7_move_117 : decode cX7_move 117 = .ok (.iconst 2, 1) := by decide +kernel
theorem dX7_move_118 : decode cX7_move 118 = .ok (.irem, 1) := by decide +kernel
theorem dX7_move_119 : decode cX7_move 119 = .ok (.putfield 84, 3) := by decide +kernel
theorem dX7_move_122 : decode cX7_move 122 = .ok (.aload_n 0, 1) := by decide +kernel
theorem dX7_move_123 : decode cX7_move 123 = .ok (.dup, 1) := by decide +kernel
theorem dX7_move_124 : decode cX7_move 124 = .ok (.getfield 87, 3) := by decide +kernel
theorem dX7_move_127 : decode cX7_move 127 = .ok (.iconst 2, 1) := by decide +kernel
theorem dX7_move_128 : decode cX7_move 128 = .ok (.idiv, 1) := by decide +kernel
theorem dX7_move_129 : decode cX7_move 129 = .ok (.putfield 87, 3) := by decide +kernel
theorem dX7_move_132 : decode cX7_move 132 = .ok (.aload_n 0, 1) := by decide +kernel
theorem dX7_move_133 : decode cX7_move 133 = .ok (.aload_n 0, 1) := by decide +kernel
theorem dX7_move_134 : decode cX7_move 134 = .ok (.getfield 31, 3) := by decide +kernel
theorem dX7_move_137 : decode cX7_move 137 = .ok (.iload_n 3, 1) := by decide +kernel
theorem dX7_move_138 : decode cX7_move 138 = .ok (.iaload, 1) := by decide +kernel
theorem dX7_move_139 : decode cX7_move 139 = .ok (.putfield 81, 3) := by decide +kernel
theorem dX7_move_142 : decode cX7_move 142 = .ok (.iinc 2 1, 3) := by decide +kernel
theorem dX7_move_145 : decode cX7_move 145 = .ok (.goto (-124), 3) := by decide +kernel
theorem dX7_move_148 : decode cX7_move 148 = .ok (.iload_n 2, 1) := by decide +kernel
theorem dX7_move_149 : decode cX7_move 149 = .ok (.ireturn, 1) := by decide +kernel
theorem dX7_where_0 : decode cX7_where 0 = .ok (.aload_n 0, 1) := by decide +kernel
theorem dX7_where_1 : decode cX7_where 1 = .ok (.iconst 0, 1) := by decide +kernel
theorem dX7_where_2 : decode cX7_where 2 = .ok (.putfield 47, 3) := by decide +kernel
theorem dX7_where_5 : decode cX7_where 5 = .ok (.iload_n 1, 1) := by decide +kernel
theorem dX7_where_6 : decode cX7_where 6 = .ok (.tableswitch 79 0 4 #[34, 39, 44, 49, 54], 34) := by decide +kernel
theorem dX7_where_40 : decode cX7_where 40 = .ok (.aload_n 0, 1) := by decide +kernel
theorem dX7_where_41 : decode cX7_where 41 = .ok (.getfield 81, 3) := by decide +kernel
theorem dX7_where_44 : decode cX7_where 44 = .ok (.ireturn, 1) := by decide +kernel
theorem dX7_where_45 : decode cX7_where 45 = .ok (.aload_n 0, 1) := by decide +kernel
theorem dX7_where_46 : decode cX7_where 46 = .ok (.getfield 84, 3) := by decide +kernel
theorem dX7_where_49 : decode cX7_where 49 = .ok (.ireturn, 1) := by decide +kernel
theorem dX7_where_50 : decode cX7_where 50 = .ok (.aload_n 0, 1) := by decide +kernel
theorem dX7_where_51 : decode cX7_where 51 = .ok (.getfield 87, 3) := by decide +kernel
theorem dX7_where_54 : decode cX7_where 54 = .ok (.ireturn, 1) := by decide +kernel
theorem dX7_where_55 : decode cX7_where 55 = .ok (.aload_n 0, 1) := by decide +kernel
theorem dX7_where_56 : decode cX7_where 56 = .ok (.getfield 90, 3) := by decide +kernel
theorem dX7_where_59 : decode cX7_where 59 = .ok (.ireturn, 1) := by decide +kernel
theorem dX7_where_60 : decode cX7_where 60 = .ok (.aload_n 0, 1) := by decide +kernel
theorem dX7_where_61 : decode cX7_where 61 = .ok (.getfield 25, 3) := by decide +kernel
theorem dX7_where_64 : decode cX7_where 64 = .ok (.iconst 2, 1) := by decide +kernel
theorem dX7_where_65 : decode cX7_where 65 = .ok (.aload_n 0, 1) := by decide +kernel
theorem dX7_where_66 : decode cX7_where 66 = .ok (.getfield 81, 3) := by decide +kernel
theorem dX7_where_69 : decode cX7_where 69 = .ok (.imul, 1) := by decide +kernel
theorem dX7_where_70 : decode cX7_where 70 = .ok (.aload_n 0, 1) := by decide +kernel
theorem dX7_where_71 : decode cX7_where 71 = .ok (.getfield 84, 3) := by decide +kernel
theorem dX7_where_74 : decode cX7_where 74 = .ok (.iadd, 1) := by decide +kernel
theorem dX7_where_75 : decode cX7_where 75 = .ok (.iaload, 1) := by decide +kernel
theorem dX7_where_76 : decode cX7_where 76 = .ok (.ifCond .ge 7, 3) := by decide +kernel
theorem dX7_where_79 : decode cX7_where 79 = .ok (.iconst 1, 1) := by decide +kernel
theorem dX7_where_80 : decode cX7_where 80 = .ok (.goto 4, 3) := by decide +kernel
theorem dX7_where_83 : decode cX7_where 83 = .ok (.iconst 0, 1) := by decide +kernel
theorem dX7_where_84 : decode cX7_where 84 = .ok (.ireturn, 1) := by decide +kernel
theorem dX7_where_85 : decode cX7_where 85 = .ok (.iconst (-1), 1) := by decide +kernel
theorem dX7_where_86 : decode cX7_where 86 = .ok (.ireturn, 1) := by decide +kernel
theorem dX7_makes_0 : decode cX7_makes 0 = .ok (.aload_n 0, 1) := by decide +kernel
theorem dX7_makes_1 : decode cX7_makes 1 = .ok (.getfield 44, 3) := by decide +kernel
theorem dX7_makes_4 : decode cX7_makes 4 = .ok (.aload_n 0, 1) := by decide +kernel
theorem dX7_makes_5 : decode cX7_makes 5 = .ok (.getfield 97, 3) := by decide +kernel
theorem dX7_makes_8 : decode cX7_makes 8 = .ok (.iload_n 1, 1) := by decide +kernel
theorem dX7_makes_9 : decode cX7_makes 9 = .ok (.iastore, 1) := by decide +kernel
theorem dX7_makes_10 : decode cX7_makes 10 = .ok (.aload_n 0, 1) := by decide +kernel
theorem dX7_makes_11 : decode cX7_makes 11 = .ok (.dup, 1) := by decide +kernel
theorem dX7_makes_12 : decode cX7_makes 12 = .ok (.getfield 97, 3) := by decide +kernel
theorem dX7_makes_15 : decode cX7_makes 15 = .ok (.iconst 1, 1) := by decide +kernel
theorem dX7_makes_16 : decode cX7_makes 16 = .ok (.iadd, 1) := by decide +kernel
theorem dX7_makes_17 : decode cX7_makes 17 = .ok (.putfield 97, 3) := by decide +kernel
theorem dX7_makes_20 : decode cX7_makes 20 = .ok (.return_, 1) := by decide +kernel
theorem dX7_of_0 : decode cX7_of 0 = .ok (.bipush 20, 2) := by decide +kernel
theorem dX7_of_2 : decode cX7_of 2 = .ok (.iload_n 0, 1) := by decide +kernel
theorem dX7_of_3 : decode cX7_of 3 = .ok (.imul, 1) := by decide +kernel
theorem dX7_of_4 : decode cX7_of 4 = .ok (.iconst 1, 1) := by decide +kernel
theorem dX7_of_5 : decode cX7_of 5 = .ok (.iadd, 1) := by decide +kernel
theorem dX7_of_6 : decode cX7_of 6 = .ok (.iload_n 1, 1) := by decide +kernel
theorem dX7_of_7 : decode cX7_of 7 = .ok (.iadd, 1) := by decide +kernel
theorem dX7_of_8 : decode cX7_of 8 = .ok (.ireturn, 1) := by decide +kernel
theorem dX7_one_0 : decode cX7_one 0 = .ok (.aload_n 0, 1) := by decide +kernel
theorem dX7_one_1 : decode cX7_one 1 = .ok (.iload_n 1, 1) := by decide +kernel
theorem dX7_one_2 : decode cX7_one 2 = .ok (.invokevirtual 100, 3) := by decide +kernel
theorem dX7_one_5 : decode cX7_one 5 = .ok (.aload_n 0, 1) := by decide +kernel
theorem dX7_one_6 : decode cX7_one 6 = .ok (.iconst 0, 1) := by decide +kernel
theorem dX7_one_7 : decode cX7_one 7 = .ok (.invokevirtual 100, 3) := by decide +kernel
theorem dX7_one_10 : decode cX7_one 10 = .ok (.return_, 1) := by decide +kernel
theorem dX7_doubled_0 : decode cX7_doubled 0 = .ok (.aload_n 0, 1) := by decide +kernel
theorem dX7_doubled_1 : decode cX7_doubled 1 = .ok (.iload_n 1, 1) := by decide +kernel
theorem dX7_doubled_2 : decode cX7_doubled 2 = .ok (.iload_n 2, 1) := by decide +kernel
theorem dX7_doubled_3 : decode cX7_doubled 3 = .ok (.ifCond .eq 8, 3) := by decide +kernel
theorem dX7_doubled_6 : decode cX7_doubled 6 = .ok (.bipush 8, 2) := by decide +kernel
theorem dX7_doubled_8 : decode cX7_doubled 8 = .ok (.goto 5, 3) := by decide +kernel
theorem dX7_doubled_11 : decode cX7_doubled 11 = .ok (.bipush 9, 2) := by decide +kernel
theorem dX7_doubled_13 : decode cX7_doubled 13 = .ok (.invokestatic 103, 3) := by decide +kernel
theorem dX7_doubled_16 : decode cX7_doubled 16 = .ok (.invokevirtual 107, 3) := by decide +kernel
theorem dX7_doubled_19 : decode cX7_doubled 19 = .ok (.iload_n 2, 1) := by decide +kernel
theorem dX7_doubled_20 : decode cX7_doubled 20 = .ok (.ifCond .eq 13, 3) := by decide +kernel
theorem dX7_doubled_23 : decode cX7_doubled 23 = .ok (.aload_n 0, 1) := by decide +kernel
theorem dX7_doubled_24 : decode cX7_doubled 24 = .ok (.getfield 25, 3) := by decide +kernel
theorem dX7_doubled_27 : decode cX7_doubled 27 = .ok (.iload_n 1, 1) := by decide +kernel
theorem dX7_doubled_28 : decode cX7_doubled 28 = .ok (.iaload, 1) := by decide +kernel
theorem dX7_doubled_29 : decode cX7_doubled 29 = .ok (.iconst 1, 1) := by decide +kernel
theorem dX7_doubled_30 : decode cX7_doubled 30 = .ok (.if_icmp .ne 13, 3) := by decide +kernel
theorem dX7_doubled_33 : decode cX7_doubled 33 = .ok (.aload_n 0, 1) := by decide +kernel
theorem dX7_doubled_34 : decode cX7_doubled 34 = .ok (.iload_n 1, 1) := by decide +kernel
theorem dX7_doubled_35 : decode cX7_doubled 35 = .ok (.bipush 9, 2) := by decide +kernel
theorem dX7_doubled_37 : decode cX7_doubled 37 = .ok (.invokestatic 103, 3) := by decide +kernel
theorem dX7_doubled_40 : decode cX7_doubled 40 = .ok (.invokevirtual 107, 3) := by decide +kernel
theorem dX7_doubled_43 : decode cX7_doubled 43 = .ok (.return_, 1) := by decide +kernel
theorem dX7_produceRuled_0 : decode cX7_produceRuled 0 = .ok (.aload_n 0, 1) := by decide +kernel
theorem dX7_produceRuled_1 : decode cX7_produceRuled 1 = .ok (.getfield 28, 3) := by decide +kernel
theorem dX7_produceRuled_4 : decode cX7_produceRuled 4 = .ok (.iload_n 1, 1) := by decide +kernel
theorem dX7_produceRuled_5 : decode cX7_produceRuled 5 = .ok (.iaload, 1) := by decide +kernel
theorem dX7_produceRuled_6 : decode cX7_produceRuled 6 = .ok (.iconst 1, 1) := by decide +kernel
theorem dX7_produceRuled_7 : decode cX7_produceRuled 7 = .ok (.if_icmp .ne 7, 3) := by decide +kernel
theorem dX7_produceRuled_10 : decode cX7_produceRuled 10 = .ok (.iconst 1, 1) := by decide +kernel
theorem dX7_produceRuled_11 : decode cX7_produceRuled 11 = .ok (.goto 4, 3) := by decide +kernel
theorem dX7_produceRuled_14 : decode cX7_produceRuled 14 = .ok (.iconst 0, 1) := by decide +kernel
theorem dX7_produceRuled_15 : decode cX7_produceRuled 15 = .ok (.istore 5, 2) := by decide +kernel
theorem dX7_produceRuled_17 : decode cX7_produceRuled 17 = .ok (.iload_n 2, 1) := by decide +kernel
theorem dX7_produceRuled_18 : decode cX7_produceRuled 18 = .ok (.tableswitch 483 0 18 #[90, 116, 142, 160, 178, 205, 483, 483, 232, 255, 324, 346, 374, 396, 278, 301, 419, 440, 462], 90) := by decide +kernel
theorem dX7_produceRuled_108 : decode cX7_produceRuled 108 = .ok (.iload 5, 2) := by decide +kernel
theorem dX7_produceRuled_110 : decode cX7_produceRuled 110 = .ok (.ifCond .eq 12, 3) := by decide +kernel
theorem dX7_produceRuled_113 : decode cX7_produceRuled 113 = .ok (.aload_n 0, 1) := by decide +kernel
theorem dX7_produceRuled_114 : decode cX7_produceRuled 114 = .ok (.iload_n 1, 1) := by decide +kernel
theorem dX7_produceRuled_115 : decode cX7_produceRuled 115 = .ok (.iconst 1, 1) := by decide +kernel
theorem dX7_produceRuled_116 : decode cX7_produceRuled 116 = .ok (.invokevirtual 110, 3) := by decide +kernel
theorem dX7_produceRuled_119 : decode cX7_produceRuled 119 = .ok (.goto 401, 3) := by decide +kernel
theorem dX7_produceRuled_122 : decode cX7_produceRuled 122 = .ok (.aload_n 0, 1) := by decide +kernel
theorem dX7_produceRuled_123 : decode cX7_produceRuled 123 = .ok (.iload_n 1, 1) := by decide +kernel
theorem dX7_produceRuled_124 : decode cX7_produceRuled 124 = .ok (.iconst 2, 1) := by decide +kernel
theorem dX7_produceRuled_125 : decode cX7_produceRuled 125 = .ok (.invokestatic 103, 3) := by decide +kernel
theorem dX7_produceRuled_128 : decode cX7_produceRuled 128 = .ok (.invokevirtual 107, 3) := by decide +kernel
theorem dX7_produceRuled_131 : decode cX7_produceRuled 131 = .ok (.goto 389, 3) := by decide +kernel
theorem dX7_produceRuled_134 : decode cX7_produceRuled 134 = .ok (.iload 5, 2) := by decide +kernel
theorem dX7_produceRuled_136 : decode cX7_produceRuled 136 = .ok (.ifCond .eq 12, 3) := by decide +kernel
theorem dX7_produceRuled_139 : decode cX7_produceRuled 139 = .ok (.aload_n 0, 1) := by decide +kernel
theorem dX7_produceRuled_140 : decode cX7_produceRuled 140 = .ok (.iload_n 1, 1) := by decide +kernel
theorem dX7_produceRuled_141 : decode cX7_produceRuled 141 = .ok (.iconst 0, 1) := by decide +kernel
theorem dX7_produceRuled_142 : decode cX7_produceRuled 142 = .ok (.invokevirtual 110, 3) := by decide +kernel
theorem dX7_produceRuled_145 : decode cX7_produceRuled 145 = .ok (.goto 375, 3) := by decide +kernel
theorem dX7_produceRuled_148 : decode cX7_produceRuled 148 = .ok (.aload_n 0, 1) := by decide +kernel
theorem dX7_produceRuled_149 : decode cX7_produceRuled 149 = .ok (.iload_n 1, 1) := by decide +kernel
theorem dX7_produceRuled_150 : decode cX7_produceRuled 150 = .ok (.iconst 3, 1) := by decide +kernel
theorem dX7_produceRuled_151 : decode cX7_produceRuled 151 = .ok (.invokestatic 103, 3) := by decide +kernel
theorem dX7_produceRuled_154 : decode cX7_produceRuled 154 = .ok (.invokevirtual 107, 3) := by decide +kernel
theorem dX7_produceRuled_157 : decode cX7_produceRuled 157 = .ok (.goto 363, 3) := by decide +kernel
theorem dX7_produceRuled_160 : decode cX7_produceRuled 160 = .ok (.iload 5, 2) := by decide +kernel
theorem dX7_produceRuled_162 : decode cX7_produceRuled 162 = .ok (.ifCond .ne 358, 3) := by decide +kernel
theorem dX7_produceRuled_165 : decode cX7_produceRuled 165 = .ok (.aload_n 0, 1) := by decide +kernel
theorem dX7_produceRuled_166 : decode cX7_produceRuled 166 = .ok (.iload_n 1, 1) := by decide +kernel
theorem dX7_produceRuled_167 : decode cX7_produceRuled 167 = .ok (.bipush 14, 2) := by decide +kernel
theorem dX7_produceRuled_169 : decode cX7_produceRuled 169 = .ok (.invokestatic 103, 3) := by decide +kernel
theorem dX7_produceRuled_172 : decode cX7_produceRuled 172 = .ok (.invokevirtual 100, 3) := by decide +kernel
theorem dX7_produceRuled_175 : decode cX7_produceRuled 175 = .ok (.goto 345, 3) := by decide +kernel
theorem dX7_produceRuled_178 : decode cX7_produceRuled 178 = .ok (.iload 5, 2) := by decide +kernel
theorem dX7_produceRuled_180 : decode cX7_produceRuled 180 = .ok (.ifCond .ne 340, 3) := by decide +kernel
theorem dX7_produceRuled_183 : decode cX7_produceRuled 183 = .ok (.aload_n 0, 1) := by decide +kernel
theorem dX7_produceRuled_184 : decode cX7_produceRuled 184 = .ok (.iload_n 1, 1) := by decide +kernel
theorem dX7_produceRuled_185 : decode cX7_produceRuled 185 = .ok (.bipush 15, 2) := by decide +kernel
theorem dX7_produceRuled_187 : decode cX7_produceRuled 187 = .ok (.invokestatic 103, 3) := by decide +kernel
theorem dX7_produceRuled_190 : decode cX7_produceRuled 190 = .ok (.invokevirtual 100, 3) := by decide +kernel
theorem dX7_produceRuled_193 : decode cX7_produceRuled 193 = .ok (.goto 327, 3) := by decide +kernel
theorem dX7_produceRuled_196 : decode cX7_produceRuled 196 = .ok (.iload 5, 2) := by decide +kernel
theorem dX7_produceRuled_198 : decode cX7_produceRuled 198 = .ok (.ifCond .eq 16, 3) := by decide +kernel
theorem dX7_produceRuled_201 : decode cX7_produceRuled 201 = .ok (.aload_n 0, 1) := by decide +kernel
theorem dX7_produceRuled_202 : decode cX7_produceRuled 202 = .ok (.iload_n 1, 1) := by decide +kernel
theorem dX7_produceRuled_203 : decode cX7_produceRuled 203 = .ok (.bipush 14, 2) := by decide +kernel
theorem dX7_produceRuled_205 : decode cX7_produceRuled 205 = .ok (.invokestatic 103, 3) := by decide +kernel
theorem dX7_produceRuled_208 : decode cX7_produceRuled 208 = .ok (.invokevirtual 100, 3) := by decide +kernel
theorem dX7_produceRuled_211 : decode cX7_produceRuled 211 = .ok (.goto 309, 3) := by decide +kernel
theorem dX7_produceRuled_214 : decode cX7_produceRuled 214 = .ok (.aload_n 0, 1) := by decide +kernel
theorem dX7_produceRuled_215 : decode cX7_produceRuled 215 = .ok (.iload_n 1, 1) := by decide +kernel
theorem dX7_produceRuled_216 : decode cX7_produceRuled 216 = .ok (.iconst 1, 1) := by decide +kernel
theorem dX7_produceRuled_217 : decode cX7_produceRuled 217 = .ok (.invokevirtual 110, 3) := by decide +kernel
theorem dX7_produceRuled_220 : decode cX7_produceRuled 220 = .ok (.goto 300, 3) := by decide +kernel
theorem dX7_produceRuled_223 : decode cX7_produceRuled 223 = .ok (.iload 5, 2) := by decide +kernel
theorem dX7_produceRuled_225 : decode cX7_produceRuled 225 = .ok (.ifCond .eq 16, 3) := by decide +kernel
theorem dX7_produceRuled_228 : decode cX7_produceRuled 228 = .ok (.aload_n 0, 1) := by decide +kernel
theorem dX7_produceRuled_229 : decode cX7_produceRuled 229 = .ok (.iload_n 1, 1) := by decide +kernel
theorem dX7_produceRuled_230 : decode cX7_produceRuled 230 = .ok (.bipush 15, 2) := by decide +kernel
theorem dX7_produceRuled_232 : decode cX7_produceRuled 232 = .ok (.invokestatic 103, 3) := by decide +kernel
theorem dX7_produceRuled_235 : decode cX7_produceRuled 235 = .ok (.invokevirtual 100, 3) := by decide +kernel
theorem dX7_produceRuled_238 : decode cX7_produceRuled 238 = .ok (.goto 282, 3) := by decide +kernel
theorem dX7_produceRuled_241 : decode cX7_produceRuled 241 = .ok (.aload_n 0, 1) := by decide +kernel
theorem dX7_produceRuled_242 : decode cX7_produceRuled 242 = .ok (.iload_n 1, 1) := by decide +kernel
theorem dX7_produceRuled_243 : decode cX7_produceRuled 243 = .ok (.iconst 0, 1) := by decide +kernel
theorem dX7_produceRuled_244 : decode cX7_produceRuled 244 = .ok (.invokevirtual 110, 3) := by decide +kernel
theorem dX7_produceRuled_247 : decode cX7_produceRuled 247 = .ok (.goto 273, 3) := by decide +kernel
theorem dX7_produceRuled_250 : decode cX7_produceRuled 250 = .ok (.aload_n 0, 1) := by decide +kernel
theorem dX7_produceRuled_251 : decode cX7_produceRuled 251 = .ok (.iload_n 1, 1) := by decide +kernel
theorem dX7_produceRuled_252 : decode cX7_produceRuled 252 = .ok (.bipush 10, 2) := by decide +kernel
theorem dX7_produceRuled_254 : decode cX7_produceRuled 254 = .ok (.invokestatic 103, 3) := by decide +kernel
theorem dX7_produceRuled_257 : decode cX7_produceRuled 257 = .ok (.invokevirtual 100, 3) := by decide +kernel
theorem dX7_produceRuled_260 : decode cX7_produceRuled 260 = .ok (.aload_n 0, 1) := by decide +kernel
theorem dX7_produceRuled_261 : decode cX7_produceRuled 261 = .ok (.iload_n 1, 1) := by decide +kernel
theorem dX7_produceRuled_262 : decode cX7_produceRuled 262 = .ok (.bipush 11, 2) := by decide +kernel
theorem dX7_produceRuled_264 : decode cX7_produceRuled 264 = .ok (.invokestatic 103, 3) := by decide +kernel
theorem dX7_produceRuled_267 : decode cX7_produceRuled 267 = .ok (.invokevirtual 100, 3) := by decide +kernel
theorem dX7_produceRuled_270 : decode cX7_produceRuled 270 = .ok (.goto 250, 3) := by decide +kernel
theorem dX7_produceRuled_273 : decode cX7_produceRuled 273 = .ok (.aload_n 0, 1) := by decide +kernel
theorem dX7_produceRuled_274 : decode cX7_produceRuled 274 = .ok (.iload_n 1, 1) := by decide +kernel
theorem dX7_produceRuled_275 : decode cX7_produceRuled 275 = .ok (.bipush 12, 2) := by decide +kernel
theorem dX7_produceRuled_277 : decode cX7_produceRuled 277 = .ok (.invokestatic 103, 3) := by decide +kernel
theorem dX7_produceRuled_280 : decode cX7_produceRuled 280 = .ok (.invokevirtual 100, 3) := by decide +kernel
theorem dX7_produceRuled_283 : decode cX7_produceRuled 283 = .ok (.aload_n 0, 1) := by decide +kernel
theorem dX7_produceRuled_284 : decode cX7_produceRuled 284 = .ok (.iload_n 1, 1) := by decide +kernel
theorem dX7_produceRuled_285 : decode cX7_produceRuled 285 = .ok (.bipush 13, 2) := by decide +kernel
theorem dX7_produceRuled_287 : decode cX7_produceRuled 287 = .ok (.invokestatic 103, 3) := by decide +kernel
theorem dX7_produceRuled_290 : decode cX7_produceRuled 290 = .ok (.invokevirtual 100, 3) := by decide +kernel
theorem dX7_produceRuled_293 : decode cX7_produceRuled 293 = .ok (.goto 227, 3) := by decide +kernel
theorem dX7_produceRuled_296 : decode cX7_produceRuled 296 = .ok (.aload_n 0, 1) := by decide +kernel
theorem dX7_produceRuled_297 : decode cX7_produceRuled 297 = .ok (.iload_n 1, 1) := by decide +kernel
theorem dX7_produceRuled_298 : decode cX7_produceRuled 298 = .ok (.bipush 16, 2) := by decide +kernel
theorem dX7_produceRuled_300 : decode cX7_produceRuled 300 = .ok (.invokestatic 103, 3) := by decide +kernel
theorem dX7_produceRuled_303 : decode cX7_produceRuled 303 = .ok (.invokevirtual 100, 3) := by decide +kernel
theorem dX7_produceRuled_306 : decode cX7_produceRuled 306 = .ok (.aload_n 0, 1) := by decide +kernel
theorem dX7_produceRuled_307 : decode cX7_produceRuled 307 = .ok (.iload_n 1, 1) := by decide +kernel
theorem dX7_produceRuled_308 : decode cX7_produceRuled 308 = .ok (.bipush 17, 2) := by decide +kernel
theorem dX7_produceRuled_310 : decode cX7_produceRuled 310 = .ok (.invokestatic 103, 3) := by decide +kernel
theorem dX7_produceRuled_313 : decode cX7_produceRuled 313 = .ok (.invokevirtual 100, 3) := by decide +kernel
theorem dX7_produceRuled_316 : decode cX7_produceRuled 316 = .ok (.goto 204, 3) := by decide +kernel
theorem dX7_produceRuled_319 : decode cX7_produceRuled 319 = .ok (.aload_n 0, 1) := by decide +kernel
theorem dX7_produceRuled_320 : decode cX7_produceRuled 320 = .ok (.iload_n 1, 1) := by decide +kernel
theorem dX7_produceRuled_321 : decode cX7_produceRuled 321 = .ok (.bipush 18, 2) := by decide +kernel
theorem dX7_produceRuled_323 : decode cX7_produceRuled 323 = .ok (.invokestatic 103, 3) := by decide +kernel
theorem dX7_produceRuled_326 : decode cX7_produceRuled 326 = .ok (.invokevirtual 100, 3) := by decide +kernel
theorem dX7_produceRuled_329 : decode cX7_produceRuled 329 = .ok (.aload_n 0, 1) := by decide +kernel
theorem dX7_produceRuled_330 : decode cX7_produceRuled 330 = .ok (.iload_n 1, 1) := by decide +kernel
theorem dX7_produceRuled_331 : decode cX7_produceRuled 331 = .ok (.bipush 19, 2) := by decide +kernel
theorem dX7_produceRuled_333 : decode cX7_produceRuled 333 = .ok (.invokestatic 103, 3) := by decide +kernel
theorem dX7_produceRuled_336 : decode cX7_produceRuled 336 = .ok (.invokevirtual 100, 3) := by decide +kernel
theorem dX7_produceRuled_339 : decode cX7_produceRuled 339 = .ok (.goto 181, 3) := by decide +kernel
theorem dX7_produceRuled_342 : decode cX7_produceRuled 342 = .ok (.aload_n 0, 1) := by decide +kernel
theorem dX7_produceRuled_343 : decode cX7_produceRuled 343 = .ok (.iload_n 3, 1) := by decide +kernel
theorem dX7_produceRuled_344 : decode cX7_produceRuled 344 = .ok (.iload 5, 2) := by decide +kernel
theorem dX7_produceRuled_346 : decode cX7_produceRuled 346 = .ok (.ifCond .eq 7, 3) := by decide +kernel
theorem dX7_produceRuled_349 : decode cX7_produceRuled 349 = .ok (.iconst 0, 1) := by decide +kernel
theorem dX7_produceRuled_350 : decode cX7_produceRuled 350 = .ok (.goto 5, 3) := by decide +kernel
theorem dX7_produceRuled_353 : decode cX7_produceRuled 353 = .ok (.bipush 6, 2) := by decide +kernel
theorem dX7_produceRuled_355 : decode cX7_produceRuled 355 = .ok (.invokestatic 103, 3) := by decide +kernel
theorem dX7_produceRuled_358 : decode cX7_produceRuled 358 = .ok (.invokevirtual 107, 3) := by decide +kernel
theorem dX7_produceRuled_361 : decode cX7_produceRuled 361 = .ok (.goto 159, 3) := by decide +kernel
theorem dX7_produceRuled_364 : decode cX7_produceRuled 364 = .ok (.aload_n 0, 1) := by decide +kernel
theorem dX7_produceRuled_365 : decode cX7_produceRuled 365 = .ok (.iconst 0, 1) := by decide +kernel
theorem dX7_produceRuled_366 : decode cX7_produceRuled 366 = .ok (.invokevirtual 100, 3) := by decide +kernel
theorem dX7_produceRuled_369 : decode cX7_produceRuled 369 = .ok (.aload_n 0, 1) := by decide +kernel
theorem dX7_produceRuled_370 : decode cX7_produceRuled 370 = .ok (.iload 4, 2) := by decide +kernel
theorem dX7_produceRuled_372 : decode cX7_produceRuled 372 = .ok (.iload 5, 2) := by decide +kernel
theorem dX7_produceRuled_374 : decode cX7_produceRuled 374 = .ok (.ifCond .eq 7, 3) := by decide +kernel
theorem dX7_produceRuled_377 : decode cX7_produceRuled 377 = .ok (.iconst 0, 1) := by decide +kernel
theorem dX7_produceRuled_378 : decode cX7_produceRuled 378 = .ok (.goto 5, 3) := by decide +kernel
theorem dX7_produceRuled_381 : decode cX7_produceRuled 381 = .ok (.bipush 6, 2) := by decide +kernel
theorem dX7_produceRuled_383 : decode cX7_produceRuled 383 = .ok (.invokestatic 103, 3) := by decide +kernel
theorem dX7_produceRuled_386 : decode cX7_produceRuled 386 = .ok (.invokevirtual 107, 3) := by decide +kernel
theorem dX7_produceRuled_389 : decode cX7_produceRuled 389 = .ok (.goto 131, 3) := by decide +kernel
theorem dX7_produceRuled_392 : decode cX7_produceRuled 392 = .ok (.aload_n 0, 1) := by decide +kernel
theorem dX7_produceRuled_393 : decode cX7_produceRuled 393 = .ok (.iload_n 3, 1) := by decide +kernel
theorem dX7_produceRuled_394 : decode cX7_produceRuled 394 = .ok (.iload 5, 2) := by decide +kernel
theorem dX7_produceRuled_396 : decode cX7_produceRuled 396 = .ok (.ifCond .eq 7, 3) := by decide +kernel
theorem dX7_produceRuled_399 : decode cX7_produceRuled 399 = .ok (.iconst 1, 1) := by decide +kernel
theorem dX7_produceRuled_400 : decode cX7_produceRuled 400 = .ok (.goto 5, 3) := by decide +kernel
theorem dX7_produceRuled_403 : decode cX7_produceRuled 403 = .ok (.bipush 7, 2) := by decide +kernel
theorem dX7_produceRuled_405 : decode cX7_produceRuled 405 = .ok (.invokestatic 103, 3) := by decide +kernel
theorem dX7_produceRuled_408 : decode cX7_produceRuled 408 = .ok (.invokevirtual 107, 3) := by decide +kernel
theorem dX7_produceRuled_411 : decode cX7_produceRuled 411 = .ok (.goto 109, 3) := by decide +kernel
theorem dX7_produceRuled_414 : decode cX7_produceRuled 414 = .ok (.aload_n 0, 1) := by decide +kernel
theorem dX7_produceRuled_415 : decode cX7_produceRuled 415 = .ok (.iload 4, 2) := by decide +kernel
theorem dX7_produceRuled_417 : decode cX7_produceRuled 417 = .ok (.iload 5, 2) := by decide +kernel
theorem dX7_produceRuled_419 : decode cX7_produceRuled 419 = .ok (.ifCond .eq 7, 3) := by decide +kernel
theorem dX7_produceRuled_422 : decode cX7_produceRuled 422 = .ok (.iconst 1, 1) := by decide +kernel
theorem dX7_produceRuled_423 : decode cX7_produceRuled 423 = .ok (.goto 5, 3) := by decide +kernel
theorem dX7_produceRuled_426 : decode cX7_produceRuled 426 = .ok (.bipush 7, 2) := by decide +kernel
theorem dX7_produceRuled_428 : decode cX7_produceRuled 428 = .ok (.invokestatic 103, 3) := by decide +kernel
theorem dX7_produceRuled_431 : decode cX7_produceRuled 431 = .ok (.invokevirtual 107, 3) := by decide +kernel
theorem dX7_produceRuled_434 : decode cX7_produceRuled 434 = .ok (.goto 86, 3) := by decide +kernel
theorem dX7_produceRuled_437 : decode cX7_produceRuled 437 = .ok (.aload_n 0, 1) := by decide +kernel
theorem dX7_produceRuled_438 : decode cX7_produceRuled 438 = .ok (.iload_n 3, 1) := by decide +kernel
theorem dX7_produceRuled_439 : decode cX7_produceRuled 439 = .ok (.iload 5, 2) := by decide +kernel
theorem dX7_produceRuled_441 : decode cX7_produceRuled 441 = .ok (.ifCond .eq 7, 3) := by decide +kernel
theorem dX7_produceRuled_444 : decode cX7_produceRuled 444 = .ok (.iconst 4, 1) := by decide +kernel
theorem dX7_produceRuled_445 : decode cX7_produceRuled 445 = .ok (.goto 4, 3) := by decide +kernel
theorem dX7_produceRuled_448 : decode cX7_produceRuled 448 = .ok (.iconst 0, 1) := by decide +kernel
theorem dX7_produceRuled_449 : decode cX7_produceRuled 449 = .ok (.invokestatic 103, 3) := by decide +kernel
theorem dX7_produceRuled_452 : decode cX7_produceRuled 452 = .ok (.invokevirtual 107, 3) := by decide +kernel
theorem dX7_produceRuled_455 : decode cX7_produceRuled 455 = .ok (.goto 65, 3) := by decide +kernel
theorem dX7_produceRuled_458 : decode cX7_produceRuled 458 = .ok (.aload_n 0, 1) := by decide +kernel
theorem dX7_produceRuled_459 : decode cX7_produceRuled 459 = .ok (.iload 4, 2) := by decide +kernel
theorem dX7_produceRuled_461 : decode cX7_produceRuled 461 = .ok (.iload 5, 2) := by decide +kernel
theorem dX7_produceRuled_463 : decode cX7_produceRuled 463 = .ok (.ifCond .eq 7, 3) := by decide +kernel
theorem dX7_produceRuled_466 : decode cX7_produceRuled 466 = .ok (.iconst 4, 1) := by decide +kernel
theorem dX7_produceRuled_467 : decode cX7_produceRuled 467 = .ok (.goto 4, 3) := by decide +kernel
theorem dX7_produceRuled_470 : decode cX7_produceRuled 470 = .ok (.iconst 0, 1) := by decide +kernel
theorem dX7_produceRuled_471 : decode cX7_produceRuled 471 = .ok (.invokestatic 103, 3) := by decide +kernel
theorem dX7_produceRuled_474 : decode cX7_produceRuled 474 = .ok (.invokevirtual 107, 3) := by decide +kernel
theorem dX7_produceRuled_477 : decode cX7_produceRuled 477 = .ok (.goto 43, 3) := by decide +kernel
theorem dX7_produceRuled_480 : decode cX7_produceRuled 480 = .ok (.aload_n 0, 1) := by decide +kernel
theorem dX7_produceRuled_481 : decode cX7_produceRuled 481 = .ok (.iload_n 3, 1) := by decide +kernel
theorem dX7_produceRuled_482 : decode cX7_produceRuled 482 = .ok (.iload 5, 2) := by decide +kernel
theorem dX7_produceRuled_484 : decode cX7_produceRuled 484 = .ok (.ifCond .eq 7, 3) := by decide +kernel
theorem dX7_produceRuled_487 : decode cX7_produceRuled 487 = .ok (.iconst 5, 1) := by decide +kernel
theorem dX7_produceRuled_488 : decode cX7_produceRuled 488 = .ok (.goto 4, 3) := by decide +kernel
theorem dX7_produceRuled_491 : decode cX7_produceRuled 491 = .ok (.iconst 1, 1) := by decide +kernel
theorem dX7_produceRuled_492 : decode cX7_produceRuled 492 = .ok (.invokestatic 103, 3) := by decide +kernel
theorem dX7_produceRuled_495 : decode cX7_produceRuled 495 = .ok (.invokevirtual 107, 3) := by decide +kernel
theorem dX7_produceRuled_498 : decode cX7_produceRuled 498 = .ok (.goto 22, 3) := by decide +kernel
theorem dX7_produceRuled_501 : decode cX7_produceRuled 501 = .ok (.aload_n 0, 1) := by decide +kernel
theorem dX7_produceRuled_502 : decode cX7_produceRuled 502 = .ok (.iload 4, 2) := by decide +kernel
theorem dX7_produceRuled_504 : decode cX7_produceRuled 504 = .ok (.iload 5, 2) := by decide +kernel
theorem dX7_produceRuled_506 : decode cX7_produceRuled 506 = .ok (.ifCond .eq 7, 3) := by decide +kernel
theorem dX7_produceRuled_509 : decode cX7_produceRuled 509 = .ok (.iconst 5, 1) := by decide +kernel
theorem dX7_produceRuled_510 : decode cX7_produceRuled 510 = .ok (.goto 4, 3) := by decide +kernel
theorem dX7_produceRuled_513 : decode cX7_produceRuled 513 = .ok (.iconst 1, 1) := by decide +kernel
theorem dX7_produceRuled_514 : decode cX7_produceRuled 514 = .ok (.invokestatic 103, 3) := by decide +kernel
theorem dX7_produceRuled_517 : decode cX7_produceRuled 517 = .ok (.invokevirtual 107, 3) := by decide +kernel
theorem dX7_produceRuled_520 : decode cX7_produceRuled 520 = .ok (.return_, 1) := by decide +kernel
