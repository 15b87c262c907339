theorem dX6_init_0 : decode cX6_init 0 = .ok (.aload_n 0, 1) := by decide +kernel
theorem dX6_init_1 : decode cX6_init 1 = .ok (.invokespecial 3, 3) := by decide +kernel
theorem dX6_init_4 : decode cX6_init 4 = .ok (.aload_n 0, 1) := by decide +kernel
theorem dX6_init_5 : decode cX6_init 5 = .ok (.new 9, 3) := by decide +kernel
theorem dX6_init_8 : decode cX6_init 8 = .ok (.dup, 1) := by decide +kernel
theorem dX6_init_9 : decode cX6_init 9 = .ok (.invokespecial 11, 3) := by decide +kernel
theorem dX6_init_12 : decode cX6_init 12 = .ok (.putfield 12, 3) := by decide +kernel
theorem dX6_init_15 : decode cX6_init 15 = .ok (.aload_n 0, 1) := by decide +kernel
theorem dX6_init_16 : decode cX6_init 16 = .ok (.new 16, 3) := by decide +kernel
theorem dX6_init_19 : decode cX6_init 19 = .ok (.dup, 1) := by decide +kernel
theorem dX6_init_20 : decode cX6_init 20 = .ok (.invokespecial 18, 3) := by decide +kernel
theorem dX6_init_23 : decode cX6_init 23 = .ok (.putfield 19, 3) := by decide +kernel
theorem dX6_init_26 : decode cX6_init 26 = .ok (.aload_n 0, 1) := by decide +kernel
theorem dX6_init_27 : decode cX6_init 27 = .ok (.new 23, 3) := by decide +kernel
theorem dX6_init_30 : decode cX6_init 30 = .ok (.dup, 1) := by decide +kernel
theorem dX6_init_31 : decode cX6_init 31 = .ok (.invokespecial 25, 3) := by decide +kernel
theorem dX6_init_34 : decode cX6_init 34 = .ok (.putfield 26, 3) := by decide +kernel
theorem dX6_init_37 : decode cX6_init 37 = .ok (.aload_n 0, 1) := by decide +kernel
theorem dX6_init_38 : decode cX6_init 38 = .ok (.new 30, 3) := by decide +kernel
theorem dX6_init_41 : decode cX6_init 41 = .ok (.dup, 1) := by decide +kernel
theorem dX6_init_42 : decode cX6_init 42 = .ok (.invokespecial 32, 3) := by decide +kernel
theorem dX6_init_45 : decode cX6_init 45 = .ok (.putfield 33, 3) := by decide +kernel
theorem dX6_init_48 : decode cX6_init 48 = .ok (.aload_n 0, 1) := by decide +kernel
theorem dX6_init_49 : decode cX6_init 49 = .ok (.new 37, 3) := by decide +kernel
theorem dX6_init_52 : decode cX6_init 52 = .ok (.dup, 1) := by decide +kernel
theorem dX6_init_53 : decode cX6_init 53 = .ok (.invokespecial 39, 3) := by decide +kernel
theorem dX6_init_56 : decode cX6_init 56 = .ok (.putfield 40, 3) := by decide +kernel
theorem dX6_init_59 : decode cX6_init 59 = .ok (.return_, 1) := by decide +kernel
theorem dX6_line_0 : decode cX6_line 0 = .ok (.iload_n 1, 1) := by decide +kernel
theorem dX6_line_1 : decode cX6_line 1 = .ok (.iconst 0, 1) := by decide +kernel
theorem dX6_line_2 : decode cX6_line 2 = .ok (.iconst 2, 1) := by decide +kernel
theorem dX6_line_3 : decode cX6_line 3 = .ok (.invokestatic 44, 3) := by decide +kernel
theorem dX6_line_6 : decode cX6_line 6 = .ok (.ifCond .ne 12, 3) := by decide +kernel
theorem dX6_line_9 : decode cX6_line 9 = .ok (.iload_n 2, 1) := by decide +kernel
theorem dX6_line_10 : decode cX6_line 10 = .ok (.iconst 0, 1) := by decide +kernel
theorem dX6_line_11 : decode cX6_line 11 = .ok (.iconst 3, 1) := by decide +kernel
theorem dX6_line_12 : decode cX6_line 12 = .ok (.invokestatic 44, 3) := by decide +kernel
theorem dX6_line_15 : decode cX6_line 15 = .ok (.ifCond .eq 5, 3) := by decide +kernel
theorem dX6_line_18 : decode cX6_line 18 = .ok (.iconst (-1), 1) := by decide +kernel
theorem dX6_line_19 : decode cX6_line 19 = .ok (.ireturn, 1) := by decide +kernel
theorem dX6_line_20 : decode cX6_line 20 = .ok (.iload_n 3, 1) := by decide +kernel
theorem dX6_line_21 : decode cX6_line 21 = .ok (.iconst 0, 1) := by decide +kernel
theorem dX6_line_22 : decode cX6_line 22 = .ok (.bipush 24, 2) := by decide +kernel
theorem dX6_line_24 : decode cX6_line 24 = .ok (.invokestatic 44, 3) := by decide +kernel
theorem dX6_line_27 : decode cX6_line 27 = .ok (.ifCond .ne 14, 3) := by decide +kernel
theorem dX6_line_30 : decode cX6_line 30 = .ok (.iload 4, 2) := by decide +kernel
theorem dX6_line_32 : decode cX6_line 32 = .ok (.iconst 0, 1) := by decide +kernel
theorem dX6_line_33 : decode cX6_line 33 = .ok (.bipush 24, 2) := by decide +kernel
theorem dX6_line_35 : decode cX6_line 35 = .ok (.invokestatic 44, 3) := by decide +kernel
theorem dX6_line_38 : decode cX6_line 38 = .ok (.ifCond .eq 5, 3) := by decide +kernel
theorem dX6_line_41 : decode cX6_line 41 = .ok (.iconst (-1), 1) := by decide +kernel
theorem dX6_line_42 : decode cX6_line 42 = .ok (.ireturn, 1) := by decide +kernel
theorem dX6_line_43 : decode cX6_line 43 = .ok (.aload_n 0, 1) := by decide +kernel
theorem dX6_line_44 : decode cX6_line 44 = .ok (.getfield 12, 3) := by decide +kernel
theorem dX6_line_47 : decode cX6_line 47 = .ok (.iload_n 1, 1) := by decide +kernel
theorem dX6_line_48 : decode cX6_line 48 = .ok (.iload_n 2, 1) := by decide +kernel
theorem dX6_line_49 : decode cX6_line 49 = .ok (.iload_n 3, 1) := by decide +kernel
theorem dX6_line_50 : decode cX6_line 50 = .ok (.iload 4, 2) := by decide +kernel
theorem dX6_line_52 : decode cX6_line 52 = .ok (.invokevirtual 48, 3) := by decide +kernel
theorem dX6_line_55 : decode cX6_line 55 = .ok (.ireturn, 1) := by decide +kernel
theorem dX6_wipe_0 : decode cX6_wipe 0 = .ok (.aload_n 0, 1) := by decide +kernel
theorem dX6_wipe_1 : decode cX6_wipe 1 = .ok (.getfield 12, 3) := by decide +kernel
theorem dX6_wipe_4 : decode cX6_wipe 4 = .ok (.invokevirtual 52, 3) := by decide +kernel
theorem dX6_wipe_7 : decode cX6_wipe 7 = .ok (.ireturn, 1) := by decide +kernel
theorem dX6_set_0 : decode cX6_set 0 = .ok (.iload_n 1, 1) := by decide +kernel
theorem dX6_set_1 : decode cX6_set 1 = .ok (.iconst 0, 1) := by decide +kernel
theorem dX6_set_2 : decode cX6_set 2 = .ok (.iconst 3, 1) := by decide +kernel
theorem dX6_set_3 : decode cX6_set 3 = .ok (.invokestatic 44, 3) := by decide +kernel
theorem dX6_set_6 : decode cX6_set 6 = .ok (.ifCond .ne 14, 3) := by decide +kernel
theorem dX6_set_9 : decode cX6_set 9 = .ok (.iload_n 2, 1) := by decide +kernel
theorem dX6_set_10 : decode cX6_set 10 = .ok (.iconst 0, 1) := by decide +kernel
theorem dX6_set_11 : decode cX6_set 11 = .ok (.sipush 1000, 3) := by decide +kernel
theorem dX6_set_14 : decode cX6_set 14 = .ok (.invokestatic 44, 3) := by decide +kernel
theorem dX6_set_17 : decode cX6_set 17 = .ok (.ifCond .eq 5, 3) := by decide +kernel
theorem dX6_set_20 : decode cX6_set 20 = .ok (.iconst (-1), 1) := by decide +kernel
theorem dX6_set_21 : decode cX6_set 21 = .ok (.ireturn, 1) := by decide +kernel
theorem dX6_set_22 : decode cX6_set 22 = .ok (.aload_n 0, 1) := by decide +kernel
theorem dX6_set_23 : decode cX6_set 23 = .ok (.getfield 12, 3) := by decide +kernel
theorem dX6_set_26 : decode cX6_set 26 = .ok (.iload_n 1, 1) := by decide +kernel
theorem dX6_set_27 : decode cX6_set 27 = .ok (.iload_n 2, 1) := by decide +kernel
theorem dX6_set_28 : decode cX6_set 28 = .ok (.invokevirtual 56, 3) := by decide +kernel
theorem dX6_set_31 : decode cX6_set 31 = .ok (.ireturn, 1) := by decide +kernel
theorem dX6_counter_0 : decode cX6_counter 0 = .ok (.iload_n 1, 1) := by decide +kernel
theorem dX6_counter_1 : decode cX6_counter 1 = .ok (.iconst 0, 1) := by decide +kernel
theorem dX6_counter_2 : decode cX6_counter 2 = .ok (.iconst 3, 1) := by decide +kernel
theorem dX6_counter_3 : decode cX6_counter 3 = .ok (.invokestatic 44, 3) := by decide +kernel
theorem dX6_counter_6 : decode cX6_counter 6 = .ok (.ifCond .eq 5, 3) := by decide +kernel
theorem dX6_counter_9 : decode cX6_counter 9 = .ok (.iconst (-1), 1) := by decide +kernel
theorem dX6_counter_10 : decode cX6_counter 10 = .ok (.ireturn, 1) := by decide +kernel
theorem dX6_counter_11 : decode cX6_counter 11 = .ok (.aload_n 0, 1) := by decide +kernel
theorem dX6_counter_12 : decode cX6_counter 12 = .ok (.getfield 12, 3) := by decide +kernel
theorem dX6_counter_15 : decode cX6_counter 15 = .ok (.iload_n 1, 1) := by decide +kernel
theorem dX6_counter_16 : decode cX6_counter 16 = .ok (.invokevirtual 60, 3) := by decide +kernel
theorem dX6_counter_19 : decode cX6_counter 19 = .ok (.ireturn, 1) := by decide +kernel
theorem dX6_count_0 : decode cX6_count 0 = .ok (.iload_n 1, 1) := by decide +kernel
theorem dX6_count_1 : decode cX6_count 1 = .ok (.iconst 1, 1) := by decide +kernel
theorem dX6_count_2 : decode cX6_count 2 = .ok (.sipush 5000, 3) := by decide +kernel
theorem dX6_count_5 : decode cX6_count 5 = .ok (.invokestatic 44, 3) := by decide +kernel
theorem dX6_count_8 : decode cX6_count 8 = .ok (.ifCond .eq 5, 3) := by decide +kernel
theorem dX6_count_11 : decode cX6_count 11 = .ok (.iconst (-1), 1) := by decide +kernel
theorem dX6_count_12 : decode cX6_count 12 = .ok (.ireturn, 1) := by decide +kernel
theorem dX6_count_13 : decode cX6_count 13 = .ok (.aload_n 0, 1) := by decide +kernel
theorem dX6_count_14 : decode cX6_count 14 = .ok (.getfield 12, 3) := by decide +kernel
theorem dX6_count_17 : decode cX6_count 17 = .ok (.iload_n 1, 1) := by decide +kernel
theorem dX6_count_18 : decode cX6_count 18 = .ok (.invokevirtual 64, 3) := by decide +kernel
theorem dX6_count_21 : decode cX6_count 21 = .ok (.ireturn, 1) := by decide +kernel
theorem dX6_at_0 : decode cX6_at 0 = .ok (.aload_n 0, 1) := by decide +kernel
theorem dX6_at_1 : decode cX6_at 1 = .ok (.getfield 12, 3) := by decide +kernel
theorem dX6_at_4 : decode cX6_at 4 = .ok (.invokevirtual 67, 3) := by decide +kernel
theorem dX6_at_7 : decode cX6_at 7 = .ok (.ireturn, 1) := by decide +kernel
theorem dX6_go_0 : decode cX6_go 0 = .ok (.iload_n 1, 1) := by decide +kernel
theorem dX6_go_1 : decode cX6_go 1 = .ok (.iconst 0, 1) := by decide +kernel
theorem dX6_go_2 : decode cX6_go 2 = .ok (.bipush 24, 2) := by decide +kernel
theorem dX6_go_4 : decode cX6_go 4 = .ok (.invokestatic 44, 3) := by decide +kernel
theorem dX6_go_7 : decode cX6_go 7 = .ok (.ifCond .eq 5, 3) := by decide +kernel
theorem dX6_go_10 : decode cX6_go 10 = .ok (.iconst (-1), 1) := by decide +kernel
theorem dX6_go_11 : decode cX6_go 11 = .ok (.ireturn, 1) := by decide +kernel
theorem dX6_go_12 : decode cX6_go 12 = .ok (.aload_n 0, 1) := by decide +kernel
theorem dX6_go_13 : decode cX6_go 13 = .ok (.getfield 12, 3) := by decide +kernel
theorem dX6_go_16 : decode cX6_go 16 = .ok (.iload_n 1, 1) := by decide +kernel
theorem dX6_go_17 : decode cX6_go 17 = .ok (.invokevirtual 70, 3) := by decide +kernel
theorem dX6_go_20 : decode cX6_go 20 = .ok (.ireturn, 1) := by decide +kernel
theorem dX6_rule_0 : decode cX6_rule 0 = .ok (.iload_n 1, 1) := by decide +kernel
theorem dX6_rule_1 : decode cX6_rule 1 = .ok (.iconst 0, 1) := by decide +kernel
theorem dX6_rule_2 : decode cX6_rule 2 = .ok (.iconst 2, 1) := by decide +kernel
theorem dX6_rule_3 : decode cX6_rule 3 = .ok (.invokestatic 44, 3) := by decide +kernel
theorem dX6_rule_6 : decode cX6_rule 6 = .ok (.ifCond .ne 21, 3) := by decide +kernel
theorem dX6_rule_9 : decode cX6_rule 9 = .ok (.iload_n 2, 1) := by decide +kernel
theorem dX6_rule_10 : decode cX6_rule 10 = .ok (.iconst 0, 1) := by decide +kernel
theorem dX6_rule_11 : decode cX6_rule 11 = .ok (.iconst 1, 1) := by decide +kernel
theorem dX6_rule_12 : decode cX6_rule 12 = .ok (.invokestatic 44, 3) := by decide +kernel
theorem dX6_rule_15 : decode cX6_rule 15 = .ok (.ifCond .ne 12, 3) := by decide +kernel
theorem dX6_rule_18 : decode cX6_rule 18 = .ok (.iload_n 3, 1) := by decide +kernel
theorem dX6_rule_19 : decode cX6_rule 19 = .ok (.iconst 0, 1) := by decide +kernel
theorem dX6_rule_20 : decode cX6_rule 20 = .ok (.iconst 1, 1) := by decide +kernel
theorem dX6_rule_21 : decode cX6_rule 21 = .ok (.invokestatic 44, 3) := by decide +kernel
theorem dX6_rule_24 : decode cX6_rule 24 = .ok (.ifCond .eq 5, 3) := by decide +kernel
theorem dX6_rule_27 : decode cX6_rule 27 = .ok (.iconst (-1), 1) := by decide +kernel
theorem dX6_rule_28 : decode cX6_rule 28 = .ok (.ireturn, 1) := by decide +kernel
theorem dX6_rule_29 : decode cX6_rule 29 = .ok (.iload 4, 2) := by decide +kernel
theorem dX6_rule_31 : decode cX6_rule 31 = .ok (.iconst 0, 1) := by decide +kernel
theorem dX6_rule_32 : decode cX6_rule 32 = .ok (.iconst 1, 1) := by decide +kernel
theorem dX6_rule_33 : decode cX6_rule 33 = .ok (.invokestatic 44, 3) := by decide +kernel
theorem dX6_rule_36 : decode cX6_rule 36 = .ok (.ifCond .ne 13, 3) := by decide +kernel
theorem dX6_rule_39 : decode cX6_rule 39 = .ok (.iload 5, 2) := by decide +kernel
theorem dX6_rule_41 : decode cX6_rule 41 = .ok (.iconst 0, 1) := by decide +kernel
theorem dX6_rule_42 : decode cX6_rule 42 = .ok (.iconst 2, 1) := by decide +kernel
theorem dX6_rule_43 : decode cX6_rule 43 = .ok (.invokestatic 44, 3) := by decide +kernel
theorem dX6_rule_46 : decode cX6_rule 46 = .ok (.ifCond .eq 5, 3) := by decide +kernel
theorem dX6_rule_49 : decode cX6_rule 49 = .ok (.iconst (-1), 1) := by decide +kernel
theorem dX6_rule_50 : decode cX6_rule 50 = .ok (.ireturn, 1) := by decide +kernel
theorem dX6_rule_51 : decode cX6_rule 51 = .ok (.iload_n 1, 1) := by decide +kernel
theorem dX6_rule_52 : decode cX6_rule 52 = .ok (.iload_n 2, 1) := by decide +kernel
theorem dX6_rule_53 : decode cX6_rule 53 = .ok (.invokestatic 73, 3) := by decide +kernel
theorem dX6_rule_56 : decode cX6_rule 56 = .ok (.istore 6, 2) := by decide +kernel
theorem dX6_rule_58 : decode cX6_rule 58 = .ok (.aload_n 0, 1) := by decide +kernel
theorem dX6_rule_59 : decode cX6_rule 59 = .ok (.getfield 26, 3) := by decide +kernel
theorem dX6_rule_62 : decode cX6_rule 62 = .ok (.iload 6, 2) := by decide +kernel
theorem dX6_rule_64 : decode cX6_rule 64 = .ok (.iload_n 3, 1) := by decide +kernel
theorem dX6_rule_65 : decode cX6_rule 65 = .ok (.iload 4, 2) := by decide +kernel
theorem dX6_rule_67 : decode cX6_rule 67 = .ok (.iload 5, 2) := by decide +kernel
theorem dX6_rule_69 : decode cX6_rule 69 = .ok (.invokevirtual 76, 3) := by decide +kernel
theorem dX6_rule_72 : decode cX6_rule 72 = .ok (.aload_n 0, 1) := by decide +kernel
theorem dX6_rule_73 : decode cX6_rule 73 = .ok (.getfield 19, 3) := by decide +kernel
theorem dX6_rule_76 : decode cX6_rule 76 = .ok (.iload 6, 2) := by decide +kernel
theorem dX6_rule_78 : decode cX6_rule 78 = .ok (.iload_n 3, 1) := by decide +kernel
theorem dX6_rule_79 : decode cX6_rule 79 = .ok (.iload 4, 2) := by decide +kernel
theorem dX6_rule_81 : decode cX6_rule 81 = .ok (.iload 5, 2) := by decide +kernel
theorem dX6_rule_83 : decode cX6_rule 83 = .ok (.invokevirtual 80, 3) := by decide +kernel
theorem dX6_rule_86 : decode cX6_rule 86 = .ok (.ireturn, 1) := by decide +kernel
theorem dX6_unrule_0 : decode cX6_unrule 0 = .ok (.iload_n 1, 1) := by decide +kernel
theorem dX6_unrule_1 : decode cX6_unrule 1 = .ok (.iconst 0, 1) := by decide +kernel
theorem dX6_unrule_2 : decode cX6_unrule 2 = .ok (.iconst 2, 1) := by decide +kernel
theorem dX6_unrule_3 : decode cX6_unrule 3 = .ok (.invokestatic 44, 3) := by decide +kernel
theorem dX6_unrule_6 : decode cX6_unrule 6 = .ok (.ifCond .ne 12, 3) := by decide +kernel
theorem dX6_unrule_9 : decode cX6_unrule 9 = .ok (.iload_n 2, 1) := by decide +kernel
theorem dX6_unrule_10 : decode cX6_unrule 10 = .ok (.iconst 0, 1) := by decide +kernel
theorem dX6_unrule_11 : decode cX6_unrule 11 = .ok (.iconst 1, 1) := by decide +kernel
theorem dX6_unrule_12 : decode cX6_unrule 12 = .ok (.invokestatic 44, 3) := by decide +kernel
theorem dX6_unrule_15 : decode cX6_unrule 15 = .ok (.ifCond .eq 5, 3) := by decide +kernel
theorem dX6_unrule_18 : decode cX6_unrule 18 = .ok (.iconst (-1), 1) := by decide +kernel
theorem dX6_unrule_19 : decode cX6_unrule 19 = .ok (.ireturn, 1) := by decide +kernel
theorem dX6_unrule_20 : decode cX6_unrule 20 = .ok (.iload_n 1, 1) := by decide +kernel
theorem dX6_unrule_21 : decode cX6_unrule 21 = .ok (.iload_n 2, 1) := by decide +kernel
theorem dX6_unrule_22 : decode cX6_unrule 22 = .ok (.invokestatic 73, 3) := by decide +kernel
theorem dX6_unrule_25 : decode cX6_unrule 25 = .ok (.istore_n 3, 1) := by decide +kernel
theorem dX6_unrule_26 : decode cX6_unrule 26 = .ok (.aload_n 0, 1) := by decide +kernel
theorem dX6_unrule_27 : decode cX6_unrule 27 = .ok (.getfield 26, 3) := by decide +kernel
theorem dX6_unrule_30 : decode cX6_unrule 30 = .ok (.iload_n 3, 1) := by decide +kernel
theorem dX6_unrule_31 : decode cX6_unrule 31 = .ok (.invokevirtual 83, 3) := by decide +kernel
theorem dX6_unrule_34 : decode cX6_unrule 34 = .ok (.aload_n 0, 1) := by decide +kernel
theorem dX6_unrule_35 : decode cX6_unrule 35 = .ok (.getfield 19, 3) := by decide +kernel
theorem dX6_unrule_38 : decode cX6_unrule 38 = .ok (.iload_n 3, 1) := by decide +kernel
theorem dX6_unrule_39 : decode cX6_unrule 39 = .ok (.invokevirtual 87, 3) := by decide +kernel
theorem dX6_unrule_42 : decode cX6_unrule 42 = .ok (.ireturn, 1) := by decide +kernel
theorem dX6_place_0 : decode cX6_place 0 = .ok (.iload_n 1, 1) := by decide +kernel
theorem dX6_place_1 : decode cX6_place 1 = .ok (.iconst 0, 1) := by decide +kernel
theorem dX6_place_2 : decode cX6_place 2 = .ok (.iconst 2, 1) := by decide +kernel
theorem dX6_place_3 : decode cX6_place 3 = .ok (.invokestatic 44, 3) := by decide +kernel
theorem dX6_place_6 : decode cX6_place 6 = .ok (.ifCond .ne 12, 3) := by decide +kernel
theorem dX6_place_9 : decode cX6_place 9 = .ok (.iload_n 2, 1) := by decide +kernel
theorem dX6_place_10 : decode cX6_place 10 = .ok (.iconst 0, 1) := by decide +kernel
theorem dX6_place_11 : decode cX6_place 11 = .ok (.iconst 1, 1) := by decide +kernel
theorem dX6_place_12 : decode cX6_place 12 = .ok (.invokestatic 44, 3) := by decide +kernel
theorem dX6_place_15 : decode cX6_place 15 = .ok (.ifCond .eq 5, 3) := by decide +kernel
theorem dX6_place_18 : decode cX6_place 18 = .ok (.iconst (-1), 1) := by decide +kernel
theorem dX6_place_19 : decode cX6_place 19 = .ok (.ireturn, 1) := by decide +kernel
theorem dX6_place_20 : decode cX6_place 20 = .ok (.iload_n 3, 1) := by decide +kernel
theorem dX6_place_21 : decode cX6_place 21 = .ok (.iconst 0, 1) := by decide +kernel
theorem dX6_place_22 : decode cX6_place 22 = .ok (.ldc 90, 2) := by decide +kernel
theorem dX6_place_24 : decode cX6_place 24 = .ok (.invokestatic 44, 3) := by decide +kernel
theorem dX6_place_27 : decode cX6_place 27 = .ok (.ifCond .ne 14, 3) := by decide +kernel
theorem dX6_place_30 : decode cX6_place 30 = .ok (.iload 4, 2) := by decide +kernel
theorem dX6_place_32 : decode cX6_place 32 = .ok (.iconst 0, 1) := by decide +kernel
theorem dX6_place_33 : decode cX6_place 33 = .ok (.ldc 90, 2) := by decide +kernel
theorem dX6_place_35 : decode cX6_place 35 = .ok (.invokestatic 44, 3) := by decide +kernel
theorem dX6_place_38 : decode cX6_place 38 = .ok (.ifCond .eq 5, 3) := by decide +kernel
theorem dX6_place_41 : decode cX6_place 41 = .ok (.iconst (-1), 1) := by decide +kernel
theorem dX6_place_42 : decode cX6_place 42 = .ok (.ireturn, 1) := by decide +kernel
theorem dX6_place_43 : decode cX6_place 43 = .ok (.aload_n 0, 1) := by decide +kernel
theorem dX6_place_44 : decode cX6_place 44 = .ok (.getfield 19, 3) := by decide +kernel
theorem dX6_place_47 : decode cX6_place 47 = .ok (.iload_n 1, 1) := by decide +kernel
theorem dX6_place_48 : decode cX6_place 48 = .ok (.iload_n 2, 1) := by decide +kernel
theorem dX6_place_49 : decode cX6_place 49 = .ok (.iload_n 3, 1) := by decide +kernel
theorem dX6_place_50 : decode cX6_place 50 = .ok (.iload 4, 2) := by decide +kernel
theorem dX6_place_52 : decode cX6_place 52 = .ok (.invokevirtual 91, 3) := by decide +kernel
theorem dX6_place_55 : decode cX6_place 55 = .ok (.iconst 1, 1) := by decide +kernel
theorem dX6_place_56 : decode cX6_place 56 = .ok (.ireturn, 1) := by decide +kernel
theorem dX6_move_0 : decode cX6_move 0 = .ok (.iload_n 1, 1) := by decide +kernel
theorem dX6_move_1 : decode cX6_move 1 = .ok (.iconst 1, 1) := by decide +kernel
theorem dX6_move_2 : decode cX6_move 2 = .ok (.sipush 5000, 3) := by decide +kernel
theorem dX6_move_5 : decode cX6_move 5 = .ok (.invokestatic 44, 3) := by decide +kernel
theorem dX6_move_8 : decode cX6_move 8 = .ok (.ifCond .eq 5, 3) := by decide +kernel
theorem dX6_move_11 : decode cX6_move 11 = .ok (.iconst (-1), 1) := by decide +kernel
theorem dX6_move_12 : decode cX6_move 12 = .ok (.ireturn, 1) := by decide +kernel
theorem dX6_move_13 : decode cX6_move 13 = .ok (.aload_n 0, 1) := by decide +kernel
theorem dX6_move_14 : decode cX6_move 14 = .ok (.getfield 19, 3) := by decide +kernel
theorem dX6_move_17 : decode cX6_move 17 = .ok (.iload_n 1, 1) := by decide +kernel
theorem dX6_move_18 : decode cX6_move 18 = .ok (.invokevirtual 94, 3) := by decide +kernel
theorem dX6_move_21 : decode cX6_move 21 = .ok (.ireturn, 1) := by decide +kernel
theorem dX6_where_0 : decode cX6_where 0 = .ok (.iload_n 1, 1) := by decide +kernel
theorem dX6_where_1 : decode cX6_where 1 = .ok (.tableswitch 78 0 4 #[35, 43, 51, 59, 67], 35) := by decide +kernel
theorem dX6_where_36 : decode cX6_where 36 = .ok (.aload_n 0, 1) := by decide +kernel
theorem dX6_where_37 : decode cX6_where 37 = .ok (.getfield 19, 3) := by decide +kernel
theorem dX6_where_40 : decode cX6_where 40 = .ok (.getfield 97, 3) := by decide +kernel
theorem dX6_where_43 : decode cX6_where 43 = .ok (.ireturn, 1) := by decide +kernel
theorem dX6_where_44 : decode cX6_where 44 = .ok (.aload_n 0, 1) := by decide +kernel
theorem dX6_where_45 : decode cX6_where 45 = .ok (.getfield 19, 3) := by decide +kernel
theorem dX6_where_48 : decode cX6_where 48 = .ok (.getfield 101, 3) := by decide +kernel
theorem dX6_where_51 : decode cX6_where 51 = .ok (.ireturn, 1) := by decide +kernel
theorem dX6_where_52 : decode cX6_where 52 = .ok (.aload_n 0, 1) := by decide +kernel
theorem dX6_where_53 : decode cX6_where 53 = .ok (.getfield 19, 3) := by decide +kernel
theorem dX6_where_56 : decode cX6_where 56 = .ok (.getfield 104, 3) := by decide +kernel
theorem dX6_where_59 : decode cX6_where 59 = .ok (.ireturn, 1) := by decide +kernel
theorem dX6_where_60 : decode cX6_where 60 = .ok (.aload_n 0, 1) := by decide +kernel
theorem dX6_where_61 : decode cX6_where 61 = .ok (.getfield 19, 3) := by decide +kernel
theorem dX6_where_64 : decode cX6_where 64 = .ok (.getfield 107, 3) := by decide +kernel
theorem dX6_where_67 : decode cX6_where 67 = .ok (.ireturn, 1) := by decide +kernel
theorem dX6_where_68 : decode cX6_where 68 = .ok (.aload_n 0, 1) := by decide +kernel
theorem dX6_where_69 : decode cX6_where 69 = .ok (.getfield 19, 3) := by decide +kernel
theorem dX6_where_72 : decode cX6_where 72 = .ok (.invokevirtual 110, 3) := by decide +kernel
theorem dX6_where_75 : decode cX6_where 75 = .ok (.invokestatic 114, 3) := by decide +kernel
theorem dX6_where_78 : decode cX6_where 78 = .ok (.ireturn, 1) := by decide +kernel
theorem dX6_where_79 : decode cX6_where 79 = .ok (.iconst (-1), 1) := by decide +kernel
theorem dX6_where_80 : decode cX6_where 80 = .ok (.ireturn, 1) := by decide +kernel
theorem dX6_production_0 : decode cX6_production 0 = .ok (.iload_n 1, 1) := by decide +kernel
theorem dX6_production_1 : decode cX6_production 1 = .ok (.iconst 0, 1) := by decide +kernel
theorem dX6_production_2 : decode cX6_production 2 = .ok (.bipush 120, 2) := by decide +kernel
theorem dX6_production_4 : decode cX6_production 4 = .ok (.invokestatic 44, 3) := by decide +kernel
theorem dX6_production_7 : decode cX6_production 7 = .ok (.ifCond .eq 5, 3) := by decide +kernel
theorem dX6_production_10 : decode cX6_production 10 = .ok (.iconst (-1), 1) := by decide +kernel
theorem dX6_production_11 : decode cX6_production 11 = .ok (.ireturn, 1) := by decide +kernel
theorem dX6_production_12 : decode cX6_production 12 = .ok (.aload_n 0, 1) := by decide +kernel
theorem dX6_production_13 : decode cX6_production 13 = .ok (.getfield 26, 3) := by decide +kernel
theorem dX6_production_16 : decode cX6_production 16 = .ok (.iload_n 1, 1) := by decide +kernel
theorem dX6_production_17 : decode cX6_production 17 = .ok (.iload_n 2, 1) := by decide +kernel
theorem dX6_production_18 : decode cX6_production 18 = .ok (.invokevirtual 118, 3) := by decide +kernel
theorem dX6_production_21 : decode cX6_production 21 = .ok (.ireturn, 1) := by decide +kernel
theorem dX6_lay_0 : decode cX6_lay 0 = .ok (.aload_n 0, 1) := by decide +kernel
theorem dX6_lay_1 : decode cX6_lay 1 = .ok (.getfield 33, 3) := by decide +kernel
theorem dX6_lay_4 : decode cX6_lay 4 = .ok (.aload_n 0, 1) := by decide +kernel
theorem dX6_lay_5 : decode cX6_lay 5 = .ok (.getfield 19, 3) := by decide +kernel
theorem dX6_lay_8 : decode cX6_lay 8 = .ok (.getfield 97, 3) := by decide +kernel
theorem dX6_lay_11 : decode cX6_lay 11 = .ok (.aload_n 0, 1) := by decide +kernel
theorem dX6_lay_12 : decode cX6_lay 12 = .ok (.getfield 19, 3) := by decide +kernel
theorem dX6_lay_15 : decode cX6_lay 15 = .ok (.getfield 101, 3) := by decide +kernel
theorem dX6_lay_18 : decode cX6_lay 18 = .ok (.invokestatic 73, 3) := by decide +kernel
theorem dX6_lay_21 : decode cX6_lay 21 = .ok (.aload_n 0, 1) := by decide +kernel
theorem dX6_lay_22 : decode cX6_lay 22 = .ok (.getfield 19, 3) := by decide +kernel
theorem dX6_lay_25 : decode cX6_lay 25 = .ok (.getfield 104, 3) := by decide +kernel
theorem dX6_lay_28 : decode cX6_lay 28 = .ok (.aload_n 0, 1) := by decide +kernel
theorem dX6_lay_29 : decode cX6_lay 29 = .ok (.getfield 19, 3) := by decide +kernel
theorem dX6_lay_32 : decode cX6_lay 32 = .ok (.getfield 107, 3) := by decide +kernel
theorem dX6_lay_35 : decode cX6_lay 35 = .ok (.invokevirtual 121, 3) := by decide +kernel
theorem dX6_lay_38 : decode cX6_lay 38 = .ok (.ireturn, 1) := by decide +kernel
theorem dX6_add_0 : decode cX6_add 0 = .ok (.iload_n 1, 1) := by decide +kernel
theorem dX6_add_1 : decode cX6_add 1 = .ok (.iconst 0, 1) := by decide +kernel
theorem dX6_add_2 : decode cX6_add 2 = .ok (.bipush 120, 2) := by decide +kernel
theorem dX6_add_4 : decode cX6_add 4 = .ok (.invokestatic 44, 3) := by decide +kernel
theorem dX6_add_7 : decode cX6_add 7 = .ok (.ifCond .eq 5, 3) := by decide +kernel
theorem dX6_add_10 : decode cX6_add 10 = .ok (.iconst (-1), 1) := by decide +kernel
theorem dX6_add_11 : decode cX6_add 11 = .ok (.ireturn, 1) := by decide +kernel
theorem dX6_add_12 : decode cX6_add 12 = .ok (.aload_n 0, 1) := by decide +kernel
theorem dX6_add_13 : decode cX6_add 13 = .ok (.getfield 33, 3) := by decide +kernel
theorem dX6_add_16 : decode cX6_add 16 = .ok (.iload_n 1, 1) := by decide +kernel
theorem dX6_add_17 : decode cX6_add 17 = .ok (.invokevirtual 125, 3) := by decide +kernel
theorem dX6_add_20 : decode cX6_add 20 = .ok (.ireturn, 1) := by decide +kernel
theorem dX6_clear_0 : decode cX6_clear 0 = .ok (.aload_n 0, 1) := by decide +kernel
theorem dX6_clear_1 : decode cX6_clear 1 = .ok (.getfield 33, 3) := by decide +kernel
theorem dX6_clear_4 : decode cX6_clear 4 = .ok (.getfield 128, 3) := by decide +kernel
theorem dX6_clear_7 : decode cX6_clear 7 = .ok (.getfield 132, 3) := by decide +kernel
theorem dX6_clear_10 : decode cX6_clear 10 = .ok (.istore_n 1, 1) := by decide +kernel
theorem dX6_clear_11 : decode cX6_clear 11 = .ok (.aload_n 0, 1) := by decide +kernel
theorem dX6_clear_12 : decode cX6_clear 12 = .ok (.getfield 33, 3) := by decide +kernel
theorem dX6_clear_15 : decode cX6_clear 15 = .ok (.getfield 128, 3) := by decide +kernel
theorem dX6_clear_18 : decode cX6_clear 18 = .ok (.invokevirtual 137, 3) := by decide +kernel
theorem dX6_clear_21 : decode cX6_clear 21 = .ok (.iload_n 1, 1) := by decide +kernel
theorem dX6_clear_22 : decode cX6_clear 22 = .ok (.ireturn, 1) := by decide +kernel
theorem dX6_letter_0 : decode cX6_letter 0 = .ok (.aload_n 0, 1) := by decide +kernel
theorem dX6_letter_1 : decode cX6_letter 1 = .ok (.getfield 33, 3) := by decide +kernel
theorem dX6_letter_4 : decode cX6_letter 4 = .ok (.getfield 128, 3) := by decide +kernel
theorem dX6_letter_7 : decode cX6_letter 7 = .ok (.iload_n 1, 1) := by decide +kernel
theorem dX6_letter_8 : decode cX6_letter 8 = .ok (.invokevirtual 140, 3) := by decide +kernel
theorem dX6_letter_11 : decode cX6_letter 11 = .ok (.ireturn, 1) := by decide +kernel
theorem dX6_length_0 : decode cX6_length 0 = .ok (.aload_n 0, 1) := by decide +kernel
theorem dX6_length_1 : decode cX6_length 1 = .ok (.getfield 33, 3) := by decide +kernel
theorem dX6_length_4 : decode cX6_length 4 = .ok (.getfield 128, 3) := by decide +kernel
theorem dX6_length_7 : decode cX6_length 7 = .ok (.getfield 132, 3) := by decide +kernel
theorem dX6_length_10 : decode cX6_length 10 = .ok (.ireturn, 1) := by decide +kernel
theorem dX6_tag_0 : decode cX6_tag 0 = .ok (.iload_n 1, 1) := by decide +kernel
theorem dX6_tag_1 : decode cX6_tag 1 = .ok (.iconst 1, 1) := by decide +kernel
theorem dX6_tag_2 : decode cX6_tag 2 = .ok (.sipush 20000, 3) := by decide +kernel
theorem dX6_tag_5 : decode cX6_tag 5 = .ok (.invokestatic 44, 3) := by decide +kernel
theorem dX6_tag_8 : decode cX6_tag 8 = .ok (.ifCond .eq 5, 3) := by decide +kernel
theorem dX6_tag_11 : decode cX6_tag 11 = .ok (.iconst (-1), 1) := by decide +kernel
theorem dX6_tag_12 : decode cX6_tag 12 = .ok (.ireturn, 1) := by decide +kernel
theorem dX6_tag_13 : decode cX6_tag 13 = .ok (.aload_n 0, 1) := by decide +kernel
theorem dX6_tag_14 : decode cX6_tag 14 = .ok (.getfield 33, 3) := by decide +kernel
theorem dX6_tag_17 : decode cX6_tag 17 = .ok (.iload_n 1, 1) := by decide +kernel
theorem dX6_tag_18 : decode cX6_tag 18 = .ok (.aload_n 0, 1) := by decide +kernel
theorem dX6_tag_19 : decode cX6_tag 19 = .ok (.getfield 26, 3) := by decide +kernel
theorem dX6_tag_22 : decode cX6_tag 22 = .ok (.invokevirtual 143, 3) := by decide +kernel
theorem dX6_tag_25 : decode cX6_tag 25 = .ok (.ireturn, 1) := by decide +kernel
theorem dX6_next_0 : decode cX6_next 0 = .ok (.aload_n 0, 1) := by decide +kernel
theorem dX6_next_1 : decode cX6_next 1 = .ok (.getfield 33, 3) := by decide +kernel
theorem dX6_next_4 : decode cX6_next 4 = .ok (.aload_n 0, 1) := by decide +kernel
theorem dX6_next_5 : decode cX6_next 5 = .ok (.getfield 26, 3) := by decide +kernel
theorem dX6_next_8 : decode cX6_next 8 = .ok (.invokevirtual 146, 3) := by decide +kernel
theorem dX6_next_11 : decode cX6_next 11 = .ok (.ireturn, 1) := by decide +kernel
theorem dX6_told_0 : decode cX6_told 0 = .ok (.iload_n 1, 1) := by decide +kernel
theorem dX6_told_1 : decode cX6_told 1 = .ok (.iconst 0, 1) := by decide +kernel
theorem dX6_told_2 : decode cX6_told 2 = .ok (.iconst 3, 1) := by decide +kernel
theorem dX6_told_3 : decode cX6_told 3 = .ok (.invokestatic 44, 3) := by decide +kernel
theorem dX6_told_6 : decode cX6_told 6 = .ok (.ifCond .eq 5, 3) := by decide +kernel
theorem dX6_told_9 : decode cX6_told 9 = .ok (.iconst (-1), 1) := by decide +kernel
theorem dX6_told_10 : decode cX6_told 10 = .ok (.ireturn, 1) := by decide +kernel
theorem dX6_told_11 : decode cX6_told 11 = .ok (.aload_n 0, 1) := by decide +kernel
theorem dX6_told_12 : decode cX6_told 12 = .ok (.getfield 33, 3) := by decide +kernel
theorem dX6_told_15 : decode cX6_told 15 = .ok (.iload_n 1, 1) := by decide +kernel
theorem dX6_told_16 : decode cX6_told 16 = .ok (.invokevirtual 150, 3) := by decide +kernel
theorem dX6_told_19 : decode cX6_told 19 = .ok (.ireturn, 1) := by decide +kernel
theorem dX6_appendant_0 : decode cX6_appendant 0 = .ok (.iload_n 1, 1) := by decide +kernel
theorem dX6_appendant_1 : decode cX6_appendant 1 = .ok (.iconst 0, 1) := by decide +kernel
theorem dX6_appendant_2 : decode cX6_appendant 2 = .ok (.sipush 241, 3) := by decide +kernel
theorem dX6_appendant_5 : decode cX6_appendant 5 = .ok (.invokestatic 44, 3) := by decide +kernel
theorem dX6_appendant_8 : decode cX6_appendant 8 = .ok (.ifCond .eq 5, 3) := by decide +kernel
theorem dX6_appendant_11 : decode cX6_appendant 11 = .ok (.iconst (-1), 1) := by decide +kernel
theorem dX6_appendant_12 : decode cX6_appendant 12 = .ok (.ireturn, 1) := by decide +kernel
theorem dX6_appendant_13 : decode cX6_appendant 13 = .ok (.aload_n 0, 1) := by decide +kernel
theorem dX6_appendant_14 : decode cX6_appendant 14 = .ok (.getfield 26, 3) := by decide +kernel
theorem dX6_appendant_17 : decode cX6_appendant 17 = .ok (.iload_n 1, 1) := by decide +kernel
theorem dX6_appendant_18 : decode cX6_appendant 18 = .ok (.iload_n 2, 1) := by decide +kernel
theorem dX6_appendant_19 : decode cX6_appendant 19 = .ok (.invokevirtual 153, 3) := by decide +kernel
theorem dX6_appendant_22 : decode cX6_appendant 22 = .ok (.ireturn, 1) := by decide +kernel
theorem dX6_spread_0 : decode cX6_spread 0 = .ok (.aload_n 0, 1) := by decide +kernel
theorem dX6_spread_1 : decode cX6_spread 1 = .ok (.getfield 40, 3) := by decide +kernel
theorem dX6_spread_4 : decode cX6_spread 4 = .ok (.aload_n 0, 1) := by decide +kernel
theorem dX6_spread_5 : decode cX6_spread 5 = .ok (.getfield 33, 3) := by decide +kernel
theorem dX6_spread_8 : decode cX6_spread 8 = .ok (.getfield 128, 3) := by decide +kernel
theorem dX6_spread_11 : decode cX6_spread 11 = .ok (.invokevirtual 156, 3) := by decide +kernel
theorem dX6_spread_14 : decode cX6_spread 14 = .ok (.ireturn, 1) := by decide +kernel
theorem dX6_cycle_0 : decode cX6_cycle 0 = .ok (.iload_n 1, 1) := by decide +kernel
theorem dX6_cycle_1 : decode cX6_cycle 1 = .ok (.iconst 1, 1) := by decide +kernel
theorem dX6_cycle_2 : decode cX6_cycle 2 = .ok (.sipush 30000, 3) := by decide +kernel
theorem dX6_cycle_5 : decode cX6_cycle 5 = .ok (.invokestatic 44, 3) := by decide +kernel
theorem dX6_cycle_8 : decode cX6_cycle 8 = .ok (.ifCond .eq 5, 3) := by decide +kernel
theorem dX6_cycle_11 : decode cX6_cycle 11 = .ok (.iconst (-1), 1) := by decide +kernel
theorem dX6_cycle_12 : decode cX6_cycle 12 = .ok (.ireturn, 1) := by decide +kernel
theorem dX6_cycle_13 : decode cX6_cycle 13 = .ok (.aload_n 0, 1) := by decide +kernel
theorem dX6_cycle_14 : decode cX6_cycle 14 = .ok (.getfield 40, 3) := by decide +kernel
theorem dX6_cycle_17 : decode cX6_cycle 17 = .ok (.iload_n 1, 1) := by decide +kernel
theorem dX6_cycle_18 : decode cX6_cycle 18 = .ok (.aload_n 0, 1) := by decide +kernel
theorem dX6_cycle_19 : decode cX6_cycle 19 = .ok (.getfield 26, 3) := by decide +kernel
theorem dX6_cycle_22 : decode cX6_cycle 22 = .ok (.invokevirtual 160, 3) := by decide +kernel
theorem dX6_cycle_25 : decode cX6_cycle 25 = .ok (.ireturn, 1) := by decide +kernel
theorem dX6_bit_0 : decode cX6_bit 0 = .ok (.aload_n 0, 1) := by decide +kernel
theorem dX6_bit_1 : decode cX6_bit 1 = .ok (.getfield 40, 3) := by decide +kernel
theorem dX6_bit_4 : decode cX6_bit 4 = .ok (.iload_n 1, 1) := by decide +kernel
theorem dX6_bit_5 : decode cX6_bit 5 = .ok (.invokevirtual 161, 3) := by decide +kernel
theorem dX6_bit_8 : decode cX6_bit 8 = .ok (.ireturn, 1) := by decide +kernel
theorem dX6_bits_0 : decode cX6_bits 0 = .ok (.iload_n 1, 1) := by decide +kernel
theorem dX6_bits_1 : decode cX6_bits 1 = .ok (.tableswitch 70 0 3 #[31, 39, 47, 55], 31) := by decide +kernel
theorem dX6_bits_32 : decode cX6_bits 32 = .ok (.aload_n 0, 1) := by decide +kernel
theorem dX6_bits_33 : decode cX6_bits 33 = .ok (.getfield 40, 3) := by decide +kernel
theorem dX6_bits_36 : decode cX6_bits 36 = .ok (.invokevirtual 162, 3) := by decide +kernel
theorem dX6_bits_39 : decode cX6_bits 39 = .ok (.ireturn, 1) := by decide +kernel
theorem dX6_bits_40 : decode cX6_bits 40 = .ok (.aload_n 0, 1) := by decide +kernel
theorem dX6_bits_41 : decode cX6_bits 41 = .ok (.getfield 40, 3) := by decide +kernel
theorem dX6_bits_44 : decode cX6_bits 44 = .ok (.getfield 164, 3) := by decide +kernel
theorem dX6_bits_47 : decode cX6_bits 47 = .ok (.ireturn, 1) := by decide +kernel
theorem dX6_bits_48 : decode cX6_bits 48 = .ok (.aload_n 0, 1) := by decide +kernel
theorem dX6_bits_49 : decode cX6_bits 49 = .ok (.getfield 40, 3) := by decide +kernel
theorem dX6_bits_52 : decode cX6_bits 52 = .ok (.invokevirtual 167, 3) := by decide +kernel
theorem dX6_bits_55 : decode cX6_bits 55 = .ok (.ireturn, 1) := by decide +kernel
theorem dX6_bits_56 : decode cX6_bits 56 = .ok (.aload_n 0, 1) := by decide +kernel
theorem dX6_bits_57 : decode cX6_bits 57 = .ok (.getfield 40, 3) := by decide +kernel
theorem dX6_bits_60 : decode cX6_bits 60 = .ok (.aload_n 0, 1) := by decide +kernel
theorem dX6_bits_61 : decode cX6_bits 61 = .ok (.getfield 26, 3) := by decide +kernel
theorem dX6_bits_64 : decode cX6_bits 64 = .ok (.invokevirtual 170, 3) := by decide +kernel
theorem dX6_bits_67 : decode cX6_bits 67 = .ok (.invokestatic 114, 3) := by decide +kernel
theorem dX6_bits_70 : decode cX6_bits 70 = .ok (.ireturn, 1) := by decide +kernel
theorem dX6_bits_71 : decode cX6_bits 71 = .ok (.iconst (-1), 1) := by decide +kernel
theorem dX6_bits_72 : decode cX6_bits 72 = .ok (.ireturn, 1) := by decide +kernel
theorem dX6_gather_0 : decode cX6_gather 0 = .ok (.aload_n 0, 1) := by decide +kernel
theorem dX6_gather_1 : decode cX6_gather 1 = .ok (.getfield 40, 3) := by decide +kernel
theorem dX6_gather_4 : decode cX6_gather 4 = .ok (.getfield 164, 3) := by decide +kernel
theorem dX6_gather_7 : decode cX6_gather 7 = .ok (.ifCond .eq 6, 3) := by decide +kernel
theorem dX6_gather_10 : decode cX6_gather 10 = .ok (.bipush (-2), 2) := by decide +kernel
theorem dX6_gather_12 : decode cX6_gather 12 = .ok (.ireturn, 1) := by decide +kernel
theorem dX6_gather_13 : decode cX6_gather 13 = .ok (.aload_n 0, 1) := by decide +kernel
theorem dX6_gather_14 : decode cX6_gather 14 = .ok (.getfield 40, 3) := by decide +kernel
theorem dX6_gather_17 : decode cX6_gather 17 = .ok (.getfield 173, 3) := by decide +kernel
theorem dX6_gather_20 : decode cX6_gather 20 = .ok (.getfield 132, 3) := by decide +kernel
theorem dX6_gather_23 : decode cX6_gather 23 = .ok (.sipush 600, 3) := by decide +kernel
theorem dX6_gather_26 : decode cX6_gather 26 = .ok (.if_icmp .le 6, 3) := by decide +kernel
theorem dX6_gather_29 : decode cX6_gather 29 = .ok (.bipush (-3), 2) := by decide +kernel
theorem dX6_gather_31 : decode cX6_gather 31 = .ok (.ireturn, 1) := by decide +kernel
theorem dX6_gather_32 : decode cX6_gather 32 = .ok (.aload_n 0, 1) := by decide +kernel
theorem dX6_gather_33 : decode cX6_gather 33 = .ok (.getfield 33, 3) := by decide +kernel
theorem dX6_gather_36 : decode cX6_gather 36 = .ok (.getfield 128, 3) := by decide +kernel
theorem dX6_gather_39 : decode cX6_gather 39 = .ok (.aload_n 0, 1) := by decide +kernel
theorem dX6_gather_40 : decode cX6_gather 40 = .ok (.getfield 40, 3) := by decide +kernel
theorem dX6_gather_43 : decode cX6_gather 43 = .ok (.getfield 173, 3) := by decide +kernel
theorem dX6_gather_46 : decode cX6_gather 46 = .ok (.invokevirtual 174, 3) := by decide +kernel
theorem dX6_gather_49 : decode cX6_gather 49 = .ok (.aload_n 0, 1) := by decide +kernel
theorem dX6_gather_50 : decode cX6_gather 50 = .ok (.getfield 33, 3) := by decide +kernel
theorem dX6_gather_53 : decode cX6_gather 53 = .ok (.getfield 128, 3) := by decide +kernel
theorem dX6_gather_56 : decode cX6_gather 56 = .ok (.getfield 132, 3) := by decide +kernel
theorem dX6_gather_59 : decode cX6_gather 59 = .ok (.ireturn, 1) := by decide +kernel
theorem dX6_outside_0 : decode cX6_outside 0 = .ok (.iload_n 0, 1) := by decide +kernel
theorem dX6_outside_1 : decode cX6_outside 1 = .ok (.iload_n 1, 1) := by decide +kernel
theorem dX6_outside_2 : decode cX6_outside 2 = .ok (.if_icmp .lt 8, 3) := by decide +kernel
theorem dX6_outside_5 : decode cX6_outside 5 = .ok (.iload_n 0, 1) := by decide +kernel
theorem dX6_outside_6 : decode cX6_outside 6 = .ok (.iload_n 2, 1) := by decide +kernel
theorem dX6_outside_7 : decode cX6_outside 7 = .ok (.if_icmp .le 7, 3) := by decide +kernel
theorem dX6_outside_10 : decode cX6_outside 10 = .ok (.iconst 1, 1) := by decide +kernel
theorem dX6_outside_11 : decode cX6_outside 11 = .ok (.goto 4, 3) := by decide +kernel
theorem dX6_outside_14 : decode cX6_outside 14 = .ok (.iconst 0, 1) := by decide +kernel
theorem dX6_outside_15 : decode cX6_outside 15 = .ok (.ireturn, 1) := by decide +kernel
theorem dX6_oneIf_0 : decode cX6_oneIf 0 = .ok (.iload_n 0, 1) := by decide +kernel
theorem dX6_oneIf_1 : decode cX6_oneIf 1 = .ok (.ifCond .eq 7, 3) := by decide +kernel
theorem dX6_oneIf_4 : decode cX6_oneIf 4 = .ok (.iconst 1, 1) := by decide +kernel
theorem dX6_oneIf_5 : decode cX6_oneIf 5 = .ok (.goto 4, 3) := by decide +kernel
theorem dX6_oneIf_8 : decode cX6_oneIf 8 = .ok (.iconst 0, 1) := by decide +kernel
theorem dX6_oneIf_9 : decode cX6_oneIf 9 = .ok (.ireturn, 1) := by decide +kernel
theorem dX6_pairOf_0 : decode cX6_pairOf 0 = .ok (.iconst 2, 1) := by decide +kernel
theorem dX6_pairOf_1 : decode cX6_pairOf 1 = .ok (.iload_n 0, 1) := by decide +kernel
theorem dX6_pairOf_2 : decode cX6_pairOf 2 = .ok (.imul, 1) := by decide +kernel
theorem dX6_pairOf_3 : decode cX6_pairOf 3 = .ok (.iload_n 1, 1) := by decide +kernel
theorem dX6_pairOf_4 : decode cX6_pairOf 4 = .ok (.iadd, 1) := by decide +kernel
theorem dX6_pairOf_5 : decode cX6_pairOf 5 = .ok (.ireturn, 1) := by decide +kernel
