theorem dX7_init_0 : decode cX7_init 0 = .ok (.aload_n 0, 1) := by decide +kernel
theorem dX7_init_1 : decode cX7_init 1 = .ok (.invokespecial 1, 3) := by decide +kernel
theorem dX7_init_4 : decode cX7_init 4 = .ok (.aload_n 0, 1) := by decide +kernel
theorem dX7_init_5 : decode cX7_init 5 = .ok (.new 7, 3) := by decide +kernel
theorem dX7_init_8 : decode cX7_init 8 = .ok (.dup, 1) := by decide +kernel
theorem dX7_init_9 : decode cX7_init 9 = .ok (.invokespecial 9, 3) := by decide +kernel
theorem dX7_init_12 : decode cX7_init 12 = .ok (.putfield 10, 3) := by decide +kernel
theorem dX7_init_15 : decode cX7_init 15 = .ok (.aload_n 0, 1) := by decide +kernel
theorem dX7_init_16 : decode cX7_init 16 = .ok (.new 16, 3) := by decide +kernel
theorem dX7_init_19 : decode cX7_init 19 = .ok (.dup, 1) := by decide +kernel
theorem dX7_init_20 : decode cX7_init 20 = .ok (.invokespecial 18, 3) := by decide +kernel
theorem dX7_init_23 : decode cX7_init 23 = .ok (.putfield 19, 3) := by decide +kernel
theorem dX7_init_26 : decode cX7_init 26 = .ok (.aload_n 0, 1) := by decide +kernel
theorem dX7_init_27 : decode cX7_init 27 = .ok (.new 23, 3) := by decide +kernel
theorem dX7_init_30 : decode cX7_init 30 = .ok (.dup, 1) := by decide +kernel
theorem dX7_init_31 : decode cX7_init 31 = .ok (.invokespecial 25, 3) := by decide +kernel
theorem dX7_init_34 : decode cX7_init 34 = .ok (.putfield 26, 3) := by decide +kernel
theorem dX7_init_37 : decode cX7_init 37 = .ok (.aload_n 0, 1) := by decide +kernel
theorem dX7_init_38 : decode cX7_init 38 = .ok (.new 30, 3) := by decide +kernel
theorem dX7_init_41 : decode cX7_init 41 = .ok (.dup, 1) := by decide +kernel
theorem dX7_init_42 : decode cX7_init 42 = .ok (.invokespecial 32, 3) := by decide +kernel
theorem dX7_init_45 : decode cX7_init 45 = .ok (.putfield 33, 3) := by decide +kernel
theorem dX7_init_48 : decode cX7_init 48 = .ok (.aload_n 0, 1) := by decide +kernel
theorem dX7_init_49 : decode cX7_init 49 = .ok (.new 37, 3) := by decide +kernel
theorem dX7_init_52 : decode cX7_init 52 = .ok (.dup, 1) := by decide +kernel
theorem dX7_init_53 : decode cX7_init 53 = .ok (.invokespecial 39, 3) := by decide +kernel
theorem dX7_init_56 : decode cX7_init 56 = .ok (.putfield 40, 3) := by decide +kernel
theorem dX7_init_59 : decode cX7_init 59 = .ok (.aload_n 0, 1) := by decide +kernel
theorem dX7_init_60 : decode cX7_init 60 = .ok (.new 44, 3) := by decide +kernel
theorem dX7_init_63 : decode cX7_init 63 = .ok (.dup, 1) := by decide +kernel
theorem dX7_init_64 : decode cX7_init 64 = .ok (.invokespecial 46, 3) := by decide +kernel
theorem dX7_init_67 : decode cX7_init 67 = .ok (.putfield 47, 3) := by decide +kernel
theorem dX7_init_70 : decode cX7_init 70 = .ok (.aload_n 0, 1) := by decide +kernel
theorem dX7_init_71 : decode cX7_init 71 = .ok (.new 51, 3) := by decide +kernel
theorem dX7_init_74 : decode cX7_init 74 = .ok (.dup, 1) := by decide +kernel
theorem dX7_init_75 : decode cX7_init 75 = .ok (.invokespecial 53, 3) := by decide +kernel
theorem dX7_init_78 : decode cX7_init 78 = .ok (.putfield 54, 3) := by decide +kernel
theorem dX7_init_81 : decode cX7_init 81 = .ok (.return_, 1) := by decide +kernel
theorem dX7_knob_0 : decode cX7_knob 0 = .ok (.iload_n 1, 1) := by decide +kernel
theorem dX7_knob_1 : decode cX7_knob 1 = .ok (.iconst 2, 1) := by decide +kernel
theorem dX7_knob_2 : decode cX7_knob 2 = .ok (.iconst 4, 1) := by decide +kernel
theorem dX7_knob_3 : decode cX7_knob 3 = .ok (.invokestatic 58, 3) := by decide +kernel
theorem dX7_knob_6 : decode cX7_knob 6 = .ok (.ifCond .ne 5, 3) := by decide +kernel
theorem dX7_knob_9 : decode cX7_knob 9 = .ok (.iconst (-1), 1) := by decide +kernel
theorem dX7_knob_10 : decode cX7_knob 10 = .ok (.ireturn, 1) := by decide +kernel
theorem dX7_knob_11 : decode cX7_knob 11 = .ok (.aload_n 0, 1) := by decide +kernel
theorem dX7_knob_12 : decode cX7_knob 12 = .ok (.getfield 10, 3) := by decide +kernel
theorem dX7_knob_15 : decode cX7_knob 15 = .ok (.iload_n 1, 1) := by decide +kernel
theorem dX7_knob_16 : decode cX7_knob 16 = .ok (.invokevirtual 62, 3) := by decide +kernel
theorem dX7_knob_19 : decode cX7_knob 19 = .ok (.ifCond .ne 6, 3) := by decide +kernel
theorem dX7_knob_22 : decode cX7_knob 22 = .ok (.bipush (-3), 2) := by decide +kernel
theorem dX7_knob_24 : decode cX7_knob 24 = .ok (.ireturn, 1) := by decide +kernel
theorem dX7_knob_25 : decode cX7_knob 25 = .ok (.aload_n 0, 1) := by decide +kernel
theorem dX7_knob_26 : decode cX7_knob 26 = .ok (.getfield 33, 3) := by decide +kernel
theorem dX7_knob_29 : decode cX7_knob 29 = .ok (.invokevirtual 66, 3) := by decide +kernel
theorem dX7_knob_32 : decode cX7_knob 32 = .ok (.aload_n 0, 1) := by decide +kernel
theorem dX7_knob_33 : decode cX7_knob 33 = .ok (.getfield 10, 3) := by decide +kernel
theorem dX7_knob_36 : decode cX7_knob 36 = .ok (.iload_n 1, 1) := by decide +kernel
theorem dX7_knob_37 : decode cX7_knob 37 = .ok (.invokevirtual 69, 3) := by decide +kernel
theorem dX7_knob_40 : decode cX7_knob 40 = .ok (.ireturn, 1) := by decide +kernel
theorem dX7_place_0 : decode cX7_place 0 = .ok (.aload_n 0, 1) := by decide +kernel
theorem dX7_place_1 : decode cX7_place 1 = .ok (.getfield 10, 3) := by decide +kernel
theorem dX7_place_4 : decode cX7_place 4 = .ok (.iload_n 1, 1) := by decide +kernel
theorem dX7_place_5 : decode cX7_place 5 = .ok (.iload_n 2, 1) := by decide +kernel
theorem dX7_place_6 : decode cX7_place 6 = .ok (.invokevirtual 73, 3) := by decide +kernel
theorem dX7_place_9 : decode cX7_place 9 = .ok (.ifCond .eq 14, 3) := by decide +kernel
theorem dX7_place_12 : decode cX7_place 12 = .ok (.iload_n 3, 1) := by decide +kernel
theorem dX7_place_13 : decode cX7_place 13 = .ok (.bipush (-100), 2) := by decide +kernel
theorem dX7_place_15 : decode cX7_place 15 = .ok (.bipush 100, 2) := by decide +kernel
theorem dX7_place_17 : decode cX7_place 17 = .ok (.invokestatic 58, 3) := by decide +kernel
theorem dX7_place_20 : decode cX7_place 20 = .ok (.ifCond .ne 7, 3) := by decide +kernel
theorem dX7_place_23 : decode cX7_place 23 = .ok (.sipush (-1000), 3) := by decide +kernel
theorem dX7_place_26 : decode cX7_place 26 = .ok (.ireturn, 1) := by decide +kernel
theorem dX7_place_27 : decode cX7_place 27 = .ok (.aload_n 0, 1) := by decide +kernel
theorem dX7_place_28 : decode cX7_place 28 = .ok (.getfield 10, 3) := by decide +kernel
theorem dX7_place_31 : decode cX7_place 31 = .ok (.iload_n 1, 1) := by decide +kernel
theorem dX7_place_32 : decode cX7_place 32 = .ok (.iload_n 2, 1) := by decide +kernel
theorem dX7_place_33 : decode cX7_place 33 = .ok (.iload_n 3, 1) := by decide +kernel
theorem dX7_place_34 : decode cX7_place 34 = .ok (.invokevirtual 77, 3) := by decide +kernel
theorem dX7_place_37 : decode cX7_place 37 = .ok (.ireturn, 1) := by decide +kernel
theorem dX7_steep_0 : decode cX7_steep 0 = .ok (.aload_n 0, 1) := by decide +kernel
theorem dX7_steep_1 : decode cX7_steep 1 = .ok (.getfield 10, 3) := by decide +kernel
theorem dX7_steep_4 : decode cX7_steep 4 = .ok (.iload_n 1, 1) := by decide +kernel
theorem dX7_steep_5 : decode cX7_steep 5 = .ok (.invokevirtual 81, 3) := by decide +kernel
theorem dX7_steep_8 : decode cX7_steep 8 = .ok (.ifCond .eq 13, 3) := by decide +kernel
theorem dX7_steep_11 : decode cX7_steep 11 = .ok (.iload_n 2, 1) := by decide +kernel
theorem dX7_steep_12 : decode cX7_steep 12 = .ok (.iconst 0, 1) := by decide +kernel
theorem dX7_steep_13 : decode cX7_steep 13 = .ok (.bipush 100, 2) := by decide +kernel
theorem dX7_steep_15 : decode cX7_steep 15 = .ok (.invokestatic 58, 3) := by decide +kernel
theorem dX7_steep_18 : decode cX7_steep 18 = .ok (.ifCond .ne 5, 3) := by decide +kernel
theorem dX7_steep_21 : decode cX7_steep 21 = .ok (.iconst (-1), 1) := by decide +kernel
theorem dX7_steep_22 : decode cX7_steep 22 = .ok (.ireturn, 1) := by decide +kernel
theorem dX7_steep_23 : decode cX7_steep 23 = .ok (.aload_n 0, 1) := by decide +kernel
theorem dX7_steep_24 : decode cX7_steep 24 = .ok (.getfield 10, 3) := by decide +kernel
theorem dX7_steep_27 : decode cX7_steep 27 = .ok (.iload_n 1, 1) := by decide +kernel
theorem dX7_steep_28 : decode cX7_steep 28 = .ok (.iload_n 2, 1) := by decide +kernel
theorem dX7_steep_29 : decode cX7_steep 29 = .ok (.invokevirtual 84, 3) := by decide +kernel
theorem dX7_steep_32 : decode cX7_steep 32 = .ok (.ireturn, 1) := by decide +kernel
theorem dX7_rule_0 : decode cX7_rule 0 = .ok (.aload_n 0, 1) := by decide +kernel
theorem dX7_rule_1 : decode cX7_rule 1 = .ok (.getfield 10, 3) := by decide +kernel
theorem dX7_rule_4 : decode cX7_rule 4 = .ok (.iload_n 2, 1) := by decide +kernel
theorem dX7_rule_5 : decode cX7_rule 5 = .ok (.iload_n 3, 1) := by decide +kernel
theorem dX7_rule_6 : decode cX7_rule 6 = .ok (.invokevirtual 73, 3) := by decide +kernel
theorem dX7_rule_9 : decode cX7_rule 9 = .ok (.ifCond .eq 23, 3) := by decide +kernel
theorem dX7_rule_12 : decode cX7_rule 12 = .ok (.aload_n 0, 1) := by decide +kernel
theorem dX7_rule_13 : decode cX7_rule 13 = .ok (.getfield 10, 3) := by decide +kernel
theorem dX7_rule_16 : decode cX7_rule 16 = .ok (.iload 4, 2) := by decide +kernel
theorem dX7_rule_18 : decode cX7_rule 18 = .ok (.iload 5, 2) := by decide +kernel
theorem dX7_rule_20 : decode cX7_rule 20 = .ok (.invokevirtual 73, 3) := by decide +kernel
theorem dX7_rule_23 : decode cX7_rule 23 = .ok (.ifCond .eq 9, 3) := by decide +kernel
theorem dX7_rule_26 : decode cX7_rule 26 = .ok (.iload_n 2, 1) := by decide +kernel
theorem dX7_rule_27 : decode cX7_rule 27 = .ok (.iload 4, 2) := by decide +kernel
theorem dX7_rule_29 : decode cX7_rule 29 = .ok (.if_icmp .ne 5, 3) := by decide +kernel
theorem dX7_rule_32 : decode cX7_rule 32 = .ok (.iconst (-1), 1) := by decide +kernel
theorem dX7_rule_33 : decode cX7_rule 33 = .ok (.ireturn, 1) := by decide +kernel
theorem dX7_rule_34 : decode cX7_rule 34 = .ok (.aload_n 0, 1) := by decide +kernel
theorem dX7_rule_35 : decode cX7_rule 35 = .ok (.getfield 19, 3) := by decide +kernel
theorem dX7_rule_38 : decode cX7_rule 38 = .ok (.invokevirtual 88, 3) := by decide +kernel
theorem dX7_rule_41 : decode cX7_rule 41 = .ok (.ifCond .eq 6, 3) := by decide +kernel
theorem dX7_rule_44 : decode cX7_rule 44 = .ok (.bipush (-3), 2) := by decide +kernel
theorem dX7_rule_46 : decode cX7_rule 46 = .ok (.ireturn, 1) := by decide +kernel
theorem dX7_rule_47 : decode cX7_rule 47 = .ok (.aload_n 0, 1) := by decide +kernel
theorem dX7_rule_48 : decode cX7_rule 48 = .ok (.getfield 19, 3) := by decide +kernel
theorem dX7_rule_51 : decode cX7_rule 51 = .ok (.iload_n 1, 1) := by decide +kernel
theorem dX7_rule_52 : decode cX7_rule 52 = .ok (.iload_n 2, 1) := by decide +kernel
theorem dX7_rule_53 : decode cX7_rule 53 = .ok (.iload_n 3, 1) := by decide +kernel
theorem dX7_rule_54 : decode cX7_rule 54 = .ok (.iload 4, 2) := by decide +kernel
theorem dX7_rule_56 : decode cX7_rule 56 = .ok (.iload 5, 2) := by decide +kernel
theorem dX7_rule_58 : decode cX7_rule 58 = .ok (.invokevirtual 92, 3) := by decide +kernel
theorem dX7_rule_61 : decode cX7_rule 61 = .ok (.aload_n 0, 1) := by decide +kernel
theorem dX7_rule_62 : decode cX7_rule 62 = .ok (.getfield 19, 3) := by decide +kernel
theorem dX7_rule_65 : decode cX7_rule 65 = .ok (.invokevirtual 95, 3) := by decide +kernel
theorem dX7_rule_68 : decode cX7_rule 68 = .ok (.ireturn, 1) := by decide +kernel
theorem dX7_noRule_0 : decode cX7_noRule 0 = .ok (.aload_n 0, 1) := by decide +kernel
theorem dX7_noRule_1 : decode cX7_noRule 1 = .ok (.getfield 19, 3) := by decide +kernel
theorem dX7_noRule_4 : decode cX7_noRule 4 = .ok (.invokevirtual 95, 3) := by decide +kernel
theorem dX7_noRule_7 : decode cX7_noRule 7 = .ok (.ifCond .ne 6, 3) := by decide +kernel
theorem dX7_noRule_10 : decode cX7_noRule 10 = .ok (.bipush (-2), 2) := by decide +kernel
theorem dX7_noRule_12 : decode cX7_noRule 12 = .ok (.ireturn, 1) := by decide +kernel
theorem dX7_noRule_13 : decode cX7_noRule 13 = .ok (.aload_n 0, 1) := by decide +kernel
theorem dX7_noRule_14 : decode cX7_noRule 14 = .ok (.getfield 19, 3) := by decide +kernel
theorem dX7_noRule_17 : decode cX7_noRule 17 = .ok (.invokevirtual 99, 3) := by decide +kernel
theorem dX7_noRule_20 : decode cX7_noRule 20 = .ok (.aload_n 0, 1) := by decide +kernel
theorem dX7_noRule_21 : decode cX7_noRule 21 = .ok (.getfield 19, 3) := by decide +kernel
theorem dX7_noRule_24 : decode cX7_noRule 24 = .ok (.invokevirtual 95, 3) := by decide +kernel
theorem dX7_noRule_27 : decode cX7_noRule 27 = .ok (.ireturn, 1) := by decide +kernel
theorem dX7_effect_0 : decode cX7_effect 0 = .ok (.aload_n 0, 1) := by decide +kernel
theorem dX7_effect_1 : decode cX7_effect 1 = .ok (.getfield 10, 3) := by decide +kernel
theorem dX7_effect_4 : decode cX7_effect 4 = .ok (.iload_n 1, 1) := by decide +kernel
theorem dX7_effect_5 : decode cX7_effect 5 = .ok (.iload_n 2, 1) := by decide +kernel
theorem dX7_effect_6 : decode cX7_effect 6 = .ok (.invokevirtual 73, 3) := by decide +kernel
theorem dX7_effect_9 : decode cX7_effect 9 = .ok (.ifCond .eq 17, 3) := by decide +kernel
theorem dX7_effect_12 : decode cX7_effect 12 = .ok (.iload 5, 2) := by decide +kernel
theorem dX7_effect_14 : decode cX7_effect 14 = .ok (.sipush (-1000), 3) := by decide +kernel
theorem dX7_effect_17 : decode cX7_effect 17 = .ok (.sipush 1000, 3) := by decide +kernel
theorem dX7_effect_20 : decode cX7_effect 20 = .ok (.invokestatic 58, 3) := by decide +kernel
theorem dX7_effect_23 : decode cX7_effect 23 = .ok (.ifCond .ne 7, 3) := by decide +kernel
theorem dX7_effect_26 : decode cX7_effect 26 = .ok (.sipush (-10000), 3) := by decide +kernel
theorem dX7_effect_29 : decode cX7_effect 29 = .ok (.ireturn, 1) := by decide +kernel
theorem dX7_effect_30 : decode cX7_effect 30 = .ok (.iload_n 3, 1) := by decide +kernel
theorem dX7_effect_31 : decode cX7_effect 31 = .ok (.iconst (-1), 1) := by decide +kernel
theorem dX7_effect_32 : decode cX7_effect 32 = .ok (.if_icmp .ne 15, 3) := by decide +kernel
theorem dX7_effect_35 : decode cX7_effect 35 = .ok (.aload_n 0, 1) := by decide +kernel
theorem dX7_effect_36 : decode cX7_effect 36 = .ok (.getfield 26, 3) := by decide +kernel
theorem dX7_effect_39 : decode cX7_effect 39 = .ok (.iload_n 1, 1) := by decide +kernel
theorem dX7_effect_40 : decode cX7_effect 40 = .ok (.iload_n 2, 1) := by decide +kernel
theorem dX7_effect_41 : decode cX7_effect 41 = .ok (.iload 5, 2) := by decide +kernel
theorem dX7_effect_43 : decode cX7_effect 43 = .ok (.invokevirtual 102, 3) := by decide +kernel
theorem dX7_effect_46 : decode cX7_effect 46 = .ok (.ireturn, 1) := by decide +kernel
theorem dX7_effect_47 : decode cX7_effect 47 = .ok (.aload_n 0, 1) := by decide +kernel
theorem dX7_effect_48 : decode cX7_effect 48 = .ok (.getfield 10, 3) := by decide +kernel
theorem dX7_effect_51 : decode cX7_effect 51 = .ok (.iload_n 3, 1) := by decide +kernel
theorem dX7_effect_52 : decode cX7_effect 52 = .ok (.iload 4, 2) := by decide +kernel
theorem dX7_effect_54 : decode cX7_effect 54 = .ok (.invokevirtual 73, 3) := by decide +kernel
theorem dX7_effect_57 : decode cX7_effect 57 = .ok (.ifCond .eq 8, 3) := by decide +kernel
theorem dX7_effect_60 : decode cX7_effect 60 = .ok (.iload_n 1, 1) := by decide +kernel
theorem dX7_effect_61 : decode cX7_effect 61 = .ok (.iload_n 3, 1) := by decide +kernel
theorem dX7_effect_62 : decode cX7_effect 62 = .ok (.if_icmp .lt 7, 3) := by decide +kernel
theorem dX7_effect_65 : decode cX7_effect 65 = .ok (.sipush (-10000), 3) := by decide +kernel
theorem dX7_effect_68 : decode cX7_effect 68 = .ok (.ireturn, 1) := by decide +kernel
theorem dX7_effect_69 : decode cX7_effect 69 = .ok (.aload_n 0, 1) := by decide +kernel
theorem dX7_effect_70 : decode cX7_effect 70 = .ok (.getfield 26, 3) := by decide +kernel
theorem dX7_effect_73 : decode cX7_effect 73 = .ok (.iload_n 1, 1) := by decide +kernel
theorem dX7_effect_74 : decode cX7_effect 74 = .ok (.iload_n 2, 1) := by decide +kernel
theorem dX7_effect_75 : decode cX7_effect 75 = .ok (.iload_n 3, 1) := by decide +kernel
theorem dX7_effect_76 : decode cX7_effect 76 = .ok (.iload 4, 2) := by decide +kernel
theorem dX7_effect_78 : decode cX7_effect 78 = .ok (.iload 5, 2) := by decide +kernel
theorem dX7_effect_80 : decode cX7_effect 80 = .ok (.invokevirtual 105, 3) := by decide +kernel
theorem dX7_effect_83 : decode cX7_effect 83 = .ok (.ireturn, 1) := by decide +kernel
theorem dX7_base_0 : decode cX7_base 0 = .ok (.iload_n 1, 1) := by decide +kernel
theorem dX7_base_1 : decode cX7_base 1 = .ok (.sipush (-1000), 3) := by decide +kernel
theorem dX7_base_4 : decode cX7_base 4 = .ok (.sipush 1000, 3) := by decide +kernel
theorem dX7_base_7 : decode cX7_base 7 = .ok (.invokestatic 58, 3) := by decide +kernel
theorem dX7_base_10 : decode cX7_base 10 = .ok (.ifCond .ne 7, 3) := by decide +kernel
theorem dX7_base_13 : decode cX7_base 13 = .ok (.sipush (-10000), 3) := by decide +kernel
theorem dX7_base_16 : decode cX7_base 16 = .ok (.ireturn, 1) := by decide +kernel
theorem dX7_base_17 : decode cX7_base 17 = .ok (.aload_n 0, 1) := by decide +kernel
theorem dX7_base_18 : decode cX7_base 18 = .ok (.getfield 26, 3) := by decide +kernel
theorem dX7_base_21 : decode cX7_base 21 = .ok (.iload_n 1, 1) := by decide +kernel
theorem dX7_base_22 : decode cX7_base 22 = .ok (.invokevirtual 109, 3) := by decide +kernel
theorem dX7_base_25 : decode cX7_base 25 = .ok (.ireturn, 1) := by decide +kernel
theorem dX7_noise_0 : decode cX7_noise 0 = .ok (.iload_n 1, 1) := by decide +kernel
theorem dX7_noise_1 : decode cX7_noise 1 = .ok (.iconst 0, 1) := by decide +kernel
theorem dX7_noise_2 : decode cX7_noise 2 = .ok (.bipush 50, 2) := by decide +kernel
theorem dX7_noise_4 : decode cX7_noise 4 = .ok (.invokestatic 58, 3) := by decide +kernel
theorem dX7_noise_7 : decode cX7_noise 7 = .ok (.ifCond .ne 5, 3) := by decide +kernel
theorem dX7_noise_10 : decode cX7_noise 10 = .ok (.iconst (-1), 1) := by decide +kernel
theorem dX7_noise_11 : decode cX7_noise 11 = .ok (.ireturn, 1) := by decide +kernel
theorem dX7_noise_12 : decode cX7_noise 12 = .ok (.aload_n 0, 1) := by decide +kernel
theorem dX7_noise_13 : decode cX7_noise 13 = .ok (.getfield 33, 3) := by decide +kernel
theorem dX7_noise_16 : decode cX7_noise 16 = .ok (.iload_n 1, 1) := by decide +kernel
theorem dX7_noise_17 : decode cX7_noise 17 = .ok (.invokevirtual 112, 3) := by decide +kernel
theorem dX7_noise_20 : decode cX7_noise 20 = .ok (.ireturn, 1) := by decide +kernel
theorem dX7_seed_0 : decode cX7_seed 0 = .ok (.iload_n 1, 1) := by decide +kernel
theorem dX7_seed_1 : decode cX7_seed 1 = .ok (.iconst 0, 1) := by decide +kernel
theorem dX7_seed_2 : decode cX7_seed 2 = .ok (.ldc 115, 2) := by decide +kernel
theorem dX7_seed_4 : decode cX7_seed 4 = .ok (.invokestatic 58, 3) := by decide +kernel
theorem dX7_seed_7 : decode cX7_seed 7 = .ok (.ifCond .ne 5, 3) := by decide +kernel
theorem dX7_seed_10 : decode cX7_seed 10 = .ok (.iconst (-1), 1) := by decide +kernel
theorem dX7_seed_11 : decode cX7_seed 11 = .ok (.ireturn, 1) := by decide +kernel
theorem dX7_seed_12 : decode cX7_seed 12 = .ok (.aload_n 0, 1) := by decide +kernel
theorem dX7_seed_13 : decode cX7_seed 13 = .ok (.getfield 33, 3) := by decide +kernel
theorem dX7_seed_16 : decode cX7_seed 16 = .ok (.iload_n 1, 1) := by decide +kernel
theorem dX7_seed_17 : decode cX7_seed 17 = .ok (.invokevirtual 116, 3) := by decide +kernel
theorem dX7_seed_20 : decode cX7_seed 20 = .ok (.iconst 0, 1) := by decide +kernel
theorem dX7_seed_21 : decode cX7_seed 21 = .ok (.ireturn, 1) := by decide +kernel
theorem dX7_with_0 : decode cX7_with 0 = .ok (.aload_n 0, 1) := by decide +kernel
theorem dX7_with_1 : decode cX7_with 1 = .ok (.getfield 10, 3) := by decide +kernel
theorem dX7_with_4 : decode cX7_with 4 = .ok (.iload_n 1, 1) := by decide +kernel
theorem dX7_with_5 : decode cX7_with 5 = .ok (.invokevirtual 120, 3) := by decide +kernel
theorem dX7_with_8 : decode cX7_with 8 = .ok (.ifCond .eq 15, 3) := by decide +kernel
theorem dX7_with_11 : decode cX7_with 11 = .ok (.aload_n 0, 1) := by decide +kernel
theorem dX7_with_12 : decode cX7_with 12 = .ok (.getfield 10, 3) := by decide +kernel
theorem dX7_with_15 : decode cX7_with 15 = .ok (.iload_n 2, 1) := by decide +kernel
theorem dX7_with_16 : decode cX7_with 16 = .ok (.iload_n 3, 1) := by decide +kernel
theorem dX7_with_17 : decode cX7_with 17 = .ok (.invokevirtual 73, 3) := by decide +kernel
theorem dX7_with_20 : decode cX7_with 20 = .ok (.ifCond .ne 5, 3) := by decide +kernel
theorem dX7_with_23 : decode cX7_with 23 = .ok (.iconst (-1), 1) := by decide +kernel
theorem dX7_with_24 : decode cX7_with 24 = .ok (.ireturn, 1) := by decide +kernel
theorem dX7_with_25 : decode cX7_with 25 = .ok (.aload_n 0, 1) := by decide +kernel
theorem dX7_with_26 : decode cX7_with 26 = .ok (.getfield 10, 3) := by decide +kernel
theorem dX7_with_29 : decode cX7_with 29 = .ok (.iload_n 1, 1) := by decide +kernel
theorem dX7_with_30 : decode cX7_with 30 = .ok (.iload_n 2, 1) := by decide +kernel
theorem dX7_with_31 : decode cX7_with 31 = .ok (.iload_n 3, 1) := by decide +kernel
theorem dX7_with_32 : decode cX7_with 32 = .ok (.invokevirtual 123, 3) := by decide +kernel
theorem dX7_with_35 : decode cX7_with 35 = .ok (.ireturn, 1) := by decide +kernel
theorem dX7_value_0 : decode cX7_value 0 = .ok (.aload_n 0, 1) := by decide +kernel
theorem dX7_value_1 : decode cX7_value 1 = .ok (.getfield 10, 3) := by decide +kernel
theorem dX7_value_4 : decode cX7_value 4 = .ok (.iload_n 1, 1) := by decide +kernel
theorem dX7_value_5 : decode cX7_value 5 = .ok (.invokevirtual 120, 3) := by decide +kernel
theorem dX7_value_8 : decode cX7_value 8 = .ok (.ifCond .eq 14, 3) := by decide +kernel
theorem dX7_value_11 : decode cX7_value 11 = .ok (.aload_n 0, 1) := by decide +kernel
theorem dX7_value_12 : decode cX7_value 12 = .ok (.getfield 10, 3) := by decide +kernel
theorem dX7_value_15 : decode cX7_value 15 = .ok (.iload_n 2, 1) := by decide +kernel
theorem dX7_value_16 : decode cX7_value 16 = .ok (.invokevirtual 81, 3) := by decide +kernel
theorem dX7_value_19 : decode cX7_value 19 = .ok (.ifCond .ne 5, 3) := by decide +kernel
theorem dX7_value_22 : decode cX7_value 22 = .ok (.iconst (-1), 1) := by decide +kernel
theorem dX7_value_23 : decode cX7_value 23 = .ok (.ireturn, 1) := by decide +kernel
theorem dX7_value_24 : decode cX7_value 24 = .ok (.aload_n 0, 1) := by decide +kernel
theorem dX7_value_25 : decode cX7_value 25 = .ok (.getfield 10, 3) := by decide +kernel
theorem dX7_value_28 : decode cX7_value 28 = .ok (.iload_n 1, 1) := by decide +kernel
theorem dX7_value_29 : decode cX7_value 29 = .ok (.iload_n 2, 1) := by decide +kernel
theorem dX7_value_30 : decode cX7_value 30 = .ok (.invokevirtual 126, 3) := by decide +kernel
theorem dX7_value_33 : decode cX7_value 33 = .ok (.ireturn, 1) := by decide +kernel
theorem dX7_allowed_0 : decode cX7_allowed 0 = .ok (.aload_n 0, 1) := by decide +kernel
theorem dX7_allowed_1 : decode cX7_allowed 1 = .ok (.getfield 10, 3) := by decide +kernel
theorem dX7_allowed_4 : decode cX7_allowed 4 = .ok (.iload_n 1, 1) := by decide +kernel
theorem dX7_allowed_5 : decode cX7_allowed 5 = .ok (.invokevirtual 120, 3) := by decide +kernel
theorem dX7_allowed_8 : decode cX7_allowed 8 = .ok (.ifCond .ne 5, 3) := by decide +kernel
theorem dX7_allowed_11 : decode cX7_allowed 11 = .ok (.iconst (-1), 1) := by decide +kernel
theorem dX7_allowed_12 : decode cX7_allowed 12 = .ok (.ireturn, 1) := by decide +kernel
theorem dX7_allowed_13 : decode cX7_allowed 13 = .ok (.aload_n 0, 1) := by decide +kernel
theorem dX7_allowed_14 : decode cX7_allowed 14 = .ok (.getfield 19, 3) := by decide +kernel
theorem dX7_allowed_17 : decode cX7_allowed 17 = .ok (.iload_n 1, 1) := by decide +kernel
theorem dX7_allowed_18 : decode cX7_allowed 18 = .ok (.aload_n 0, 1) := by decide +kernel
theorem dX7_allowed_19 : decode cX7_allowed 19 = .ok (.getfield 10, 3) := by decide +kernel
theorem dX7_allowed_22 : decode cX7_allowed 22 = .ok (.invokevirtual 129, 3) := by decide +kernel
theorem dX7_allowed_25 : decode cX7_allowed 25 = .ok (.ifCond .eq 7, 3) := by decide +kernel
theorem dX7_allowed_28 : decode cX7_allowed 28 = .ok (.iconst 1, 1) := by decide +kernel
theorem dX7_allowed_29 : decode cX7_allowed 29 = .ok (.goto 4, 3) := by decide +kernel
theorem dX7_allowed_32 : decode cX7_allowed 32 = .ok (.iconst 0, 1) := by decide +kernel
theorem dX7_allowed_33 : decode cX7_allowed 33 = .ok (.ireturn, 1) := by decide +kernel
theorem dX7_book_0 : decode cX7_book 0 = .ok (.aload_n 0, 1) := by decide +kernel
theorem dX7_book_1 : decode cX7_book 1 = .ok (.getfield 40, 3) := by decide +kernel
theorem dX7_book_4 : decode cX7_book 4 = .ok (.aload_n 0, 1) := by decide +kernel
theorem dX7_book_5 : decode cX7_book 5 = .ok (.getfield 10, 3) := by decide +kernel
theorem dX7_book_8 : decode cX7_book 8 = .ok (.aload_n 0, 1) := by decide +kernel
theorem dX7_book_9 : decode cX7_book 9 = .ok (.getfield 19, 3) := by decide +kernel
theorem dX7_book_12 : decode cX7_book 12 = .ok (.invokevirtual 133, 3) := by decide +kernel
theorem dX7_book_15 : decode cX7_book 15 = .ok (.aload_n 0, 1) := by decide +kernel
theorem dX7_book_16 : decode cX7_book 16 = .ok (.getfield 40, 3) := by decide +kernel
theorem dX7_book_19 : decode cX7_book 19 = .ok (.invokevirtual 137, 3) := by decide +kernel
theorem dX7_book_22 : decode cX7_book 22 = .ok (.ireturn, 1) := by decide +kernel
theorem dX7_worth_0 : decode cX7_worth 0 = .ok (.aload_n 0, 1) := by decide +kernel
theorem dX7_worth_1 : decode cX7_worth 1 = .ok (.getfield 10, 3) := by decide +kernel
theorem dX7_worth_4 : decode cX7_worth 4 = .ok (.iload_n 1, 1) := by decide +kernel
theorem dX7_worth_5 : decode cX7_worth 5 = .ok (.invokevirtual 120, 3) := by decide +kernel
theorem dX7_worth_8 : decode cX7_worth 8 = .ok (.ifCond .ne 6, 3) := by decide +kernel
theorem dX7_worth_11 : decode cX7_worth 11 = .ok (.ldc 138, 2) := by decide +kernel
theorem dX7_worth_13 : decode cX7_worth 13 = .ok (.ireturn, 1) := by decide +kernel
theorem dX7_worth_14 : decode cX7_worth 14 = .ok (.aload_n 0, 1) := by decide +kernel
theorem dX7_worth_15 : decode cX7_worth 15 = .ok (.getfield 26, 3) := by decide +kernel
theorem dX7_worth_18 : decode cX7_worth 18 = .ok (.iload_n 1, 1) := by decide +kernel
theorem dX7_worth_19 : decode cX7_worth 19 = .ok (.aload_n 0, 1) := by decide +kernel
theorem dX7_worth_20 : decode cX7_worth 20 = .ok (.getfield 10, 3) := by decide +kernel
theorem dX7_worth_23 : decode cX7_worth 23 = .ok (.invokevirtual 139, 3) := by decide +kernel
theorem dX7_worth_26 : decode cX7_worth 26 = .ok (.ireturn, 1) := by decide +kernel
theorem dX7_best_0 : decode cX7_best 0 = .ok (.iload_n 1, 1) := by decide +kernel
theorem dX7_best_1 : decode cX7_best 1 = .ok (.iconst 0, 1) := by decide +kernel
theorem dX7_best_2 : decode cX7_best 2 = .ok (.iconst 1, 1) := by decide +kernel
theorem dX7_best_3 : decode cX7_best 3 = .ok (.invokestatic 58, 3) := by decide +kernel
theorem dX7_best_6 : decode cX7_best 6 = .ok (.ifCond .ne 6, 3) := by decide +kernel
theorem dX7_best_9 : decode cX7_best 9 = .ok (.ldc 143, 2) := by decide +kernel
theorem dX7_best_11 : decode cX7_best 11 = .ok (.ireturn, 1) := by decide +kernel
theorem dX7_best_12 : decode cX7_best 12 = .ok (.aload_n 0, 1) := by decide +kernel
theorem dX7_best_13 : decode cX7_best 13 = .ok (.invokevirtual 144, 3) := by decide +kernel
theorem dX7_best_16 : decode cX7_best 16 = .ok (.istore_n 2, 1) := by decide +kernel
theorem dX7_best_17 : decode cX7_best 17 = .ok (.iload_n 1, 1) := by decide +kernel
theorem dX7_best_18 : decode cX7_best 18 = .ok (.iconst 1, 1) := by decide +kernel
theorem dX7_best_19 : decode cX7_best 19 = .ok (.if_icmp .ne 5, 3) := by decide +kernel
theorem dX7_best_22 : decode cX7_best 22 = .ok (.iload_n 2, 1) := by decide +kernel
theorem dX7_best_23 : decode cX7_best 23 = .ok (.ireturn, 1) := by decide +kernel
theorem dX7_best_24 : decode cX7_best 24 = .ok (.iload_n 2, 1) := by decide +kernel
theorem dX7_best_25 : decode cX7_best 25 = .ok (.bipush (-4), 2) := by decide +kernel
theorem dX7_best_27 : decode cX7_best 27 = .ok (.if_icmp .ne 8, 3) := by decide +kernel
theorem dX7_best_30 : decode cX7_best 30 = .ok (.ldc 138, 2) := by decide +kernel
theorem dX7_best_32 : decode cX7_best 32 = .ok (.goto 15, 3) := by decide +kernel
theorem dX7_best_35 : decode cX7_best 35 = .ok (.aload_n 0, 1) := by decide +kernel
theorem dX7_best_36 : decode cX7_best 36 = .ok (.getfield 26, 3) := by decide +kernel
theorem dX7_best_39 : decode cX7_best 39 = .ok (.iload_n 2, 1) := by decide +kernel
theorem dX7_best_40 : decode cX7_best 40 = .ok (.aload_n 0, 1) := by decide +kernel
theorem dX7_best_41 : decode cX7_best 41 = .ok (.getfield 10, 3) := by decide +kernel
theorem dX7_best_44 : decode cX7_best 44 = .ok (.invokevirtual 139, 3) := by decide +kernel
theorem dX7_best_47 : decode cX7_best 47 = .ok (.ireturn, 1) := by decide +kernel
theorem dX7_trial_0 : decode cX7_trial 0 = .ok (.aload_n 0, 1) := by decide +kernel
theorem dX7_trial_1 : decode cX7_trial 1 = .ok (.getfield 10, 3) := by decide +kernel
theorem dX7_trial_4 : decode cX7_trial 4 = .ok (.iload_n 1, 1) := by decide +kernel
theorem dX7_trial_5 : decode cX7_trial 5 = .ok (.invokevirtual 120, 3) := by decide +kernel
theorem dX7_trial_8 : decode cX7_trial 8 = .ok (.ifCond .ne 5, 3) := by decide +kernel
theorem dX7_trial_11 : decode cX7_trial 11 = .ok (.iconst (-1), 1) := by decide +kernel
theorem dX7_trial_12 : decode cX7_trial 12 = .ok (.ireturn, 1) := by decide +kernel
theorem dX7_trial_13 : decode cX7_trial 13 = .ok (.aload_n 0, 1) := by decide +kernel
theorem dX7_trial_14 : decode cX7_trial 14 = .ok (.getfield 19, 3) := by decide +kernel
theorem dX7_trial_17 : decode cX7_trial 17 = .ok (.iload_n 1, 1) := by decide +kernel
theorem dX7_trial_18 : decode cX7_trial 18 = .ok (.aload_n 0, 1) := by decide +kernel
theorem dX7_trial_19 : decode cX7_trial 19 = .ok (.getfield 10, 3) := by decide +kernel
theorem dX7_trial_22 : decode cX7_trial 22 = .ok (.invokevirtual 129, 3) := by decide +kernel
theorem dX7_trial_25 : decode cX7_trial 25 = .ok (.ifCond .ne 6, 3) := by decide +kernel
theorem dX7_trial_28 : decode cX7_trial 28 = .ok (.bipush (-2), 2) := by decide +kernel
theorem dX7_trial_30 : decode cX7_trial 30 = .ok (.ireturn, 1) := by decide +kernel
theorem dX7_trial_31 : decode cX7_trial 31 = .ok (.aload_n 0, 1) := by decide +kernel
theorem dX7_trial_32 : decode cX7_trial 32 = .ok (.getfield 33, 3) := by decide +kernel
theorem dX7_trial_35 : decode cX7_trial 35 = .ok (.invokevirtual 147, 3) := by decide +kernel
theorem dX7_trial_38 : decode cX7_trial 38 = .ok (.ifCond .eq 6, 3) := by decide +kernel
theorem dX7_trial_41 : decode cX7_trial 41 = .ok (.bipush (-3), 2) := by decide +kernel
theorem dX7_trial_43 : decode cX7_trial 43 = .ok (.ireturn, 1) := by decide +kernel
theorem dX7_trial_44 : decode cX7_trial 44 = .ok (.aload_n 0, 1) := by decide +kernel
theorem dX7_trial_45 : decode cX7_trial 45 = .ok (.getfield 33, 3) := by decide +kernel
theorem dX7_trial_48 : decode cX7_trial 48 = .ok (.iload_n 1, 1) := by decide +kernel
theorem dX7_trial_49 : decode cX7_trial 49 = .ok (.aload_n 0, 1) := by decide +kernel
theorem dX7_trial_50 : decode cX7_trial 50 = .ok (.getfield 26, 3) := by decide +kernel
theorem dX7_trial_53 : decode cX7_trial 53 = .ok (.iload_n 1, 1) := by decide +kernel
theorem dX7_trial_54 : decode cX7_trial 54 = .ok (.aload_n 0, 1) := by decide +kernel
theorem dX7_trial_55 : decode cX7_trial 55 = .ok (.getfield 10, 3) := by decide +kernel
theorem dX7_trial_58 : decode cX7_trial 58 = .ok (.invokevirtual 139, 3) := by decide +kernel
theorem dX7_trial_61 : decode cX7_trial 61 = .ok (.invokevirtual 148, 3) := by decide +kernel
theorem dX7_trial_64 : decode cX7_trial 64 = .ok (.aload_n 0, 1) := by decide +kernel
theorem dX7_trial_65 : decode cX7_trial 65 = .ok (.getfield 33, 3) := by decide +kernel
theorem dX7_trial_68 : decode cX7_trial 68 = .ok (.invokevirtual 151, 3) := by decide +kernel
theorem dX7_trial_71 : decode cX7_trial 71 = .ok (.ireturn, 1) := by decide +kernel
theorem dX7_read_0 : decode cX7_read 0 = .ok (.aload_n 0, 1) := by decide +kernel
theorem dX7_read_1 : decode cX7_read 1 = .ok (.getfield 33, 3) := by decide +kernel
theorem dX7_read_4 : decode cX7_read 4 = .ok (.iload_n 1, 1) := by decide +kernel
theorem dX7_read_5 : decode cX7_read 5 = .ok (.invokevirtual 152, 3) := by decide +kernel
theorem dX7_read_8 : decode cX7_read 8 = .ok (.ifCond .eq 12, 3) := by decide +kernel
theorem dX7_read_11 : decode cX7_read 11 = .ok (.iload_n 2, 1) := by decide +kernel
theorem dX7_read_12 : decode cX7_read 12 = .ok (.iconst 0, 1) := by decide +kernel
theorem dX7_read_13 : decode cX7_read 13 = .ok (.iconst 1, 1) := by decide +kernel
theorem dX7_read_14 : decode cX7_read 14 = .ok (.invokestatic 58, 3) := by decide +kernel
theorem dX7_read_17 : decode cX7_read 17 = .ok (.ifCond .ne 6, 3) := by decide +kernel
theorem dX7_read_20 : decode cX7_read 20 = .ok (.ldc 138, 2) := by decide +kernel
theorem dX7_read_22 : decode cX7_read 22 = .ok (.ireturn, 1) := by decide +kernel
theorem dX7_read_23 : decode cX7_read 23 = .ok (.iload_n 2, 1) := by decide +kernel
theorem dX7_read_24 : decode cX7_read 24 = .ok (.ifCond .ne 14, 3) := by decide +kernel
theorem dX7_read_27 : decode cX7_read 27 = .ok (.aload_n 0, 1) := by decide +kernel
theorem dX7_read_28 : decode cX7_read 28 = .ok (.getfield 33, 3) := by decide +kernel
theorem dX7_read_31 : decode cX7_read 31 = .ok (.iload_n 1, 1) := by decide +kernel
theorem dX7_read_32 : decode cX7_read 32 = .ok (.invokevirtual 155, 3) := by decide +kernel
theorem dX7_read_35 : decode cX7_read 35 = .ok (.goto 11, 3) := by decide +kernel
theorem dX7_read_38 : decode cX7_read 38 = .ok (.aload_n 0, 1) := by decide +kernel
theorem dX7_read_39 : decode cX7_read 39 = .ok (.getfield 33, 3) := by decide +kernel
theorem dX7_read_42 : decode cX7_read 42 = .ok (.iload_n 1, 1) := by decide +kernel
theorem dX7_read_43 : decode cX7_read 43 = .ok (.invokevirtual 158, 3) := by decide +kernel
theorem dX7_read_46 : decode cX7_read 46 = .ok (.ireturn, 1) := by decide +kernel
theorem dX7_forget_0 : decode cX7_forget 0 = .ok (.aload_n 0, 1) := by decide +kernel
theorem dX7_forget_1 : decode cX7_forget 1 = .ok (.getfield 33, 3) := by decide +kernel
theorem dX7_forget_4 : decode cX7_forget 4 = .ok (.invokevirtual 151, 3) := by decide +kernel
theorem dX7_forget_7 : decode cX7_forget 7 = .ok (.istore_n 1, 1) := by decide +kernel
theorem dX7_forget_8 : decode cX7_forget 8 = .ok (.aload_n 0, 1) := by decide +kernel
theorem dX7_forget_9 : decode cX7_forget 9 = .ok (.getfield 33, 3) := by decide +kernel
theorem dX7_forget_12 : decode cX7_forget 12 = .ok (.invokevirtual 66, 3) := by decide +kernel
theorem dX7_forget_15 : decode cX7_forget 15 = .ok (.iload_n 1, 1) := by decide +kernel
theorem dX7_forget_16 : decode cX7_forget 16 = .ok (.ireturn, 1) := by decide +kernel
theorem dX7_bound_0 : decode cX7_bound 0 = .ok (.aload_n 0, 1) := by decide +kernel
theorem dX7_bound_1 : decode cX7_bound 1 = .ok (.getfield 10, 3) := by decide +kernel
theorem dX7_bound_4 : decode cX7_bound 4 = .ok (.iload_n 1, 1) := by decide +kernel
theorem dX7_bound_5 : decode cX7_bound 5 = .ok (.invokevirtual 120, 3) := by decide +kernel
theorem dX7_bound_8 : decode cX7_bound 8 = .ok (.ifCond .eq 12, 3) := by decide +kernel
theorem dX7_bound_11 : decode cX7_bound 11 = .ok (.iload_n 2, 1) := by decide +kernel
theorem dX7_bound_12 : decode cX7_bound 12 = .ok (.iconst 0, 1) := by decide +kernel
theorem dX7_bound_13 : decode cX7_bound 13 = .ok (.iconst 1, 1) := by decide +kernel
theorem dX7_bound_14 : decode cX7_bound 14 = .ok (.invokestatic 58, 3) := by decide +kernel
theorem dX7_bound_17 : decode cX7_bound 17 = .ok (.ifCond .ne 6, 3) := by decide +kernel
theorem dX7_bound_20 : decode cX7_bound 20 = .ok (.ldc 161, 2) := by decide +kernel
theorem dX7_bound_22 : decode cX7_bound 22 = .ok (.ireturn, 1) := by decide +kernel
theorem dX7_bound_23 : decode cX7_bound 23 = .ok (.aload_n 0, 1) := by decide +kernel
theorem dX7_bound_24 : decode cX7_bound 24 = .ok (.getfield 47, 3) := by decide +kernel
theorem dX7_bound_27 : decode cX7_bound 27 = .ok (.iload_n 1, 1) := by decide +kernel
theorem dX7_bound_28 : decode cX7_bound 28 = .ok (.aload_n 0, 1) := by decide +kernel
theorem dX7_bound_29 : decode cX7_bound 29 = .ok (.getfield 33, 3) := by decide +kernel
theorem dX7_bound_32 : decode cX7_bound 32 = .ok (.aload_n 0, 1) := by decide +kernel
theorem dX7_bound_33 : decode cX7_bound 33 = .ok (.getfield 10, 3) := by decide +kernel
theorem dX7_bound_36 : decode cX7_bound 36 = .ok (.invokevirtual 162, 3) := by decide +kernel
theorem dX7_bound_39 : decode cX7_bound 39 = .ok (.iload_n 2, 1) := by decide +kernel
theorem dX7_bound_40 : decode cX7_bound 40 = .ok (.ifCond .ne 14, 3) := by decide +kernel
theorem dX7_bound_43 : decode cX7_bound 43 = .ok (.aload_n 0, 1) := by decide +kernel
theorem dX7_bound_44 : decode cX7_bound 44 = .ok (.getfield 47, 3) := by decide +kernel
theorem dX7_bound_47 : decode cX7_bound 47 = .ok (.iload_n 1, 1) := by decide +kernel
theorem dX7_bound_48 : decode cX7_bound 48 = .ok (.invokevirtual 166, 3) := by decide +kernel
theorem dX7_bound_51 : decode cX7_bound 51 = .ok (.goto 11, 3) := by decide +kernel
theorem dX7_bound_54 : decode cX7_bound 54 = .ok (.aload_n 0, 1) := by decide +kernel
theorem dX7_bound_55 : decode cX7_bound 55 = .ok (.getfield 47, 3) := by decide +kernel
theorem dX7_bound_58 : decode cX7_bound 58 = .ok (.iload_n 1, 1) := by decide +kernel
theorem dX7_bound_59 : decode cX7_bound 59 = .ok (.invokevirtual 169, 3) := by decide +kernel
theorem dX7_bound_62 : decode cX7_bound 62 = .ok (.ireturn, 1) := by decide +kernel
theorem dX7_left_0 : decode cX7_left 0 = .ok (.iload_n 1, 1) := by decide +kernel
theorem dX7_left_1 : decode cX7_left 1 = .ok (.iconst 0, 1) := by decide +kernel
theorem dX7_left_2 : decode cX7_left 2 = .ok (.iconst 2, 1) := by decide +kernel
theorem dX7_left_3 : decode cX7_left 3 = .ok (.invokestatic 58, 3) := by decide +kernel
theorem dX7_left_6 : decode cX7_left 6 = .ok (.ifCond .ne 5, 3) := by decide +kernel
theorem dX7_left_9 : decode cX7_left 9 = .ok (.iconst (-1), 1) := by decide +kernel
theorem dX7_left_10 : decode cX7_left 10 = .ok (.ireturn, 1) := by decide +kernel
theorem dX7_left_11 : decode cX7_left 11 = .ok (.aload_n 0, 1) := by decide +kernel
theorem dX7_left_12 : decode cX7_left 12 = .ok (.getfield 40, 3) := by decide +kernel
theorem dX7_left_15 : decode cX7_left 15 = .ok (.aload_n 0, 1) := by decide +kernel
theorem dX7_left_16 : decode cX7_left 16 = .ok (.getfield 10, 3) := by decide +kernel
theorem dX7_left_19 : decode cX7_left 19 = .ok (.aload_n 0, 1) := by decide +kernel
theorem dX7_left_20 : decode cX7_left 20 = .ok (.getfield 19, 3) := by decide +kernel
theorem dX7_left_23 : decode cX7_left 23 = .ok (.invokevirtual 133, 3) := by decide +kernel
theorem dX7_left_26 : decode cX7_left 26 = .ok (.iload_n 1, 1) := by decide +kernel
theorem dX7_left_27 : decode cX7_left 27 = .ok (.iconst 2, 1) := by decide +kernel
theorem dX7_left_28 : decode cX7_left 28 = .ok (.if_icmp .ne 16, 3) := by decide +kernel
theorem dX7_left_31 : decode cX7_left 31 = .ok (.aload_n 0, 1) := by decide +kernel
theorem dX7_left_32 : decode cX7_left 32 = .ok (.invokevirtual 172, 3) := by decide +kernel
theorem dX7_left_35 : decode cX7_left 35 = .ok (.ifCond .eq 7, 3) := by decide +kernel
theorem dX7_left_38 : decode cX7_left 38 = .ok (.iconst 1, 1) := by decide +kernel
theorem dX7_left_39 : decode cX7_left 39 = .ok (.goto 4, 3) := by decide +kernel
theorem dX7_left_42 : decode cX7_left 42 = .ok (.iconst 0, 1) := by decide +kernel
theorem dX7_left_43 : decode cX7_left 43 = .ok (.ireturn, 1) := by decide +kernel
theorem dX7_left_44 : decode cX7_left 44 = .ok (.aload_n 0, 1) := by decide +kernel
theorem dX7_left_45 : decode cX7_left 45 = .ok (.getfield 47, 3) := by decide +kernel
theorem dX7_left_48 : decode cX7_left 48 = .ok (.aload_n 0, 1) := by decide +kernel
theorem dX7_left_49 : decode cX7_left 49 = .ok (.getfield 33, 3) := by decide +kernel
theorem dX7_left_52 : decode cX7_left 52 = .ok (.aload_n 0, 1) := by decide +kernel
theorem dX7_left_53 : decode cX7_left 53 = .ok (.getfield 10, 3) := by decide +kernel
theorem dX7_left_56 : decode cX7_left 56 = .ok (.invokevirtual 175, 3) := by decide +kernel
theorem dX7_left_59 : decode cX7_left 59 = .ok (.iload_n 1, 1) := by decide +kernel
theorem dX7_left_60 : decode cX7_left 60 = .ok (.ifCond .ne 17, 3) := by decide +kernel
theorem dX7_left_63 : decode cX7_left 63 = .ok (.aload_n 0, 1) := by decide +kernel
theorem dX7_left_64 : decode cX7_left 64 = .ok (.getfield 47, 3) := by decide +kernel
theorem dX7_left_67 : decode cX7_left 67 = .ok (.aload_n 0, 1) := by decide +kernel
theorem dX7_left_68 : decode cX7_left 68 = .ok (.getfield 40, 3) := by decide +kernel
theorem dX7_left_71 : decode cX7_left 71 = .ok (.invokevirtual 179, 3) := by decide +kernel
theorem dX7_left_74 : decode cX7_left 74 = .ok (.goto 14, 3) := by decide +kernel
theorem dX7_left_77 : decode cX7_left 77 = .ok (.aload_n 0, 1) := by decide +kernel
theorem dX7_left_78 : decode cX7_left 78 = .ok (.getfield 47, 3) := by decide +kernel
theorem dX7_left_81 : decode cX7_left 81 = .ok (.aload_n 0, 1) := by decide +kernel
theorem dX7_left_82 : decode cX7_left 82 = .ok (.getfield 40, 3) := by decide +kernel
theorem dX7_left_85 : decode cX7_left 85 = .ok (.invokevirtual 183, 3) := by decide +kernel
theorem dX7_left_88 : decode cX7_left 88 = .ok (.ireturn, 1) := by decide +kernel
theorem dX7_search_0 : decode cX7_search 0 = .ok (.iload_n 1, 1) := by decide +kernel
theorem dX7_search_1 : decode cX7_search 1 = .ok (.iconst 1, 1) := by decide +kernel
theorem dX7_search_2 : decode cX7_search 2 = .ok (.bipush 30, 2) := by decide +kernel
theorem dX7_search_4 : decode cX7_search 4 = .ok (.invokestatic 58, 3) := by decide +kernel
theorem dX7_search_7 : decode cX7_search 7 = .ok (.ifCond .ne 5, 3) := by decide +kernel
theorem dX7_search_10 : decode cX7_search 10 = .ok (.iconst (-1), 1) := by decide +kernel
theorem dX7_search_11 : decode cX7_search 11 = .ok (.ireturn, 1) := by decide +kernel
theorem dX7_search_12 : decode cX7_search 12 = .ok (.aload_n 0, 1) := by decide +kernel
theorem dX7_search_13 : decode cX7_search 13 = .ok (.getfield 40, 3) := by decide +kernel
theorem dX7_search_16 : decode cX7_search 16 = .ok (.aload_n 0, 1) := by decide +kernel
theorem dX7_search_17 : decode cX7_search 17 = .ok (.getfield 10, 3) := by decide +kernel
theorem dX7_search_20 : decode cX7_search 20 = .ok (.aload_n 0, 1) := by decide +kernel
theorem dX7_search_21 : decode cX7_search 21 = .ok (.getfield 19, 3) := by decide +kernel
theorem dX7_search_24 : decode cX7_search 24 = .ok (.invokevirtual 133, 3) := by decide +kernel
theorem dX7_search_27 : decode cX7_search 27 = .ok (.aload_n 0, 1) := by decide +kernel
theorem dX7_search_28 : decode cX7_search 28 = .ok (.getfield 40, 3) := by decide +kernel
theorem dX7_search_31 : decode cX7_search 31 = .ok (.invokevirtual 137, 3) := by decide +kernel
theorem dX7_search_34 : decode cX7_search 34 = .ok (.ifCond .ne 6, 3) := by decide +kernel
theorem dX7_search_37 : decode cX7_search 37 = .ok (.bipush (-2), 2) := by decide +kernel
theorem dX7_search_39 : decode cX7_search 39 = .ok (.ireturn, 1) := by decide +kernel
theorem dX7_search_40 : decode cX7_search 40 = .ok (.aload_n 0, 1) := by decide +kernel
theorem dX7_search_41 : decode cX7_search 41 = .ok (.getfield 47, 3) := by decide +kernel
theorem dX7_search_44 : decode cX7_search 44 = .ok (.aload_n 0, 1) := by decide +kernel
theorem dX7_search_45 : decode cX7_search 45 = .ok (.getfield 33, 3) := by decide +kernel
theorem dX7_search_48 : decode cX7_search 48 = .ok (.aload_n 0, 1) := by decide +kernel
theorem dX7_search_49 : decode cX7_search 49 = .ok (.getfield 10, 3) := by decide +kernel
theorem dX7_search_52 : decode cX7_search 52 = .ok (.invokevirtual 175, 3) := by decide +kernel
theorem dX7_search_55 : decode cX7_search 55 = .ok (.iconst 0, 1) := by decide +kernel
theorem dX7_search_56 : decode cX7_search 56 = .ok (.istore_n 2, 1) := by decide +kernel
theorem dX7_search_57 : decode cX7_search 57 = .ok (.iload_n 2, 1) := by decide +kernel
theorem dX7_search_58 : decode cX7_search 58 = .ok (.iload_n 1, 1) := by decide +kernel
theorem dX7_search_59 : decode cX7_search 59 = .ok (.if_icmp .ge 57, 3) := by decide +kernel
theorem dX7_search_62 : decode cX7_search 62 = .ok (.aload_n 0, 1) := by decide +kernel
theorem dX7_search_63 : decode cX7_search 63 = .ok (.invokevirtual 186, 3) := by decide +kernel
theorem dX7_search_66 : decode cX7_search 66 = .ok (.istore_n 3, 1) := by decide +kernel
theorem dX7_search_67 : decode cX7_search 67 = .ok (.iload_n 3, 1) := by decide +kernel
theorem dX7_search_68 : decode cX7_search 68 = .ok (.bipush (-4), 2) := by decide +kernel
theorem dX7_search_70 : decode cX7_search 70 = .ok (.if_icmp .ne 5, 3) := by decide +kernel
theorem dX7_search_73 : decode cX7_search 73 = .ok (.iload_n 2, 1) := by decide +kernel
theorem dX7_search_74 : decode cX7_search 74 = .ok (.ireturn, 1) := by decide +kernel
theorem dX7_search_75 : decode cX7_search 75 = .ok (.aload_n 0, 1) := by decide +kernel
theorem dX7_search_76 : decode cX7_search 76 = .ok (.getfield 33, 3) := by decide +kernel
theorem dX7_search_79 : decode cX7_search 79 = .ok (.iload_n 3, 1) := by decide +kernel
theorem dX7_search_80 : decode cX7_search 80 = .ok (.aload_n 0, 1) := by decide +kernel
theorem dX7_search_81 : decode cX7_search 81 = .ok (.getfield 26, 3) := by decide +kernel
theorem dX7_search_84 : decode cX7_search 84 = .ok (.iload_n 3, 1) := by decide +kernel
theorem dX7_search_85 : decode cX7_search 85 = .ok (.aload_n 0, 1) := by decide +kernel
theorem dX7_search_86 : decode cX7_search 86 = .ok (.getfield 10, 3) := by decide +kernel
theorem dX7_search_89 : decode cX7_search 89 = .ok (.invokevirtual 139, 3) := by decide +kernel
theorem dX7_search_92 : decode cX7_search 92 = .ok (.invokevirtual 148, 3) := by decide +kernel
theorem dX7_search_95 : decode cX7_search 95 = .ok (.aload_n 0, 1) := by decide +kernel
theorem dX7_search_96 : decode cX7_search 96 = .ok (.getfield 47, 3) := by decide +kernel
theorem dX7_search_99 : decode cX7_search 99 = .ok (.aload_n 0, 1) := by decide +kernel
theorem dX7_search_100 : decode cX7_search 100 = .ok (.getfield 33, 3) := by decide +kernel
theorem dX7_search_103 : decode cX7_search 103 = .ok (.aload_n 0, 1) := by decide +kernel
theorem dX7_search_104 : decode cX7_search 104 = .ok (.getfield 10, 3) := by decide +kernel
theorem dX7_search_107 : decode cX7_search 107 = .ok (.invokevirtual 189, 3) := by decide +kernel
theorem dX7_search_110 : decode cX7_search 110 = .ok (.iinc 2 1, 3) := by decide +kernel
theorem dX7_search_113 : decode cX7_search 113 = .ok (.goto (-56), 3) := by decide +kernel
theorem dX7_search_116 : decode cX7_search 116 = .ok (.iload_n 1, 1) := by decide +kernel
theorem dX7_search_117 : decode cX7_search 117 = .ok (.ireturn, 1) := by decide +kernel
theorem dX7_pairs_0 : decode cX7_pairs 0 = .ok (.aload_n 0, 1) := by decide +kernel
theorem dX7_pairs_1 : decode cX7_pairs 1 = .ok (.getfield 10, 3) := by decide +kernel
theorem dX7_pairs_4 : decode cX7_pairs 4 = .ok (.iload_n 1, 1) := by decide +kernel
theorem dX7_pairs_5 : decode cX7_pairs 5 = .ok (.iload_n 2, 1) := by decide +kernel
theorem dX7_pairs_6 : decode cX7_pairs 6 = .ok (.invokevirtual 73, 3) := by decide +kernel
theorem dX7_pairs_9 : decode cX7_pairs 9 = .ok (.ifCond .eq 30, 3) := by decide +kernel
theorem dX7_pairs_12 : decode cX7_pairs 12 = .ok (.aload_n 0, 1) := by decide +kernel
theorem dX7_pairs_13 : decode cX7_pairs 13 = .ok (.getfield 10, 3) := by decide +kernel
theorem dX7_pairs_16 : decode cX7_pairs 16 = .ok (.iload_n 1, 1) := by decide +kernel
theorem dX7_pairs_17 : decode cX7_pairs 17 = .ok (.iload_n 3, 1) := by decide +kernel
theorem dX7_pairs_18 : decode cX7_pairs 18 = .ok (.invokevirtual 73, 3) := by decide +kernel
theorem dX7_pairs_21 : decode cX7_pairs 21 = .ok (.ifCond .eq 18, 3) := by decide +kernel
theorem dX7_pairs_24 : decode cX7_pairs 24 = .ok (.iload_n 2, 1) := by decide +kernel
theorem dX7_pairs_25 : decode cX7_pairs 25 = .ok (.iload_n 3, 1) := by decide +kernel
theorem dX7_pairs_26 : decode cX7_pairs 26 = .ok (.if_icmp .eq 13, 3) := by decide +kernel
theorem dX7_pairs_29 : decode cX7_pairs 29 = .ok (.iload 4, 2) := by decide +kernel
theorem dX7_pairs_31 : decode cX7_pairs 31 = .ok (.iconst 0, 1) := by decide +kernel
theorem dX7_pairs_32 : decode cX7_pairs 32 = .ok (.iconst 1, 1) := by decide +kernel
theorem dX7_pairs_33 : decode cX7_pairs 33 = .ok (.invokestatic 58, 3) := by decide +kernel
theorem dX7_pairs_36 : decode cX7_pairs 36 = .ok (.ifCond .ne 6, 3) := by decide +kernel
theorem dX7_pairs_39 : decode cX7_pairs 39 = .ok (.ldc 161, 2) := by decide +kernel
theorem dX7_pairs_41 : decode cX7_pairs 41 = .ok (.ireturn, 1) := by decide +kernel
theorem dX7_pairs_42 : decode cX7_pairs 42 = .ok (.iconst 0, 1) := by decide +kernel
theorem dX7_pairs_43 : decode cX7_pairs 43 = .ok (.istore 5, 2) := by decide +kernel
theorem dX7_pairs_45 : decode cX7_pairs 45 = .ok (.iconst 0, 1) := by decide +kernel
theorem dX7_pairs_46 : decode cX7_pairs 46 = .ok (.istore 6, 2) := by decide +kernel
theorem dX7_pairs_48 : decode cX7_pairs 48 = .ok (.iconst 0, 1) := by decide +kernel
theorem dX7_pairs_49 : decode cX7_pairs 49 = .ok (.istore 7, 2) := by decide +kernel
theorem dX7_pairs_51 : decode cX7_pairs 51 = .ok (.iload 7, 2) := by decide +kernel
theorem dX7_pairs_53 : decode cX7_pairs 53 = .ok (.aload_n 0, 1) := by decide +kernel
theorem dX7_pairs_54 : decode cX7_pairs 54 = .ok (.getfield 33, 3) := by decide +kernel
theorem dX7_pairs_57 : decode cX7_pairs 57 = .ok (.invokevirtual 151, 3) := by decide +kernel
theorem dX7_pairs_60 : decode cX7_pairs 60 = .ok (.if_icmp .ge 105, 3) := by decide +kernel
theorem dX7_pairs_63 : decode cX7_pairs 63 = .ok (.aload_n 0, 1) := by decide +kernel
theorem dX7_pairs_64 : decode cX7_pairs 64 = .ok (.getfield 33, 3) := by decide +kernel
theorem dX7_pairs_67 : decode cX7_pairs 67 = .ok (.iload 7, 2) := by decide +kernel
theorem dX7_pairs_69 : decode cX7_pairs 69 = .ok (.invokevirtual 158, 3) := by decide +kernel
theorem dX7_pairs_72 : decode cX7_pairs 72 = .ok (.istore 8, 2) := by decide +kernel
theorem dX7_pairs_74 : decode cX7_pairs 74 = .ok (.aload_n 0, 1) := by decide +kernel
theorem dX7_pairs_75 : decode cX7_pairs 75 = .ok (.getfield 10, 3) := by decide +kernel
theorem dX7_pairs_78 : decode cX7_pairs 78 = .ok (.iload 8, 2) := by decide +kernel
theorem dX7_pairs_80 : decode cX7_pairs 80 = .ok (.iload_n 1, 1) := by decide +kernel
theorem dX7_pairs_81 : decode cX7_pairs 81 = .ok (.invokevirtual 126, 3) := by decide +kernel
theorem dX7_pairs_84 : decode cX7_pairs 84 = .ok (.iload_n 2, 1) := by decide +kernel
theorem dX7_pairs_85 : decode cX7_pairs 85 = .ok (.if_icmp .ne 74, 3) := by decide +kernel
theorem dX7_pairs_88 : decode cX7_pairs 88 = .ok (.aload_n 0, 1) := by decide +kernel
theorem dX7_pairs_89 : decode cX7_pairs 89 = .ok (.getfield 33, 3) := by decide +kernel
theorem dX7_pairs_92 : decode cX7_pairs 92 = .ok (.iload 8, 2) := by decide +kernel
theorem dX7_pairs_94 : decode cX7_pairs 94 = .ok (.invokevirtual 192, 3) := by decide +kernel
theorem dX7_pairs_97 : decode cX7_pairs 97 = .ok (.iload 7, 2) := by decide +kernel
theorem dX7_pairs_99 : decode cX7_pairs 99 = .ok (.if_icmp .eq 6, 3) := by decide +kernel
theorem dX7_pairs_102 : decode cX7_pairs 102 = .ok (.goto 57, 3) := by decide +kernel
theorem dX7_pairs_105 : decode cX7_pairs 105 = .ok (.aload_n 0, 1) := by decide +kernel
theorem dX7_pairs_106 : decode cX7_pairs 106 = .ok (.getfield 33, 3) := by decide +kernel
theorem dX7_pairs_109 : decode cX7_pairs 109 = .ok (.aload_n 0, 1) := by decide +kernel
theorem dX7_pairs_110 : decode cX7_pairs 110 = .ok (.getfield 10, 3) := by decide +kernel
theorem dX7_pairs_113 : decode cX7_pairs 113 = .ok (.iload 8, 2) := by decide +kernel
theorem dX7_pairs_115 : decode cX7_pairs 115 = .ok (.iload_n 1, 1) := by decide +kernel
theorem dX7_pairs_116 : decode cX7_pairs 116 = .ok (.iload_n 3, 1) := by decide +kernel
theorem dX7_pairs_117 : decode cX7_pairs 117 = .ok (.invokevirtual 123, 3) := by decide +kernel
theorem dX7_pairs_120 : decode cX7_pairs 120 = .ok (.invokevirtual 192, 3) := by decide +kernel
theorem dX7_pairs_123 : decode cX7_pairs 123 = .ok (.istore 9, 2) := by decide +kernel
theorem dX7_pairs_125 : decode cX7_pairs 125 = .ok (.iload 9, 2) := by decide +kernel
theorem dX7_pairs_127 : decode cX7_pairs 127 = .ok (.bipush (-4), 2) := by decide +kernel
theorem dX7_pairs_129 : decode cX7_pairs 129 = .ok (.if_icmp .eq 30, 3) := by decide +kernel
theorem dX7_pairs_132 : decode cX7_pairs 132 = .ok (.iinc 5 1, 3) := by decide +kernel
theorem dX7_pairs_135 : decode cX7_pairs 135 = .ok (.iload 6, 2) := by decide +kernel
theorem dX7_pairs_137 : decode cX7_pairs 137 = .ok (.aload_n 0, 1) := by decide +kernel
theorem dX7_pairs_138 : decode cX7_pairs 138 = .ok (.getfield 33, 3) := by decide +kernel
theorem dX7_pairs_141 : decode cX7_pairs 141 = .ok (.iload 9, 2) := by decide +kernel
theorem dX7_pairs_143 : decode cX7_pairs 143 = .ok (.invokevirtual 155, 3) := by decide +kernel
theorem dX7_pairs_146 : decode cX7_pairs 146 = .ok (.aload_n 0, 1) := by decide +kernel
theorem dX7_pairs_147 : decode cX7_pairs 147 = .ok (.getfield 33, 3) := by decide +kernel
theorem dX7_pairs_150 : decode cX7_pairs 150 = .ok (.iload 7, 2) := by decide +kernel
theorem dX7_pairs_152 : decode cX7_pairs 152 = .ok (.invokevirtual 155, 3) := by decide +kernel
theorem dX7_pairs_155 : decode cX7_pairs 155 = .ok (.isub, 1) := by decide +kernel
theorem dX7_pairs_156 : decode cX7_pairs 156 = .ok (.iadd, 1) := by decide +kernel
theorem dX7_pairs_157 : decode cX7_pairs 157 = .ok (.istore 6, 2) := by decide +kernel
theorem dX7_pairs_159 : decode cX7_pairs 159 = .ok (.iinc 7 1, 3) := by decide +kernel
theorem dX7_pairs_162 : decode cX7_pairs 162 = .ok (.goto (-111), 3) := by decide +kernel
theorem dX7_pairs_165 : decode cX7_pairs 165 = .ok (.iload 4, 2) := by decide +kernel
theorem dX7_pairs_167 : decode cX7_pairs 167 = .ok (.ifCond .ne 8, 3) := by decide +kernel
theorem dX7_pairs_170 : decode cX7_pairs 170 = .ok (.iload 5, 2) := by decide +kernel
theorem dX7_pairs_172 : decode cX7_pairs 172 = .ok (.goto 5, 3) := by decide +kernel
theorem dX7_pairs_175 : decode cX7_pairs 175 = .ok (.iload 6, 2) := by decide +kernel
theorem dX7_pairs_177 : decode cX7_pairs 177 = .ok (.ireturn, 1) := by decide +kernel
theorem dX7_excess_0 : decode cX7_excess 0 = .ok (.aload_n 0, 1) := by decide +kernel
theorem dX7_excess_1 : decode cX7_excess 1 = .ok (.getfield 10, 3) := by decide +kernel
theorem dX7_excess_4 : decode cX7_excess 4 = .ok (.iload_n 1, 1) := by decide +kernel
theorem dX7_excess_5 : decode cX7_excess 5 = .ok (.invokevirtual 120, 3) := by decide +kernel
theorem dX7_excess_8 : decode cX7_excess 8 = .ok (.ifCond .eq 22, 3) := by decide +kernel
theorem dX7_excess_11 : decode cX7_excess 11 = .ok (.iload_n 2, 1) := by decide +kernel
theorem dX7_excess_12 : decode cX7_excess 12 = .ok (.iload 5, 2) := by decide +kernel
theorem dX7_excess_14 : decode cX7_excess 14 = .ok (.if_icmp .ge 16, 3) := by decide +kernel
theorem dX7_excess_17 : decode cX7_excess 17 = .ok (.iload_n 3, 1) := by decide +kernel
theorem dX7_excess_18 : decode cX7_excess 18 = .ok (.iload 4, 2) := by decide +kernel
theorem dX7_excess_20 : decode cX7_excess 20 = .ok (.if_icmp .eq 10, 3) := by decide +kernel
theorem dX7_excess_23 : decode cX7_excess 23 = .ok (.iload 6, 2) := by decide +kernel
theorem dX7_excess_25 : decode cX7_excess 25 = .ok (.iload 7, 2) := by decide +kernel
theorem dX7_excess_27 : decode cX7_excess 27 = .ok (.if_icmp .ne 6, 3) := by decide +kernel
theorem dX7_excess_30 : decode cX7_excess 30 = .ok (.ldc 195, 2) := by decide +kernel
theorem dX7_excess_32 : decode cX7_excess 32 = .ok (.ireturn, 1) := by decide +kernel
theorem dX7_excess_33 : decode cX7_excess 33 = .ok (.aload_n 0, 1) := by decide +kernel
theorem dX7_excess_34 : decode cX7_excess 34 = .ok (.getfield 10, 3) := by decide +kernel
theorem dX7_excess_37 : decode cX7_excess 37 = .ok (.iload_n 2, 1) := by decide +kernel
theorem dX7_excess_38 : decode cX7_excess 38 = .ok (.iload_n 3, 1) := by decide +kernel
theorem dX7_excess_39 : decode cX7_excess 39 = .ok (.invokevirtual 73, 3) := by decide +kernel
theorem dX7_excess_42 : decode cX7_excess 42 = .ok (.ifCond .eq 16, 3) := by decide +kernel
theorem dX7_excess_45 : decode cX7_excess 45 = .ok (.aload_n 0, 1) := by decide +kernel
theorem dX7_excess_46 : decode cX7_excess 46 = .ok (.getfield 10, 3) := by decide +kernel
theorem dX7_excess_49 : decode cX7_excess 49 = .ok (.iload_n 2, 1) := by decide +kernel
theorem dX7_excess_50 : decode cX7_excess 50 = .ok (.iload 4, 2) := by decide +kernel
theorem dX7_excess_52 : decode cX7_excess 52 = .ok (.invokevirtual 73, 3) := by decide +kernel
theorem dX7_excess_55 : decode cX7_excess 55 = .ok (.ifCond .ne 6, 3) := by decide +kernel
theorem dX7_excess_58 : decode cX7_excess 58 = .ok (.ldc 195, 2) := by decide +kernel
theorem dX7_excess_60 : decode cX7_excess 60 = .ok (.ireturn, 1) := by decide +kernel
theorem dX7_excess_61 : decode cX7_excess 61 = .ok (.aload_n 0, 1) := by decide +kernel
theorem dX7_excess_62 : decode cX7_excess 62 = .ok (.getfield 10, 3) := by decide +kernel
theorem dX7_excess_65 : decode cX7_excess 65 = .ok (.iload 5, 2) := by decide +kernel
theorem dX7_excess_67 : decode cX7_excess 67 = .ok (.iload 6, 2) := by decide +kernel
theorem dX7_excess_69 : decode cX7_excess 69 = .ok (.invokevirtual 73, 3) := by decide +kernel
theorem dX7_excess_72 : decode cX7_excess 72 = .ok (.ifCond .eq 17, 3) := by decide +kernel
theorem dX7_excess_75 : decode cX7_excess 75 = .ok (.aload_n 0, 1) := by decide +kernel
theorem dX7_excess_76 : decode cX7_excess 76 = .ok (.getfield 10, 3) := by decide +kernel
theorem dX7_excess_79 : decode cX7_excess 79 = .ok (.iload 5, 2) := by decide +kernel
theorem dX7_excess_81 : decode cX7_excess 81 = .ok (.iload 7, 2) := by decide +kernel
theorem dX7_excess_83 : decode cX7_excess 83 = .ok (.invokevirtual 73, 3) := by decide +kernel
theorem dX7_excess_86 : decode cX7_excess 86 = .ok (.ifCond .ne 6, 3) := by decide +kernel
theorem dX7_excess_89 : decode cX7_excess 89 = .ok (.ldc 195, 2) := by decide +kernel
theorem dX7_excess_91 : decode cX7_excess 91 = .ok (.ireturn, 1) := by decide +kernel
theorem dX7_excess_92 : decode cX7_excess 92 = .ok (.aload_n 0, 1) := by decide +kernel
theorem dX7_excess_93 : decode cX7_excess 93 = .ok (.getfield 10, 3) := by decide +kernel
theorem dX7_excess_96 : decode cX7_excess 96 = .ok (.iload_n 1, 1) := by decide +kernel
theorem dX7_excess_97 : decode cX7_excess 97 = .ok (.iload_n 2, 1) := by decide +kernel
theorem dX7_excess_98 : decode cX7_excess 98 = .ok (.iload_n 3, 1) := by decide +kernel
theorem dX7_excess_99 : decode cX7_excess 99 = .ok (.invokevirtual 123, 3) := by decide +kernel
theorem dX7_excess_102 : decode cX7_excess 102 = .ok (.istore 8, 2) := by decide +kernel
theorem dX7_excess_104 : decode cX7_excess 104 = .ok (.aload_n 0, 1) := by decide +kernel
theorem dX7_excess_105 : decode cX7_excess 105 = .ok (.getfield 10, 3) := by decide +kernel
theorem dX7_excess_108 : decode cX7_excess 108 = .ok (.iload_n 1, 1) := by decide +kernel
theorem dX7_excess_109 : decode cX7_excess 109 = .ok (.iload_n 2, 1) := by decide +kernel
theorem dX7_excess_110 : decode cX7_excess 110 = .ok (.iload 4, 2) := by decide +kernel
theorem dX7_excess_112 : decode cX7_excess 112 = .ok (.invokevirtual 123, 3) := by decide +kernel
theorem dX7_excess_115 : decode cX7_excess 115 = .ok (.istore 9, 2) := by decide +kernel
theorem dX7_excess_117 : decode cX7_excess 117 = .ok (.aload_n 0, 1) := by decide +kernel
theorem dX7_excess_118 : decode cX7_excess 118 = .ok (.getfield 33, 3) := by decide +kernel
theorem dX7_excess_121 : decode cX7_excess 121 = .ok (.aload_n 0, 1) := by decide +kernel
theorem dX7_excess_122 : decode cX7_excess 122 = .ok (.getfield 10, 3) := by decide +kernel
theorem dX7_excess_125 : decode cX7_excess 125 = .ok (.iload 9, 2) := by decide +kernel
theorem dX7_excess_127 : decode cX7_excess 127 = .ok (.iload 5, 2) := by decide +kernel
theorem dX7_excess_129 : decode cX7_excess 129 = .ok (.iload 7, 2) := by decide +kernel
theorem dX7_excess_131 : decode cX7_excess 131 = .ok (.invokevirtual 123, 3) := by decide +kernel
theorem dX7_excess_134 : decode cX7_excess 134 = .ok (.invokevirtual 192, 3) := by decide +kernel
theorem dX7_excess_137 : decode cX7_excess 137 = .ok (.istore 10, 2) := by decide +kernel
theorem dX7_excess_139 : decode cX7_excess 139 = .ok (.aload_n 0, 1) := by decide +kernel
theorem dX7_excess_140 : decode cX7_excess 140 = .ok (.getfield 33, 3) := by decide +kernel
theorem dX7_excess_143 : decode cX7_excess 143 = .ok (.aload_n 0, 1) := by decide +kernel
theorem dX7_excess_144 : decode cX7_excess 144 = .ok (.getfield 10, 3) := by decide +kernel
theorem dX7_excess_147 : decode cX7_excess 147 = .ok (.iload 9, 2) := by decide +kernel
theorem dX7_excess_149 : decode cX7_excess 149 = .ok (.iload 5, 2) := by decide +kernel
theorem dX7_excess_151 : decode cX7_excess 151 = .ok (.iload 6, 2) := by decide +kernel
theorem dX7_excess_153 : decode cX7_excess 153 = .ok (.invokevirtual 123, 3) := by decide +kernel
theorem dX7_excess_156 : decode cX7_excess 156 = .ok (.invokevirtual 192, 3) := by decide +kernel
theorem dX7_excess_159 : decode cX7_excess 159 = .ok (.istore 11, 2) := by decide +kernel
theorem dX7_excess_161 : decode cX7_excess 161 = .ok (.aload_n 0, 1) := by decide +kernel
theorem dX7_excess_162 : decode cX7_excess 162 = .ok (.getfield 33, 3) := by decide +kernel
theorem dX7_excess_165 : decode cX7_excess 165 = .ok (.aload_n 0, 1) := by decide +kernel
theorem dX7_excess_166 : decode cX7_excess 166 = .ok (.getfield 10, 3) := by decide +kernel
theorem dX7_excess_169 : decode cX7_excess 169 = .ok (.iload 8, 2) := by decide +kernel
theorem dX7_excess_171 : decode cX7_excess 171 = .ok (.iload 5, 2) := by decide +kernel
theorem dX7_excess_173 : decode cX7_excess 173 = .ok (.iload 7, 2) := by decide +kernel
theorem dX7_excess_175 : decode cX7_excess 175 = .ok (.invokevirtual 123, 3) := by decide +kernel
theorem dX7_excess_178 : decode cX7_excess 178 = .ok (.invokevirtual 192, 3) := by decide +kernel
theorem dX7_excess_181 : decode cX7_excess 181 = .ok (.istore 12, 2) := by decide +kernel
theorem dX7_excess_183 : decode cX7_excess 183 = .ok (.aload_n 0, 1) := by decide +kernel
theorem dX7_excess_184 : decode cX7_excess 184 = .ok (.getfield 33, 3) := by decide +kernel
theorem dX7_excess_187 : decode cX7_excess 187 = .ok (.aload_n 0, 1) := by decide +kernel
theorem dX7_excess_188 : decode cX7_excess 188 = .ok (.getfield 10, 3) := by decide +kernel
theorem dX7_excess_191 : decode cX7_excess 191 = .ok (.iload 8, 2) := by decide +kernel
theorem dX7_excess_193 : decode cX7_excess 193 = .ok (.iload 5, 2) := by decide +kernel
theorem dX7_excess_195 : decode cX7_excess 195 = .ok (.iload 6, 2) := by decide +kernel
theorem dX7_excess_197 : decode cX7_excess 197 = .ok (.invokevirtual 123, 3) := by decide +kernel
theorem dX7_excess_200 : decode cX7_excess 200 = .ok (.invokevirtual 192, 3) := by decide +kernel
theorem dX7_excess_203 : decode cX7_excess 203 = .ok (.istore 13, 2) := by decide +kernel
theorem dX7_excess_205 : decode cX7_excess 205 = .ok (.iload 10, 2) := by decide +kernel
theorem dX7_excess_207 : decode cX7_excess 207 = .ok (.bipush (-4), 2) := by decide +kernel
theorem dX7_excess_209 : decode cX7_excess 209 = .ok (.if_icmp .eq 24, 3) := by decide +kernel
theorem dX7_excess_212 : decode cX7_excess 212 = .ok (.iload 11, 2) := by decide +kernel
theorem dX7_excess_214 : decode cX7_excess 214 = .ok (.bipush (-4), 2) := by decide +kernel
theorem dX7_excess_216 : decode cX7_excess 216 = .ok (.if_icmp .eq 17, 3) := by decide +kernel
theorem dX7_excess_219 : decode cX7_excess 219 = .ok (.iload 12, 2) := by decide +kernel
theorem dX7_excess_221 : decode cX7_excess 221 = .ok (.bipush (-4), 2) := by decide +kernel
theorem dX7_excess_223 : decode cX7_excess 223 = .ok (.if_icmp .eq 10, 3) := by decide +kernel
theorem dX7_excess_226 : decode cX7_excess 226 = .ok (.iload 13, 2) := by decide +kernel
theorem dX7_excess_228 : decode cX7_excess 228 = .ok (.bipush (-4), 2) := by decide +kernel
theorem dX7_excess_230 : decode cX7_excess 230 = .ok (.if_icmp .ne 6, 3) := by decide +kernel
theorem dX7_excess_233 : decode cX7_excess 233 = .ok (.ldc 196, 2) := by decide +kernel
theorem dX7_excess_235 : decode cX7_excess 235 = .ok (.ireturn, 1) := by decide +kernel
theorem dX7_excess_236 : decode cX7_excess 236 = .ok (.aload_n 0, 1) := by decide +kernel
theorem dX7_excess_237 : decode cX7_excess 237 = .ok (.getfield 33, 3) := by decide +kernel
theorem dX7_excess_240 : decode cX7_excess 240 = .ok (.iload 10, 2) := by decide +kernel
theorem dX7_excess_242 : decode cX7_excess 242 = .ok (.invokevirtual 155, 3) := by decide +kernel
theorem dX7_excess_245 : decode cX7_excess 245 = .ok (.aload_n 0, 1) := by decide +kernel
theorem dX7_excess_246 : decode cX7_excess 246 = .ok (.getfield 33, 3) := by decide +kernel
theorem dX7_excess_249 : decode cX7_excess 249 = .ok (.iload 11, 2) := by decide +kernel
theorem dX7_excess_251 : decode cX7_excess 251 = .ok (.invokevirtual 155, 3) := by decide +kernel
theorem dX7_excess_254 : decode cX7_excess 254 = .ok (.isub, 1) := by decide +kernel
theorem dX7_excess_255 : decode cX7_excess 255 = .ok (.aload_n 0, 1) := by decide +kernel
theorem dX7_excess_256 : decode cX7_excess 256 = .ok (.getfield 33, 3) := by decide +kernel
theorem dX7_excess_259 : decode cX7_excess 259 = .ok (.iload 12, 2) := by decide +kernel
theorem dX7_excess_261 : decode cX7_excess 261 = .ok (.invokevirtual 155, 3) := by decide +kernel
theorem dX7_excess_264 : decode cX7_excess 264 = .ok (.isub, 1) := by decide +kernel
theorem dX7_excess_265 : decode cX7_excess 265 = .ok (.aload_n 0, 1) := by decide +kernel
theorem dX7_excess_266 : decode cX7_excess 266 = .ok (.getfield 33, 3) := by decide +kernel
theorem dX7_excess_269 : decode cX7_excess 269 = .ok (.iload 13, 2) := by decide +kernel
theorem dX7_excess_271 : decode cX7_excess 271 = .ok (.invokevirtual 155, 3) := by decide +kernel
theorem dX7_excess_274 : decode cX7_excess 274 = .ok (.iadd, 1) := by decide +kernel
theorem dX7_excess_275 : decode cX7_excess 275 = .ok (.ireturn, 1) := by decide +kernel
theorem dX7_joint_0 : decode cX7_joint 0 = .ok (.aload_n 0, 1) := by decide +kernel
theorem dX7_joint_1 : decode cX7_joint 1 = .ok (.iload_n 1, 1) := by decide +kernel
theorem dX7_joint_2 : decode cX7_joint 2 = .ok (.iload_n 2, 1) := by decide +kernel
theorem dX7_joint_3 : decode cX7_joint 3 = .ok (.iload_n 3, 1) := by decide +kernel
theorem dX7_joint_4 : decode cX7_joint 4 = .ok (.iload 4, 2) := by decide +kernel
theorem dX7_joint_6 : decode cX7_joint 6 = .ok (.iload 5, 2) := by decide +kernel
theorem dX7_joint_8 : decode cX7_joint 8 = .ok (.iload 6, 2) := by decide +kernel
theorem dX7_joint_10 : decode cX7_joint 10 = .ok (.iload 7, 2) := by decide +kernel
theorem dX7_joint_12 : decode cX7_joint 12 = .ok (.invokevirtual 197, 3) := by decide +kernel
theorem dX7_joint_15 : decode cX7_joint 15 = .ok (.istore 8, 2) := by decide +kernel
theorem dX7_joint_17 : decode cX7_joint 17 = .ok (.iload 8, 2) := by decide +kernel
theorem dX7_joint_19 : decode cX7_joint 19 = .ok (.ldc 195, 2) := by decide +kernel
theorem dX7_joint_21 : decode cX7_joint 21 = .ok (.if_icmp .ne 5, 3) := by decide +kernel
theorem dX7_joint_24 : decode cX7_joint 24 = .ok (.iconst (-1), 1) := by decide +kernel
theorem dX7_joint_25 : decode cX7_joint 25 = .ok (.ireturn, 1) := by decide +kernel
theorem dX7_joint_26 : decode cX7_joint 26 = .ok (.iload 8, 2) := by decide +kernel
theorem dX7_joint_28 : decode cX7_joint 28 = .ok (.ldc 196, 2) := by decide +kernel
theorem dX7_joint_30 : decode cX7_joint 30 = .ok (.if_icmp .ne 6, 3) := by decide +kernel
theorem dX7_joint_33 : decode cX7_joint 33 = .ok (.bipush (-2), 2) := by decide +kernel
theorem dX7_joint_35 : decode cX7_joint 35 = .ok (.ireturn, 1) := by decide +kernel
theorem dX7_joint_36 : decode cX7_joint 36 = .ok (.iconst 4, 1) := by decide +kernel
theorem dX7_joint_37 : decode cX7_joint 37 = .ok (.aload_n 0, 1) := by decide +kernel
theorem dX7_joint_38 : decode cX7_joint 38 = .ok (.getfield 33, 3) := by decide +kernel
theorem dX7_joint_41 : decode cX7_joint 41 = .ok (.invokevirtual 201, 3) := by decide +kernel
theorem dX7_joint_44 : decode cX7_joint 44 = .ok (.imul, 1) := by decide +kernel
theorem dX7_joint_45 : decode cX7_joint 45 = .ok (.istore 9, 2) := by decide +kernel
theorem dX7_joint_47 : decode cX7_joint 47 = .ok (.iload 8, 2) := by decide +kernel
theorem dX7_joint_49 : decode cX7_joint 49 = .ok (.iload 9, 2) := by decide +kernel
theorem dX7_joint_51 : decode cX7_joint 51 = .ok (.if_icmp .gt 11, 3) := by decide +kernel
theorem dX7_joint_54 : decode cX7_joint 54 = .ok (.iload 8, 2) := by decide +kernel
theorem dX7_joint_56 : decode cX7_joint 56 = .ok (.iload 9, 2) := by decide +kernel
theorem dX7_joint_58 : decode cX7_joint 58 = .ok (.ineg, 1) := by decide +kernel
theorem dX7_joint_59 : decode cX7_joint 59 = .ok (.if_icmp .ge 7, 3) := by decide +kernel
theorem dX7_joint_62 : decode cX7_joint 62 = .ok (.iconst 1, 1) := by decide +kernel
theorem dX7_joint_63 : decode cX7_joint 63 = .ok (.goto 4, 3) := by decide +kernel
theorem dX7_joint_66 : decode cX7_joint 66 = .ok (.iconst 0, 1) := by decide +kernel
theorem dX7_joint_67 : decode cX7_joint 67 = .ok (.ireturn, 1) := by decide +kernel
theorem dX7_odds_0 : decode cX7_odds 0 = .ok (.aload_n 0, 1) := by decide +kernel
theorem dX7_odds_1 : decode cX7_odds 1 = .ok (.iload_n 1, 1) := by decide +kernel
theorem dX7_odds_2 : decode cX7_odds 2 = .ok (.iload_n 2, 1) := by decide +kernel
theorem dX7_odds_3 : decode cX7_odds 3 = .ok (.invokevirtual 204, 3) := by decide +kernel
theorem dX7_odds_6 : decode cX7_odds 6 = .ok (.ifCond .eq 12, 3) := by decide +kernel
theorem dX7_odds_9 : decode cX7_odds 9 = .ok (.iload_n 3, 1) := by decide +kernel
theorem dX7_odds_10 : decode cX7_odds 10 = .ok (.iconst 0, 1) := by decide +kernel
theorem dX7_odds_11 : decode cX7_odds 11 = .ok (.iconst 1, 1) := by decide +kernel
theorem dX7_odds_12 : decode cX7_odds 12 = .ok (.invokestatic 58, 3) := by decide +kernel
theorem dX7_odds_15 : decode cX7_odds 15 = .ok (.ifCond .ne 5, 3) := by decide +kernel
theorem dX7_odds_18 : decode cX7_odds 18 = .ok (.iconst (-1), 1) := by decide +kernel
theorem dX7_odds_19 : decode cX7_odds 19 = .ok (.ireturn, 1) := by decide +kernel
theorem dX7_odds_20 : decode cX7_odds 20 = .ok (.aload_n 0, 1) := by decide +kernel
theorem dX7_odds_21 : decode cX7_odds 21 = .ok (.iload_n 1, 1) := by decide +kernel
theorem dX7_odds_22 : decode cX7_odds 22 = .ok (.iload_n 2, 1) := by decide +kernel
theorem dX7_odds_23 : decode cX7_odds 23 = .ok (.invokevirtual 207, 3) := by decide +kernel
theorem dX7_odds_26 : decode cX7_odds 26 = .ok (.ifCond .ne 6, 3) := by decide +kernel
theorem dX7_odds_29 : decode cX7_odds 29 = .ok (.bipush (-2), 2) := by decide +kernel
theorem dX7_odds_31 : decode cX7_odds 31 = .ok (.ireturn, 1) := by decide +kernel
theorem dX7_odds_32 : decode cX7_odds 32 = .ok (.aload_n 0, 1) := by decide +kernel
theorem dX7_odds_33 : decode cX7_odds 33 = .ok (.getfield 54, 3) := by decide +kernel
theorem dX7_odds_36 : decode cX7_odds 36 = .ok (.iload_n 1, 1) := by decide +kernel
theorem dX7_odds_37 : decode cX7_odds 37 = .ok (.iload_n 2, 1) := by decide +kernel
theorem dX7_odds_38 : decode cX7_odds 38 = .ok (.aload_n 0, 1) := by decide +kernel
theorem dX7_odds_39 : decode cX7_odds 39 = .ok (.getfield 33, 3) := by decide +kernel
theorem dX7_odds_42 : decode cX7_odds 42 = .ok (.invokevirtual 210, 3) := by decide +kernel
theorem dX7_odds_45 : decode cX7_odds 45 = .ok (.iload_n 3, 1) := by decide +kernel
theorem dX7_odds_46 : decode cX7_odds 46 = .ok (.ifCond .ne 13, 3) := by decide +kernel
theorem dX7_odds_49 : decode cX7_odds 49 = .ok (.aload_n 0, 1) := by decide +kernel
theorem dX7_odds_50 : decode cX7_odds 50 = .ok (.getfield 54, 3) := by decide +kernel
theorem dX7_odds_53 : decode cX7_odds 53 = .ok (.invokevirtual 214, 3) := by decide +kernel
theorem dX7_odds_56 : decode cX7_odds 56 = .ok (.goto 10, 3) := by decide +kernel
theorem dX7_odds_59 : decode cX7_odds 59 = .ok (.aload_n 0, 1) := by decide +kernel
theorem dX7_odds_60 : decode cX7_odds 60 = .ok (.getfield 54, 3) := by decide +kernel
theorem dX7_odds_63 : decode cX7_odds 63 = .ok (.invokevirtual 217, 3) := by decide +kernel
theorem dX7_odds_66 : decode cX7_odds 66 = .ok (.ireturn, 1) := by decide +kernel
theorem dX7_safe_0 : decode cX7_safe 0 = .ok (.aload_n 0, 1) := by decide +kernel
theorem dX7_safe_1 : decode cX7_safe 1 = .ok (.iload_n 1, 1) := by decide +kernel
theorem dX7_safe_2 : decode cX7_safe 2 = .ok (.iload_n 2, 1) := by decide +kernel
theorem dX7_safe_3 : decode cX7_safe 3 = .ok (.invokevirtual 204, 3) := by decide +kernel
theorem dX7_safe_6 : decode cX7_safe 6 = .ok (.ifCond .eq 26, 3) := by decide +kernel
theorem dX7_safe_9 : decode cX7_safe 9 = .ok (.iload_n 3, 1) := by decide +kernel
theorem dX7_safe_10 : decode cX7_safe 10 = .ok (.iconst 0, 1) := by decide +kernel
theorem dX7_safe_11 : decode cX7_safe 11 = .ok (.sipush 1000, 3) := by decide +kernel
theorem dX7_safe_14 : decode cX7_safe 14 = .ok (.invokestatic 58, 3) := by decide +kernel
theorem dX7_safe_17 : decode cX7_safe 17 = .ok (.ifCond .eq 15, 3) := by decide +kernel
theorem dX7_safe_20 : decode cX7_safe 20 = .ok (.iload 4, 2) := by decide +kernel
theorem dX7_safe_22 : decode cX7_safe 22 = .ok (.iconst 1, 1) := by decide +kernel
theorem dX7_safe_23 : decode cX7_safe 23 = .ok (.sipush 1000, 3) := by decide +kernel
theorem dX7_safe_26 : decode cX7_safe 26 = .ok (.invokestatic 58, 3) := by decide +kernel
theorem dX7_safe_29 : decode cX7_safe 29 = .ok (.ifCond .ne 5, 3) := by decide +kernel
theorem dX7_safe_32 : decode cX7_safe 32 = .ok (.iconst (-1), 1) := by decide +kernel
theorem dX7_safe_33 : decode cX7_safe 33 = .ok (.ireturn, 1) := by decide +kernel
theorem dX7_safe_34 : decode cX7_safe 34 = .ok (.aload_n 0, 1) := by decide +kernel
theorem dX7_safe_35 : decode cX7_safe 35 = .ok (.iload_n 1, 1) := by decide +kernel
theorem dX7_safe_36 : decode cX7_safe 36 = .ok (.iload_n 2, 1) := by decide +kernel
theorem dX7_safe_37 : decode cX7_safe 37 = .ok (.invokevirtual 207, 3) := by decide +kernel
theorem dX7_safe_40 : decode cX7_safe 40 = .ok (.ifCond .ne 6, 3) := by decide +kernel
theorem dX7_safe_43 : decode cX7_safe 43 = .ok (.bipush (-2), 2) := by decide +kernel
theorem dX7_safe_45 : decode cX7_safe 45 = .ok (.ireturn, 1) := by decide +kernel
theorem dX7_safe_46 : decode cX7_safe 46 = .ok (.aload_n 0, 1) := by decide +kernel
theorem dX7_safe_47 : decode cX7_safe 47 = .ok (.getfield 54, 3) := by decide +kernel
theorem dX7_safe_50 : decode cX7_safe 50 = .ok (.iload_n 1, 1) := by decide +kernel
theorem dX7_safe_51 : decode cX7_safe 51 = .ok (.iload_n 2, 1) := by decide +kernel
theorem dX7_safe_52 : decode cX7_safe 52 = .ok (.aload_n 0, 1) := by decide +kernel
theorem dX7_safe_53 : decode cX7_safe 53 = .ok (.getfield 33, 3) := by decide +kernel
theorem dX7_safe_56 : decode cX7_safe 56 = .ok (.invokevirtual 210, 3) := by decide +kernel
theorem dX7_safe_59 : decode cX7_safe 59 = .ok (.aload_n 0, 1) := by decide +kernel
theorem dX7_safe_60 : decode cX7_safe 60 = .ok (.getfield 54, 3) := by decide +kernel
theorem dX7_safe_63 : decode cX7_safe 63 = .ok (.invokevirtual 214, 3) := by decide +kernel
theorem dX7_safe_66 : decode cX7_safe 66 = .ok (.iload 4, 2) := by decide +kernel
theorem dX7_safe_68 : decode cX7_safe 68 = .ok (.imul, 1) := by decide +kernel
theorem dX7_safe_69 : decode cX7_safe 69 = .ok (.aload_n 0, 1) := by decide +kernel
theorem dX7_safe_70 : decode cX7_safe 70 = .ok (.getfield 54, 3) := by decide +kernel
theorem dX7_safe_73 : decode cX7_safe 73 = .ok (.invokevirtual 217, 3) := by decide +kernel
theorem dX7_safe_76 : decode cX7_safe 76 = .ok (.iload_n 3, 1) := by decide +kernel
theorem dX7_safe_77 : decode cX7_safe 77 = .ok (.imul, 1) := by decide +kernel
theorem dX7_safe_78 : decode cX7_safe 78 = .ok (.if_icmp .gt 7, 3) := by decide +kernel
theorem dX7_safe_81 : decode cX7_safe 81 = .ok (.iconst 1, 1) := by decide +kernel
theorem dX7_safe_82 : decode cX7_safe 82 = .ok (.goto 4, 3) := by decide +kernel
theorem dX7_safe_85 : decode cX7_safe 85 = .ok (.iconst 0, 1) := by decide +kernel
theorem dX7_safe_86 : decode cX7_safe 86 = .ok (.ireturn, 1) := by decide +kernel
theorem dX7_back_0 : decode cX7_back 0 = .ok (.aload_n 0, 1) := by decide +kernel
theorem dX7_back_1 : decode cX7_back 1 = .ok (.getfield 10, 3) := by decide +kernel
theorem dX7_back_4 : decode cX7_back 4 = .ok (.iload_n 1, 1) := by decide +kernel
theorem dX7_back_5 : decode cX7_back 5 = .ok (.invokevirtual 120, 3) := by decide +kernel
theorem dX7_back_8 : decode cX7_back 8 = .ok (.ifCond .eq 14, 3) := by decide +kernel
theorem dX7_back_11 : decode cX7_back 11 = .ok (.aload_n 0, 1) := by decide +kernel
theorem dX7_back_12 : decode cX7_back 12 = .ok (.getfield 10, 3) := by decide +kernel
theorem dX7_back_15 : decode cX7_back 15 = .ok (.iload_n 2, 1) := by decide +kernel
theorem dX7_back_16 : decode cX7_back 16 = .ok (.invokevirtual 120, 3) := by decide +kernel
theorem dX7_back_19 : decode cX7_back 19 = .ok (.ifCond .ne 5, 3) := by decide +kernel
theorem dX7_back_22 : decode cX7_back 22 = .ok (.iconst (-1), 1) := by decide +kernel
theorem dX7_back_23 : decode cX7_back 23 = .ok (.ireturn, 1) := by decide +kernel
theorem dX7_back_24 : decode cX7_back 24 = .ok (.aload_n 0, 1) := by decide +kernel
theorem dX7_back_25 : decode cX7_back 25 = .ok (.getfield 26, 3) := by decide +kernel
theorem dX7_back_28 : decode cX7_back 28 = .ok (.iload_n 1, 1) := by decide +kernel
theorem dX7_back_29 : decode cX7_back 29 = .ok (.aload_n 0, 1) := by decide +kernel
theorem dX7_back_30 : decode cX7_back 30 = .ok (.getfield 10, 3) := by decide +kernel
theorem dX7_back_33 : decode cX7_back 33 = .ok (.invokevirtual 139, 3) := by decide +kernel
theorem dX7_back_36 : decode cX7_back 36 = .ok (.istore_n 3, 1) := by decide +kernel
theorem dX7_back_37 : decode cX7_back 37 = .ok (.iload_n 1, 1) := by decide +kernel
theorem dX7_back_38 : decode cX7_back 38 = .ok (.istore 4, 2) := by decide +kernel
theorem dX7_back_40 : decode cX7_back 40 = .ok (.iconst 0, 1) := by decide +kernel
theorem dX7_back_41 : decode cX7_back 41 = .ok (.istore 5, 2) := by decide +kernel
theorem dX7_back_43 : decode cX7_back 43 = .ok (.iload 5, 2) := by decide +kernel
theorem dX7_back_45 : decode cX7_back 45 = .ok (.aload_n 0, 1) := by decide +kernel
theorem dX7_back_46 : decode cX7_back 46 = .ok (.getfield 10, 3) := by decide +kernel
theorem dX7_back_49 : decode cX7_back 49 = .ok (.invokevirtual 220, 3) := by decide +kernel
theorem dX7_back_52 : decode cX7_back 52 = .ok (.if_icmp .ge 69, 3) := by decide +kernel
theorem dX7_back_55 : decode cX7_back 55 = .ok (.aload_n 0, 1) := by decide +kernel
theorem dX7_back_56 : decode cX7_back 56 = .ok (.getfield 10, 3) := by decide +kernel
theorem dX7_back_59 : decode cX7_back 59 = .ok (.iload 4, 2) := by decide +kernel
theorem dX7_back_61 : decode cX7_back 61 = .ok (.iload 5, 2) := by decide +kernel
theorem dX7_back_63 : decode cX7_back 63 = .ok (.aload_n 0, 1) := by decide +kernel
theorem dX7_back_64 : decode cX7_back 64 = .ok (.getfield 10, 3) := by decide +kernel
theorem dX7_back_67 : decode cX7_back 67 = .ok (.iload_n 2, 1) := by decide +kernel
theorem dX7_back_68 : decode cX7_back 68 = .ok (.iload 5, 2) := by decide +kernel
theorem dX7_back_70 : decode cX7_back 70 = .ok (.invokevirtual 126, 3) := by decide +kernel
theorem dX7_back_73 : decode cX7_back 73 = .ok (.invokevirtual 123, 3) := by decide +kernel
theorem dX7_back_76 : decode cX7_back 76 = .ok (.istore 6, 2) := by decide +kernel
theorem dX7_back_78 : decode cX7_back 78 = .ok (.aload_n 0, 1) := by decide +kernel
theorem dX7_back_79 : decode cX7_back 79 = .ok (.getfield 19, 3) := by decide +kernel
theorem dX7_back_82 : decode cX7_back 82 = .ok (.iload 6, 2) := by decide +kernel
theorem dX7_back_84 : decode cX7_back 84 = .ok (.aload_n 0, 1) := by decide +kernel
theorem dX7_back_85 : decode cX7_back 85 = .ok (.getfield 10, 3) := by decide +kernel
theorem dX7_back_88 : decode cX7_back 88 = .ok (.invokevirtual 129, 3) := by decide +kernel
theorem dX7_back_91 : decode cX7_back 91 = .ok (.ifCond .eq 24, 3) := by decide +kernel
theorem dX7_back_94 : decode cX7_back 94 = .ok (.aload_n 0, 1) := by decide +kernel
theorem dX7_back_95 : decode cX7_back 95 = .ok (.getfield 26, 3) := by decide +kernel
theorem dX7_back_98 : decode cX7_back 98 = .ok (.iload 6, 2) := by decide +kernel
theorem dX7_back_100 : decode cX7_back 100 = .ok (.aload_n 0, 1) := by decide +kernel
theorem dX7_back_101 : decode cX7_back 101 = .ok (.getfield 10, 3) := by decide +kernel
theorem dX7_back_104 : decode cX7_back 104 = .ok (.invokevirtual 139, 3) := by decide +kernel
theorem dX7_back_107 : decode cX7_back 107 = .ok (.iload_n 3, 1) := by decide +kernel
theorem dX7_back_108 : decode cX7_back 108 = .ok (.if_icmp .ne 7, 3) := by decide +kernel
theorem dX7_back_111 : decode cX7_back 111 = .ok (.iload 6, 2) := by decide +kernel
theorem dX7_back_113 : decode cX7_back 113 = .ok (.istore 4, 2) := by decide +kernel
theorem dX7_back_115 : decode cX7_back 115 = .ok (.iinc 5 1, 3) := by decide +kernel
theorem dX7_back_118 : decode cX7_back 118 = .ok (.goto (-75), 3) := by decide +kernel
theorem dX7_back_121 : decode cX7_back 121 = .ok (.iload 4, 2) := by decide +kernel
theorem dX7_back_123 : decode cX7_back 123 = .ok (.ireturn, 1) := by decide +kernel
theorem dX7_count_0 : decode cX7_count 0 = .ok (.iload_n 1, 1) := by decide +kernel
theorem dX7_count_1 : decode cX7_count 1 = .ok (.tableswitch 87 0 5 #[39, 47, 55, 63, 71, 79], 39) := by decide +kernel
theorem dX7_count_40 : decode cX7_count 40 = .ok (.aload_n 0, 1) := by decide +kernel
theorem dX7_count_41 : decode cX7_count 41 = .ok (.getfield 10, 3) := by decide +kernel
theorem dX7_count_44 : decode cX7_count 44 = .ok (.invokevirtual 220, 3) := by decide +kernel
theorem dX7_count_47 : decode cX7_count 47 = .ok (.ireturn, 1) := by decide +kernel
theorem dX7_count_48 : decode cX7_count 48 = .ok (.aload_n 0, 1) := by decide +kernel
theorem dX7_count_49 : decode cX7_count 49 = .ok (.getfield 10, 3) := by decide +kernel
theorem dX7_count_52 : decode cX7_count 52 = .ok (.invokevirtual 221, 3) := by decide +kernel
theorem dX7_count_55 : decode cX7_count 55 = .ok (.ireturn, 1) := by decide +kernel
theorem dX7_count_56 : decode cX7_count 56 = .ok (.aload_n 0, 1) := by decide +kernel
theorem dX7_count_57 : decode cX7_count 57 = .ok (.getfield 19, 3) := by decide +kernel
theorem dX7_count_60 : decode cX7_count 60 = .ok (.invokevirtual 95, 3) := by decide +kernel
theorem dX7_count_63 : decode cX7_count 63 = .ok (.ireturn, 1) := by decide +kernel
theorem dX7_count_64 : decode cX7_count 64 = .ok (.aload_n 0, 1) := by decide +kernel
theorem dX7_count_65 : decode cX7_count 65 = .ok (.getfield 33, 3) := by decide +kernel
theorem dX7_count_68 : decode cX7_count 68 = .ok (.invokevirtual 151, 3) := by decide +kernel
theorem dX7_count_71 : decode cX7_count 71 = .ok (.ireturn, 1) := by decide +kernel
theorem dX7_count_72 : decode cX7_count 72 = .ok (.aload_n 0, 1) := by decide +kernel
theorem dX7_count_73 : decode cX7_count 73 = .ok (.getfield 33, 3) := by decide +kernel
theorem dX7_count_76 : decode cX7_count 76 = .ok (.invokevirtual 224, 3) := by decide +kernel
theorem dX7_count_79 : decode cX7_count 79 = .ok (.ireturn, 1) := by decide +kernel
theorem dX7_count_80 : decode cX7_count 80 = .ok (.aload_n 0, 1) := by decide +kernel
theorem dX7_count_81 : decode cX7_count 81 = .ok (.getfield 33, 3) := by decide +kernel
theorem dX7_count_84 : decode cX7_count 84 = .ok (.invokevirtual 201, 3) := by decide +kernel
theorem dX7_count_87 : decode cX7_count 87 = .ok (.ireturn, 1) := by decide +kernel
theorem dX7_count_88 : decode cX7_count 88 = .ok (.iconst (-1), 1) := by decide +kernel
theorem dX7_count_89 : decode cX7_count 89 = .ok (.ireturn, 1) := by decide +kernel
theorem dX7_isWithin_0 : decode cX7_isWithin 0 = .ok (.iload_n 0, 1) := by decide +kernel
theorem dX7_isWithin_1 : decode cX7_isWithin 1 = .ok (.iload_n 1, 1) := by decide +kernel
theorem dX7_isWithin_2 : decode cX7_isWithin 2 = .ok (.if_icmp .lt 12, 3) := by decide +kernel
theorem dX7_isWithin_5 : decode cX7_isWithin 5 = .ok (.iload_n 0, 1) := by decide +kernel
theorem dX7_isWithin_6 : decode cX7_isWithin 6 = .ok (.iload_n 2, 1) := by decide +kernel
theorem dX7_isWithin_7 : decode cX7_isWithin 7 = .ok (.if_icmp .gt 7, 3) := by decide +kernel
theorem dX7_isWithin_10 : decode cX7_isWithin 10 = .ok (.iconst 1, 1) := by decide +kernel
theorem dX7_isWithin_11 : decode cX7_isWithin 11 = .ok (.goto 4, 3) := by decide +kernel
theorem dX7_isWithin_14 : decode cX7_isWithin 14 = .ok (.iconst 0, 1) := by decide +kernel
theorem dX7_isWithin_15 : decode cX7_isWithin 15 = .ok (.ireturn, 1) := by decide +kernel
theorem dX7_areTwoSettings_0 : decode cX7_areTwoSettings 0 = .ok (.aload_n 0, 1) := by decide +kernel
theorem dX7_areTwoSettings_1 : decode cX7_areTwoSettings 1 = .ok (.getfield 10, 3) := by decide +kernel
theorem dX7_areTwoSettings_4 : decode cX7_areTwoSettings 4 = .ok (.iload_n 1, 1) := by decide +kernel
theorem dX7_areTwoSettings_5 : decode cX7_areTwoSettings 5 = .ok (.invokevirtual 120, 3) := by decide +kernel
theorem dX7_areTwoSettings_8 : decode cX7_areTwoSettings 8 = .ok (.ifCond .eq 23, 3) := by decide +kernel
theorem dX7_areTwoSettings_11 : decode cX7_areTwoSettings 11 = .ok (.aload_n 0, 1) := by decide +kernel
theorem dX7_areTwoSettings_12 : decode cX7_areTwoSettings 12 = .ok (.getfield 10, 3) := by decide +kernel
theorem dX7_areTwoSettings_15 : decode cX7_areTwoSettings 15 = .ok (.iload_n 2, 1) := by decide +kernel
theorem dX7_areTwoSettings_16 : decode cX7_areTwoSettings 16 = .ok (.invokevirtual 120, 3) := by decide +kernel
theorem dX7_areTwoSettings_19 : decode cX7_areTwoSettings 19 = .ok (.ifCond .eq 12, 3) := by decide +kernel
theorem dX7_areTwoSettings_22 : decode cX7_areTwoSettings 22 = .ok (.iload_n 1, 1) := by decide +kernel
theorem dX7_areTwoSettings_23 : decode cX7_areTwoSettings 23 = .ok (.iload_n 2, 1) := by decide +kernel
theorem dX7_areTwoSettings_24 : decode cX7_areTwoSettings 24 = .ok (.if_icmp .eq 7, 3) := by decide +kernel
theorem dX7_areTwoSettings_27 : decode cX7_areTwoSettings 27 = .ok (.iconst 1, 1) := by decide +kernel
theorem dX7_areTwoSettings_28 : decode cX7_areTwoSettings 28 = .ok (.goto 4, 3) := by decide +kernel
theorem dX7_areTwoSettings_31 : decode cX7_areTwoSettings 31 = .ok (.iconst 0, 1) := by decide +kernel
theorem dX7_areTwoSettings_32 : decode cX7_areTwoSettings 32 = .ok (.ireturn, 1) := by decide +kernel
theorem dX7_wereBothTried_0 : decode cX7_wereBothTried 0 = .ok (.aload_n 0, 1) := by decide +kernel
theorem dX7_wereBothTried_1 : decode cX7_wereBothTried 1 = .ok (.getfield 33, 3) := by decide +kernel
theorem dX7_wereBothTried_4 : decode cX7_wereBothTried 4 = .ok (.iload_n 1, 1) := by decide +kernel
theorem dX7_wereBothTried_5 : decode cX7_wereBothTried 5 = .ok (.invokevirtual 192, 3) := by decide +kernel
theorem dX7_wereBothTried_8 : decode cX7_wereBothTried 8 = .ok (.bipush (-4), 2) := by decide +kernel
theorem dX7_wereBothTried_10 : decode cX7_wereBothTried 10 = .ok (.if_icmp .eq 20, 3) := by decide +kernel
theorem dX7_wereBothTried_13 : decode cX7_wereBothTried 13 = .ok (.aload_n 0, 1) := by decide +kernel
theorem dX7_wereBothTried_14 : decode cX7_wereBothTried 14 = .ok (.getfield 33, 3) := by decide +kernel
theorem dX7_wereBothTried_17 : decode cX7_wereBothTried 17 = .ok (.iload_n 2, 1) := by decide +kernel
theorem dX7_wereBothTried_18 : decode cX7_wereBothTried 18 = .ok (.invokevirtual 192, 3) := by decide +kernel
theorem dX7_wereBothTried_21 : decode cX7_wereBothTried 21 = .ok (.bipush (-4), 2) := by decide +kernel
theorem dX7_wereBothTried_23 : decode cX7_wereBothTried 23 = .ok (.if_icmp .eq 7, 3) := by decide +kernel
theorem dX7_wereBothTried_26 : decode cX7_wereBothTried 26 = .ok (.iconst 1, 1) := by decide +kernel
theorem dX7_wereBothTried_27 : decode cX7_wereBothTried 27 = .ok (.goto 4, 3) := by decide +kernel
theorem dX7_wereBothTried_30 : decode cX7_wereBothTried 30 = .ok (.iconst 0, 1) := by decide +kernel
theorem dX7_wereBothTried_31 : decode cX7_wereBothTried 31 = .ok (.ireturn, 1) := by decide +kernel
theorem dX7_bestSetting_0 : decode cX7_bestSetting 0 = .ok (.aload_n 0, 1) := by decide +kernel
theorem dX7_bestSetting_1 : decode cX7_bestSetting 1 = .ok (.getfield 40, 3) := by decide +kernel
theorem dX7_bestSetting_4 : decode cX7_bestSetting 4 = .ok (.aload_n 0, 1) := by decide +kernel
theorem dX7_bestSetting_5 : decode cX7_bestSetting 5 = .ok (.getfield 10, 3) := by decide +kernel
theorem dX7_bestSetting_8 : decode cX7_bestSetting 8 = .ok (.aload_n 0, 1) := by decide +kernel
theorem dX7_bestSetting_9 : decode cX7_bestSetting 9 = .ok (.getfield 19, 3) := by decide +kernel
theorem dX7_bestSetting_12 : decode cX7_bestSetting 12 = .ok (.invokevirtual 133, 3) := by decide +kernel
theorem dX7_bestSetting_15 : decode cX7_bestSetting 15 = .ok (.bipush (-4), 2) := by decide +kernel
theorem dX7_bestSetting_17 : decode cX7_bestSetting 17 = .ok (.istore_n 1, 1) := by decide +kernel
theorem dX7_bestSetting_18 : decode cX7_bestSetting 18 = .ok (.iconst 0, 1) := by decide +kernel
theorem dX7_bestSetting_19 : decode cX7_bestSetting 19 = .ok (.istore_n 2, 1) := by decide +kernel
theorem dX7_bestSetting_20 : decode cX7_bestSetting 20 = .ok (.iconst 0, 1) := by decide +kernel
theorem dX7_bestSetting_21 : decode cX7_bestSetting 21 = .ok (.istore_n 3, 1) := by decide +kernel
theorem dX7_bestSetting_22 : decode cX7_bestSetting 22 = .ok (.iload_n 3, 1) := by decide +kernel
theorem dX7_bestSetting_23 : decode cX7_bestSetting 23 = .ok (.aload_n 0, 1) := by decide +kernel
theorem dX7_bestSetting_24 : decode cX7_bestSetting 24 = .ok (.getfield 40, 3) := by decide +kernel
theorem dX7_bestSetting_27 : decode cX7_bestSetting 27 = .ok (.invokevirtual 137, 3) := by decide +kernel
theorem dX7_bestSetting_30 : decode cX7_bestSetting 30 = .ok (.if_icmp .ge 54, 3) := by decide +kernel
theorem dX7_bestSetting_33 : decode cX7_bestSetting 33 = .ok (.aload_n 0, 1) := by decide +kernel
theorem dX7_bestSetting_34 : decode cX7_bestSetting 34 = .ok (.getfield 26, 3) := by decide +kernel
theorem dX7_bestSetting_37 : decode cX7_bestSetting 37 = .ok (.aload_n 0, 1) := by decide +kernel
theorem dX7_bestSetting_38 : decode cX7_bestSetting 38 = .ok (.getfield 40, 3) := by decide +kernel
theorem dX7_bestSetting_41 : decode cX7_bestSetting 41 = .ok (.iload_n 3, 1) := by decide +kernel
theorem dX7_bestSetting_42 : decode cX7_bestSetting 42 = .ok (.invokevirtual 225, 3) := by decide +kernel
theorem dX7_bestSetting_45 : decode cX7_bestSetting 45 = .ok (.aload_n 0, 1) := by decide +kernel
theorem dX7_bestSetting_46 : decode cX7_bestSetting 46 = .ok (.getfield 10, 3) := by decide +kernel
theorem dX7_bestSetting_49 : decode cX7_bestSetting 49 = .ok (.invokevirtual 139, 3) := by decide +kernel
theorem dX7_bestSetting_52 : decode cX7_bestSetting 52 = .ok (.istore 4, 2) := by decide +kernel
theorem dX7_bestSetting_54 : decode cX7_bestSetting 54 = .ok (.iload_n 1, 1) := by decide +kernel
theorem dX7_bestSetting_55 : decode cX7_bestSetting 55 = .ok (.bipush (-4), 2) := by decide +kernel
theorem dX7_bestSetting_57 : decode cX7_bestSetting 57 = .ok (.if_icmp .eq 9, 3) := by decide +kernel
theorem dX7_bestSetting_60 : decode cX7_bestSetting 60 = .ok (.iload 4, 2) := by decide +kernel
theorem dX7_bestSetting_62 : decode cX7_bestSetting 62 = .ok (.iload_n 2, 1) := by decide +kernel
theorem dX7_bestSetting_63 : decode cX7_bestSetting 63 = .ok (.if_icmp .le 15, 3) := by decide +kernel
theorem dX7_bestSetting_66 : decode cX7_bestSetting 66 = .ok (.aload_n 0, 1) := by decide +kernel
theorem dX7_bestSetting_67 : decode cX7_bestSetting 67 = .ok (.getfield 40, 3) := by decide +kernel
theorem dX7_bestSetting_70 : decode cX7_bestSetting 70 = .ok (.iload_n 3, 1) := by decide +kernel
theorem dX7_bestSetting_71 : decode cX7_bestSetting 71 = .ok (.invokevirtual 225, 3) := by decide +kernel
theorem dX7_bestSetting_74 : decode cX7_bestSetting 74 = .ok (.istore_n 1, 1) := by decide +kernel
theorem dX7_bestSetting_75 : decode cX7_bestSetting 75 = .ok (.iload 4, 2) := by decide +kernel
theorem dX7_bestSetting_77 : decode cX7_bestSetting 77 = .ok (.istore_n 2, 1) := by decide +kernel
theorem dX7_bestSetting_78 : decode cX7_bestSetting 78 = .ok (.iinc 3 1, 3) := by decide +kernel
theorem dX7_bestSetting_81 : decode cX7_bestSetting 81 = .ok (.goto (-59), 3) := by decide +kernel
theorem dX7_bestSetting_84 : decode cX7_bestSetting 84 = .ok (.iload_n 1, 1) := by decide +kernel
theorem dX7_bestSetting_85 : decode cX7_bestSetting 85 = .ok (.ireturn, 1) := by decide +kernel
theorem dX7_isToldSmoothnessTrue_0 : decode cX7_isToldSmoothnessTrue 0 = .ok (.aload_n 0, 1) := by decide +kernel
theorem dX7_isToldSmoothnessTrue_1 : decode cX7_isToldSmoothnessTrue 1 = .ok (.getfield 40, 3) := by decide +kernel
theorem dX7_isToldSmoothnessTrue_4 : decode cX7_isToldSmoothnessTrue 4 = .ok (.aload_n 0, 1) := by decide +kernel
theorem dX7_isToldSmoothnessTrue_5 : decode cX7_isToldSmoothnessTrue 5 = .ok (.getfield 10, 3) := by decide +kernel
theorem dX7_isToldSmoothnessTrue_8 : decode cX7_isToldSmoothnessTrue 8 = .ok (.aload_n 0, 1) := by decide +kernel
theorem dX7_isToldSmoothnessTrue_9 : decode cX7_isToldSmoothnessTrue 9 = .ok (.getfield 26, 3) := by decide +kernel
theorem dX7_isToldSmoothnessTrue_12 : decode cX7_isToldSmoothnessTrue 12 = .ok (.invokevirtual 226, 3) := by decide +kernel
theorem dX7_isToldSmoothnessTrue_15 : decode cX7_isToldSmoothnessTrue 15 = .ok (.iconst 1, 1) := by decide +kernel
theorem dX7_isToldSmoothnessTrue_16 : decode cX7_isToldSmoothnessTrue 16 = .ok (.istore_n 1, 1) := by decide +kernel
theorem dX7_isToldSmoothnessTrue_17 : decode cX7_isToldSmoothnessTrue 17 = .ok (.iload_n 1, 1) := by decide +kernel
theorem dX7_isToldSmoothnessTrue_18 : decode cX7_isToldSmoothnessTrue 18 = .ok (.aload_n 0, 1) := by decide +kernel
theorem dX7_isToldSmoothnessTrue_19 : decode cX7_isToldSmoothnessTrue 19 = .ok (.getfield 40, 3) := by decide +kernel
theorem dX7_isToldSmoothnessTrue_22 : decode cX7_isToldSmoothnessTrue 22 = .ok (.invokevirtual 137, 3) := by decide +kernel
theorem dX7_isToldSmoothnessTrue_25 : decode cX7_isToldSmoothnessTrue 25 = .ok (.if_icmp .ge 72, 3) := by decide +kernel
theorem dX7_isToldSmoothnessTrue_28 : decode cX7_isToldSmoothnessTrue 28 = .ok (.iconst 0, 1) := by decide +kernel
theorem dX7_isToldSmoothnessTrue_29 : decode cX7_isToldSmoothnessTrue 29 = .ok (.istore_n 2, 1) := by decide +kernel
theorem dX7_isToldSmoothnessTrue_30 : decode cX7_isToldSmoothnessTrue 30 = .ok (.iload_n 2, 1) := by decide +kernel
theorem dX7_isToldSmoothnessTrue_31 : decode cX7_isToldSmoothnessTrue 31 = .ok (.iload_n 1, 1) := by decide +kernel
theorem dX7_isToldSmoothnessTrue_32 : decode cX7_isToldSmoothnessTrue 32 = .ok (.if_icmp .ge 59, 3) := by decide +kernel
theorem dX7_isToldSmoothnessTrue_35 : decode cX7_isToldSmoothnessTrue 35 = .ok (.aload_n 0, 1) := by decide +kernel
theorem dX7_isToldSmoothnessTrue_36 : decode cX7_isToldSmoothnessTrue 36 = .ok (.getfield 40, 3) := by decide +kernel
theorem dX7_isToldSmoothnessTrue_39 : decode cX7_isToldSmoothnessTrue 39 = .ok (.iload_n 1, 1) := by decide +kernel
theorem dX7_isToldSmoothnessTrue_40 : decode cX7_isToldSmoothnessTrue 40 = .ok (.invokevirtual 230, 3) := by decide +kernel
theorem dX7_isToldSmoothnessTrue_43 : decode cX7_isToldSmoothnessTrue 43 = .ok (.aload_n 0, 1) := by decide +kernel
theorem dX7_isToldSmoothnessTrue_44 : decode cX7_isToldSmoothnessTrue 44 = .ok (.getfield 40, 3) := by decide +kernel
theorem dX7_isToldSmoothnessTrue_47 : decode cX7_isToldSmoothnessTrue 47 = .ok (.iload_n 2, 1) := by decide +kernel
theorem dX7_isToldSmoothnessTrue_48 : decode cX7_isToldSmoothnessTrue 48 = .ok (.invokevirtual 230, 3) := by decide +kernel
theorem dX7_isToldSmoothnessTrue_51 : decode cX7_isToldSmoothnessTrue 51 = .ok (.isub, 1) := by decide +kernel
theorem dX7_isToldSmoothnessTrue_52 : decode cX7_isToldSmoothnessTrue 52 = .ok (.invokestatic 233, 3) := by decide +kernel
theorem dX7_isToldSmoothnessTrue_55 : decode cX7_isToldSmoothnessTrue 55 = .ok (.istore_n 3, 1) := by decide +kernel
theorem dX7_isToldSmoothnessTrue_56 : decode cX7_isToldSmoothnessTrue 56 = .ok (.iload_n 3, 1) := by decide +kernel
theorem dX7_isToldSmoothnessTrue_57 : decode cX7_isToldSmoothnessTrue 57 = .ok (.aload_n 0, 1) := by decide +kernel
theorem dX7_isToldSmoothnessTrue_58 : decode cX7_isToldSmoothnessTrue 58 = .ok (.getfield 10, 3) := by decide +kernel
theorem dX7_isToldSmoothnessTrue_61 : decode cX7_isToldSmoothnessTrue 61 = .ok (.aload_n 0, 1) := by decide +kernel
theorem dX7_isToldSmoothnessTrue_62 : decode cX7_isToldSmoothnessTrue 62 = .ok (.getfield 40, 3) := by decide +kernel
theorem dX7_isToldSmoothnessTrue_65 : decode cX7_isToldSmoothnessTrue 65 = .ok (.iload_n 1, 1) := by decide +kernel
theorem dX7_isToldSmoothnessTrue_66 : decode cX7_isToldSmoothnessTrue 66 = .ok (.invokevirtual 225, 3) := by decide +kernel
theorem dX7_isToldSmoothnessTrue_69 : decode cX7_isToldSmoothnessTrue 69 = .ok (.aload_n 0, 1) := by decide +kernel
theorem dX7_isToldSmoothnessTrue_70 : decode cX7_isToldSmoothnessTrue 70 = .ok (.getfield 40, 3) := by decide +kernel
theorem dX7_isToldSmoothnessTrue_73 : decode cX7_isToldSmoothnessTrue 73 = .ok (.iload_n 2, 1) := by decide +kernel
theorem dX7_isToldSmoothnessTrue_74 : decode cX7_isToldSmoothnessTrue 74 = .ok (.invokevirtual 225, 3) := by decide +kernel
theorem dX7_isToldSmoothnessTrue_77 : decode cX7_isToldSmoothnessTrue 77 = .ok (.invokevirtual 238, 3) := by decide +kernel
theorem dX7_isToldSmoothnessTrue_80 : decode cX7_isToldSmoothnessTrue 80 = .ok (.if_icmp .le 5, 3) := by decide +kernel
theorem dX7_isToldSmoothnessTrue_83 : decode cX7_isToldSmoothnessTrue 83 = .ok (.iconst 0, 1) := by decide +kernel
theorem dX7_isToldSmoothnessTrue_84 : decode cX7_isToldSmoothnessTrue 84 = .ok (.ireturn, 1) := by decide +kernel
theorem dX7_isToldSmoothnessTrue_85 : decode cX7_isToldSmoothnessTrue 85 = .ok (.iinc 2 1, 3) := by decide +kernel
theorem dX7_isToldSmoothnessTrue_88 : decode cX7_isToldSmoothnessTrue 88 = .ok (.goto (-58), 3) := by decide +kernel
theorem dX7_isToldSmoothnessTrue_91 : decode cX7_isToldSmoothnessTrue 91 = .ok (.iinc 1 1, 3) := by decide +kernel
theorem dX7_isToldSmoothnessTrue_94 : decode cX7_isToldSmoothnessTrue 94 = .ok (.goto (-77), 3) := by decide +kernel
theorem dX7_isToldSmoothnessTrue_97 : decode cX7_isToldSmoothnessTrue 97 = .ok (.iconst 1, 1) := by decide +kernel
theorem dX7_isToldSmoothnessTrue_98 : decode cX7_isToldSmoothnessTrue 98 = .ok (.ireturn, 1) := by decide +kernel
theorem dX7_nextToSearch_0 : decode cX7_nextToSearch 0 = .ok (.aload_n 0, 1) := by decide +kernel
theorem dX7_nextToSearch_1 : decode cX7_nextToSearch 1 = .ok (.getfield 33, 3) := by decide +kernel
theorem dX7_nextToSearch_4 : decode cX7_nextToSearch 4 = .ok (.invokevirtual 147, 3) := by decide +kernel
theorem dX7_nextToSearch_7 : decode cX7_nextToSearch 7 = .ok (.ifCond .ne 18, 3) := by decide +kernel
theorem dX7_nextToSearch_10 : decode cX7_nextToSearch 10 = .ok (.aload_n 0, 1) := by decide +kernel
theorem dX7_nextToSearch_11 : decode cX7_nextToSearch 11 = .ok (.getfield 47, 3) := by decide +kernel
theorem dX7_nextToSearch_14 : decode cX7_nextToSearch 14 = .ok (.aload_n 0, 1) := by decide +kernel
theorem dX7_nextToSearch_15 : decode cX7_nextToSearch 15 = .ok (.getfield 40, 3) := by decide +kernel
theorem dX7_nextToSearch_18 : decode cX7_nextToSearch 18 = .ok (.invokevirtual 179, 3) := by decide +kernel
theorem dX7_nextToSearch_21 : decode cX7_nextToSearch 21 = .ok (.iconst 1, 1) := by decide +kernel
theorem dX7_nextToSearch_22 : decode cX7_nextToSearch 22 = .ok (.if_icmp .ne 6, 3) := by decide +kernel
theorem dX7_nextToSearch_25 : decode cX7_nextToSearch 25 = .ok (.bipush (-4), 2) := by decide +kernel
theorem dX7_nextToSearch_27 : decode cX7_nextToSearch 27 = .ok (.ireturn, 1) := by decide +kernel
theorem dX7_nextToSearch_28 : decode cX7_nextToSearch 28 = .ok (.aload_n 0, 1) := by decide +kernel
theorem dX7_nextToSearch_29 : decode cX7_nextToSearch 29 = .ok (.getfield 47, 3) := by decide +kernel
theorem dX7_nextToSearch_32 : decode cX7_nextToSearch 32 = .ok (.aload_n 0, 1) := by decide +kernel
theorem dX7_nextToSearch_33 : decode cX7_nextToSearch 33 = .ok (.getfield 40, 3) := by decide +kernel
theorem dX7_nextToSearch_36 : decode cX7_nextToSearch 36 = .ok (.invokevirtual 183, 3) := by decide +kernel
theorem dX7_nextToSearch_39 : decode cX7_nextToSearch 39 = .ok (.istore_n 1, 1) := by decide +kernel
theorem dX7_nextToSearch_40 : decode cX7_nextToSearch 40 = .ok (.iload_n 1, 1) := by decide +kernel
theorem dX7_nextToSearch_41 : decode cX7_nextToSearch 41 = .ok (.bipush (-4), 2) := by decide +kernel
theorem dX7_nextToSearch_43 : decode cX7_nextToSearch 43 = .ok (.if_icmp .eq 29, 3) := by decide +kernel
theorem dX7_nextToSearch_46 : decode cX7_nextToSearch 46 = .ok (.aload_n 0, 1) := by decide +kernel
theorem dX7_nextToSearch_47 : decode cX7_nextToSearch 47 = .ok (.getfield 33, 3) := by decide +kernel
theorem dX7_nextToSearch_50 : decode cX7_nextToSearch 50 = .ok (.invokevirtual 201, 3) := by decide +kernel
theorem dX7_nextToSearch_53 : decode cX7_nextToSearch 53 = .ok (.ifCond .ne 19, 3) := by decide +kernel
theorem dX7_nextToSearch_56 : decode cX7_nextToSearch 56 = .ok (.aload_n 0, 1) := by decide +kernel
theorem dX7_nextToSearch_57 : decode cX7_nextToSearch 57 = .ok (.getfield 33, 3) := by decide +kernel
theorem dX7_nextToSearch_60 : decode cX7_nextToSearch 60 = .ok (.iload_n 1, 1) := by decide +kernel
theorem dX7_nextToSearch_61 : decode cX7_nextToSearch 61 = .ok (.invokevirtual 192, 3) := by decide +kernel
theorem dX7_nextToSearch_64 : decode cX7_nextToSearch 64 = .ok (.bipush (-4), 2) := by decide +kernel
theorem dX7_nextToSearch_66 : decode cX7_nextToSearch 66 = .ok (.if_icmp .eq 6, 3) := by decide +kernel
theorem dX7_nextToSearch_69 : decode cX7_nextToSearch 69 = .ok (.bipush (-4), 2) := by decide +kernel
theorem dX7_nextToSearch_71 : decode cX7_nextToSearch 71 = .ok (.ireturn, 1) := by decide +kernel
theorem dX7_nextToSearch_72 : decode cX7_nextToSearch 72 = .ok (.iload_n 1, 1) := by decide +kernel
theorem dX7_nextToSearch_73 : decode cX7_nextToSearch 73 = .ok (.ireturn, 1) := by decide +kernel
