theorem dX8_init_0 : decode cX8_init 0 = .ok (.aload_n 0, 1) := by decide +kernel
theorem dX8_init_1 : decode cX8_init 1 = .ok (.invokespecial 1, 3) := by decide +kernel
theorem dX8_init_4 : decode cX8_init 4 = .ok (.aload_n 0, 1) := by decide +kernel
theorem dX8_init_5 : decode cX8_init 5 = .ok (.iconst 1, 1) := by decide +kernel
theorem dX8_init_6 : decode cX8_init 6 = .ok (.putfield 7, 3) := by decide +kernel
theorem dX8_init_9 : decode cX8_init 9 = .ok (.aload_n 0, 1) := by decide +kernel
theorem dX8_init_10 : decode cX8_init 10 = .ok (.bipush 6, 2) := by decide +kernel
theorem dX8_init_12 : decode cX8_init 12 = .ok (.newarray .int, 2) := by decide +kernel
theorem dX8_init_14 : decode cX8_init 14 = .ok (.putfield 13, 3) := by decide +kernel
theorem dX8_init_17 : decode cX8_init 17 = .ok (.aload_n 0, 1) := by decide +kernel
theorem dX8_init_18 : decode cX8_init 18 = .ok (.bipush 24, 2) := by decide +kernel
theorem dX8_init_20 : decode cX8_init 20 = .ok (.newarray .int, 2) := by decide +kernel
theorem dX8_init_22 : decode cX8_init 22 = .ok (.putfield 17, 3) := by decide +kernel
theorem dX8_init_25 : decode cX8_init 25 = .ok (.aload_n 0, 1) := by decide +kernel
theorem dX8_init_26 : decode cX8_init 26 = .ok (.bipush 6, 2) := by decide +kernel
theorem dX8_init_28 : decode cX8_init 28 = .ok (.newarray .int, 2) := by decide +kernel
theorem dX8_init_30 : decode cX8_init 30 = .ok (.putfield 20, 3) := by decide +kernel
theorem dX8_init_33 : decode cX8_init 33 = .ok (.aload_n 0, 1) := by decide +kernel
theorem dX8_init_34 : decode cX8_init 34 = .ok (.bipush 60, 2) := by decide +kernel
theorem dX8_init_36 : decode cX8_init 36 = .ok (.newarray .int, 2) := by decide +kernel
theorem dX8_init_38 : decode cX8_init 38 = .ok (.putfield 23, 3) := by decide +kernel
theorem dX8_init_41 : decode cX8_init 41 = .ok (.aload_n 0, 1) := by decide +kernel
theorem dX8_init_42 : decode cX8_init 42 = .ok (.bipush 24, 2) := by decide +kernel
theorem dX8_init_44 : decode cX8_init 44 = .ok (.newarray .int, 2) := by decide +kernel
theorem dX8_init_46 : decode cX8_init 46 = .ok (.putfield 26, 3) := by decide +kernel
theorem dX8_init_49 : decode cX8_init 49 = .ok (.aload_n 0, 1) := by decide +kernel
theorem dX8_init_50 : decode cX8_init 50 = .ok (.sipush 576, 3) := by decide +kernel
theorem dX8_init_53 : decode cX8_init 53 = .ok (.newarray .int, 2) := by decide +kernel
theorem dX8_init_55 : decode cX8_init 55 = .ok (.putfield 29, 3) := by decide +kernel
theorem dX8_init_58 : decode cX8_init 58 = .ok (.aload_n 0, 1) := by decide +kernel
theorem dX8_init_59 : decode cX8_init 59 = .ok (.iconst 1, 1) := by decide +kernel
theorem dX8_init_60 : decode cX8_init 60 = .ok (.putfield 32, 3) := by decide +kernel
theorem dX8_init_63 : decode cX8_init 63 = .ok (.aload_n 0, 1) := by decide +kernel
theorem dX8_init_64 : decode cX8_init 64 = .ok (.bipush 60, 2) := by decide +kernel
theorem dX8_init_66 : decode cX8_init 66 = .ok (.newarray .int, 2) := by decide +kernel
theorem dX8_init_68 : decode cX8_init 68 = .ok (.putfield 35, 3) := by decide +kernel
theorem dX8_init_71 : decode cX8_init 71 = .ok (.aload_n 0, 1) := by decide +kernel
theorem dX8_init_72 : decode cX8_init 72 = .ok (.bipush 60, 2) := by decide +kernel
theorem dX8_init_74 : decode cX8_init 74 = .ok (.newarray .int, 2) := by decide +kernel
theorem dX8_init_76 : decode cX8_init 76 = .ok (.putfield 38, 3) := by decide +kernel
theorem dX8_init_79 : decode cX8_init 79 = .ok (.aload_n 0, 1) := by decide +kernel
theorem dX8_init_80 : decode cX8_init 80 = .ok (.bipush 16, 2) := by decide +kernel
theorem dX8_init_82 : decode cX8_init 82 = .ok (.newarray .int, 2) := by decide +kernel
theorem dX8_init_84 : decode cX8_init 84 = .ok (.putfield 41, 3) := by decide +kernel
theorem dX8_init_87 : decode cX8_init 87 = .ok (.aload_n 0, 1) := by decide +kernel
theorem dX8_init_88 : decode cX8_init 88 = .ok (.sipush 2304, 3) := by decide +kernel
theorem dX8_init_91 : decode cX8_init 91 = .ok (.newarray .int, 2) := by decide +kernel
theorem dX8_init_93 : decode cX8_init 93 = .ok (.putfield 44, 3) := by decide +kernel
theorem dX8_init_96 : decode cX8_init 96 = .ok (.return_, 1) := by decide +kernel
theorem dX8_in_0 : decode cX8_in 0 = .ok (.lload_n 0, 1) := by decide +kernel
theorem dX8_in_1 : decode cX8_in 1 = .ok (.lload_n 2, 1) := by decide +kernel
theorem dX8_in_2 : decode cX8_in 2 = .ok (.lcmp, 1) := by decide +kernel
theorem dX8_in_3 : decode cX8_in 3 = .ok (.ifCond .lt 14, 3) := by decide +kernel
theorem dX8_in_6 : decode cX8_in 6 = .ok (.lload_n 0, 1) := by decide +kernel
theorem dX8_in_7 : decode cX8_in 7 = .ok (.lload 4, 2) := by decide +kernel
theorem dX8_in_9 : decode cX8_in 9 = .ok (.lcmp, 1) := by decide +kernel
theorem dX8_in_10 : decode cX8_in 10 = .ok (.ifCond .gt 7, 3) := by decide +kernel
theorem dX8_in_13 : decode cX8_in 13 = .ok (.iconst 1, 1) := by decide +kernel
theorem dX8_in_14 : decode cX8_in 14 = .ok (.goto 4, 3) := by decide +kernel
theorem dX8_in_17 : decode cX8_in 17 = .ok (.iconst 0, 1) := by decide +kernel
theorem dX8_in_18 : decode cX8_in 18 = .ok (.ireturn, 1) := by decide +kernel
theorem dX8_isKnob_0 : decode cX8_isKnob 0 = .ok (.iload_n 1, 1) := by decide +kernel
theorem dX8_isKnob_1 : decode cX8_isKnob 1 = .ok (.i2l, 1) := by decide +kernel
theorem dX8_isKnob_2 : decode cX8_isKnob 2 = .ok (.lconst 0, 1) := by decide +kernel
theorem dX8_isKnob_3 : decode cX8_isKnob 3 = .ok (.aload_n 0, 1) := by decide +kernel
theorem dX8_isKnob_4 : decode cX8_isKnob 4 = .ok (.getfield 47, 3) := by decide +kernel
theorem dX8_isKnob_7 : decode cX8_isKnob 7 = .ok (.iconst 1, 1) := by decide +kernel
theorem dX8_isKnob_8 : decode cX8_isKnob 8 = .ok (.isub, 1) := by decide +kernel
theorem dX8_isKnob_9 : decode cX8_isKnob 9 = .ok (.i2l, 1) := by decide +kernel
theorem dX8_isKnob_10 : decode cX8_isKnob 10 = .ok (.invokestatic 50, 3) := by decide +kernel
theorem dX8_isKnob_13 : decode cX8_isKnob 13 = .ok (.ireturn, 1) := by decide +kernel
theorem dX8_isValue_0 : decode cX8_isValue 0 = .ok (.aload_n 0, 1) := by decide +kernel
theorem dX8_isValue_1 : decode cX8_isValue 1 = .ok (.iload_n 1, 1) := by decide +kernel
theorem dX8_isValue_2 : decode cX8_isValue 2 = .ok (.invokevirtual 54, 3) := by decide +kernel
theorem dX8_isValue_5 : decode cX8_isValue 5 = .ok (.ifCond .eq 25, 3) := by decide +kernel
theorem dX8_isValue_8 : decode cX8_isValue 8 = .ok (.iload_n 2, 1) := by decide +kernel
theorem dX8_isValue_9 : decode cX8_isValue 9 = .ok (.i2l, 1) := by decide +kernel
theorem dX8_isValue_10 : decode cX8_isValue 10 = .ok (.lconst 0, 1) := by decide +kernel
theorem dX8_isValue_11 : decode cX8_isValue 11 = .ok (.aload_n 0, 1) := by decide +kernel
theorem dX8_isValue_12 : decode cX8_isValue 12 = .ok (.getfield 13, 3) := by decide +kernel
theorem dX8_isValue_15 : decode cX8_isValue 15 = .ok (.iload_n 1, 1) := by decide +kernel
theorem dX8_isValue_16 : decode cX8_isValue 16 = .ok (.iaload, 1) := by decide +kernel
theorem dX8_isValue_17 : decode cX8_isValue 17 = .ok (.iconst 1, 1) := by decide +kernel
theorem dX8_isValue_18 : decode cX8_isValue 18 = .ok (.isub, 1) := by decide +kernel
theorem dX8_isValue_19 : decode cX8_isValue 19 = .ok (.i2l, 1) := by decide +kernel
theorem dX8_isValue_20 : decode cX8_isValue 20 = .ok (.invokestatic 50, 3) := by decide +kernel
theorem dX8_isValue_23 : decode cX8_isValue 23 = .ok (.ifCond .eq 7, 3) := by decide +kernel
theorem dX8_isValue_26 : decode cX8_isValue 26 = .ok (.iconst 1, 1) := by decide +kernel
theorem dX8_isValue_27 : decode cX8_isValue 27 = .ok (.goto 4, 3) := by decide +kernel
theorem dX8_isValue_30 : decode cX8_isValue 30 = .ok (.iconst 0, 1) := by decide +kernel
theorem dX8_isValue_31 : decode cX8_isValue 31 = .ok (.ireturn, 1) := by decide +kernel
theorem dX8_isSetting_0 : decode cX8_isSetting 0 = .ok (.iload_n 1, 1) := by decide +kernel
theorem dX8_isSetting_1 : decode cX8_isSetting 1 = .ok (.i2l, 1) := by decide +kernel
theorem dX8_isSetting_2 : decode cX8_isSetting 2 = .ok (.lconst 0, 1) := by decide +kernel
theorem dX8_isSetting_3 : decode cX8_isSetting 3 = .ok (.aload_n 0, 1) := by decide +kernel
theorem dX8_isSetting_4 : decode cX8_isSetting 4 = .ok (.getfield 7, 3) := by decide +kernel
theorem dX8_isSetting_7 : decode cX8_isSetting 7 = .ok (.iconst 1, 1) := by decide +kernel
theorem dX8_isSetting_8 : decode cX8_isSetting 8 = .ok (.isub, 1) := by decide +kernel
theorem dX8_isSetting_9 : decode cX8_isSetting 9 = .ok (.i2l, 1) := by decide +kernel
theorem dX8_isSetting_10 : decode cX8_isSetting 10 = .ok (.invokestatic 50, 3) := by decide +kernel
theorem dX8_isSetting_13 : decode cX8_isSetting 13 = .ok (.ireturn, 1) := by decide +kernel
theorem dX8_knob_0 : decode cX8_knob 0 = .ok (.iload_n 1, 1) := by decide +kernel
theorem dX8_knob_1 : decode cX8_knob 1 = .ok (.i2l, 1) := by decide +kernel
theorem dX8_knob_2 : decode cX8_knob 2 = .ok (.ldc2_w 58, 3) := by decide +kernel
theorem dX8_knob_5 : decode cX8_knob 5 = .ok (.ldc2_w 60, 3) := by decide +kernel
theorem dX8_knob_8 : decode cX8_knob 8 = .ok (.invokestatic 50, 3) := by decide +kernel
theorem dX8_knob_11 : decode cX8_knob 11 = .ok (.ifCond .ne 5, 3) := by decide +kernel
theorem dX8_knob_14 : decode cX8_knob 14 = .ok (.iconst (-1), 1) := by decide +kernel
theorem dX8_knob_15 : decode cX8_knob 15 = .ok (.ireturn, 1) := by decide +kernel
theorem dX8_knob_16 : decode cX8_knob 16 = .ok (.aload_n 0, 1) := by decide +kernel
theorem dX8_knob_17 : decode cX8_knob 17 = .ok (.getfield 47, 3) := by decide +kernel
theorem dX8_knob_20 : decode cX8_knob 20 = .ok (.bipush 6, 2) := by decide +kernel
theorem dX8_knob_22 : decode cX8_knob 22 = .ok (.if_icmp .eq 15, 3) := by decide +kernel
theorem dX8_knob_25 : decode cX8_knob 25 = .ok (.aload_n 0, 1) := by decide +kernel
theorem dX8_knob_26 : decode cX8_knob 26 = .ok (.getfield 7, 3) := by decide +kernel
theorem dX8_knob_29 : decode cX8_knob 29 = .ok (.iload_n 1, 1) := by decide +kernel
theorem dX8_knob_30 : decode cX8_knob 30 = .ok (.imul, 1) := by decide +kernel
theorem dX8_knob_31 : decode cX8_knob 31 = .ok (.sipush 144, 3) := by decide +kernel
theorem dX8_knob_34 : decode cX8_knob 34 = .ok (.if_icmp .le 6, 3) := by decide +kernel
theorem dX8_knob_37 : decode cX8_knob 37 = .ok (.bipush (-3), 2) := by decide +kernel
theorem dX8_knob_39 : decode cX8_knob 39 = .ok (.ireturn, 1) := by decide +kernel
theorem dX8_knob_40 : decode cX8_knob 40 = .ok (.aload_n 0, 1) := by decide +kernel
theorem dX8_knob_41 : decode cX8_knob 41 = .ok (.getfield 13, 3) := by decide +kernel
theorem dX8_knob_44 : decode cX8_knob 44 = .ok (.aload_n 0, 1) := by decide +kernel
theorem dX8_knob_45 : decode cX8_knob 45 = .ok (.getfield 47, 3) := by decide +kernel
theorem dX8_knob_48 : decode cX8_knob 48 = .ok (.iload_n 1, 1) := by decide +kernel
theorem dX8_knob_49 : decode cX8_knob 49 = .ok (.iastore, 1) := by decide +kernel
theorem dX8_knob_50 : decode cX8_knob 50 = .ok (.iconst 0, 1) := by decide +kernel
theorem dX8_knob_51 : decode cX8_knob 51 = .ok (.istore_n 2, 1) := by decide +kernel
theorem dX8_knob_52 : decode cX8_knob 52 = .ok (.iload_n 2, 1) := by decide +kernel
theorem dX8_knob_53 : decode cX8_knob 53 = .ok (.iconst 4, 1) := by decide +kernel
theorem dX8_knob_54 : decode cX8_knob 54 = .ok (.if_icmp .ge 23, 3) := by decide +kernel
theorem dX8_knob_57 : decode cX8_knob 57 = .ok (.aload_n 0, 1) := by decide +kernel
theorem dX8_knob_58 : decode cX8_knob 58 = .ok (.getfield 17, 3) := by decide +kernel
theorem dX8_knob_61 : decode cX8_knob 61 = .ok (.iconst 4, 1) := by decide +kernel
theorem dX8_knob_62 : decode cX8_knob 62 = .ok (.aload_n 0, 1) := by decide +kernel
theorem dX8_knob_63 : decode cX8_knob 63 = .ok (.getfield 47, 3) := by decide +kernel
theorem dX8_knob_66 : decode cX8_knob 66 = .ok (.imul, 1) := by decide +kernel
theorem dX8_knob_67 : decode cX8_knob 67 = .ok (.iload_n 2, 1) := by decide +kernel
theorem dX8_knob_68 : decode cX8_knob 68 = .ok (.iadd, 1) := by decide +kernel
theorem dX8_knob_69 : decode cX8_knob 69 = .ok (.iload_n 2, 1) := by decide +kernel
theorem dX8_knob_70 : decode cX8_knob 70 = .ok (.iastore, 1) := by decide +kernel
theorem dX8_knob_71 : decode cX8_knob 71 = .ok (.iinc 2 1, 3) := by decide +kernel
theorem dX8_knob_74 : decode cX8_knob 74 = .ok (.goto (-22), 3) := by decide +kernel
theorem dX8_knob_77 : decode cX8_knob 77 = .ok (.aload_n 0, 1) := by decide +kernel
theorem dX8_knob_78 : decode cX8_knob 78 = .ok (.dup, 1) := by decide +kernel
theorem dX8_knob_79 : decode cX8_knob 79 = .ok (.getfield 47, 3) := by decide +kernel
theorem dX8_knob_82 : decode cX8_knob 82 = .ok (.iconst 1, 1) := by decide +kernel
theorem dX8_knob_83 : decode cX8_knob 83 = .ok (.iadd, 1) := by decide +kernel
theorem dX8_knob_84 : decode cX8_knob 84 = .ok (.putfield 47, 3) := by decide +kernel
theorem dX8_knob_87 : decode cX8_knob 87 = .ok (.aload_n 0, 1) := by decide +kernel
theorem dX8_knob_88 : decode cX8_knob 88 = .ok (.dup, 1) := by decide +kernel
theorem dX8_knob_89 : decode cX8_knob 89 = .ok (.getfield 7, 3) := by decide +kernel
theorem dX8_knob_92 : decode cX8_knob 92 = .ok (.iload_n 1, 1) := by decide +kernel
theorem dX8_knob_93 : decode cX8_knob 93 = .ok (.imul, 1) := by decide +kernel
theorem dX8_knob_94 : decode cX8_knob 94 = .ok (.putfield 7, 3) := by decide +kernel
theorem dX8_knob_97 : decode cX8_knob 97 = .ok (.aload_n 0, 1) := by decide +kernel
theorem dX8_knob_98 : decode cX8_knob 98 = .ok (.iconst 0, 1) := by decide +kernel
theorem dX8_knob_99 : decode cX8_knob 99 = .ok (.putfield 62, 3) := by decide +kernel
theorem dX8_knob_102 : decode cX8_knob 102 = .ok (.aload_n 0, 1) := by decide +kernel
theorem dX8_knob_103 : decode cX8_knob 103 = .ok (.getfield 47, 3) := by decide +kernel
theorem dX8_knob_106 : decode cX8_knob 106 = .ok (.iconst 1, 1) := by decide +kernel
theorem dX8_knob_107 : decode cX8_knob 107 = .ok (.isub, 1) := by decide +kernel
theorem dX8_knob_108 : decode cX8_knob 108 = .ok (.ireturn, 1) := by decide +kernel
theorem dX8_place_0 : decode cX8_place 0 = .ok (.aload_n 0, 1) := by decide +kernel
theorem dX8_place_1 : decode cX8_place 1 = .ok (.iload_n 1, 1) := by decide +kernel
theorem dX8_place_2 : decode cX8_place 2 = .ok (.iload_n 2, 1) := by decide +kernel
theorem dX8_place_3 : decode cX8_place 3 = .ok (.invokevirtual 65, 3) := by decide +kernel
theorem dX8_place_6 : decode cX8_place 6 = .ok (.ifCond .eq 17, 3) := by decide +kernel
theorem dX8_place_9 : decode cX8_place 9 = .ok (.iload_n 3, 1) := by decide +kernel
theorem dX8_place_10 : decode cX8_place 10 = .ok (.i2l, 1) := by decide +kernel
theorem dX8_place_11 : decode cX8_place 11 = .ok (.ldc2_w 69, 3) := by decide +kernel
theorem dX8_place_14 : decode cX8_place 14 = .ok (.ldc2_w 71, 3) := by decide +kernel
theorem dX8_place_17 : decode cX8_place 17 = .ok (.invokestatic 50, 3) := by decide +kernel
theorem dX8_place_20 : decode cX8_place 20 = .ok (.ifCond .ne 7, 3) := by decide +kernel
theorem dX8_place_23 : decode cX8_place 23 = .ok (.sipush (-1000), 3) := by decide +kernel
theorem dX8_place_26 : decode cX8_place 26 = .ok (.ireturn, 1) := by decide +kernel
theorem dX8_place_27 : decode cX8_place 27 = .ok (.aload_n 0, 1) := by decide +kernel
theorem dX8_place_28 : decode cX8_place 28 = .ok (.getfield 17, 3) := by decide +kernel
theorem dX8_place_31 : decode cX8_place 31 = .ok (.iconst 4, 1) := by decide +kernel
theorem dX8_place_32 : decode cX8_place 32 = .ok (.iload_n 1, 1) := by decide +kernel
theorem dX8_place_33 : decode cX8_place 33 = .ok (.imul, 1) := by decide +kernel
theorem dX8_place_34 : decode cX8_place 34 = .ok (.iload_n 2, 1) := by decide +kernel
theorem dX8_place_35 : decode cX8_place 35 = .ok (.iadd, 1) := by decide +kernel
theorem dX8_place_36 : decode cX8_place 36 = .ok (.iaload, 1) := by decide +kernel
theorem dX8_place_37 : decode cX8_place 37 = .ok (.istore 4, 2) := by decide +kernel
theorem dX8_place_39 : decode cX8_place 39 = .ok (.aload_n 0, 1) := by decide +kernel
theorem dX8_place_40 : decode cX8_place 40 = .ok (.getfield 17, 3) := by decide +kernel
theorem dX8_place_43 : decode cX8_place 43 = .ok (.iconst 4, 1) := by decide +kernel
theorem dX8_place_44 : decode cX8_place 44 = .ok (.iload_n 1, 1) := by decide +kernel
theorem dX8_place_45 : decode cX8_place 45 = .ok (.imul, 1) := by decide +kernel
theorem dX8_place_46 : decode cX8_place 46 = .ok (.iload_n 2, 1) := by decide +kernel
theorem dX8_place_47 : decode cX8_place 47 = .ok (.iadd, 1) := by decide +kernel
theorem dX8_place_48 : decode cX8_place 48 = .ok (.iload_n 3, 1) := by decide +kernel
theorem dX8_place_49 : decode cX8_place 49 = .ok (.iastore, 1) := by decide +kernel
theorem dX8_place_50 : decode cX8_place 50 = .ok (.iload 4, 2) := by decide +kernel
theorem dX8_place_52 : decode cX8_place 52 = .ok (.ireturn, 1) := by decide +kernel
theorem dX8_steep_0 : decode cX8_steep 0 = .ok (.aload_n 0, 1) := by decide +kernel
theorem dX8_steep_1 : decode cX8_steep 1 = .ok (.iload_n 1, 1) := by decide +kernel
theorem dX8_steep_2 : decode cX8_steep 2 = .ok (.invokevirtual 54, 3) := by decide +kernel
theorem dX8_steep_5 : decode cX8_steep 5 = .ok (.ifCond .eq 15, 3) := by decide +kernel
theorem dX8_steep_8 : decode cX8_steep 8 = .ok (.iload_n 2, 1) := by decide +kernel
theorem dX8_steep_9 : decode cX8_steep 9 = .ok (.i2l, 1) := by decide +kernel
theorem dX8_steep_10 : decode cX8_steep 10 = .ok (.lconst 0, 1) := by decide +kernel
theorem dX8_steep_11 : decode cX8_steep 11 = .ok (.ldc2_w 71, 3) := by decide +kernel
theorem dX8_steep_14 : decode cX8_steep 14 = .ok (.invokestatic 50, 3) := by decide +kernel
theorem dX8_steep_17 : decode cX8_steep 17 = .ok (.ifCond .ne 5, 3) := by decide +kernel
theorem dX8_steep_20 : decode cX8_steep 20 = .ok (.iconst (-1), 1) := by decide +kernel
theorem dX8_steep_21 : decode cX8_steep 21 = .ok (.ireturn, 1) := by decide +kernel
theorem dX8_steep_22 : decode cX8_steep 22 = .ok (.aload_n 0, 1) := by decide +kernel
theorem dX8_steep_23 : decode cX8_steep 23 = .ok (.getfield 20, 3) := by decide +kernel
theorem dX8_steep_26 : decode cX8_steep 26 = .ok (.iload_n 1, 1) := by decide +kernel
theorem dX8_steep_27 : decode cX8_steep 27 = .ok (.iaload, 1) := by decide +kernel
theorem dX8_steep_28 : decode cX8_steep 28 = .ok (.istore_n 3, 1) := by decide +kernel
theorem dX8_steep_29 : decode cX8_steep 29 = .ok (.aload_n 0, 1) := by decide +kernel
theorem dX8_steep_30 : decode cX8_steep 30 = .ok (.getfield 20, 3) := by decide +kernel
theorem dX8_steep_33 : decode cX8_steep 33 = .ok (.iload_n 1, 1) := by decide +kernel
theorem dX8_steep_34 : decode cX8_steep 34 = .ok (.iload_n 2, 1) := by decide +kernel
theorem dX8_steep_35 : decode cX8_steep 35 = .ok (.iastore, 1) := by decide +kernel
theorem dX8_steep_36 : decode cX8_steep 36 = .ok (.iload_n 3, 1) := by decide +kernel
theorem dX8_steep_37 : decode cX8_steep 37 = .ok (.ireturn, 1) := by decide +kernel
theorem dX8_rule_0 : decode cX8_rule 0 = .ok (.aload_n 0, 1) := by decide +kernel
theorem dX8_rule_1 : decode cX8_rule 1 = .ok (.iload_n 2, 1) := by decide +kernel
theorem dX8_rule_2 : decode cX8_rule 2 = .ok (.iload_n 3, 1) := by decide +kernel
theorem dX8_rule_3 : decode cX8_rule 3 = .ok (.invokevirtual 65, 3) := by decide +kernel
theorem dX8_rule_6 : decode cX8_rule 6 = .ok (.ifCond .eq 20, 3) := by decide +kernel
theorem dX8_rule_9 : decode cX8_rule 9 = .ok (.aload_n 0, 1) := by decide +kernel
theorem dX8_rule_10 : decode cX8_rule 10 = .ok (.iload 4, 2) := by decide +kernel
theorem dX8_rule_12 : decode cX8_rule 12 = .ok (.iload 5, 2) := by decide +kernel
theorem dX8_rule_14 : decode cX8_rule 14 = .ok (.invokevirtual 65, 3) := by decide +kernel
theorem dX8_rule_17 : decode cX8_rule 17 = .ok (.ifCond .eq 9, 3) := by decide +kernel
theorem dX8_rule_20 : decode cX8_rule 20 = .ok (.iload_n 2, 1) := by decide +kernel
theorem dX8_rule_21 : decode cX8_rule 21 = .ok (.iload 4, 2) := by decide +kernel
theorem dX8_rule_23 : decode cX8_rule 23 = .ok (.if_icmp .ne 5, 3) := by decide +kernel
theorem dX8_rule_26 : decode cX8_rule 26 = .ok (.iconst (-1), 1) := by decide +kernel
theorem dX8_rule_27 : decode cX8_rule 27 = .ok (.ireturn, 1) := by decide +kernel
theorem dX8_rule_28 : decode cX8_rule 28 = .ok (.aload_n 0, 1) := by decide +kernel
theorem dX8_rule_29 : decode cX8_rule 29 = .ok (.getfield 73, 3) := by decide +kernel
theorem dX8_rule_32 : decode cX8_rule 32 = .ok (.bipush 12, 2) := by decide +kernel
theorem dX8_rule_34 : decode cX8_rule 34 = .ok (.if_icmp .ne 6, 3) := by decide +kernel
theorem dX8_rule_37 : decode cX8_rule 37 = .ok (.bipush (-3), 2) := by decide +kernel
theorem dX8_rule_39 : decode cX8_rule 39 = .ok (.ireturn, 1) := by decide +kernel
theorem dX8_rule_40 : decode cX8_rule 40 = .ok (.iconst 5, 1) := by decide +kernel
theorem dX8_rule_41 : decode cX8_rule 41 = .ok (.aload_n 0, 1) := by decide +kernel
theorem dX8_rule_42 : decode cX8_rule 42 = .ok (.getfield 73, 3) := by decide +kernel
theorem dX8_rule_45 : decode cX8_rule 45 = .ok (.imul, 1) := by decide +kernel
theorem dX8_rule_46 : decode cX8_rule 46 = .ok (.istore 6, 2) := by decide +kernel
theorem dX8_rule_48 : decode cX8_rule 48 = .ok (.aload_n 0, 1) := by decide +kernel
theorem dX8_rule_49 : decode cX8_rule 49 = .ok (.getfield 23, 3) := by decide +kernel
theorem dX8_rule_52 : decode cX8_rule 52 = .ok (.iload 6, 2) := by decide +kernel
theorem dX8_rule_54 : decode cX8_rule 54 = .ok (.iload_n 1, 1) := by decide +kernel
theorem dX8_rule_55 : decode cX8_rule 55 = .ok (.ifCond .eq 7, 3) := by decide +kernel
theorem dX8_rule_58 : decode cX8_rule 58 = .ok (.iconst 1, 1) := by decide +kernel
theorem dX8_rule_59 : decode cX8_rule 59 = .ok (.goto 4, 3) := by decide +kernel
theorem dX8_rule_62 : decode cX8_rule 62 = .ok (.iconst 0, 1) := by decide +kernel
theorem dX8_rule_63 : decode cX8_rule 63 = .ok (.iastore, 1) := by decide +kernel
theorem dX8_rule_64 : decode cX8_rule 64 = .ok (.aload_n 0, 1) := by decide +kernel
theorem dX8_rule_65 : decode cX8_rule 65 = .ok (.getfield 23, 3) := by decide +kernel
theorem dX8_rule_68 : decode cX8_rule 68 = .ok (.iload 6, 2) := by decide +kernel
theorem dX8_rule_70 : decode cX8_rule 70 = .ok (.iconst 1, 1) := by decide +kernel
theorem dX8_rule_71 : decode cX8_rule 71 = .ok (.iadd, 1) := by decide +kernel
theorem dX8_rule_72 : decode cX8_rule 72 = .ok (.iload_n 2, 1) := by decide +kernel
theorem dX8_rule_73 : decode cX8_rule 73 = .ok (.iastore, 1) := by decide +kernel
theorem dX8_rule_74 : decode cX8_rule 74 = .ok (.aload_n 0, 1) := by decide +kernel
theorem dX8_rule_75 : decode cX8_rule 75 = .ok (.getfield 23, 3) := by decide +kernel
theorem dX8_rule_78 : decode cX8_rule 78 = .ok (.iload 6, 2) := by decide +kernel
theorem dX8_rule_80 : decode cX8_rule 80 = .ok (.iconst 2, 1) := by decide +kernel
theorem dX8_rule_81 : decode cX8_rule 81 = .ok (.iadd, 1) := by decide +kernel
theorem dX8_rule_82 : decode cX8_rule 82 = .ok (.iload_n 3, 1) := by decide +kernel
theorem dX8_rule_83 : decode cX8_rule 83 = .ok (.iastore, 1) := by decide +kernel
theorem dX8_rule_84 : decode cX8_rule 84 = .ok (.aload_n 0, 1) := by decide +kernel
theorem dX8_rule_85 : decode cX8_rule 85 = .ok (.getfield 23, 3) := by decide +kernel
theorem dX8_rule_88 : decode cX8_rule 88 = .ok (.iload 6, 2) := by decide +kernel
theorem dX8_rule_90 : decode cX8_rule 90 = .ok (.iconst 3, 1) := by decide +kernel
theorem dX8_rule_91 : decode cX8_rule 91 = .ok (.iadd, 1) := by decide +kernel
theorem dX8_rule_92 : decode cX8_rule 92 = .ok (.iload 4, 2) := by decide +kernel
theorem dX8_rule_94 : decode cX8_rule 94 = .ok (.iastore, 1) := by decide +kernel
theorem dX8_rule_95 : decode cX8_rule 95 = .ok (.aload_n 0, 1) := by decide +kernel
theorem dX8_rule_96 : decode cX8_rule 96 = .ok (.getfield 23, 3) := by decide +kernel
theorem dX8_rule_99 : decode cX8_rule 99 = .ok (.iload 6, 2) := by decide +kernel
theorem dX8_rule_101 : decode cX8_rule 101 = .ok (.iconst 4, 1) := by decide +kernel
theorem dX8_rule_102 : decode cX8_rule 102 = .ok (.iadd, 1) := by decide +kernel
theorem dX8_rule_103 : decode cX8_rule 103 = .ok (.iload 5, 2) := by decide +kernel
theorem dX8_rule_105 : decode cX8_rule 105 = .ok (.iastore, 1) := by decide +kernel
theorem dX8_rule_106 : decode cX8_rule 106 = .ok (.aload_n 0, 1) := by decide +kernel
theorem dX8_rule_107 : decode cX8_rule 107 = .ok (.dup, 1) := by decide +kernel
theorem dX8_rule_108 : decode cX8_rule 108 = .ok (.getfield 73, 3) := by decide +kernel
theorem dX8_rule_111 : decode cX8_rule 111 = .ok (.iconst 1, 1) := by decide +kernel
theorem dX8_rule_112 : decode cX8_rule 112 = .ok (.iadd, 1) := by decide +kernel
theorem dX8_rule_113 : decode cX8_rule 113 = .ok (.putfield 73, 3) := by decide +kernel
theorem dX8_rule_116 : decode cX8_rule 116 = .ok (.aload_n 0, 1) := by decide +kernel
theorem dX8_rule_117 : decode cX8_rule 117 = .ok (.getfield 73, 3) := by decide +kernel
theorem dX8_rule_120 : decode cX8_rule 120 = .ok (.ireturn, 1) := by decide +kernel
theorem dX8_noRule_0 : decode cX8_noRule 0 = .ok (.aload_n 0, 1) := by decide +kernel
theorem dX8_noRule_1 : decode cX8_noRule 1 = .ok (.getfield 73, 3) := by decide +kernel
theorem dX8_noRule_4 : decode cX8_noRule 4 = .ok (.ifCond .ne 6, 3) := by decide +kernel
theorem dX8_noRule_7 : decode cX8_noRule 7 = .ok (.bipush (-2), 2) := by decide +kernel
theorem dX8_noRule_9 : decode cX8_noRule 9 = .ok (.ireturn, 1) := by decide +kernel
theorem dX8_noRule_10 : decode cX8_noRule 10 = .ok (.aload_n 0, 1) := by decide +kernel
theorem dX8_noRule_11 : decode cX8_noRule 11 = .ok (.dup, 1) := by decide +kernel
theorem dX8_noRule_12 : decode cX8_noRule 12 = .ok (.getfield 73, 3) := by decide +kernel
theorem dX8_noRule_15 : decode cX8_noRule 15 = .ok (.iconst 1, 1) := by decide +kernel
theorem dX8_noRule_16 : decode cX8_noRule 16 = .ok (.isub, 1) := by decide +kernel
theorem dX8_noRule_17 : decode cX8_noRule 17 = .ok (.putfield 73, 3) := by decide +kernel
theorem dX8_noRule_20 : decode cX8_noRule 20 = .ok (.aload_n 0, 1) := by decide +kernel
theorem dX8_noRule_21 : decode cX8_noRule 21 = .ok (.getfield 73, 3) := by decide +kernel
theorem dX8_noRule_24 : decode cX8_noRule 24 = .ok (.ireturn, 1) := by decide +kernel
theorem dX8_effect_0 : decode cX8_effect 0 = .ok (.aload_n 0, 1) := by decide +kernel
theorem dX8_effect_1 : decode cX8_effect 1 = .ok (.iload_n 1, 1) := by decide +kernel
theorem dX8_effect_2 : decode cX8_effect 2 = .ok (.iload_n 2, 1) := by decide +kernel
theorem dX8_effect_3 : decode cX8_effect 3 = .ok (.invokevirtual 65, 3) := by decide +kernel
theorem dX8_effect_6 : decode cX8_effect 6 = .ok (.ifCond .eq 42, 3) := by decide +kernel
theorem dX8_effect_9 : decode cX8_effect 9 = .ok (.iload 5, 2) := by decide +kernel
theorem dX8_effect_11 : decode cX8_effect 11 = .ok (.i2l, 1) := by decide +kernel
theorem dX8_effect_12 : decode cX8_effect 12 = .ok (.ldc2_w 76, 3) := by decide +kernel
theorem dX8_effect_15 : decode cX8_effect 15 = .ok (.ldc2_w 78, 3) := by decide +kernel
theorem dX8_effect_18 : decode cX8_effect 18 = .ok (.invokestatic 50, 3) := by decide +kernel
theorem dX8_effect_21 : decode cX8_effect 21 = .ok (.ifCond .eq 27, 3) := by decide +kernel
theorem dX8_effect_24 : decode cX8_effect 24 = .ok (.iload_n 3, 1) := by decide +kernel
theorem dX8_effect_25 : decode cX8_effect 25 = .ok (.iconst (-1), 1) := by decide +kernel
theorem dX8_effect_26 : decode cX8_effect 26 = .ok (.if_icmp .eq 18, 3) := by decide +kernel
theorem dX8_effect_29 : decode cX8_effect 29 = .ok (.iload_n 3, 1) := by decide +kernel
theorem dX8_effect_30 : decode cX8_effect 30 = .ok (.iload_n 1, 1) := by decide +kernel
theorem dX8_effect_31 : decode cX8_effect 31 = .ok (.if_icmp .le 17, 3) := by decide +kernel
theorem dX8_effect_34 : decode cX8_effect 34 = .ok (.aload_n 0, 1) := by decide +kernel
theorem dX8_effect_35 : decode cX8_effect 35 = .ok (.iload_n 3, 1) := by decide +kernel
theorem dX8_effect_36 : decode cX8_effect 36 = .ok (.iload 4, 2) := by decide +kernel
theorem dX8_effect_38 : decode cX8_effect 38 = .ok (.invokevirtual 65, 3) := by decide +kernel
theorem dX8_effect_41 : decode cX8_effect 41 = .ok (.ifCond .eq 7, 3) := by decide +kernel
theorem dX8_effect_44 : decode cX8_effect 44 = .ok (.iconst 1, 1) := by decide +kernel
theorem dX8_effect_45 : decode cX8_effect 45 = .ok (.goto 4, 3) := by decide +kernel
theorem dX8_effect_48 : decode cX8_effect 48 = .ok (.iconst 0, 1) := by decide +kernel
theorem dX8_effect_49 : decode cX8_effect 49 = .ok (.istore 6, 2) := by decide +kernel
theorem dX8_effect_51 : decode cX8_effect 51 = .ok (.iload 6, 2) := by decide +kernel
theorem dX8_effect_53 : decode cX8_effect 53 = .ok (.ifCond .ne 7, 3) := by decide +kernel
theorem dX8_effect_56 : decode cX8_effect 56 = .ok (.sipush (-10000), 3) := by decide +kernel
theorem dX8_effect_59 : decode cX8_effect 59 = .ok (.ireturn, 1) := by decide +kernel
theorem dX8_effect_60 : decode cX8_effect 60 = .ok (.iload_n 3, 1) := by decide +kernel
theorem dX8_effect_61 : decode cX8_effect 61 = .ok (.iconst (-1), 1) := by decide +kernel
theorem dX8_effect_62 : decode cX8_effect 62 = .ok (.if_icmp .ne 30, 3) := by decide +kernel
theorem dX8_effect_65 : decode cX8_effect 65 = .ok (.aload_n 0, 1) := by decide +kernel
theorem dX8_effect_66 : decode cX8_effect 66 = .ok (.getfield 26, 3) := by decide +kernel
theorem dX8_effect_69 : decode cX8_effect 69 = .ok (.iconst 4, 1) := by decide +kernel
theorem dX8_effect_70 : decode cX8_effect 70 = .ok (.iload_n 1, 1) := by decide +kernel
theorem dX8_effect_71 : decode cX8_effect 71 = .ok (.imul, 1) := by decide +kernel
theorem dX8_effect_72 : decode cX8_effect 72 = .ok (.iload_n 2, 1) := by decide +kernel
theorem dX8_effect_73 : decode cX8_effect 73 = .ok (.iadd, 1) := by decide +kernel
theorem dX8_effect_74 : decode cX8_effect 74 = .ok (.iaload, 1) := by decide +kernel
theorem dX8_effect_75 : decode cX8_effect 75 = .ok (.istore 7, 2) := by decide +kernel
theorem dX8_effect_77 : decode cX8_effect 77 = .ok (.aload_n 0, 1) := by decide +kernel
theorem dX8_effect_78 : decode cX8_effect 78 = .ok (.getfield 26, 3) := by decide +kernel
theorem dX8_effect_81 : decode cX8_effect 81 = .ok (.iconst 4, 1) := by decide +kernel
theorem dX8_effect_82 : decode cX8_effect 82 = .ok (.iload_n 1, 1) := by decide +kernel
theorem dX8_effect_83 : decode cX8_effect 83 = .ok (.imul, 1) := by decide +kernel
theorem dX8_effect_84 : decode cX8_effect 84 = .ok (.iload_n 2, 1) := by decide +kernel
theorem dX8_effect_85 : decode cX8_effect 85 = .ok (.iadd, 1) := by decide +kernel
theorem dX8_effect_86 : decode cX8_effect 86 = .ok (.iload 5, 2) := by decide +kernel
theorem dX8_effect_88 : decode cX8_effect 88 = .ok (.iastore, 1) := by decide +kernel
theorem dX8_effect_89 : decode cX8_effect 89 = .ok (.iload 7, 2) := by decide +kernel
theorem dX8_effect_91 : decode cX8_effect 91 = .ok (.ireturn, 1) := by decide +kernel
theorem dX8_effect_92 : decode cX8_effect 92 = .ok (.bipush 24, 2) := by decide +kernel
theorem dX8_effect_94 : decode cX8_effect 94 = .ok (.iconst 4, 1) := by decide +kernel
theorem dX8_effect_95 : decode cX8_effect 95 = .ok (.iload_n 1, 1) := by decide +kernel
theorem dX8_effect_96 : decode cX8_effect 96 = .ok (.imul, 1) := by decide +kernel
theorem dX8_effect_97 : decode cX8_effect 97 = .ok (.iload_n 2, 1) := by decide +kernel
theorem dX8_effect_98 : decode cX8_effect 98 = .ok (.iadd, 1) := by decide +kernel
theorem dX8_effect_99 : decode cX8_effect 99 = .ok (.imul, 1) := by decide +kernel
theorem dX8_effect_100 : decode cX8_effect 100 = .ok (.iconst 4, 1) := by decide +kernel
theorem dX8_effect_101 : decode cX8_effect 101 = .ok (.iload_n 3, 1) := by decide +kernel
theorem dX8_effect_102 : decode cX8_effect 102 = .ok (.imul, 1) := by decide +kernel
theorem dX8_effect_103 : decode cX8_effect 103 = .ok (.iadd, 1) := by decide +kernel
theorem dX8_effect_104 : decode cX8_effect 104 = .ok (.iload 4, 2) := by decide +kernel
theorem dX8_effect_106 : decode cX8_effect 106 = .ok (.iadd, 1) := by decide +kernel
theorem dX8_effect_107 : decode cX8_effect 107 = .ok (.istore 7, 2) := by decide +kernel
theorem dX8_effect_109 : decode cX8_effect 109 = .ok (.aload_n 0, 1) := by decide +kernel
theorem dX8_effect_110 : decode cX8_effect 110 = .ok (.getfield 29, 3) := by decide +kernel
theorem dX8_effect_113 : decode cX8_effect 113 = .ok (.iload 7, 2) := by decide +kernel
theorem dX8_effect_115 : decode cX8_effect 115 = .ok (.iaload, 1) := by decide +kernel
theorem dX8_effect_116 : decode cX8_effect 116 = .ok (.istore 8, 2) := by decide +kernel
theorem dX8_effect_118 : decode cX8_effect 118 = .ok (.aload_n 0, 1) := by decide +kernel
theorem dX8_effect_119 : decode cX8_effect 119 = .ok (.getfield 29, 3) := by decide +kernel
theorem dX8_effect_122 : decode cX8_effect 122 = .ok (.iload 7, 2) := by decide +kernel
theorem dX8_effect_124 : decode cX8_effect 124 = .ok (.iload 5, 2) := by decide +kernel
theorem dX8_effect_126 : decode cX8_effect 126 = .ok (.iastore, 1) := by decide +kernel
theorem dX8_effect_127 : decode cX8_effect 127 = .ok (.iload 8, 2) := by decide +kernel
theorem dX8_effect_129 : decode cX8_effect 129 = .ok (.ireturn, 1) := by decide +kernel
theorem dX8_base_0 : decode cX8_base 0 = .ok (.iload_n 1, 1) := by decide +kernel
theorem dX8_base_1 : decode cX8_base 1 = .ok (.i2l, 1) := by decide +kernel
theorem dX8_base_2 : decode cX8_base 2 = .ok (.ldc2_w 76, 3) := by decide +kernel
theorem dX8_base_5 : decode cX8_base 5 = .ok (.ldc2_w 78, 3) := by decide +kernel
theorem dX8_base_8 : decode cX8_base 8 = .ok (.invokestatic 50, 3) := by decide +kernel
theorem dX8_base_11 : decode cX8_base 11 = .ok (.ifCond .ne 7, 3) := by decide +kernel
theorem dX8_base_14 : decode cX8_base 14 = .ok (.sipush (-10000), 3) := by decide +kernel
theorem dX8_base_17 : decode cX8_base 17 = .ok (.ireturn, 1) := by decide +kernel
theorem dX8_base_18 : decode cX8_base 18 = .ok (.aload_n 0, 1) := by decide +kernel
theorem dX8_base_19 : decode cX8_base 19 = .ok (.getfield 80, 3) := by decide +kernel
theorem dX8_base_22 : decode cX8_base 22 = .ok (.istore_n 2, 1) := by decide +kernel
theorem dX8_base_23 : decode cX8_base 23 = .ok (.aload_n 0, 1) := by decide +kernel
theorem dX8_base_24 : decode cX8_base 24 = .ok (.iload_n 1, 1) := by decide +kernel
theorem dX8_base_25 : decode cX8_base 25 = .ok (.putfield 80, 3) := by decide +kernel
theorem dX8_base_28 : decode cX8_base 28 = .ok (.iload_n 2, 1) := by decide +kernel
theorem dX8_base_29 : decode cX8_base 29 = .ok (.ireturn, 1) := by decide +kernel
theorem dX8_noise_0 : decode cX8_noise 0 = .ok (.iload_n 1, 1) := by decide +kernel
theorem dX8_noise_1 : decode cX8_noise 1 = .ok (.i2l, 1) := by decide +kernel
theorem dX8_noise_2 : decode cX8_noise 2 = .ok (.lconst 0, 1) := by decide +kernel
theorem dX8_noise_3 : decode cX8_noise 3 = .ok (.ldc2_w 83, 3) := by decide +kernel
theorem dX8_noise_6 : decode cX8_noise 6 = .ok (.invokestatic 50, 3) := by decide +kernel
theorem dX8_noise_9 : decode cX8_noise 9 = .ok (.ifCond .ne 5, 3) := by decide +kernel
theorem dX8_noise_12 : decode cX8_noise 12 = .ok (.iconst (-1), 1) := by decide +kernel
theorem dX8_noise_13 : decode cX8_noise 13 = .ok (.ireturn, 1) := by decide +kernel
theorem dX8_noise_14 : decode cX8_noise 14 = .ok (.aload_n 0, 1) := by decide +kernel
theorem dX8_noise_15 : decode cX8_noise 15 = .ok (.getfield 85, 3) := by decide +kernel
theorem dX8_noise_18 : decode cX8_noise 18 = .ok (.istore_n 2, 1) := by decide +kernel
theorem dX8_noise_19 : decode cX8_noise 19 = .ok (.aload_n 0, 1) := by decide +kernel
theorem dX8_noise_20 : decode cX8_noise 20 = .ok (.iload_n 1, 1) := by decide +kernel
theorem dX8_noise_21 : decode cX8_noise 21 = .ok (.putfield 85, 3) := by decide +kernel
theorem dX8_noise_24 : decode cX8_noise 24 = .ok (.iload_n 2, 1) := by decide +kernel
theorem dX8_noise_25 : decode cX8_noise 25 = .ok (.ireturn, 1) := by decide +kernel
theorem dX8_seed_0 : decode cX8_seed 0 = .ok (.iload_n 1, 1) := by decide +kernel
theorem dX8_seed_1 : decode cX8_seed 1 = .ok (.i2l, 1) := by decide +kernel
theorem dX8_seed_2 : decode cX8_seed 2 = .ok (.lconst 0, 1) := by decide +kernel
theorem dX8_seed_3 : decode cX8_seed 3 = .ok (.ldc2_w 88, 3) := by decide +kernel
theorem dX8_seed_6 : decode cX8_seed 6 = .ok (.invokestatic 50, 3) := by decide +kernel
theorem dX8_seed_9 : decode cX8_seed 9 = .ok (.ifCond .ne 5, 3) := by decide +kernel
theorem dX8_seed_12 : decode cX8_seed 12 = .ok (.iconst (-1), 1) := by decide +kernel
theorem dX8_seed_13 : decode cX8_seed 13 = .ok (.ireturn, 1) := by decide +kernel
theorem dX8_seed_14 : decode cX8_seed 14 = .ok (.aload_n 0, 1) := by decide +kernel
theorem dX8_seed_15 : decode cX8_seed 15 = .ok (.iload_n 1, 1) := by decide +kernel
theorem dX8_seed_16 : decode cX8_seed 16 = .ok (.putfield 32, 3) := by decide +kernel
theorem dX8_seed_19 : decode cX8_seed 19 = .ok (.iconst 0, 1) := by decide +kernel
theorem dX8_seed_20 : decode cX8_seed 20 = .ok (.ireturn, 1) := by decide +kernel
theorem dX8_step_0 : decode cX8_step 0 = .ok (.iconst 1, 1) := by decide +kernel
theorem dX8_step_1 : decode cX8_step 1 = .ok (.istore_n 2, 1) := by decide +kernel
theorem dX8_step_2 : decode cX8_step 2 = .ok (.iconst 0, 1) := by decide +kernel
theorem dX8_step_3 : decode cX8_step 3 = .ok (.istore_n 3, 1) := by decide +kernel
theorem dX8_step_4 : decode cX8_step 4 = .ok (.iload_n 3, 1) := by decide +kernel
theorem dX8_step_5 : decode cX8_step 5 = .ok (.iload_n 1, 1) := by decide +kernel
theorem dX8_step_6 : decode cX8_step 6 = .ok (.if_icmp .ge 18, 3) := by decide +kernel
theorem dX8_step_9 : decode cX8_step 9 = .ok (.iload_n 2, 1) := by decide +kernel
theorem dX8_step_10 : decode cX8_step 10 = .ok (.aload_n 0, 1) := by decide +kernel
theorem dX8_step_11 : decode cX8_step 11 = .ok (.getfield 13, 3) := by decide +kernel
theorem dX8_step_14 : decode cX8_step 14 = .ok (.iload_n 3, 1) := by decide +kernel
theorem dX8_step_15 : decode cX8_step 15 = .ok (.iaload, 1) := by decide +kernel
theorem dX8_step_16 : decode cX8_step 16 = .ok (.imul, 1) := by decide +kernel
theorem dX8_step_17 : decode cX8_step 17 = .ok (.istore_n 2, 1) := by decide +kernel
theorem dX8_step_18 : decode cX8_step 18 = .ok (.iinc 3 1, 3) := by decide +kernel
theorem dX8_step_21 : decode cX8_step 21 = .ok (.goto (-17), 3) := by decide +kernel
theorem dX8_step_24 : decode cX8_step 24 = .ok (.iload_n 2, 1) := by decide +kernel
theorem dX8_step_25 : decode cX8_step 25 = .ok (.ireturn, 1) := by decide +kernel
theorem dX8_get_0 : decode cX8_get 0 = .ok (.iload_n 1, 1) := by decide +kernel
theorem dX8_get_1 : decode cX8_get 1 = .ok (.aload_n 0, 1) := by decide +kernel
theorem dX8_get_2 : decode cX8_get 2 = .ok (.iload_n 2, 1) := by decide +kernel
theorem dX8_get_3 : decode cX8_get 3 = .ok (.invokevirtual 90, 3) := by decide +kernel
theorem dX8_get_6 : decode cX8_get 6 = .ok (.idiv, 1) := by decide +kernel
theorem dX8_get_7 : decode cX8_get 7 = .ok (.aload_n 0, 1) := by decide +kernel
theorem dX8_get_8 : decode cX8_get 8 = .ok (.getfield 13, 3) := by decide +kernel
theorem dX8_get_11 : decode cX8_get 11 = .ok (.iload_n 2, 1) := by decide +kernel
theorem dX8_get_12 : decode cX8_get 12 = .ok (.iaload, 1) := by decide +kernel
theorem dX8_get_13 : decode cX8_get 13 = .ok (.irem, 1) := by decide +kernel
theorem dX8_get_14 : decode cX8_get 14 = .ok (.ireturn, 1) := by decide +kernel
theorem dX8_put_0 : decode cX8_put 0 = .ok (.iload_n 1, 1) := by decide +kernel
theorem dX8_put_1 : decode cX8_put 1 = .ok (.iload_n 3, 1) := by decide +kernel
theorem dX8_put_2 : decode cX8_put 2 = .ok (.aload_n 0, 1) := by decide +kernel
theorem dX8_put_3 : decode cX8_put 3 = .ok (.iload_n 1, 1) := by decide +kernel
theorem dX8_put_4 : decode cX8_put 4 = .ok (.iload_n 2, 1) := by decide +kernel
theorem dX8_put_5 : decode cX8_put 5 = .ok (.invokevirtual 94, 3) := by decide +kernel
theorem dX8_put_8 : decode cX8_put 8 = .ok (.isub, 1) := by decide +kernel
theorem dX8_put_9 : decode cX8_put 9 = .ok (.aload_n 0, 1) := by decide +kernel
theorem dX8_put_10 : decode cX8_put 10 = .ok (.iload_n 2, 1) := by decide +kernel
theorem dX8_put_11 : decode cX8_put 11 = .ok (.invokevirtual 90, 3) := by decide +kernel
theorem dX8_put_14 : decode cX8_put 14 = .ok (.imul, 1) := by decide +kernel
theorem dX8_put_15 : decode cX8_put 15 = .ok (.iadd, 1) := by decide +kernel
theorem dX8_put_16 : decode cX8_put 16 = .ok (.ireturn, 1) := by decide +kernel
theorem dX8_with_0 : decode cX8_with 0 = .ok (.aload_n 0, 1) := by decide +kernel
theorem dX8_with_1 : decode cX8_with 1 = .ok (.iload_n 1, 1) := by decide +kernel
theorem dX8_with_2 : decode cX8_with 2 = .ok (.invokevirtual 98, 3) := by decide +kernel
theorem dX8_with_5 : decode cX8_with 5 = .ok (.ifCond .eq 22, 3) := by decide +kernel
theorem dX8_with_8 : decode cX8_with 8 = .ok (.aload_n 0, 1) := by decide +kernel
theorem dX8_with_9 : decode cX8_with 9 = .ok (.iload_n 2, 1) := by decide +kernel
theorem dX8_with_10 : decode cX8_with 10 = .ok (.iload_n 3, 1) := by decide +kernel
theorem dX8_with_11 : decode cX8_with 11 = .ok (.invokevirtual 65, 3) := by decide +kernel
theorem dX8_with_14 : decode cX8_with 14 = .ok (.ifCond .eq 13, 3) := by decide +kernel
theorem dX8_with_17 : decode cX8_with 17 = .ok (.aload_n 0, 1) := by decide +kernel
theorem dX8_with_18 : decode cX8_with 18 = .ok (.iload_n 1, 1) := by decide +kernel
theorem dX8_with_19 : decode cX8_with 19 = .ok (.iload_n 2, 1) := by decide +kernel
theorem dX8_with_20 : decode cX8_with 20 = .ok (.iload_n 3, 1) := by decide +kernel
theorem dX8_with_21 : decode cX8_with 21 = .ok (.invokevirtual 101, 3) := by decide +kernel
theorem dX8_with_24 : decode cX8_with 24 = .ok (.goto 4, 3) := by decide +kernel
theorem dX8_with_27 : decode cX8_with 27 = .ok (.iconst (-1), 1) := by decide +kernel
theorem dX8_with_28 : decode cX8_with 28 = .ok (.ireturn, 1) := by decide +kernel
theorem dX8_value_0 : decode cX8_value 0 = .ok (.aload_n 0, 1) := by decide +kernel
theorem dX8_value_1 : decode cX8_value 1 = .ok (.iload_n 1, 1) := by decide +kernel
theorem dX8_value_2 : decode cX8_value 2 = .ok (.invokevirtual 98, 3) := by decide +kernel
theorem dX8_value_5 : decode cX8_value 5 = .ok (.ifCond .eq 20, 3) := by decide +kernel
theorem dX8_value_8 : decode cX8_value 8 = .ok (.aload_n 0, 1) := by decide +kernel
theorem dX8_value_9 : decode cX8_value 9 = .ok (.iload_n 2, 1) := by decide +kernel
theorem dX8_value_10 : decode cX8_value 10 = .ok (.invokevirtual 54, 3) := by decide +kernel
theorem dX8_value_13 : decode cX8_value 13 = .ok (.ifCond .eq 12, 3) := by decide +kernel
theorem dX8_value_16 : decode cX8_value 16 = .ok (.aload_n 0, 1) := by decide +kernel
theorem dX8_value_17 : decode cX8_value 17 = .ok (.iload_n 1, 1) := by decide +kernel
theorem dX8_value_18 : decode cX8_value 18 = .ok (.iload_n 2, 1) := by decide +kernel
theorem dX8_value_19 : decode cX8_value 19 = .ok (.invokevirtual 94, 3) := by decide +kernel
theorem dX8_value_22 : decode cX8_value 22 = .ok (.goto 4, 3) := by decide +kernel
theorem dX8_value_25 : decode cX8_value 25 = .ok (.iconst (-1), 1) := by decide +kernel
theorem dX8_value_26 : decode cX8_value 26 = .ok (.ireturn, 1) := by decide +kernel
theorem dX8_isAllowed_0 : decode cX8_isAllowed 0 = .ok (.iconst 1, 1) := by decide +kernel
theorem dX8_isAllowed_1 : decode cX8_isAllowed 1 = .ok (.istore_n 2, 1) := by decide +kernel
theorem dX8_isAllowed_2 : decode cX8_isAllowed 2 = .ok (.iconst 0, 1) := by decide +kernel
theorem dX8_isAllowed_3 : decode cX8_isAllowed 3 = .ok (.istore_n 3, 1) := by decide +kernel
theorem dX8_isAllowed_4 : decode cX8_isAllowed 4 = .ok (.iload_n 3, 1) := by decide +kernel
theorem dX8_isAllowed_5 : decode cX8_isAllowed 5 = .ok (.aload_n 0, 1) := by decide +kernel
theorem dX8_isAllowed_6 : decode cX8_isAllowed 6 = .ok (.getfield 73, 3) := by decide +kernel
theorem dX8_isAllowed_9 : decode cX8_isAllowed 9 = .ok (.if_icmp .ge 119, 3) := by decide +kernel
theorem dX8_isAllowed_12 : decode cX8_isAllowed 12 = .ok (.iconst 5, 1) := by decide +kernel
theorem dX8_isAllowed_13 : decode cX8_isAllowed 13 = .ok (.iload_n 3, 1) := by decide +kernel
theorem dX8_isAllowed_14 : decode cX8_isAllowed 14 = .ok (.imul, 1) := by decide +kernel
theorem dX8_isAllowed_15 : decode cX8_isAllowed 15 = .ok (.istore 4, 2) := by decide +kernel
theorem dX8_isAllowed_17 : decode cX8_isAllowed 17 = .ok (.aload_n 0, 1) := by decide +kernel
theorem dX8_isAllowed_18 : decode cX8_isAllowed 18 = .ok (.iload_n 1, 1) := by decide +kernel
theorem dX8_isAllowed_19 : decode cX8_isAllowed 19 = .ok (.aload_n 0, 1) := by decide +kernel
theorem dX8_isAllowed_20 : decode cX8_isAllowed 20 = .ok (.getfield 23, 3) := by decide +kernel
theorem dX8_isAllowed_23 : decode cX8_isAllowed 23 = .ok (.iload 4, 2) := by decide +kernel
theorem dX8_isAllowed_25 : decode cX8_isAllowed 25 = .ok (.iconst 1, 1) := by decide +kernel
theorem dX8_isAllowed_26 : decode cX8_isAllowed 26 = .ok (.iadd, 1) := by decide +kernel
theorem dX8_isAllowed_27 : decode cX8_isAllowed 27 = .ok (.iaload, 1) := by decide +kernel
theorem dX8_isAllowed_28 : decode cX8_isAllowed 28 = .ok (.invokevirtual 94, 3) := by decide +kernel
theorem dX8_isAllowed_31 : decode cX8_isAllowed 31 = .ok (.aload_n 0, 1) := by decide +kernel
theorem dX8_isAllowed_32 : decode cX8_isAllowed 32 = .ok (.getfield 23, 3) := by decide +kernel
theorem dX8_isAllowed_35 : decode cX8_isAllowed 35 = .ok (.iload 4, 2) := by decide +kernel
theorem dX8_isAllowed_37 : decode cX8_isAllowed 37 = .ok (.iconst 2, 1) := by decide +kernel
theorem dX8_isAllowed_38 : decode cX8_isAllowed 38 = .ok (.iadd, 1) := by decide +kernel
theorem dX8_isAllowed_39 : decode cX8_isAllowed 39 = .ok (.iaload, 1) := by decide +kernel
theorem dX8_isAllowed_40 : decode cX8_isAllowed 40 = .ok (.if_icmp .ne 7, 3) := by decide +kernel
theorem dX8_isAllowed_43 : decode cX8_isAllowed 43 = .ok (.iconst 1, 1) := by decide +kernel
theorem dX8_isAllowed_44 : decode cX8_isAllowed 44 = .ok (.goto 4, 3) := by decide +kernel
theorem dX8_isAllowed_47 : decode cX8_isAllowed 47 = .ok (.iconst 0, 1) := by decide +kernel
theorem dX8_isAllowed_48 : decode cX8_isAllowed 48 = .ok (.istore 5, 2) := by decide +kernel
theorem dX8_isAllowed_50 : decode cX8_isAllowed 50 = .ok (.aload_n 0, 1) := by decide +kernel
theorem dX8_isAllowed_51 : decode cX8_isAllowed 51 = .ok (.iload_n 1, 1) := by decide +kernel
theorem dX8_isAllowed_52 : decode cX8_isAllowed 52 = .ok (.aload_n 0, 1) := by decide +kernel
theorem dX8_isAllowed_53 : decode cX8_isAllowed 53 = .ok (.getfield 23, 3) := by decide +kernel
theorem dX8_isAllowed_56 : decode cX8_isAllowed 56 = .ok (.iload 4, 2) := by decide +kernel
theorem dX8_isAllowed_58 : decode cX8_isAllowed 58 = .ok (.iconst 3, 1) := by decide +kernel
theorem dX8_isAllowed_59 : decode cX8_isAllowed 59 = .ok (.iadd, 1) := by decide +kernel
theorem dX8_isAllowed_60 : decode cX8_isAllowed 60 = .ok (.iaload, 1) := by decide +kernel
theorem dX8_isAllowed_61 : decode cX8_isAllowed 61 = .ok (.invokevirtual 94, 3) := by decide +kernel
theorem dX8_isAllowed_64 : decode cX8_isAllowed 64 = .ok (.aload_n 0, 1) := by decide +kernel
theorem dX8_isAllowed_65 : decode cX8_isAllowed 65 = .ok (.getfield 23, 3) := by decide +kernel
theorem dX8_isAllowed_68 : decode cX8_isAllowed 68 = .ok (.iload 4, 2) := by decide +kernel
theorem dX8_isAllowed_70 : decode cX8_isAllowed 70 = .ok (.iconst 4, 1) := by decide +kernel
theorem dX8_isAllowed_71 : decode cX8_isAllowed 71 = .ok (.iadd, 1) := by decide +kernel
theorem dX8_isAllowed_72 : decode cX8_isAllowed 72 = .ok (.iaload, 1) := by decide +kernel
theorem dX8_isAllowed_73 : decode cX8_isAllowed 73 = .ok (.if_icmp .ne 7, 3) := by decide +kernel
theorem dX8_isAllowed_76 : decode cX8_isAllowed 76 = .ok (.iconst 1, 1) := by decide +kernel
theorem dX8_isAllowed_77 : decode cX8_isAllowed 77 = .ok (.goto 4, 3) := by decide +kernel
theorem dX8_isAllowed_80 : decode cX8_isAllowed 80 = .ok (.iconst 0, 1) := by decide +kernel
theorem dX8_isAllowed_81 : decode cX8_isAllowed 81 = .ok (.istore 6, 2) := by decide +kernel
theorem dX8_isAllowed_83 : decode cX8_isAllowed 83 = .ok (.iload_n 2, 1) := by decide +kernel
theorem dX8_isAllowed_84 : decode cX8_isAllowed 84 = .ok (.ifCond .eq 36, 3) := by decide +kernel
theorem dX8_isAllowed_87 : decode cX8_isAllowed 87 = .ok (.iload 5, 2) := by decide +kernel
theorem dX8_isAllowed_89 : decode cX8_isAllowed 89 = .ok (.ifCond .eq 27, 3) := by decide +kernel
theorem dX8_isAllowed_92 : decode cX8_isAllowed 92 = .ok (.aload_n 0, 1) := by decide +kernel
theorem dX8_isAllowed_93 : decode cX8_isAllowed 93 = .ok (.getfield 23, 3) := by decide +kernel
theorem dX8_isAllowed_96 : decode cX8_isAllowed 96 = .ok (.iload 4, 2) := by decide +kernel
theorem dX8_isAllowed_98 : decode cX8_isAllowed 98 = .ok (.iaload, 1) := by decide +kernel
theorem dX8_isAllowed_99 : decode cX8_isAllowed 99 = .ok (.iconst 1, 1) := by decide +kernel
theorem dX8_isAllowed_100 : decode cX8_isAllowed 100 = .ok (.if_icmp .ne 11, 3) := by decide +kernel
theorem dX8_isAllowed_103 : decode cX8_isAllowed 103 = .ok (.iload 6, 2) := by decide +kernel
theorem dX8_isAllowed_105 : decode cX8_isAllowed 105 = .ok (.ifCond .ne 11, 3) := by decide +kernel
theorem dX8_isAllowed_108 : decode cX8_isAllowed 108 = .ok (.goto 12, 3) := by decide +kernel
theorem dX8_isAllowed_111 : decode cX8_isAllowed 111 = .ok (.iload 6, 2) := by decide +kernel
theorem dX8_isAllowed_113 : decode cX8_isAllowed 113 = .ok (.ifCond .ne 7, 3) := by decide +kernel
theorem dX8_isAllowed_116 : decode cX8_isAllowed 116 = .ok (.iconst 1, 1) := by decide +kernel
theorem dX8_isAllowed_117 : decode cX8_isAllowed 117 = .ok (.goto 4, 3) := by decide +kernel
theorem dX8_isAllowed_120 : decode cX8_isAllowed 120 = .ok (.iconst 0, 1) := by decide +kernel
theorem dX8_isAllowed_121 : decode cX8_isAllowed 121 = .ok (.istore_n 2, 1) := by decide +kernel
theorem dX8_isAllowed_122 : decode cX8_isAllowed 122 = .ok (.iinc 3 1, 3) := by decide +kernel
theorem dX8_isAllowed_125 : decode cX8_isAllowed 125 = .ok (.goto (-121), 3) := by decide +kernel
theorem dX8_isAllowed_128 : decode cX8_isAllowed 128 = .ok (.iload_n 2, 1) := by decide +kernel
theorem dX8_isAllowed_129 : decode cX8_isAllowed 129 = .ok (.ireturn, 1) := by decide +kernel
theorem dX8_allowed_0 : decode cX8_allowed 0 = .ok (.aload_n 0, 1) := by decide +kernel
theorem dX8_allowed_1 : decode cX8_allowed 1 = .ok (.iload_n 1, 1) := by decide +kernel
theorem dX8_allowed_2 : decode cX8_allowed 2 = .ok (.invokevirtual 98, 3) := by decide +kernel
theorem dX8_allowed_5 : decode cX8_allowed 5 = .ok (.ifCond .ne 7, 3) := by decide +kernel
theorem dX8_allowed_8 : decode cX8_allowed 8 = .ok (.iconst (-1), 1) := by decide +kernel
theorem dX8_allowed_9 : decode cX8_allowed 9 = .ok (.goto 16, 3) := by decide +kernel
theorem dX8_allowed_12 : decode cX8_allowed 12 = .ok (.aload_n 0, 1) := by decide +kernel
theorem dX8_allowed_13 : decode cX8_allowed 13 = .ok (.iload_n 1, 1) := by decide +kernel
theorem dX8_allowed_14 : decode cX8_allowed 14 = .ok (.invokevirtual 105, 3) := by decide +kernel
theorem dX8_allowed_17 : decode cX8_allowed 17 = .ok (.ifCond .eq 7, 3) := by decide +kernel
theorem dX8_allowed_20 : decode cX8_allowed 20 = .ok (.iconst 1, 1) := by decide +kernel
theorem dX8_allowed_21 : decode cX8_allowed 21 = .ok (.goto 4, 3) := by decide +kernel
theorem dX8_allowed_24 : decode cX8_allowed 24 = .ok (.iconst 0, 1) := by decide +kernel
theorem dX8_allowed_25 : decode cX8_allowed 25 = .ok (.ireturn, 1) := by decide +kernel
theorem dX8_book_0 : decode cX8_book 0 = .ok (.iconst 0, 1) := by decide +kernel
theorem dX8_book_1 : decode cX8_book 1 = .ok (.istore_n 1, 1) := by decide +kernel
theorem dX8_book_2 : decode cX8_book 2 = .ok (.iconst 0, 1) := by decide +kernel
theorem dX8_book_3 : decode cX8_book 3 = .ok (.istore_n 2, 1) := by decide +kernel
theorem dX8_book_4 : decode cX8_book 4 = .ok (.iload_n 2, 1) := by decide +kernel
theorem dX8_book_5 : decode cX8_book 5 = .ok (.aload_n 0, 1) := by decide +kernel
theorem dX8_book_6 : decode cX8_book 6 = .ok (.getfield 7, 3) := by decide +kernel
theorem dX8_book_9 : decode cX8_book 9 = .ok (.if_icmp .ge 25, 3) := by decide +kernel
theorem dX8_book_12 : decode cX8_book 12 = .ok (.iload_n 1, 1) := by decide +kernel
theorem dX8_book_13 : decode cX8_book 13 = .ok (.aload_n 0, 1) := by decide +kernel
theorem dX8_book_14 : decode cX8_book 14 = .ok (.iload_n 2, 1) := by decide +kernel
theorem dX8_book_15 : decode cX8_book 15 = .ok (.invokevirtual 105, 3) := by decide +kernel
theorem dX8_book_18 : decode cX8_book 18 = .ok (.ifCond .eq 7, 3) := by decide +kernel
theorem dX8_book_21 : decode cX8_book 21 = .ok (.iconst 1, 1) := by decide +kernel
theorem dX8_book_22 : decode cX8_book 22 = .ok (.goto 4, 3) := by decide +kernel
theorem dX8_book_25 : decode cX8_book 25 = .ok (.iconst 0, 1) := by decide +kernel
theorem dX8_book_26 : decode cX8_book 26 = .ok (.iadd, 1) := by decide +kernel
theorem dX8_book_27 : decode cX8_book 27 = .ok (.istore_n 1, 1) := by decide +kernel
theorem dX8_book_28 : decode cX8_book 28 = .ok (.iinc 2 1, 3) := by decide +kernel
theorem dX8_book_31 : decode cX8_book 31 = .ok (.goto (-27), 3) := by decide +kernel
theorem dX8_book_34 : decode cX8_book 34 = .ok (.iload_n 1, 1) := by decide +kernel
theorem dX8_book_35 : decode cX8_book 35 = .ok (.ireturn, 1) := by decide +kernel
theorem dX8_worthOf_0 : decode cX8_worthOf 0 = .ok (.aload_n 0, 1) := by decide +kernel
theorem dX8_worthOf_1 : decode cX8_worthOf 1 = .ok (.getfield 80, 3) := by decide +kernel
theorem dX8_worthOf_4 : decode cX8_worthOf 4 = .ok (.istore_n 2, 1) := by decide +kernel
theorem dX8_worthOf_5 : decode cX8_worthOf 5 = .ok (.iconst 0, 1) := by decide +kernel
theorem dX8_worthOf_6 : decode cX8_worthOf 6 = .ok (.istore_n 3, 1) := by decide +kernel
theorem dX8_worthOf_7 : decode cX8_worthOf 7 = .ok (.iload_n 3, 1) := by decide +kernel
theorem dX8_worthOf_8 : decode cX8_worthOf 8 = .ok (.aload_n 0, 1) := by decide +kernel
theorem dX8_worthOf_9 : decode cX8_worthOf 9 = .ok (.getfield 47, 3) := by decide +kernel
theorem dX8_worthOf_12 : decode cX8_worthOf 12 = .ok (.if_icmp .ge 77, 3) := by decide +kernel
theorem dX8_worthOf_15 : decode cX8_worthOf 15 = .ok (.iconst 4, 1) := by decide +kernel
theorem dX8_worthOf_16 : decode cX8_worthOf 16 = .ok (.iload_n 3, 1) := by decide +kernel
theorem dX8_worthOf_17 : decode cX8_worthOf 17 = .ok (.imul, 1) := by decide +kernel
theorem dX8_worthOf_18 : decode cX8_worthOf 18 = .ok (.aload_n 0, 1) := by decide +kernel
theorem dX8_worthOf_19 : decode cX8_worthOf 19 = .ok (.iload_n 1, 1) := by decide +kernel
theorem dX8_worthOf_20 : decode cX8_worthOf 20 = .ok (.iload_n 3, 1) := by decide +kernel
theorem dX8_worthOf_21 : decode cX8_worthOf 21 = .ok (.invokevirtual 94, 3) := by decide +kernel
theorem dX8_worthOf_24 : decode cX8_worthOf 24 = .ok (.iadd, 1) := by decide +kernel
theorem dX8_worthOf_25 : decode cX8_worthOf 25 = .ok (.istore 4, 2) := by decide +kernel
theorem dX8_worthOf_27 : decode cX8_worthOf 27 = .ok (.iload_n 2, 1) := by decide +kernel
theorem dX8_worthOf_28 : decode cX8_worthOf 28 = .ok (.aload_n 0, 1) := by decide +kernel
theorem dX8_worthOf_29 : decode cX8_worthOf 29 = .ok (.getfield 26, 3) := by decide +kernel
theorem dX8_worthOf_32 : decode cX8_worthOf 32 = .ok (.iload 4, 2) := by decide +kernel
theorem dX8_worthOf_34 : decode cX8_worthOf 34 = .ok (.iaload, 1) := by decide +kernel
theorem dX8_worthOf_35 : decode cX8_worthOf 35 = .ok (.iadd, 1) := by decide +kernel
theorem dX8_worthOf_36 : decode cX8_worthOf 36 = .ok (.istore_n 2, 1) := by decide +kernel
theorem dX8_worthOf_37 : decode cX8_worthOf 37 = .ok (.iload_n 3, 1) := by decide +kernel
theorem dX8_worthOf_38 : decode cX8_worthOf 38 = .ok (.iconst 1, 1) := by decide +kernel
theorem dX8_worthOf_39 : decode cX8_worthOf 39 = .ok (.iadd, 1) := by decide +kernel
theorem dX8_worthOf_40 : decode cX8_worthOf 40 = .ok (.istore 5, 2) := by decide +kernel
theorem dX8_worthOf_42 : decode cX8_worthOf 42 = .ok (.iload 5, 2) := by decide +kernel
theorem dX8_worthOf_44 : decode cX8_worthOf 44 = .ok (.aload_n 0, 1) := by decide +kernel
theorem dX8_worthOf_45 : decode cX8_worthOf 45 = .ok (.getfield 47, 3) := by decide +kernel
theorem dX8_worthOf_48 : decode cX8_worthOf 48 = .ok (.if_icmp .ge 35, 3) := by decide +kernel
theorem dX8_worthOf_51 : decode cX8_worthOf 51 = .ok (.iload_n 2, 1) := by decide +kernel
theorem dX8_worthOf_52 : decode cX8_worthOf 52 = .ok (.aload_n 0, 1) := by decide +kernel
theorem dX8_worthOf_53 : decode cX8_worthOf 53 = .ok (.getfield 29, 3) := by decide +kernel
theorem dX8_worthOf_56 : decode cX8_worthOf 56 = .ok (.bipush 24, 2) := by decide +kernel
theorem dX8_worthOf_58 : decode cX8_worthOf 58 = .ok (.iload 4, 2) := by decide +kernel
theorem dX8_worthOf_60 : decode cX8_worthOf 60 = .ok (.imul, 1) := by decide +kernel
theorem dX8_worthOf_61 : decode cX8_worthOf 61 = .ok (.iconst 4, 1) := by decide +kernel
theorem dX8_worthOf_62 : decode cX8_worthOf 62 = .ok (.iload 5, 2) := by decide +kernel
theorem dX8_worthOf_64 : decode cX8_worthOf 64 = .ok (.imul, 1) := by decide +kernel
theorem dX8_worthOf_65 : decode cX8_worthOf 65 = .ok (.iadd, 1) := by decide +kernel
theorem dX8_worthOf_66 : decode cX8_worthOf 66 = .ok (.aload_n 0, 1) := by decide +kernel
theorem dX8_worthOf_67 : decode cX8_worthOf 67 = .ok (.iload_n 1, 1) := by decide +kernel
theorem dX8_worthOf_68 : decode cX8_worthOf 68 = .ok (.iload 5, 2) := by decide +kernel
theorem dX8_worthOf_70 : decode cX8_worthOf 70 = .ok (.invokevirtual 94, 3) := by decide +kernel
theorem dX8_worthOf_73 : decode cX8_worthOf 73 = .ok (.iadd, 1) := by decide +kernel
theorem dX8_worthOf_74 : decode cX8_worthOf 74 = .ok (.iaload, 1) := by decide +kernel
theorem dX8_worthOf_75 : decode cX8_worthOf 75 = .ok (.iadd, 1) := by decide +kernel
theorem dX8_worthOf_76 : decode cX8_worthOf 76 = .ok (.istore_n 2, 1) := by decide +kernel
theorem dX8_worthOf_77 : decode cX8_worthOf 77 = .ok (.iinc 5 1, 3) := by decide +kernel
theorem dX8_worthOf_80 : decode cX8_worthOf 80 = .ok (.goto (-38), 3) := by decide +kernel
theorem dX8_worthOf_83 : decode cX8_worthOf 83 = .ok (.iinc 3 1, 3) := by decide +kernel
theorem dX8_worthOf_86 : decode cX8_worthOf 86 = .ok (.goto (-79), 3) := by decide +kernel
theorem dX8_worthOf_89 : decode cX8_worthOf 89 = .ok (.iload_n 2, 1) := by decide +kernel
theorem dX8_worthOf_90 : decode cX8_worthOf 90 = .ok (.ireturn, 1) := by decide +kernel
theorem dX8_worth_0 : decode cX8_worth 0 = .ok (.aload_n 0, 1) := by decide +kernel
theorem dX8_worth_1 : decode cX8_worth 1 = .ok (.iload_n 1, 1) := by decide +kernel
theorem dX8_worth_2 : decode cX8_worth 2 = .ok (.invokevirtual 98, 3) := by decide +kernel
theorem dX8_worth_5 : decode cX8_worth 5 = .ok (.ifCond .eq 11, 3) := by decide +kernel
theorem dX8_worth_8 : decode cX8_worth 8 = .ok (.aload_n 0, 1) := by decide +kernel
theorem dX8_worth_9 : decode cX8_worth 9 = .ok (.iload_n 1, 1) := by decide +kernel
theorem dX8_worth_10 : decode cX8_worth 10 = .ok (.invokevirtual 108, 3) := by decide +kernel
theorem dX8_worth_13 : decode cX8_worth 13 = .ok (.goto 5, 3) := by decide +kernel
theorem dX8_worth_16 : decode cX8_worth 16 = .ok (.ldc 111, 2) := by decide +kernel
theorem dX8_worth_18 : decode cX8_worth 18 = .ok (.ireturn, 1) := by decide +kernel
theorem dX8_best_0 : decode cX8_best 0 = .ok (.iload_n 1, 1) := by decide +kernel
theorem dX8_best_1 : decode cX8_best 1 = .ok (.i2l, 1) := by decide +kernel
theorem dX8_best_2 : decode cX8_best 2 = .ok (.lconst 0, 1) := by decide +kernel
theorem dX8_best_3 : decode cX8_best 3 = .ok (.lconst 1, 1) := by decide +kernel
theorem dX8_best_4 : decode cX8_best 4 = .ok (.invokestatic 50, 3) := by decide +kernel
theorem dX8_best_7 : decode cX8_best 7 = .ok (.ifCond .ne 6, 3) := by decide +kernel
theorem dX8_best_10 : decode cX8_best 10 = .ok (.ldc 112, 2) := by decide +kernel
theorem dX8_best_12 : decode cX8_best 12 = .ok (.ireturn, 1) := by decide +kernel
theorem dX8_best_13 : decode cX8_best 13 = .ok (.iconst (-1), 1) := by decide +kernel
theorem dX8_best_14 : decode cX8_best 14 = .ok (.istore_n 2, 1) := by decide +kernel
theorem dX8_best_15 : decode cX8_best 15 = .ok (.iconst 0, 1) := by decide +kernel
theorem dX8_best_16 : decode cX8_best 16 = .ok (.istore_n 3, 1) := by decide +kernel
theorem dX8_best_17 : decode cX8_best 17 = .ok (.iload_n 3, 1) := by decide +kernel
theorem dX8_best_18 : decode cX8_best 18 = .ok (.aload_n 0, 1) := by decide +kernel
theorem dX8_best_19 : decode cX8_best 19 = .ok (.getfield 7, 3) := by decide +kernel
theorem dX8_best_22 : decode cX8_best 22 = .ok (.if_icmp .ge 40, 3) := by decide +kernel
theorem dX8_best_25 : decode cX8_best 25 = .ok (.aload_n 0, 1) := by decide +kernel
theorem dX8_best_26 : decode cX8_best 26 = .ok (.iload_n 3, 1) := by decide +kernel
theorem dX8_best_27 : decode cX8_best 27 = .ok (.invokevirtual 105, 3) := by decide +kernel
theorem dX8_best_30 : decode cX8_best 30 = .ok (.ifCond .eq 24, 3) := by decide +kernel
theorem dX8_best_33 : decode cX8_best 33 = .ok (.iload_n 2, 1) := by decide +kernel
theorem dX8_best_34 : decode cX8_best 34 = .ok (.ifCond .lt 16, 3) := by decide +kernel
theorem dX8_best_37 : decode cX8_best 37 = .ok (.aload_n 0, 1) := by decide +kernel
theorem dX8_best_38 : decode cX8_best 38 = .ok (.iload_n 3, 1) := by decide +kernel
theorem dX8_best_39 : decode cX8_best 39 = .ok (.invokevirtual 108, 3) := by decide +kernel
theorem dX8_best_42 : decode cX8_best 42 = .ok (.aload_n 0, 1) := by decide +kernel
theorem dX8_best_43 : decode cX8_best 43 = .ok (.iload_n 2, 1) := by decide +kernel
theorem dX8_best_44 : decode cX8_best 44 = .ok (.invokevirtual 108, 3) := by decide +kernel
theorem dX8_best_47 : decode cX8_best 47 = .ok (.if_icmp .le 7, 3) := by decide +kernel
theorem dX8_best_50 : decode cX8_best 50 = .ok (.iload_n 3, 1) := by decide +kernel
theorem dX8_best_51 : decode cX8_best 51 = .ok (.goto 4, 3) := by decide +kernel
theorem dX8_best_54 : decode cX8_best 54 = .ok (.iload_n 2, 1) := by decide +kernel
theorem dX8_best_55 : decode cX8_best 55 = .ok (.istore_n 2, 1) := by decide +kernel
theorem dX8_best_56 : decode cX8_best 56 = .ok (.iinc 3 1, 3) := by decide +kernel
theorem dX8_best_59 : decode cX8_best 59 = .ok (.goto (-42), 3) := by decide +kernel
theorem dX8_best_62 : decode cX8_best 62 = .ok (.iload_n 1, 1) := by decide +kernel
theorem dX8_best_63 : decode cX8_best 63 = .ok (.ifCond .ne 20, 3) := by decide +kernel
theorem dX8_best_66 : decode cX8_best 66 = .ok (.iload_n 2, 1) := by decide +kernel
theorem dX8_best_67 : decode cX8_best 67 = .ok (.ifCond .ge 8, 3) := by decide +kernel
theorem dX8_best_70 : decode cX8_best 70 = .ok (.ldc 111, 2) := by decide +kernel
theorem dX8_best_72 : decode cX8_best 72 = .ok (.goto 21, 3) := by decide +kernel
theorem dX8_best_75 : decode cX8_best 75 = .ok (.aload_n 0, 1) := by decide +kernel
theorem dX8_best_76 : decode cX8_best 76 = .ok (.iload_n 2, 1) := by decide +kernel
theorem dX8_best_77 : decode cX8_best 77 = .ok (.invokevirtual 108, 3) := by decide +kernel
theorem dX8_best_80 : decode cX8_best 80 = .ok (.goto 13, 3) := by decide +kernel
theorem dX8_best_83 : decode cX8_best 83 = .ok (.iload_n 2, 1) := by decide +kernel
theorem dX8_best_84 : decode cX8_best 84 = .ok (.ifCond .ge 8, 3) := by decide +kernel
theorem dX8_best_87 : decode cX8_best 87 = .ok (.bipush (-4), 2) := by decide +kernel
theorem dX8_best_89 : decode cX8_best 89 = .ok (.goto 4, 3) := by decide +kernel
theorem dX8_best_92 : decode cX8_best 92 = .ok (.iload_n 2, 1) := by decide +kernel
theorem dX8_best_93 : decode cX8_best 93 = .ok (.ireturn, 1) := by decide +kernel
theorem dX8_tries_0 : decode cX8_tries 0 = .ok (.aload_n 0, 1) := by decide +kernel
theorem dX8_tries_1 : decode cX8_tries 1 = .ok (.aload_n 0, 1) := by decide +kernel
theorem dX8_tries_2 : decode cX8_tries 2 = .ok (.getfield 32, 3) := by decide +kernel
theorem dX8_tries_5 : decode cX8_tries 5 = .ok (.i2l, 1) := by decide +kernel
theorem dX8_tries_6 : decode cX8_tries 6 = .ok (.ldc2_w 113, 3) := by decide +kernel
theorem dX8_tries_9 : decode cX8_tries 9 = .ok (.lmul, 1) := by decide +kernel
theorem dX8_tries_10 : decode cX8_tries 10 = .ok (.ldc2_w 115, 3) := by decide +kernel
theorem dX8_tries_13 : decode cX8_tries 13 = .ok (.ladd, 1) := by decide +kernel
theorem dX8_tries_14 : decode cX8_tries 14 = .ok (.ldc2_w 117, 3) := by decide +kernel
theorem dX8_tries_17 : decode cX8_tries 17 = .ok (.lrem, 1) := by decide +kernel
theorem dX8_tries_18 : decode cX8_tries 18 = .ok (.l2i, 1) := by decide +kernel
theorem dX8_tries_19 : decode cX8_tries 19 = .ok (.putfield 32, 3) := by decide +kernel
theorem dX8_tries_22 : decode cX8_tries 22 = .ok (.aload_n 0, 1) := by decide +kernel
theorem dX8_tries_23 : decode cX8_tries 23 = .ok (.getfield 35, 3) := by decide +kernel
theorem dX8_tries_26 : decode cX8_tries 26 = .ok (.aload_n 0, 1) := by decide +kernel
theorem dX8_tries_27 : decode cX8_tries 27 = .ok (.getfield 62, 3) := by decide +kernel
theorem dX8_tries_30 : decode cX8_tries 30 = .ok (.iload_n 1, 1) := by decide +kernel
theorem dX8_tries_31 : decode cX8_tries 31 = .ok (.iastore, 1) := by decide +kernel
theorem dX8_tries_32 : decode cX8_tries 32 = .ok (.aload_n 0, 1) := by decide +kernel
theorem dX8_tries_33 : decode cX8_tries 33 = .ok (.getfield 38, 3) := by decide +kernel
theorem dX8_tries_36 : decode cX8_tries 36 = .ok (.aload_n 0, 1) := by decide +kernel
theorem dX8_tries_37 : decode cX8_tries 37 = .ok (.getfield 62, 3) := by decide +kernel
theorem dX8_tries_40 : decode cX8_tries 40 = .ok (.aload_n 0, 1) := by decide +kernel
theorem dX8_tries_41 : decode cX8_tries 41 = .ok (.iload_n 1, 1) := by decide +kernel
theorem dX8_tries_42 : decode cX8_tries 42 = .ok (.invokevirtual 108, 3) := by decide +kernel
theorem dX8_tries_45 : decode cX8_tries 45 = .ok (.aload_n 0, 1) := by decide +kernel
theorem dX8_tries_46 : decode cX8_tries 46 = .ok (.getfield 32, 3) := by decide +kernel
theorem dX8_tries_49 : decode cX8_tries 49 = .ok (.bipush 64, 2) := by decide +kernel
theorem dX8_tries_51 : decode cX8_tries 51 = .ok (.idiv, 1) := by decide +kernel
theorem dX8_tries_52 : decode cX8_tries 52 = .ok (.iconst 2, 1) := by decide +kernel
theorem dX8_tries_53 : decode cX8_tries 53 = .ok (.aload_n 0, 1) := by decide +kernel
theorem dX8_tries_54 : decode cX8_tries 54 = .ok (.getfield 85, 3) := by decide +kernel
theorem dX8_tries_57 : decode cX8_tries 57 = .ok (.imul, 1) := by decide +kernel
theorem dX8_tries_58 : decode cX8_tries 58 = .ok (.iconst 1, 1) := by decide +kernel
theorem dX8_tries_59 : decode cX8_tries 59 = .ok (.iadd, 1) := by decide +kernel
theorem dX8_tries_60 : decode cX8_tries 60 = .ok (.irem, 1) := by decide +kernel
theorem dX8_tries_61 : decode cX8_tries 61 = .ok (.iadd, 1) := by decide +kernel
theorem dX8_tries_62 : decode cX8_tries 62 = .ok (.aload_n 0, 1) := by decide +kernel
theorem dX8_tries_63 : decode cX8_tries 63 = .ok (.getfield 85, 3) := by decide +kernel
theorem dX8_tries_66 : decode cX8_tries 66 = .ok (.isub, 1) := by decide +kernel
theorem dX8_tries_67 : decode cX8_tries 67 = .ok (.iastore, 1) := by decide +kernel
theorem dX8_tries_68 : decode cX8_tries 68 = .ok (.aload_n 0, 1) := by decide +kernel
theorem dX8_tries_69 : decode cX8_tries 69 = .ok (.dup, 1) := by decide +kernel
theorem dX8_tries_70 : decode cX8_tries 70 = .ok (.getfield 62, 3) := by decide +kernel
theorem dX8_tries_73 : decode cX8_tries 73 = .ok (.iconst 1, 1) := by decide +kernel
theorem dX8_tries_74 : decode cX8_tries 74 = .ok (.iadd, 1) := by decide +kernel
theorem dX8_tries_75 : decode cX8_tries 75 = .ok (.putfield 62, 3) := by decide +kernel
theorem dX8_tries_78 : decode cX8_tries 78 = .ok (.return_, 1) := by decide +kernel
theorem dX8_trial_0 : decode cX8_trial 0 = .ok (.aload_n 0, 1) := by decide +kernel
theorem dX8_trial_1 : decode cX8_trial 1 = .ok (.iload_n 1, 1) := by decide +kernel
theorem dX8_trial_2 : decode cX8_trial 2 = .ok (.invokevirtual 98, 3) := by decide +kernel
theorem dX8_trial_5 : decode cX8_trial 5 = .ok (.ifCond .ne 5, 3) := by decide +kernel
theorem dX8_trial_8 : decode cX8_trial 8 = .ok (.iconst (-1), 1) := by decide +kernel
theorem dX8_trial_9 : decode cX8_trial 9 = .ok (.ireturn, 1) := by decide +kernel
theorem dX8_trial_10 : decode cX8_trial 10 = .ok (.aload_n 0, 1) := by decide +kernel
theorem dX8_trial_11 : decode cX8_trial 11 = .ok (.iload_n 1, 1) := by decide +kernel
theorem dX8_trial_12 : decode cX8_trial 12 = .ok (.invokevirtual 105, 3) := by decide +kernel
theorem dX8_trial_15 : decode cX8_trial 15 = .ok (.ifCond .ne 6, 3) := by decide +kernel
theorem dX8_trial_18 : decode cX8_trial 18 = .ok (.bipush (-2), 2) := by decide +kernel
theorem dX8_trial_20 : decode cX8_trial 20 = .ok (.ireturn, 1) := by decide +kernel
theorem dX8_trial_21 : decode cX8_trial 21 = .ok (.aload_n 0, 1) := by decide +kernel
theorem dX8_trial_22 : decode cX8_trial 22 = .ok (.getfield 62, 3) := by decide +kernel
theorem dX8_trial_25 : decode cX8_trial 25 = .ok (.bipush 60, 2) := by decide +kernel
theorem dX8_trial_27 : decode cX8_trial 27 = .ok (.if_icmp .ne 6, 3) := by decide +kernel
theorem dX8_trial_30 : decode cX8_trial 30 = .ok (.bipush (-3), 2) := by decide +kernel
theorem dX8_trial_32 : decode cX8_trial 32 = .ok (.ireturn, 1) := by decide +kernel
theorem dX8_trial_33 : decode cX8_trial 33 = .ok (.aload_n 0, 1) := by decide +kernel
theorem dX8_trial_34 : decode cX8_trial 34 = .ok (.iload_n 1, 1) := by decide +kernel
theorem dX8_trial_35 : decode cX8_trial 35 = .ok (.invokevirtual 119, 3) := by decide +kernel
theorem dX8_trial_38 : decode cX8_trial 38 = .ok (.aload_n 0, 1) := by decide +kernel
theorem dX8_trial_39 : decode cX8_trial 39 = .ok (.getfield 62, 3) := by decide +kernel
theorem dX8_trial_42 : decode cX8_trial 42 = .ok (.ireturn, 1) := by decide +kernel
theorem dX8_read_0 : decode cX8_read 0 = .ok (.iload_n 1, 1) := by decide +kernel
theorem dX8_read_1 : decode cX8_read 1 = .ok (.i2l, 1) := by decide +kernel
theorem dX8_read_2 : decode cX8_read 2 = .ok (.lconst 0, 1) := by decide +kernel
theorem dX8_read_3 : decode cX8_read 3 = .ok (.aload_n 0, 1) := by decide +kernel
theorem dX8_read_4 : decode cX8_read 4 = .ok (.getfield 62, 3) := by decide +kernel
theorem dX8_read_7 : decode cX8_read 7 = .ok (.iconst 1, 1) := by decide +kernel
theorem dX8_read_8 : decode cX8_read 8 = .ok (.isub, 1) := by decide +kernel
theorem dX8_read_9 : decode cX8_read 9 = .ok (.i2l, 1) := by decide +kernel
theorem dX8_read_10 : decode cX8_read 10 = .ok (.invokestatic 50, 3) := by decide +kernel
theorem dX8_read_13 : decode cX8_read 13 = .ok (.ifCond .eq 35, 3) := by decide +kernel
theorem dX8_read_16 : decode cX8_read 16 = .ok (.iload_n 2, 1) := by decide +kernel
theorem dX8_read_17 : decode cX8_read 17 = .ok (.i2l, 1) := by decide +kernel
theorem dX8_read_18 : decode cX8_read 18 = .ok (.lconst 0, 1) := by decide +kernel
theorem dX8_read_19 : decode cX8_read 19 = .ok (.lconst 1, 1) := by decide +kernel
theorem dX8_read_20 : decode cX8_read 20 = .ok (.invokestatic 50, 3) := by decide +kernel
theorem dX8_read_23 : decode cX8_read 23 = .ok (.ifCond .eq 25, 3) := by decide +kernel
theorem dX8_read_26 : decode cX8_read 26 = .ok (.iload_n 2, 1) := by decide +kernel
theorem dX8_read_27 : decode cX8_read 27 = .ok (.ifCond .ne 12, 3) := by decide +kernel
theorem dX8_read_30 : decode cX8_read 30 = .ok (.aload_n 0, 1) := by decide +kernel
theorem dX8_read_31 : decode cX8_read 31 = .ok (.getfield 38, 3) := by decide +kernel
theorem dX8_read_34 : decode cX8_read 34 = .ok (.iload_n 1, 1) := by decide +kernel
theorem dX8_read_35 : decode cX8_read 35 = .ok (.iaload, 1) := by decide +kernel
theorem dX8_read_36 : decode cX8_read 36 = .ok (.goto 14, 3) := by decide +kernel
theorem dX8_read_39 : decode cX8_read 39 = .ok (.aload_n 0, 1) := by decide +kernel
theorem dX8_read_40 : decode cX8_read 40 = .ok (.getfield 35, 3) := by decide +kernel
theorem dX8_read_43 : decode cX8_read 43 = .ok (.iload_n 1, 1) := by decide +kernel
theorem dX8_read_44 : decode cX8_read 44 = .ok (.iaload, 1) := by decide +kernel
theorem dX8_read_45 : decode cX8_read 45 = .ok (.goto 5, 3) := by decide +kernel
theorem dX8_read_48 : decode cX8_read 48 = .ok (.ldc 111, 2) := by decide +kernel
theorem dX8_read_50 : decode cX8_read 50 = .ok (.ireturn, 1) := by decide +kernel
theorem dX8_forget_0 : decode cX8_forget 0 = .ok (.aload_n 0, 1) := by decide +kernel
theorem dX8_forget_1 : decode cX8_forget 1 = .ok (.getfield 62, 3) := by decide +kernel
theorem dX8_forget_4 : decode cX8_forget 4 = .ok (.istore_n 1, 1) := by decide +kernel
theorem dX8_forget_5 : decode cX8_forget 5 = .ok (.aload_n 0, 1) := by decide +kernel
theorem dX8_forget_6 : decode cX8_forget 6 = .ok (.iconst 0, 1) := by decide +kernel
theorem dX8_forget_7 : decode cX8_forget 7 = .ok (.putfield 62, 3) := by decide +kernel
theorem dX8_forget_10 : decode cX8_forget 10 = .ok (.iload_n 1, 1) := by decide +kernel
theorem dX8_forget_11 : decode cX8_forget 11 = .ok (.ireturn, 1) := by decide +kernel
theorem dX8_off_0 : decode cX8_off 0 = .ok (.iconst 0, 1) := by decide +kernel
theorem dX8_off_1 : decode cX8_off 1 = .ok (.istore_n 3, 1) := by decide +kernel
theorem dX8_off_2 : decode cX8_off 2 = .ok (.iconst 0, 1) := by decide +kernel
theorem dX8_off_3 : decode cX8_off 3 = .ok (.istore 4, 2) := by decide +kernel
theorem dX8_off_5 : decode cX8_off 5 = .ok (.iload 4, 2) := by decide +kernel
theorem dX8_off_7 : decode cX8_off 7 = .ok (.aload_n 0, 1) := by decide +kernel
theorem dX8_off_8 : decode cX8_off 8 = .ok (.getfield 47, 3) := by decide +kernel
theorem dX8_off_11 : decode cX8_off 11 = .ok (.if_icmp .ge 70, 3) := by decide +kernel
theorem dX8_off_14 : decode cX8_off 14 = .ok (.aload_n 0, 1) := by decide +kernel
theorem dX8_off_15 : decode cX8_off 15 = .ok (.getfield 17, 3) := by decide +kernel
theorem dX8_off_18 : decode cX8_off 18 = .ok (.iconst 4, 1) := by decide +kernel
theorem dX8_off_19 : decode cX8_off 19 = .ok (.iload 4, 2) := by decide +kernel
theorem dX8_off_21 : decode cX8_off 21 = .ok (.imul, 1) := by decide +kernel
theorem dX8_off_22 : decode cX8_off 22 = .ok (.aload_n 0, 1) := by decide +kernel
theorem dX8_off_23 : decode cX8_off 23 = .ok (.iload_n 1, 1) := by decide +kernel
theorem dX8_off_24 : decode cX8_off 24 = .ok (.iload 4, 2) := by decide +kernel
theorem dX8_off_26 : decode cX8_off 26 = .ok (.invokevirtual 94, 3) := by decide +kernel
theorem dX8_off_29 : decode cX8_off 29 = .ok (.iadd, 1) := by decide +kernel
theorem dX8_off_30 : decode cX8_off 30 = .ok (.iaload, 1) := by decide +kernel
theorem dX8_off_31 : decode cX8_off 31 = .ok (.aload_n 0, 1) := by decide +kernel
theorem dX8_off_32 : decode cX8_off 32 = .ok (.getfield 17, 3) := by decide +kernel
theorem dX8_off_35 : decode cX8_off 35 = .ok (.iconst 4, 1) := by decide +kernel
theorem dX8_off_36 : decode cX8_off 36 = .ok (.iload 4, 2) := by decide +kernel
theorem dX8_off_38 : decode cX8_off 38 = .ok (.imul, 1) := by decide +kernel
theorem dX8_off_39 : decode cX8_off 39 = .ok (.aload_n 0, 1) := by decide +kernel
theorem dX8_off_40 : decode cX8_off 40 = .ok (.iload_n 2, 1) := by decide +kernel
theorem dX8_off_41 : decode cX8_off 41 = .ok (.iload 4, 2) := by decide +kernel
theorem dX8_off_43 : decode cX8_off 43 = .ok (.invokevirtual 94, 3) := by decide +kernel
theorem dX8_off_46 : decode cX8_off 46 = .ok (.iadd, 1) := by decide +kernel
theorem dX8_off_47 : decode cX8_off 47 = .ok (.iaload, 1) := by decide +kernel
theorem dX8_off_48 : decode cX8_off 48 = .ok (.isub, 1) := by decide +kernel
theorem dX8_off_49 : decode cX8_off 49 = .ok (.istore 5, 2) := by decide +kernel
theorem dX8_off_51 : decode cX8_off 51 = .ok (.iload_n 3, 1) := by decide +kernel
theorem dX8_off_52 : decode cX8_off 52 = .ok (.iload 5, 2) := by decide +kernel
theorem dX8_off_54 : decode cX8_off 54 = .ok (.ifCond .ge 9, 3) := by decide +kernel
theorem dX8_off_57 : decode cX8_off 57 = .ok (.iload 5, 2) := by decide +kernel
theorem dX8_off_59 : decode cX8_off 59 = .ok (.ineg, 1) := by decide +kernel
theorem dX8_off_60 : decode cX8_off 60 = .ok (.goto 5, 3) := by decide +kernel
theorem dX8_off_63 : decode cX8_off 63 = .ok (.iload 5, 2) := by decide +kernel
theorem dX8_off_65 : decode cX8_off 65 = .ok (.aload_n 0, 1) := by decide +kernel
theorem dX8_off_66 : decode cX8_off 66 = .ok (.getfield 20, 3) := by decide +kernel
theorem dX8_off_69 : decode cX8_off 69 = .ok (.iload 4, 2) := by decide +kernel
theorem dX8_off_71 : decode cX8_off 71 = .ok (.iaload, 1) := by decide +kernel
theorem dX8_off_72 : decode cX8_off 72 = .ok (.imul, 1) := by decide +kernel
theorem dX8_off_73 : decode cX8_off 73 = .ok (.iadd, 1) := by decide +kernel
theorem dX8_off_74 : decode cX8_off 74 = .ok (.istore_n 3, 1) := by decide +kernel
theorem dX8_off_75 : decode cX8_off 75 = .ok (.iinc 4 1, 3) := by decide +kernel
theorem dX8_off_78 : decode cX8_off 78 = .ok (.goto (-73), 3) := by decide +kernel
theorem dX8_off_81 : decode cX8_off 81 = .ok (.iload_n 3, 1) := by decide +kernel
theorem dX8_off_82 : decode cX8_off 82 = .ok (.ireturn, 1) := by decide +kernel
theorem dX8_floor_0 : decode cX8_floor 0 = .ok (.ldc 123, 2) := by decide +kernel
theorem dX8_floor_2 : decode cX8_floor 2 = .ok (.istore_n 2, 1) := by decide +kernel
theorem dX8_floor_3 : decode cX8_floor 3 = .ok (.iconst 0, 1) := by decide +kernel
theorem dX8_floor_4 : decode cX8_floor 4 = .ok (.istore_n 3, 1) := by decide +kernel
theorem dX8_floor_5 : decode cX8_floor 5 = .ok (.iload_n 3, 1) := by decide +kernel
theorem dX8_floor_6 : decode cX8_floor 6 = .ok (.aload_n 0, 1) := by decide +kernel
theorem dX8_floor_7 : decode cX8_floor 7 = .ok (.getfield 62, 3) := by decide +kernel
theorem dX8_floor_10 : decode cX8_floor 10 = .ok (.if_icmp .ge 51, 3) := by decide +kernel
theorem dX8_floor_13 : decode cX8_floor 13 = .ok (.aload_n 0, 1) := by decide +kernel
theorem dX8_floor_14 : decode cX8_floor 14 = .ok (.getfield 38, 3) := by decide +kernel
theorem dX8_floor_17 : decode cX8_floor 17 = .ok (.iload_n 3, 1) := by decide +kernel
theorem dX8_floor_18 : decode cX8_floor 18 = .ok (.iaload, 1) := by decide +kernel
theorem dX8_floor_19 : decode cX8_floor 19 = .ok (.aload_n 0, 1) := by decide +kernel
theorem dX8_floor_20 : decode cX8_floor 20 = .ok (.getfield 85, 3) := by decide +kernel
theorem dX8_floor_23 : decode cX8_floor 23 = .ok (.isub, 1) := by decide +kernel
theorem dX8_floor_24 : decode cX8_floor 24 = .ok (.aload_n 0, 1) := by decide +kernel
theorem dX8_floor_25 : decode cX8_floor 25 = .ok (.iload_n 1, 1) := by decide +kernel
theorem dX8_floor_26 : decode cX8_floor 26 = .ok (.aload_n 0, 1) := by decide +kernel
theorem dX8_floor_27 : decode cX8_floor 27 = .ok (.getfield 35, 3) := by decide +kernel
theorem dX8_floor_30 : decode cX8_floor 30 = .ok (.iload_n 3, 1) := by decide +kernel
theorem dX8_floor_31 : decode cX8_floor 31 = .ok (.iaload, 1) := by decide +kernel
theorem dX8_floor_32 : decode cX8_floor 32 = .ok (.invokevirtual 124, 3) := by decide +kernel
theorem dX8_floor_35 : decode cX8_floor 35 = .ok (.isub, 1) := by decide +kernel
theorem dX8_floor_36 : decode cX8_floor 36 = .ok (.istore 4, 2) := by decide +kernel
theorem dX8_floor_38 : decode cX8_floor 38 = .ok (.iload_n 3, 1) := by decide +kernel
theorem dX8_floor_39 : decode cX8_floor 39 = .ok (.ifCond .eq 9, 3) := by decide +kernel
theorem dX8_floor_42 : decode cX8_floor 42 = .ok (.iload 4, 2) := by decide +kernel
theorem dX8_floor_44 : decode cX8_floor 44 = .ok (.iload_n 2, 1) := by decide +kernel
theorem dX8_floor_45 : decode cX8_floor 45 = .ok (.if_icmp .le 8, 3) := by decide +kernel
theorem dX8_floor_48 : decode cX8_floor 48 = .ok (.iload 4, 2) := by decide +kernel
theorem dX8_floor_50 : decode cX8_floor 50 = .ok (.goto 4, 3) := by decide +kernel
theorem dX8_floor_53 : decode cX8_floor 53 = .ok (.iload_n 2, 1) := by decide +kernel
theorem dX8_floor_54 : decode cX8_floor 54 = .ok (.istore_n 2, 1) := by decide +kernel
theorem dX8_floor_55 : decode cX8_floor 55 = .ok (.iinc 3 1, 3) := by decide +kernel
theorem dX8_floor_58 : decode cX8_floor 58 = .ok (.goto (-53), 3) := by decide +kernel
theorem dX8_floor_61 : decode cX8_floor 61 = .ok (.iload_n 2, 1) := by decide +kernel
theorem dX8_floor_62 : decode cX8_floor 62 = .ok (.ireturn, 1) := by decide +kernel
theorem dX8_roof_0 : decode cX8_roof 0 = .ok (.ldc 127, 2) := by decide +kernel
theorem dX8_roof_2 : decode cX8_roof 2 = .ok (.istore_n 2, 1) := by decide +kernel
theorem dX8_roof_3 : decode cX8_roof 3 = .ok (.iconst 0, 1) := by decide +kernel
theorem dX8_roof_4 : decode cX8_roof 4 = .ok (.istore_n 3, 1) := by decide +kernel
theorem dX8_roof_5 : decode cX8_roof 5 = .ok (.iload_n 3, 1) := by decide +kernel
theorem dX8_roof_6 : decode cX8_roof 6 = .ok (.aload_n 0, 1) := by decide +kernel
theorem dX8_roof_7 : decode cX8_roof 7 = .ok (.getfield 62, 3) := by decide +kernel
theorem dX8_roof_10 : decode cX8_roof 10 = .ok (.if_icmp .ge 51, 3) := by decide +kernel
theorem dX8_roof_13 : decode cX8_roof 13 = .ok (.aload_n 0, 1) := by decide +kernel
theorem dX8_roof_14 : decode cX8_roof 14 = .ok (.getfield 38, 3) := by decide +kernel
theorem dX8_roof_17 : decode cX8_roof 17 = .ok (.iload_n 3, 1) := by decide +kernel
theorem dX8_roof_18 : decode cX8_roof 18 = .ok (.iaload, 1) := by decide +kernel
theorem dX8_roof_19 : decode cX8_roof 19 = .ok (.aload_n 0, 1) := by decide +kernel
theorem dX8_roof_20 : decode cX8_roof 20 = .ok (.getfield 85, 3) := by decide +kernel
theorem dX8_roof_23 : decode cX8_roof 23 = .ok (.iadd, 1) := by decide +kernel
theorem dX8_roof_24 : decode cX8_roof 24 = .ok (.aload_n 0, 1) := by decide +kernel
theorem dX8_roof_25 : decode cX8_roof 25 = .ok (.iload_n 1, 1) := by decide +kernel
theorem dX8_roof_26 : decode cX8_roof 26 = .ok (.aload_n 0, 1) := by decide +kernel
theorem dX8_roof_27 : decode cX8_roof 27 = .ok (.getfield 35, 3) := by decide +kernel
theorem dX8_roof_30 : decode cX8_roof 30 = .ok (.iload_n 3, 1) := by decide +kernel
theorem dX8_roof_31 : decode cX8_roof 31 = .ok (.iaload, 1) := by decide +kernel
theorem dX8_roof_32 : decode cX8_roof 32 = .ok (.invokevirtual 124, 3) := by decide +kernel
theorem dX8_roof_35 : decode cX8_roof 35 = .ok (.iadd, 1) := by decide +kernel
theorem dX8_roof_36 : decode cX8_roof 36 = .ok (.istore 4, 2) := by decide +kernel
theorem dX8_roof_38 : decode cX8_roof 38 = .ok (.iload_n 3, 1) := by decide +kernel
theorem dX8_roof_39 : decode cX8_roof 39 = .ok (.ifCond .eq 9, 3) := by decide +kernel
theorem dX8_roof_42 : decode cX8_roof 42 = .ok (.iload 4, 2) := by decide +kernel
theorem dX8_roof_44 : decode cX8_roof 44 = .ok (.iload_n 2, 1) := by decide +kernel
theorem dX8_roof_45 : decode cX8_roof 45 = .ok (.if_icmp .ge 8, 3) := by decide +kernel
theorem dX8_roof_48 : decode cX8_roof 48 = .ok (.iload 4, 2) := by decide +kernel
theorem dX8_roof_50 : decode cX8_roof 50 = .ok (.goto 4, 3) := by decide +kernel
theorem dX8_roof_53 : decode cX8_roof 53 = .ok (.iload_n 2, 1) := by decide +kernel
theorem dX8_roof_54 : decode cX8_roof 54 = .ok (.istore_n 2, 1) := by decide +kernel
theorem dX8_roof_55 : decode cX8_roof 55 = .ok (.iinc 3 1, 3) := by decide +kernel
theorem dX8_roof_58 : decode cX8_roof 58 = .ok (.goto (-53), 3) := by decide +kernel
theorem dX8_roof_61 : decode cX8_roof 61 = .ok (.iload_n 2, 1) := by decide +kernel
theorem dX8_roof_62 : decode cX8_roof 62 = .ok (.ireturn, 1) := by decide +kernel
theorem dX8_bound_0 : decode cX8_bound 0 = .ok (.aload_n 0, 1) := by decide +kernel
theorem dX8_bound_1 : decode cX8_bound 1 = .ok (.iload_n 1, 1) := by decide +kernel
theorem dX8_bound_2 : decode cX8_bound 2 = .ok (.invokevirtual 98, 3) := by decide +kernel
theorem dX8_bound_5 : decode cX8_bound 5 = .ok (.ifCond .eq 13, 3) := by decide +kernel
theorem dX8_bound_8 : decode cX8_bound 8 = .ok (.iload_n 2, 1) := by decide +kernel
theorem dX8_bound_9 : decode cX8_bound 9 = .ok (.i2l, 1) := by decide +kernel
theorem dX8_bound_10 : decode cX8_bound 10 = .ok (.lconst 0, 1) := by decide +kernel
theorem dX8_bound_11 : decode cX8_bound 11 = .ok (.lconst 1, 1) := by decide +kernel
theorem dX8_bound_12 : decode cX8_bound 12 = .ok (.invokestatic 50, 3) := by decide +kernel
theorem dX8_bound_15 : decode cX8_bound 15 = .ok (.ifCond .ne 8, 3) := by decide +kernel
theorem dX8_bound_18 : decode cX8_bound 18 = .ok (.ldc 128, 2) := by decide +kernel
theorem dX8_bound_20 : decode cX8_bound 20 = .ok (.goto 20, 3) := by decide +kernel
theorem dX8_bound_23 : decode cX8_bound 23 = .ok (.iload_n 2, 1) := by decide +kernel
theorem dX8_bound_24 : decode cX8_bound 24 = .ok (.ifCond .ne 11, 3) := by decide +kernel
theorem dX8_bound_27 : decode cX8_bound 27 = .ok (.aload_n 0, 1) := by decide +kernel
theorem dX8_bound_28 : decode cX8_bound 28 = .ok (.iload_n 1, 1) := by decide +kernel
theorem dX8_bound_29 : decode cX8_bound 29 = .ok (.invokevirtual 129, 3) := by decide +kernel
theorem dX8_bound_32 : decode cX8_bound 32 = .ok (.goto 8, 3) := by decide +kernel
theorem dX8_bound_35 : decode cX8_bound 35 = .ok (.aload_n 0, 1) := by decide +kernel
theorem dX8_bound_36 : decode cX8_bound 36 = .ok (.iload_n 1, 1) := by decide +kernel
theorem dX8_bound_37 : decode cX8_bound 37 = .ok (.invokevirtual 132, 3) := by decide +kernel
theorem dX8_bound_40 : decode cX8_bound 40 = .ok (.ireturn, 1) := by decide +kernel
theorem dX8_topFloor_0 : decode cX8_topFloor 0 = .ok (.ldc 135, 2) := by decide +kernel
theorem dX8_topFloor_2 : decode cX8_topFloor 2 = .ok (.istore_n 1, 1) := by decide +kernel
theorem dX8_topFloor_3 : decode cX8_topFloor 3 = .ok (.iconst 0, 1) := by decide +kernel
theorem dX8_topFloor_4 : decode cX8_topFloor 4 = .ok (.istore_n 2, 1) := by decide +kernel
theorem dX8_topFloor_5 : decode cX8_topFloor 5 = .ok (.iload_n 2, 1) := by decide +kernel
theorem dX8_topFloor_6 : decode cX8_topFloor 6 = .ok (.aload_n 0, 1) := by decide +kernel
theorem dX8_topFloor_7 : decode cX8_topFloor 7 = .ok (.getfield 7, 3) := by decide +kernel
theorem dX8_topFloor_10 : decode cX8_topFloor 10 = .ok (.if_icmp .ge 38, 3) := by decide +kernel
theorem dX8_topFloor_13 : decode cX8_topFloor 13 = .ok (.aload_n 0, 1) := by decide +kernel
theorem dX8_topFloor_14 : decode cX8_topFloor 14 = .ok (.iload_n 2, 1) := by decide +kernel
theorem dX8_topFloor_15 : decode cX8_topFloor 15 = .ok (.invokevirtual 105, 3) := by decide +kernel
theorem dX8_topFloor_18 : decode cX8_topFloor 18 = .ok (.ifCond .eq 11, 3) := by decide +kernel
theorem dX8_topFloor_21 : decode cX8_topFloor 21 = .ok (.aload_n 0, 1) := by decide +kernel
theorem dX8_topFloor_22 : decode cX8_topFloor 22 = .ok (.iload_n 2, 1) := by decide +kernel
theorem dX8_topFloor_23 : decode cX8_topFloor 23 = .ok (.invokevirtual 129, 3) := by decide +kernel
theorem dX8_topFloor_26 : decode cX8_topFloor 26 = .ok (.goto 4, 3) := by decide +kernel
theorem dX8_topFloor_29 : decode cX8_topFloor 29 = .ok (.iload_n 1, 1) := by decide +kernel
theorem dX8_topFloor_30 : decode cX8_topFloor 30 = .ok (.istore_n 3, 1) := by decide +kernel
theorem dX8_topFloor_31 : decode cX8_topFloor 31 = .ok (.iload_n 3, 1) := by decide +kernel
theorem dX8_topFloor_32 : decode cX8_topFloor 32 = .ok (.iload_n 1, 1) := by decide +kernel
theorem dX8_topFloor_33 : decode cX8_topFloor 33 = .ok (.if_icmp .le 7, 3) := by decide +kernel
theorem dX8_topFloor_36 : decode cX8_topFloor 36 = .ok (.iload_n 3, 1) := by decide +kernel
theorem dX8_topFloor_37 : decode cX8_topFloor 37 = .ok (.goto 4, 3) := by decide +kernel
theorem dX8_topFloor_40 : decode cX8_topFloor 40 = .ok (.iload_n 1, 1) := by decide +kernel
theorem dX8_topFloor_41 : decode cX8_topFloor 41 = .ok (.istore_n 1, 1) := by decide +kernel
theorem dX8_topFloor_42 : decode cX8_topFloor 42 = .ok (.iinc 2 1, 3) := by decide +kernel
theorem dX8_topFloor_45 : decode cX8_topFloor 45 = .ok (.goto (-40), 3) := by decide +kernel
theorem dX8_topFloor_48 : decode cX8_topFloor 48 = .ok (.iload_n 1, 1) := by decide +kernel
theorem dX8_topFloor_49 : decode cX8_topFloor 49 = .ok (.ireturn, 1) := by decide +kernel
theorem dX8_leftMany_0 : decode cX8_leftMany 0 = .ok (.aload_n 0, 1) := by decide +kernel
theorem dX8_leftMany_1 : decode cX8_leftMany 1 = .ok (.invokevirtual 136, 3) := by decide +kernel
theorem dX8_leftMany_4 : decode cX8_leftMany 4 = .ok (.istore_n 1, 1) := by decide +kernel
theorem dX8_leftMany_5 : decode cX8_leftMany 5 = .ok (.iconst 0, 1) := by decide +kernel
theorem dX8_leftMany_6 : decode cX8_leftMany 6 = .ok (.istore_n 2, 1) := by decide +kernel
theorem dX8_leftMany_7 : decode cX8_leftMany 7 = .ok (.iconst 0, 1) := by decide +kernel
theorem dX8_leftMany_8 : decode cX8_leftMany 8 = .ok (.istore_n 3, 1) := by decide +kernel
theorem dX8_leftMany_9 : decode cX8_leftMany 9 = .ok (.iload_n 3, 1) := by decide +kernel
theorem dX8_leftMany_10 : decode cX8_leftMany 10 = .ok (.aload_n 0, 1) := by decide +kernel
theorem dX8_leftMany_11 : decode cX8_leftMany 11 = .ok (.getfield 7, 3) := by decide +kernel
theorem dX8_leftMany_14 : decode cX8_leftMany 14 = .ok (.if_icmp .ge 34, 3) := by decide +kernel
theorem dX8_leftMany_17 : decode cX8_leftMany 17 = .ok (.iload_n 2, 1) := by decide +kernel
theorem dX8_leftMany_18 : decode cX8_leftMany 18 = .ok (.aload_n 0, 1) := by decide +kernel
theorem dX8_leftMany_19 : decode cX8_leftMany 19 = .ok (.iload_n 3, 1) := by decide +kernel
theorem dX8_leftMany_20 : decode cX8_leftMany 20 = .ok (.invokevirtual 105, 3) := by decide +kernel
theorem dX8_leftMany_23 : decode cX8_leftMany 23 = .ok (.ifCond .eq 16, 3) := by decide +kernel
theorem dX8_leftMany_26 : decode cX8_leftMany 26 = .ok (.aload_n 0, 1) := by decide +kernel
theorem dX8_leftMany_27 : decode cX8_leftMany 27 = .ok (.iload_n 3, 1) := by decide +kernel
theorem dX8_leftMany_28 : decode cX8_leftMany 28 = .ok (.invokevirtual 132, 3) := by decide +kernel
theorem dX8_leftMany_31 : decode cX8_leftMany 31 = .ok (.iload_n 1, 1) := by decide +kernel
theorem dX8_leftMany_32 : decode cX8_leftMany 32 = .ok (.if_icmp .lt 7, 3) := by decide +kernel
theorem dX8_leftMany_35 : decode cX8_leftMany 35 = .ok (.iconst 1, 1) := by decide +kernel
theorem dX8_leftMany_36 : decode cX8_leftMany 36 = .ok (.goto 4, 3) := by decide +kernel
theorem dX8_leftMany_39 : decode cX8_leftMany 39 = .ok (.iconst 0, 1) := by decide +kernel
theorem dX8_leftMany_40 : decode cX8_leftMany 40 = .ok (.iadd, 1) := by decide +kernel
theorem dX8_leftMany_41 : decode cX8_leftMany 41 = .ok (.istore_n 2, 1) := by decide +kernel
theorem dX8_leftMany_42 : decode cX8_leftMany 42 = .ok (.iinc 3 1, 3) := by decide +kernel
theorem dX8_leftMany_45 : decode cX8_leftMany 45 = .ok (.goto (-36), 3) := by decide +kernel
theorem dX8_leftMany_48 : decode cX8_leftMany 48 = .ok (.iload_n 2, 1) := by decide +kernel
theorem dX8_leftMany_49 : decode cX8_leftMany 49 = .ok (.ireturn, 1) := by decide +kernel
theorem dX8_next_0 : decode cX8_next 0 = .ok (.aload_n 0, 1) := by decide +kernel
theorem dX8_next_1 : decode cX8_next 1 = .ok (.invokevirtual 136, 3) := by decide +kernel
theorem dX8_next_4 : decode cX8_next 4 = .ok (.istore_n 1, 1) := by decide +kernel
theorem dX8_next_5 : decode cX8_next 5 = .ok (.bipush (-4), 2) := by decide +kernel
theorem dX8_next_7 : decode cX8_next 7 = .ok (.istore_n 2, 1) := by decide +kernel
theorem dX8_next_8 : decode cX8_next 8 = .ok (.iconst 0, 1) := by decide +kernel
theorem dX8_next_9 : decode cX8_next 9 = .ok (.istore_n 3, 1) := by decide +kernel
theorem dX8_next_10 : decode cX8_next 10 = .ok (.iload_n 3, 1) := by decide +kernel
theorem dX8_next_11 : decode cX8_next 11 = .ok (.aload_n 0, 1) := by decide +kernel
theorem dX8_next_12 : decode cX8_next 12 = .ok (.getfield 7, 3) := by decide +kernel
theorem dX8_next_15 : decode cX8_next 15 = .ok (.if_icmp .ge 61, 3) := by decide +kernel
theorem dX8_next_18 : decode cX8_next 18 = .ok (.aload_n 0, 1) := by decide +kernel
theorem dX8_next_19 : decode cX8_next 19 = .ok (.iload_n 3, 1) := by decide +kernel
theorem dX8_next_20 : decode cX8_next 20 = .ok (.invokevirtual 105, 3) := by decide +kernel
theorem dX8_next_23 : decode cX8_next 23 = .ok (.ifCond .eq 16, 3) := by decide +kernel
theorem dX8_next_26 : decode cX8_next 26 = .ok (.aload_n 0, 1) := by decide +kernel
theorem dX8_next_27 : decode cX8_next 27 = .ok (.iload_n 3, 1) := by decide +kernel
theorem dX8_next_28 : decode cX8_next 28 = .ok (.invokevirtual 132, 3) := by decide +kernel
theorem dX8_next_31 : decode cX8_next 31 = .ok (.iload_n 1, 1) := by decide +kernel
theorem dX8_next_32 : decode cX8_next 32 = .ok (.if_icmp .lt 7, 3) := by decide +kernel
theorem dX8_next_35 : decode cX8_next 35 = .ok (.iconst 1, 1) := by decide +kernel
theorem dX8_next_36 : decode cX8_next 36 = .ok (.goto 4, 3) := by decide +kernel
theorem dX8_next_39 : decode cX8_next 39 = .ok (.iconst 0, 1) := by decide +kernel
theorem dX8_next_40 : decode cX8_next 40 = .ok (.istore 4, 2) := by decide +kernel
theorem dX8_next_42 : decode cX8_next 42 = .ok (.iload 4, 2) := by decide +kernel
theorem dX8_next_44 : decode cX8_next 44 = .ok (.ifCond .eq 24, 3) := by decide +kernel
theorem dX8_next_47 : decode cX8_next 47 = .ok (.iload_n 2, 1) := by decide +kernel
theorem dX8_next_48 : decode cX8_next 48 = .ok (.ifCond .lt 16, 3) := by decide +kernel
theorem dX8_next_51 : decode cX8_next 51 = .ok (.aload_n 0, 1) := by decide +kernel
theorem dX8_next_52 : decode cX8_next 52 = .ok (.iload_n 3, 1) := by decide +kernel
theorem dX8_next_53 : decode cX8_next 53 = .ok (.invokevirtual 132, 3) := by decide +kernel
theorem dX8_next_56 : decode cX8_next 56 = .ok (.aload_n 0, 1) := by decide +kernel
theorem dX8_next_57 : decode cX8_next 57 = .ok (.iload_n 2, 1) := by decide +kernel
theorem dX8_next_58 : decode cX8_next 58 = .ok (.invokevirtual 132, 3) := by decide +kernel
theorem dX8_next_61 : decode cX8_next 61 = .ok (.if_icmp .le 7, 3) := by decide +kernel
theorem dX8_next_64 : decode cX8_next 64 = .ok (.iload_n 3, 1) := by decide +kernel
theorem dX8_next_65 : decode cX8_next 65 = .ok (.goto 4, 3) := by decide +kernel
theorem dX8_next_68 : decode cX8_next 68 = .ok (.iload_n 2, 1) := by decide +kernel
theorem dX8_next_69 : decode cX8_next 69 = .ok (.istore_n 2, 1) := by decide +kernel
theorem dX8_next_70 : decode cX8_next 70 = .ok (.iinc 3 1, 3) := by decide +kernel
theorem dX8_next_73 : decode cX8_next 73 = .ok (.goto (-63), 3) := by decide +kernel
theorem dX8_next_76 : decode cX8_next 76 = .ok (.iload_n 2, 1) := by decide +kernel
theorem dX8_next_77 : decode cX8_next 77 = .ok (.ireturn, 1) := by decide +kernel
theorem dX8_isSmooth_0 : decode cX8_isSmooth 0 = .ok (.iconst 1, 1) := by decide +kernel
theorem dX8_isSmooth_1 : decode cX8_isSmooth 1 = .ok (.istore_n 1, 1) := by decide +kernel
theorem dX8_isSmooth_2 : decode cX8_isSmooth 2 = .ok (.iconst 0, 1) := by decide +kernel
theorem dX8_isSmooth_3 : decode cX8_isSmooth 3 = .ok (.istore_n 2, 1) := by decide +kernel
theorem dX8_isSmooth_4 : decode cX8_isSmooth 4 = .ok (.iload_n 2, 1) := by decide +kernel
theorem dX8_isSmooth_5 : decode cX8_isSmooth 5 = .ok (.aload_n 0, 1) := by decide +kernel
theorem dX8_isSmooth_6 : decode cX8_isSmooth 6 = .ok (.getfield 7, 3) := by decide +kernel
theorem dX8_isSmooth_9 : decode cX8_isSmooth 9 = .ok (.if_icmp .ge 83, 3) := by decide +kernel
theorem dX8_isSmooth_12 : decode cX8_isSmooth 12 = .ok (.iconst 0, 1) := by decide +kernel
theorem dX8_isSmooth_13 : decode cX8_isSmooth 13 = .ok (.istore_n 3, 1) := by decide +kernel
theorem dX8_isSmooth_14 : decode cX8_isSmooth 14 = .ok (.iload_n 3, 1) := by decide +kernel
theorem dX8_isSmooth_15 : decode cX8_isSmooth 15 = .ok (.iload_n 2, 1) := by decide +kernel
theorem dX8_isSmooth_16 : decode cX8_isSmooth 16 = .ok (.if_icmp .ge 70, 3) := by decide +kernel
theorem dX8_isSmooth_19 : decode cX8_isSmooth 19 = .ok (.aload_n 0, 1) := by decide +kernel
theorem dX8_isSmooth_20 : decode cX8_isSmooth 20 = .ok (.iload_n 2, 1) := by decide +kernel
theorem dX8_isSmooth_21 : decode cX8_isSmooth 21 = .ok (.invokevirtual 105, 3) := by decide +kernel
theorem dX8_isSmooth_24 : decode cX8_isSmooth 24 = .ok (.ifCond .eq 62, 3) := by decide +kernel
theorem dX8_isSmooth_27 : decode cX8_isSmooth 27 = .ok (.aload_n 0, 1) := by decide +kernel
theorem dX8_isSmooth_28 : decode cX8_isSmooth 28 = .ok (.iload_n 2, 1) := by decide +kernel
theorem dX8_isSmooth_29 : decode cX8_isSmooth 29 = .ok (.invokevirtual 108, 3) := by decide +kernel
theorem dX8_isSmooth_32 : decode cX8_isSmooth 32 = .ok (.aload_n 0, 1) := by decide +kernel
theorem dX8_isSmooth_33 : decode cX8_isSmooth 33 = .ok (.iload_n 3, 1) := by decide +kernel
theorem dX8_isSmooth_34 : decode cX8_isSmooth 34 = .ok (.invokevirtual 108, 3) := by decide +kernel
theorem dX8_isSmooth_37 : decode cX8_isSmooth 37 = .ok (.isub, 1) := by decide +kernel
theorem dX8_isSmooth_38 : decode cX8_isSmooth 38 = .ok (.istore 4, 2) := by decide +kernel
theorem dX8_isSmooth_40 : decode cX8_isSmooth 40 = .ok (.iload_n 1, 1) := by decide +kernel
theorem dX8_isSmooth_41 : decode cX8_isSmooth 41 = .ok (.ifCond .eq 37, 3) := by decide +kernel
theorem dX8_isSmooth_44 : decode cX8_isSmooth 44 = .ok (.aload_n 0, 1) := by decide +kernel
theorem dX8_isSmooth_45 : decode cX8_isSmooth 45 = .ok (.iload_n 3, 1) := by decide +kernel
theorem dX8_isSmooth_46 : decode cX8_isSmooth 46 = .ok (.invokevirtual 105, 3) := by decide +kernel
theorem dX8_isSmooth_49 : decode cX8_isSmooth 49 = .ok (.ifCond .eq 25, 3) := by decide +kernel
theorem dX8_isSmooth_52 : decode cX8_isSmooth 52 = .ok (.iload 4, 2) := by decide +kernel
theorem dX8_isSmooth_54 : decode cX8_isSmooth 54 = .ok (.ifCond .ge 9, 3) := by decide +kernel
theorem dX8_isSmooth_57 : decode cX8_isSmooth 57 = .ok (.iload 4, 2) := by decide +kernel
theorem dX8_isSmooth_59 : decode cX8_isSmooth 59 = .ok (.ineg, 1) := by decide +kernel
theorem dX8_isSmooth_60 : decode cX8_isSmooth 60 = .ok (.goto 5, 3) := by decide +kernel
theorem dX8_isSmooth_63 : decode cX8_isSmooth 63 = .ok (.iload 4, 2) := by decide +kernel
theorem dX8_isSmooth_65 : decode cX8_isSmooth 65 = .ok (.aload_n 0, 1) := by decide +kernel
theorem dX8_isSmooth_66 : decode cX8_isSmooth 66 = .ok (.iload_n 2, 1) := by decide +kernel
theorem dX8_isSmooth_67 : decode cX8_isSmooth 67 = .ok (.iload_n 3, 1) := by decide +kernel
theorem dX8_isSmooth_68 : decode cX8_isSmooth 68 = .ok (.invokevirtual 124, 3) := by decide +kernel
theorem dX8_isSmooth_71 : decode cX8_isSmooth 71 = .ok (.if_icmp .gt 7, 3) := by decide +kernel
theorem dX8_isSmooth_74 : decode cX8_isSmooth 74 = .ok (.iconst 1, 1) := by decide +kernel
theorem dX8_isSmooth_75 : decode cX8_isSmooth 75 = .ok (.goto 4, 3) := by decide +kernel
theorem dX8_isSmooth_78 : decode cX8_isSmooth 78 = .ok (.iconst 0, 1) := by decide +kernel
theorem dX8_isSmooth_79 : decode cX8_isSmooth 79 = .ok (.istore_n 1, 1) := by decide +kernel
theorem dX8_isSmooth_80 : decode cX8_isSmooth 80 = .ok (.iinc 3 1, 3) := by decide +kernel
theorem dX8_isSmooth_83 : decode cX8_isSmooth 83 = .ok (.goto (-69), 3) := by decide +kernel
theorem dX8_isSmooth_86 : decode cX8_isSmooth 86 = .ok (.iinc 2 1, 3) := by decide +kernel
theorem dX8_isSmooth_89 : decode cX8_isSmooth 89 = .ok (.goto (-85), 3) := by decide +kernel
theorem dX8_isSmooth_92 : decode cX8_isSmooth 92 = .ok (.iload_n 1, 1) := by decide +kernel
theorem dX8_isSmooth_93 : decode cX8_isSmooth 93 = .ok (.ireturn, 1) := by decide +kernel
theorem dX8_left_0 : decode cX8_left 0 = .ok (.iload_n 1, 1) := by decide +kernel
theorem dX8_left_1 : decode cX8_left 1 = .ok (.ifCond .ne 10, 3) := by decide +kernel
theorem dX8_left_4 : decode cX8_left 4 = .ok (.aload_n 0, 1) := by decide +kernel
theorem dX8_left_5 : decode cX8_left 5 = .ok (.invokevirtual 140, 3) := by decide +kernel
theorem dX8_left_8 : decode cX8_left 8 = .ok (.goto 36, 3) := by decide +kernel
theorem dX8_left_11 : decode cX8_left 11 = .ok (.iload_n 1, 1) := by decide +kernel
theorem dX8_left_12 : decode cX8_left 12 = .ok (.iconst 1, 1) := by decide +kernel
theorem dX8_left_13 : decode cX8_left 13 = .ok (.if_icmp .ne 10, 3) := by decide +kernel
theorem dX8_left_16 : decode cX8_left 16 = .ok (.aload_n 0, 1) := by decide +kernel
theorem dX8_left_17 : decode cX8_left 17 = .ok (.invokevirtual 143, 3) := by decide +kernel
theorem dX8_left_20 : decode cX8_left 20 = .ok (.goto 24, 3) := by decide +kernel
theorem dX8_left_23 : decode cX8_left 23 = .ok (.iload_n 1, 1) := by decide +kernel
theorem dX8_left_24 : decode cX8_left 24 = .ok (.iconst 2, 1) := by decide +kernel
theorem dX8_left_25 : decode cX8_left 25 = .ok (.if_icmp .ne 18, 3) := by decide +kernel
theorem dX8_left_28 : decode cX8_left 28 = .ok (.aload_n 0, 1) := by decide +kernel
theorem dX8_left_29 : decode cX8_left 29 = .ok (.invokevirtual 146, 3) := by decide +kernel
theorem dX8_left_32 : decode cX8_left 32 = .ok (.ifCond .eq 7, 3) := by decide +kernel
theorem dX8_left_35 : decode cX8_left 35 = .ok (.iconst 1, 1) := by decide +kernel
theorem dX8_left_36 : decode cX8_left 36 = .ok (.goto 8, 3) := by decide +kernel
theorem dX8_left_39 : decode cX8_left 39 = .ok (.iconst 0, 1) := by decide +kernel
theorem dX8_left_40 : decode cX8_left 40 = .ok (.goto 4, 3) := by decide +kernel
theorem dX8_left_43 : decode cX8_left 43 = .ok (.iconst (-1), 1) := by decide +kernel
theorem dX8_left_44 : decode cX8_left 44 = .ok (.ireturn, 1) := by decide +kernel
theorem dX8_firstOf_0 : decode cX8_firstOf 0 = .ok (.iconst (-1), 1) := by decide +kernel
theorem dX8_firstOf_1 : decode cX8_firstOf 1 = .ok (.istore_n 2, 1) := by decide +kernel
theorem dX8_firstOf_2 : decode cX8_firstOf 2 = .ok (.aload_n 0, 1) := by decide +kernel
theorem dX8_firstOf_3 : decode cX8_firstOf 3 = .ok (.getfield 62, 3) := by decide +kernel
theorem dX8_firstOf_6 : decode cX8_firstOf 6 = .ok (.iconst 1, 1) := by decide +kernel
theorem dX8_firstOf_7 : decode cX8_firstOf 7 = .ok (.isub, 1) := by decide +kernel
theorem dX8_firstOf_8 : decode cX8_firstOf 8 = .ok (.istore_n 3, 1) := by decide +kernel
theorem dX8_firstOf_9 : decode cX8_firstOf 9 = .ok (.iload_n 3, 1) := by decide +kernel
theorem dX8_firstOf_10 : decode cX8_firstOf 10 = .ok (.ifCond .lt 25, 3) := by decide +kernel
theorem dX8_firstOf_13 : decode cX8_firstOf 13 = .ok (.aload_n 0, 1) := by decide +kernel
theorem dX8_firstOf_14 : decode cX8_firstOf 14 = .ok (.getfield 35, 3) := by decide +kernel
theorem dX8_firstOf_17 : decode cX8_firstOf 17 = .ok (.iload_n 3, 1) := by decide +kernel
theorem dX8_firstOf_18 : decode cX8_firstOf 18 = .ok (.iaload, 1) := by decide +kernel
theorem dX8_firstOf_19 : decode cX8_firstOf 19 = .ok (.iload_n 1, 1) := by decide +kernel
theorem dX8_firstOf_20 : decode cX8_firstOf 20 = .ok (.if_icmp .ne 7, 3) := by decide +kernel
theorem dX8_firstOf_23 : decode cX8_firstOf 23 = .ok (.iload_n 3, 1) := by decide +kernel
theorem dX8_firstOf_24 : decode cX8_firstOf 24 = .ok (.goto 4, 3) := by decide +kernel
theorem dX8_firstOf_27 : decode cX8_firstOf 27 = .ok (.iload_n 2, 1) := by decide +kernel
theorem dX8_firstOf_28 : decode cX8_firstOf 28 = .ok (.istore_n 2, 1) := by decide +kernel
theorem dX8_firstOf_29 : decode cX8_firstOf 29 = .ok (.iinc 3 (-1), 3) := by decide +kernel
theorem dX8_firstOf_32 : decode cX8_firstOf 32 = .ok (.goto (-23), 3) := by decide +kernel
theorem dX8_firstOf_35 : decode cX8_firstOf 35 = .ok (.iload_n 2, 1) := by decide +kernel
theorem dX8_firstOf_36 : decode cX8_firstOf 36 = .ok (.ireturn, 1) := by decide +kernel
theorem dX8_search_0 : decode cX8_search 0 = .ok (.iload_n 1, 1) := by decide +kernel
theorem dX8_search_1 : decode cX8_search 1 = .ok (.i2l, 1) := by decide +kernel
theorem dX8_search_2 : decode cX8_search 2 = .ok (.lconst 1, 1) := by decide +kernel
theorem dX8_search_3 : decode cX8_search 3 = .ok (.ldc2_w 150, 3) := by decide +kernel
theorem dX8_search_6 : decode cX8_search 6 = .ok (.invokestatic 50, 3) := by decide +kernel
theorem dX8_search_9 : decode cX8_search 9 = .ok (.ifCond .ne 5, 3) := by decide +kernel
theorem dX8_search_12 : decode cX8_search 12 = .ok (.iconst (-1), 1) := by decide +kernel
theorem dX8_search_13 : decode cX8_search 13 = .ok (.ireturn, 1) := by decide +kernel
theorem dX8_search_14 : decode cX8_search 14 = .ok (.aload_n 0, 1) := by decide +kernel
theorem dX8_search_15 : decode cX8_search 15 = .ok (.invokevirtual 152, 3) := by decide +kernel
theorem dX8_search_18 : decode cX8_search 18 = .ok (.ifCond .ne 6, 3) := by decide +kernel
theorem dX8_search_21 : decode cX8_search 21 = .ok (.bipush (-2), 2) := by decide +kernel
theorem dX8_search_23 : decode cX8_search 23 = .ok (.ireturn, 1) := by decide +kernel
theorem dX8_search_24 : decode cX8_search 24 = .ok (.aload_n 0, 1) := by decide +kernel
theorem dX8_search_25 : decode cX8_search 25 = .ok (.invokevirtual 143, 3) := by decide +kernel
theorem dX8_search_28 : decode cX8_search 28 = .ok (.istore_n 2, 1) := by decide +kernel
theorem dX8_search_29 : decode cX8_search 29 = .ok (.iconst 0, 1) := by decide +kernel
theorem dX8_search_30 : decode cX8_search 30 = .ok (.istore_n 3, 1) := by decide +kernel
theorem dX8_search_31 : decode cX8_search 31 = .ok (.iload_n 3, 1) := by decide +kernel
theorem dX8_search_32 : decode cX8_search 32 = .ok (.iload_n 1, 1) := by decide +kernel
theorem dX8_search_33 : decode cX8_search 33 = .ok (.if_icmp .ge 51, 3) := by decide +kernel
theorem dX8_search_36 : decode cX8_search 36 = .ok (.aload_n 0, 1) := by decide +kernel
theorem dX8_search_37 : decode cX8_search 37 = .ok (.getfield 62, 3) := by decide +kernel
theorem dX8_search_40 : decode cX8_search 40 = .ok (.bipush 60, 2) := by decide +kernel
theorem dX8_search_42 : decode cX8_search 42 = .ok (.if_icmp .ge 42, 3) := by decide +kernel
theorem dX8_search_45 : decode cX8_search 45 = .ok (.aload_n 0, 1) := by decide +kernel
theorem dX8_search_46 : decode cX8_search 46 = .ok (.invokevirtual 140, 3) := by decide +kernel
theorem dX8_search_49 : decode cX8_search 49 = .ok (.iconst 1, 1) := by decide +kernel
theorem dX8_search_50 : decode cX8_search 50 = .ok (.if_icmp .le 34, 3) := by decide +kernel
theorem dX8_search_53 : decode cX8_search 53 = .ok (.aload_n 0, 1) := by decide +kernel
theorem dX8_search_54 : decode cX8_search 54 = .ok (.getfield 85, 3) := by decide +kernel
theorem dX8_search_57 : decode cX8_search 57 = .ok (.ifCond .ne 11, 3) := by decide +kernel
theorem dX8_search_60 : decode cX8_search 60 = .ok (.aload_n 0, 1) := by decide +kernel
theorem dX8_search_61 : decode cX8_search 61 = .ok (.iload_n 2, 1) := by decide +kernel
theorem dX8_search_62 : decode cX8_search 62 = .ok (.invokevirtual 155, 3) := by decide +kernel
theorem dX8_search_65 : decode cX8_search 65 = .ok (.ifCond .ge 19, 3) := by decide +kernel
theorem dX8_search_68 : decode cX8_search 68 = .ok (.aload_n 0, 1) := by decide +kernel
theorem dX8_search_69 : decode cX8_search 69 = .ok (.iload_n 2, 1) := by decide +kernel
theorem dX8_search_70 : decode cX8_search 70 = .ok (.invokevirtual 119, 3) := by decide +kernel
theorem dX8_search_73 : decode cX8_search 73 = .ok (.iinc 3 1, 3) := by decide +kernel
theorem dX8_search_76 : decode cX8_search 76 = .ok (.aload_n 0, 1) := by decide +kernel
theorem dX8_search_77 : decode cX8_search 77 = .ok (.invokevirtual 143, 3) := by decide +kernel
theorem dX8_search_80 : decode cX8_search 80 = .ok (.istore_n 2, 1) := by decide +kernel
theorem dX8_search_81 : decode cX8_search 81 = .ok (.goto (-50), 3) := by decide +kernel
theorem dX8_search_84 : decode cX8_search 84 = .ok (.iload_n 3, 1) := by decide +kernel
theorem dX8_search_85 : decode cX8_search 85 = .ok (.ireturn, 1) := by decide +kernel
theorem dX8_pairs_0 : decode cX8_pairs 0 = .ok (.aload_n 0, 1) := by decide +kernel
theorem dX8_pairs_1 : decode cX8_pairs 1 = .ok (.iload_n 1, 1) := by decide +kernel
theorem dX8_pairs_2 : decode cX8_pairs 2 = .ok (.iload_n 2, 1) := by decide +kernel
theorem dX8_pairs_3 : decode cX8_pairs 3 = .ok (.invokevirtual 65, 3) := by decide +kernel
theorem dX8_pairs_6 : decode cX8_pairs 6 = .ok (.ifCond .eq 28, 3) := by decide +kernel
theorem dX8_pairs_9 : decode cX8_pairs 9 = .ok (.aload_n 0, 1) := by decide +kernel
theorem dX8_pairs_10 : decode cX8_pairs 10 = .ok (.iload_n 1, 1) := by decide +kernel
theorem dX8_pairs_11 : decode cX8_pairs 11 = .ok (.iload_n 3, 1) := by decide +kernel
theorem dX8_pairs_12 : decode cX8_pairs 12 = .ok (.invokevirtual 65, 3) := by decide +kernel
theorem dX8_pairs_15 : decode cX8_pairs 15 = .ok (.ifCond .eq 19, 3) := by decide +kernel
theorem dX8_pairs_18 : decode cX8_pairs 18 = .ok (.iload_n 2, 1) := by decide +kernel
theorem dX8_pairs_19 : decode cX8_pairs 19 = .ok (.iload_n 3, 1) := by decide +kernel
theorem dX8_pairs_20 : decode cX8_pairs 20 = .ok (.if_icmp .eq 14, 3) := by decide +kernel
theorem dX8_pairs_23 : decode cX8_pairs 23 = .ok (.iload 4, 2) := by decide +kernel
theorem dX8_pairs_25 : decode cX8_pairs 25 = .ok (.i2l, 1) := by decide +kernel
theorem dX8_pairs_26 : decode cX8_pairs 26 = .ok (.lconst 0, 1) := by decide +kernel
theorem dX8_pairs_27 : decode cX8_pairs 27 = .ok (.lconst 1, 1) := by decide +kernel
theorem dX8_pairs_28 : decode cX8_pairs 28 = .ok (.invokestatic 50, 3) := by decide +kernel
theorem dX8_pairs_31 : decode cX8_pairs 31 = .ok (.ifCond .ne 6, 3) := by decide +kernel
theorem dX8_pairs_34 : decode cX8_pairs 34 = .ok (.ldc 128, 2) := by decide +kernel
theorem dX8_pairs_36 : decode cX8_pairs 36 = .ok (.ireturn, 1) := by decide +kernel
theorem dX8_pairs_37 : decode cX8_pairs 37 = .ok (.iconst 0, 1) := by decide +kernel
theorem dX8_pairs_38 : decode cX8_pairs 38 = .ok (.istore 5, 2) := by decide +kernel
theorem dX8_pairs_40 : decode cX8_pairs 40 = .ok (.iconst 0, 1) := by decide +kernel
theorem dX8_pairs_41 : decode cX8_pairs 41 = .ok (.istore 6, 2) := by decide +kernel
theorem dX8_pairs_43 : decode cX8_pairs 43 = .ok (.iconst 0, 1) := by decide +kernel
theorem dX8_pairs_44 : decode cX8_pairs 44 = .ok (.istore 7, 2) := by decide +kernel
theorem dX8_pairs_46 : decode cX8_pairs 46 = .ok (.iload 7, 2) := by decide +kernel
theorem dX8_pairs_48 : decode cX8_pairs 48 = .ok (.aload_n 0, 1) := by decide +kernel
theorem dX8_pairs_49 : decode cX8_pairs 49 = .ok (.getfield 7, 3) := by decide +kernel
theorem dX8_pairs_52 : decode cX8_pairs 52 = .ok (.if_icmp .ge 96, 3) := by decide +kernel
theorem dX8_pairs_55 : decode cX8_pairs 55 = .ok (.aload_n 0, 1) := by decide +kernel
theorem dX8_pairs_56 : decode cX8_pairs 56 = .ok (.iload 7, 2) := by decide +kernel
theorem dX8_pairs_58 : decode cX8_pairs 58 = .ok (.iload_n 1, 1) := by decide +kernel
theorem dX8_pairs_59 : decode cX8_pairs 59 = .ok (.invokevirtual 94, 3) := by decide +kernel
theorem dX8_pairs_62 : decode cX8_pairs 62 = .ok (.iload_n 2, 1) := by decide +kernel
theorem dX8_pairs_63 : decode cX8_pairs 63 = .ok (.if_icmp .ne 79, 3) := by decide +kernel
theorem dX8_pairs_66 : decode cX8_pairs 66 = .ok (.aload_n 0, 1) := by decide +kernel
theorem dX8_pairs_67 : decode cX8_pairs 67 = .ok (.iload 7, 2) := by decide +kernel
theorem dX8_pairs_69 : decode cX8_pairs 69 = .ok (.invokevirtual 155, 3) := by decide +kernel
theorem dX8_pairs_72 : decode cX8_pairs 72 = .ok (.istore 8, 2) := by decide +kernel
theorem dX8_pairs_74 : decode cX8_pairs 74 = .ok (.aload_n 0, 1) := by decide +kernel
theorem dX8_pairs_75 : decode cX8_pairs 75 = .ok (.aload_n 0, 1) := by decide +kernel
theorem dX8_pairs_76 : decode cX8_pairs 76 = .ok (.iload 7, 2) := by decide +kernel
theorem dX8_pairs_78 : decode cX8_pairs 78 = .ok (.iload_n 1, 1) := by decide +kernel
theorem dX8_pairs_79 : decode cX8_pairs 79 = .ok (.iload_n 3, 1) := by decide +kernel
theorem dX8_pairs_80 : decode cX8_pairs 80 = .ok (.invokevirtual 101, 3) := by decide +kernel
theorem dX8_pairs_83 : decode cX8_pairs 83 = .ok (.invokevirtual 155, 3) := by decide +kernel
theorem dX8_pairs_86 : decode cX8_pairs 86 = .ok (.istore 9, 2) := by decide +kernel
theorem dX8_pairs_88 : decode cX8_pairs 88 = .ok (.iload 5, 2) := by decide +kernel
theorem dX8_pairs_90 : decode cX8_pairs 90 = .ok (.iload 8, 2) := by decide +kernel
theorem dX8_pairs_92 : decode cX8_pairs 92 = .ok (.ifCond .lt 12, 3) := by decide +kernel
theorem dX8_pairs_95 : decode cX8_pairs 95 = .ok (.iload 9, 2) := by decide +kernel
theorem dX8_pairs_97 : decode cX8_pairs 97 = .ok (.ifCond .lt 7, 3) := by decide +kernel
theorem dX8_pairs_100 : decode cX8_pairs 100 = .ok (.iconst 1, 1) := by decide +kernel
theorem dX8_pairs_101 : decode cX8_pairs 101 = .ok (.goto 4, 3) := by decide +kernel
theorem dX8_pairs_104 : decode cX8_pairs 104 = .ok (.iconst 0, 1) := by decide +kernel
theorem dX8_pairs_105 : decode cX8_pairs 105 = .ok (.iadd, 1) := by decide +kernel
theorem dX8_pairs_106 : decode cX8_pairs 106 = .ok (.istore 5, 2) := by decide +kernel
theorem dX8_pairs_108 : decode cX8_pairs 108 = .ok (.iload 6, 2) := by decide +kernel
theorem dX8_pairs_110 : decode cX8_pairs 110 = .ok (.iload 8, 2) := by decide +kernel
theorem dX8_pairs_112 : decode cX8_pairs 112 = .ok (.ifCond .lt 26, 3) := by decide +kernel
theorem dX8_pairs_115 : decode cX8_pairs 115 = .ok (.iload 9, 2) := by decide +kernel
theorem dX8_pairs_117 : decode cX8_pairs 117 = .ok (.ifCond .lt 21, 3) := by decide +kernel
theorem dX8_pairs_120 : decode cX8_pairs 120 = .ok (.aload_n 0, 1) := by decide +kernel
theorem dX8_pairs_121 : decode cX8_pairs 121 = .ok (.getfield 38, 3) := by decide +kernel
theorem dX8_pairs_124 : decode cX8_pairs 124 = .ok (.iload 9, 2) := by decide +kernel
theorem dX8_pairs_126 : decode cX8_pairs 126 = .ok (.iaload, 1) := by decide +kernel
theorem dX8_pairs_127 : decode cX8_pairs 127 = .ok (.aload_n 0, 1) := by decide +kernel
theorem dX8_pairs_128 : decode cX8_pairs 128 = .ok (.getfield 38, 3) := by decide +kernel
theorem dX8_pairs_131 : decode cX8_pairs 131 = .ok (.iload 8, 2) := by decide +kernel
theorem dX8_pairs_133 : decode cX8_pairs 133 = .ok (.iaload, 1) := by decide +kernel
theorem dX8_pairs_134 : decode cX8_pairs 134 = .ok (.isub, 1) := by decide +kernel
theorem dX8_pairs_135 : decode cX8_pairs 135 = .ok (.goto 4, 3) := by decide +kernel
theorem dX8_pairs_138 : decode cX8_pairs 138 = .ok (.iconst 0, 1) := by decide +kernel
theorem dX8_pairs_139 : decode cX8_pairs 139 = .ok (.iadd, 1) := by decide +kernel
theorem dX8_pairs_140 : decode cX8_pairs 140 = .ok (.istore 6, 2) := by decide +kernel
theorem dX8_pairs_142 : decode cX8_pairs 142 = .ok (.iinc 7 1, 3) := by decide +kernel
theorem dX8_pairs_145 : decode cX8_pairs 145 = .ok (.goto (-99), 3) := by decide +kernel
theorem dX8_pairs_148 : decode cX8_pairs 148 = .ok (.iload 4, 2) := by decide +kernel
theorem dX8_pairs_150 : decode cX8_pairs 150 = .ok (.ifCond .ne 8, 3) := by decide +kernel
theorem dX8_pairs_153 : decode cX8_pairs 153 = .ok (.iload 5, 2) := by decide +kernel
theorem dX8_pairs_155 : decode cX8_pairs 155 = .ok (.goto 5, 3) := by decide +kernel
theorem dX8_pairs_158 : decode cX8_pairs 158 = .ok (.iload 6, 2) := by decide +kernel
theorem dX8_pairs_160 : decode cX8_pairs 160 = .ok (.ireturn, 1) := by decide +kernel
theorem dX8_excess_0 : decode cX8_excess 0 = .ok (.aload_n 0, 1) := by decide +kernel
theorem dX8_excess_1 : decode cX8_excess 1 = .ok (.iload_n 1, 1) := by decide +kernel
theorem dX8_excess_2 : decode cX8_excess 2 = .ok (.invokevirtual 98, 3) := by decide +kernel
theorem dX8_excess_5 : decode cX8_excess 5 = .ok (.ifCond .eq 67, 3) := by decide +kernel
theorem dX8_excess_8 : decode cX8_excess 8 = .ok (.aload_n 0, 1) := by decide +kernel
theorem dX8_excess_9 : decode cX8_excess 9 = .ok (.iload_n 2, 1) := by decide +kernel
theorem dX8_excess_10 : decode cX8_excess 10 = .ok (.iload_n 3, 1) := by decide +kernel
theorem dX8_excess_11 : decode cX8_excess 11 = .ok (.invokevirtual 65, 3) := by decide +kernel
theorem dX8_excess_14 : decode cX8_excess 14 = .ok (.ifCond .eq 58, 3) := by decide +kernel
theorem dX8_excess_17 : decode cX8_excess 17 = .ok (.aload_n 0, 1) := by decide +kernel
theorem dX8_excess_18 : decode cX8_excess 18 = .ok (.iload_n 2, 1) := by decide +kernel
theorem dX8_excess_19 : decode cX8_excess 19 = .ok (.iload 4, 2) := by decide +kernel
theorem dX8_excess_21 : decode cX8_excess 21 = .ok (.invokevirtual 65, 3) := by decide +kernel
theorem dX8_excess_24 : decode cX8_excess 24 = .ok (.ifCond .eq 48, 3) := by decide +kernel
theorem dX8_excess_27 : decode cX8_excess 27 = .ok (.iload_n 3, 1) := by decide +kernel
theorem dX8_excess_28 : decode cX8_excess 28 = .ok (.iload 4, 2) := by decide +kernel
theorem dX8_excess_30 : decode cX8_excess 30 = .ok (.if_icmp .eq 42, 3) := by decide +kernel
theorem dX8_excess_33 : decode cX8_excess 33 = .ok (.iload 5, 2) := by decide +kernel
theorem dX8_excess_35 : decode cX8_excess 35 = .ok (.iload_n 2, 1) := by decide +kernel
theorem dX8_excess_36 : decode cX8_excess 36 = .ok (.if_icmp .le 36, 3) := by decide +kernel
theorem dX8_excess_39 : decode cX8_excess 39 = .ok (.aload_n 0, 1) := by decide +kernel
theorem dX8_excess_40 : decode cX8_excess 40 = .ok (.iload 5, 2) := by decide +kernel
theorem dX8_excess_42 : decode cX8_excess 42 = .ok (.iload 6, 2) := by decide +kernel
theorem dX8_excess_44 : decode cX8_excess 44 = .ok (.invokevirtual 65, 3) := by decide +kernel
theorem dX8_excess_47 : decode cX8_excess 47 = .ok (.ifCond .eq 25, 3) := by decide +kernel
theorem dX8_excess_50 : decode cX8_excess 50 = .ok (.aload_n 0, 1) := by decide +kernel
theorem dX8_excess_51 : decode cX8_excess 51 = .ok (.iload 5, 2) := by decide +kernel
theorem dX8_excess_53 : decode cX8_excess 53 = .ok (.iload 7, 2) := by decide +kernel
theorem dX8_excess_55 : decode cX8_excess 55 = .ok (.invokevirtual 65, 3) := by decide +kernel
theorem dX8_excess_58 : decode cX8_excess 58 = .ok (.ifCond .eq 14, 3) := by decide +kernel
theorem dX8_excess_61 : decode cX8_excess 61 = .ok (.iload 6, 2) := by decide +kernel
theorem dX8_excess_63 : decode cX8_excess 63 = .ok (.iload 7, 2) := by decide +kernel
theorem dX8_excess_65 : decode cX8_excess 65 = .ok (.if_icmp .eq 7, 3) := by decide +kernel
theorem dX8_excess_68 : decode cX8_excess 68 = .ok (.iconst 1, 1) := by decide +kernel
theorem dX8_excess_69 : decode cX8_excess 69 = .ok (.goto 4, 3) := by decide +kernel
theorem dX8_excess_72 : decode cX8_excess 72 = .ok (.iconst 0, 1) := by decide +kernel
theorem dX8_excess_73 : decode cX8_excess 73 = .ok (.istore 8, 2) := by decide +kernel
theorem dX8_excess_75 : decode cX8_excess 75 = .ok (.iload 8, 2) := by decide +kernel
theorem dX8_excess_77 : decode cX8_excess 77 = .ok (.ifCond .ne 6, 3) := by decide +kernel
theorem dX8_excess_80 : decode cX8_excess 80 = .ok (.ldc 158, 2) := by decide +kernel
theorem dX8_excess_82 : decode cX8_excess 82 = .ok (.ireturn, 1) := by decide +kernel
theorem dX8_excess_83 : decode cX8_excess 83 = .ok (.aload_n 0, 1) := by decide +kernel
theorem dX8_excess_84 : decode cX8_excess 84 = .ok (.aload_n 0, 1) := by decide +kernel
theorem dX8_excess_85 : decode cX8_excess 85 = .ok (.aload_n 0, 1) := by decide +kernel
theorem dX8_excess_86 : decode cX8_excess 86 = .ok (.iload_n 1, 1) := by decide +kernel
theorem dX8_excess_87 : decode cX8_excess 87 = .ok (.iload_n 2, 1) := by decide +kernel
theorem dX8_excess_88 : decode cX8_excess 88 = .ok (.iload 4, 2) := by decide +kernel
theorem dX8_excess_90 : decode cX8_excess 90 = .ok (.invokevirtual 101, 3) := by decide +kernel
theorem dX8_excess_93 : decode cX8_excess 93 = .ok (.iload 5, 2) := by decide +kernel
theorem dX8_excess_95 : decode cX8_excess 95 = .ok (.iload 7, 2) := by decide +kernel
theorem dX8_excess_97 : decode cX8_excess 97 = .ok (.invokevirtual 101, 3) := by decide +kernel
theorem dX8_excess_100 : decode cX8_excess 100 = .ok (.invokevirtual 155, 3) := by decide +kernel
theorem dX8_excess_103 : decode cX8_excess 103 = .ok (.istore 9, 2) := by decide +kernel
theorem dX8_excess_105 : decode cX8_excess 105 = .ok (.aload_n 0, 1) := by decide +kernel
theorem dX8_excess_106 : decode cX8_excess 106 = .ok (.aload_n 0, 1) := by decide +kernel
theorem dX8_excess_107 : decode cX8_excess 107 = .ok (.aload_n 0, 1) := by decide +kernel
theorem dX8_excess_108 : decode cX8_excess 108 = .ok (.iload_n 1, 1) := by decide +kernel
theorem dX8_excess_109 : decode cX8_excess 109 = .ok (.iload_n 2, 1) := by decide +kernel
theorem dX8_excess_110 : decode cX8_excess 110 = .ok (.iload 4, 2) := by decide +kernel
theorem dX8_excess_112 : decode cX8_excess 112 = .ok (.invokevirtual 101, 3) := by decide +kernel
theorem dX8_excess_115 : decode cX8_excess 115 = .ok (.iload 5, 2) := by decide +kernel
theorem dX8_excess_117 : decode cX8_excess 117 = .ok (.iload 6, 2) := by decide +kernel
theorem dX8_excess_119 : decode cX8_excess 119 = .ok (.invokevirtual 101, 3) := by decide +kernel
theorem dX8_excess_122 : decode cX8_excess 122 = .ok (.invokevirtual 155, 3) := by decide +kernel
theorem dX8_excess_125 : decode cX8_excess 125 = .ok (.istore 10, 2) := by decide +kernel
theorem dX8_excess_127 : decode cX8_excess 127 = .ok (.aload_n 0, 1) := by decide +kernel
theorem dX8_excess_128 : decode cX8_excess 128 = .ok (.aload_n 0, 1) := by decide +kernel
theorem dX8_excess_129 : decode cX8_excess 129 = .ok (.aload_n 0, 1) := by decide +kernel
theorem dX8_excess_130 : decode cX8_excess 130 = .ok (.iload_n 1, 1) := by decide +kernel
theorem dX8_excess_131 : decode cX8_excess 131 = .ok (.iload_n 2, 1) := by decide +kernel
theorem dX8_excess_132 : decode cX8_excess 132 = .ok (.iload_n 3, 1) := by decide +kernel
theorem dX8_excess_133 : decode cX8_excess 133 = .ok (.invokevirtual 101, 3) := by decide +kernel
theorem dX8_excess_136 : decode cX8_excess 136 = .ok (.iload 5, 2) := by decide +kernel
theorem dX8_excess_138 : decode cX8_excess 138 = .ok (.iload 7, 2) := by decide +kernel
theorem dX8_excess_140 : decode cX8_excess 140 = .ok (.invokevirtual 101, 3) := by decide +kernel
theorem dX8_excess_143 : decode cX8_excess 143 = .ok (.invokevirtual 155, 3) := by decide +kernel
theorem dX8_excess_146 : decode cX8_excess 146 = .ok (.istore 11, 2) := by decide +kernel
theorem dX8_excess_148 : decode cX8_excess 148 = .ok (.aload_n 0, 1) := by decide +kernel
theorem dX8_excess_149 : decode cX8_excess 149 = .ok (.aload_n 0, 1) := by decide +kernel
theorem dX8_excess_150 : decode cX8_excess 150 = .ok (.aload_n 0, 1) := by decide +kernel
theorem dX8_excess_151 : decode cX8_excess 151 = .ok (.iload_n 1, 1) := by decide +kernel
theorem dX8_excess_152 : decode cX8_excess 152 = .ok (.iload_n 2, 1) := by decide +kernel
theorem dX8_excess_153 : decode cX8_excess 153 = .ok (.iload_n 3, 1) := by decide +kernel
theorem dX8_excess_154 : decode cX8_excess 154 = .ok (.invokevirtual 101, 3) := by decide +kernel
theorem dX8_excess_157 : decode cX8_excess 157 = .ok (.iload 5, 2) := by decide +kernel
theorem dX8_excess_159 : decode cX8_excess 159 = .ok (.iload 6, 2) := by decide +kernel
theorem dX8_excess_161 : decode cX8_excess 161 = .ok (.invokevirtual 101, 3) := by decide +kernel
theorem dX8_excess_164 : decode cX8_excess 164 = .ok (.invokevirtual 155, 3) := by decide +kernel
theorem dX8_excess_167 : decode cX8_excess 167 = .ok (.istore 12, 2) := by decide +kernel
theorem dX8_excess_169 : decode cX8_excess 169 = .ok (.iload 9, 2) := by decide +kernel
theorem dX8_excess_171 : decode cX8_excess 171 = .ok (.ifCond .lt 18, 3) := by decide +kernel
theorem dX8_excess_174 : decode cX8_excess 174 = .ok (.iload 10, 2) := by decide +kernel
theorem dX8_excess_176 : decode cX8_excess 176 = .ok (.ifCond .lt 13, 3) := by decide +kernel
theorem dX8_excess_179 : decode cX8_excess 179 = .ok (.iload 11, 2) := by decide +kernel
theorem dX8_excess_181 : decode cX8_excess 181 = .ok (.ifCond .lt 8, 3) := by decide +kernel
theorem dX8_excess_184 : decode cX8_excess 184 = .ok (.iload 12, 2) := by decide +kernel
theorem dX8_excess_186 : decode cX8_excess 186 = .ok (.ifCond .ge 6, 3) := by decide +kernel
theorem dX8_excess_189 : decode cX8_excess 189 = .ok (.ldc 159, 2) := by decide +kernel
theorem dX8_excess_191 : decode cX8_excess 191 = .ok (.ireturn, 1) := by decide +kernel
theorem dX8_excess_192 : decode cX8_excess 192 = .ok (.aload_n 0, 1) := by decide +kernel
theorem dX8_excess_193 : decode cX8_excess 193 = .ok (.getfield 38, 3) := by decide +kernel
theorem dX8_excess_196 : decode cX8_excess 196 = .ok (.iload 9, 2) := by decide +kernel
theorem dX8_excess_198 : decode cX8_excess 198 = .ok (.iaload, 1) := by decide +kernel
theorem dX8_excess_199 : decode cX8_excess 199 = .ok (.aload_n 0, 1) := by decide +kernel
theorem dX8_excess_200 : decode cX8_excess 200 = .ok (.getfield 38, 3) := by decide +kernel
theorem dX8_excess_203 : decode cX8_excess 203 = .ok (.iload 10, 2) := by decide +kernel
theorem dX8_excess_205 : decode cX8_excess 205 = .ok (.iaload, 1) := by decide +kernel
theorem dX8_excess_206 : decode cX8_excess 206 = .ok (.isub, 1) := by decide +kernel
theorem dX8_excess_207 : decode cX8_excess 207 = .ok (.aload_n 0, 1) := by decide +kernel
theorem dX8_excess_208 : decode cX8_excess 208 = .ok (.getfield 38, 3) := by decide +kernel
theorem dX8_excess_211 : decode cX8_excess 211 = .ok (.iload 11, 2) := by decide +kernel
theorem dX8_excess_213 : decode cX8_excess 213 = .ok (.iaload, 1) := by decide +kernel
theorem dX8_excess_214 : decode cX8_excess 214 = .ok (.isub, 1) := by decide +kernel
theorem dX8_excess_215 : decode cX8_excess 215 = .ok (.aload_n 0, 1) := by decide +kernel
theorem dX8_excess_216 : decode cX8_excess 216 = .ok (.getfield 38, 3) := by decide +kernel
theorem dX8_excess_219 : decode cX8_excess 219 = .ok (.iload 12, 2) := by decide +kernel
theorem dX8_excess_221 : decode cX8_excess 221 = .ok (.iaload, 1) := by decide +kernel
theorem dX8_excess_222 : decode cX8_excess 222 = .ok (.iadd, 1) := by decide +kernel
theorem dX8_excess_223 : decode cX8_excess 223 = .ok (.ireturn, 1) := by decide +kernel
theorem dX8_joint_0 : decode cX8_joint 0 = .ok (.aload_n 0, 1) := by decide +kernel
theorem dX8_joint_1 : decode cX8_joint 1 = .ok (.iload_n 1, 1) := by decide +kernel
theorem dX8_joint_2 : decode cX8_joint 2 = .ok (.iload_n 2, 1) := by decide +kernel
theorem dX8_joint_3 : decode cX8_joint 3 = .ok (.iload_n 3, 1) := by decide +kernel
theorem dX8_joint_4 : decode cX8_joint 4 = .ok (.iload 4, 2) := by decide +kernel
theorem dX8_joint_6 : decode cX8_joint 6 = .ok (.iload 5, 2) := by decide +kernel
theorem dX8_joint_8 : decode cX8_joint 8 = .ok (.iload 6, 2) := by decide +kernel
theorem dX8_joint_10 : decode cX8_joint 10 = .ok (.iload 7, 2) := by decide +kernel
theorem dX8_joint_12 : decode cX8_joint 12 = .ok (.invokevirtual 160, 3) := by decide +kernel
theorem dX8_joint_15 : decode cX8_joint 15 = .ok (.istore 8, 2) := by decide +kernel
theorem dX8_joint_17 : decode cX8_joint 17 = .ok (.iload 8, 2) := by decide +kernel
theorem dX8_joint_19 : decode cX8_joint 19 = .ok (.ldc 128, 2) := by decide +kernel
theorem dX8_joint_21 : decode cX8_joint 21 = .ok (.if_icmp .ge 17, 3) := by decide +kernel
theorem dX8_joint_24 : decode cX8_joint 24 = .ok (.iload 8, 2) := by decide +kernel
theorem dX8_joint_26 : decode cX8_joint 26 = .ok (.ldc 158, 2) := by decide +kernel
theorem dX8_joint_28 : decode cX8_joint 28 = .ok (.if_icmp .ne 7, 3) := by decide +kernel
theorem dX8_joint_31 : decode cX8_joint 31 = .ok (.iconst (-1), 1) := by decide +kernel
theorem dX8_joint_32 : decode cX8_joint 32 = .ok (.goto 5, 3) := by decide +kernel
theorem dX8_joint_35 : decode cX8_joint 35 = .ok (.bipush (-2), 2) := by decide +kernel
theorem dX8_joint_37 : decode cX8_joint 37 = .ok (.ireturn, 1) := by decide +kernel
theorem dX8_joint_38 : decode cX8_joint 38 = .ok (.iload 8, 2) := by decide +kernel
theorem dX8_joint_40 : decode cX8_joint 40 = .ok (.iconst 4, 1) := by decide +kernel
theorem dX8_joint_41 : decode cX8_joint 41 = .ok (.aload_n 0, 1) := by decide +kernel
theorem dX8_joint_42 : decode cX8_joint 42 = .ok (.getfield 85, 3) := by decide +kernel
theorem dX8_joint_45 : decode cX8_joint 45 = .ok (.imul, 1) := by decide +kernel
theorem dX8_joint_46 : decode cX8_joint 46 = .ok (.if_icmp .gt 15, 3) := by decide +kernel
theorem dX8_joint_49 : decode cX8_joint 49 = .ok (.iload 8, 2) := by decide +kernel
theorem dX8_joint_51 : decode cX8_joint 51 = .ok (.bipush (-4), 2) := by decide +kernel
theorem dX8_joint_53 : decode cX8_joint 53 = .ok (.aload_n 0, 1) := by decide +kernel
theorem dX8_joint_54 : decode cX8_joint 54 = .ok (.getfield 85, 3) := by decide +kernel
theorem dX8_joint_57 : decode cX8_joint 57 = .ok (.imul, 1) := by decide +kernel
theorem dX8_joint_58 : decode cX8_joint 58 = .ok (.if_icmp .ge 7, 3) := by decide +kernel
theorem dX8_joint_61 : decode cX8_joint 61 = .ok (.iconst 1, 1) := by decide +kernel
theorem dX8_joint_62 : decode cX8_joint 62 = .ok (.goto 4, 3) := by decide +kernel
theorem dX8_joint_65 : decode cX8_joint 65 = .ok (.iconst 0, 1) := by decide +kernel
theorem dX8_joint_66 : decode cX8_joint 66 = .ok (.ireturn, 1) := by decide +kernel
theorem dX8_gather_0 : decode cX8_gather 0 = .ok (.iconst 0, 1) := by decide +kernel
theorem dX8_gather_1 : decode cX8_gather 1 = .ok (.istore_n 2, 1) := by decide +kernel
theorem dX8_gather_2 : decode cX8_gather 2 = .ok (.iconst 0, 1) := by decide +kernel
theorem dX8_gather_3 : decode cX8_gather 3 = .ok (.istore_n 3, 1) := by decide +kernel
theorem dX8_gather_4 : decode cX8_gather 4 = .ok (.iload_n 3, 1) := by decide +kernel
theorem dX8_gather_5 : decode cX8_gather 5 = .ok (.aload_n 0, 1) := by decide +kernel
theorem dX8_gather_6 : decode cX8_gather 6 = .ok (.getfield 62, 3) := by decide +kernel
theorem dX8_gather_9 : decode cX8_gather 9 = .ok (.if_icmp .ge 53, 3) := by decide +kernel
theorem dX8_gather_12 : decode cX8_gather 12 = .ok (.iload_n 2, 1) := by decide +kernel
theorem dX8_gather_13 : decode cX8_gather 13 = .ok (.bipush 8, 2) := by decide +kernel
theorem dX8_gather_15 : decode cX8_gather 15 = .ok (.if_icmp .ge 47, 3) := by decide +kernel
theorem dX8_gather_18 : decode cX8_gather 18 = .ok (.aload_n 0, 1) := by decide +kernel
theorem dX8_gather_19 : decode cX8_gather 19 = .ok (.getfield 35, 3) := by decide +kernel
theorem dX8_gather_22 : decode cX8_gather 22 = .ok (.iload_n 3, 1) := by decide +kernel
theorem dX8_gather_23 : decode cX8_gather 23 = .ok (.iaload, 1) := by decide +kernel
theorem dX8_gather_24 : decode cX8_gather 24 = .ok (.iload_n 1, 1) := by decide +kernel
theorem dX8_gather_25 : decode cX8_gather 25 = .ok (.if_icmp .ne 31, 3) := by decide +kernel
theorem dX8_gather_28 : decode cX8_gather 28 = .ok (.aload_n 0, 1) := by decide +kernel
theorem dX8_gather_29 : decode cX8_gather 29 = .ok (.getfield 41, 3) := by decide +kernel
theorem dX8_gather_32 : decode cX8_gather 32 = .ok (.aload_n 0, 1) := by decide +kernel
theorem dX8_gather_33 : decode cX8_gather 33 = .ok (.getfield 164, 3) := by decide +kernel
theorem dX8_gather_36 : decode cX8_gather 36 = .ok (.aload_n 0, 1) := by decide +kernel
theorem dX8_gather_37 : decode cX8_gather 37 = .ok (.getfield 38, 3) := by decide +kernel
theorem dX8_gather_40 : decode cX8_gather 40 = .ok (.iload_n 3, 1) := by decide +kernel
theorem dX8_gather_41 : decode cX8_gather 41 = .ok (.iaload, 1) := by decide +kernel
theorem dX8_gather_42 : decode cX8_gather 42 = .ok (.iastore, 1) := by decide +kernel
theorem dX8_gather_43 : decode cX8_gather 43 = .ok (.aload_n 0, 1) := by decide +kernel
theorem dX8_gather_44 : decode cX8_gather 44 = .ok (.dup, 1) := by decide +kernel
theorem dX8_gather_45 : decode cX8_gather 45 = .ok (.getfield 164, 3) := by decide +kernel
theorem dX8_gather_48 : decode cX8_gather 48 = .ok (.iconst 1, 1) := by decide +kernel
theorem dX8_gather_49 : decode cX8_gather 49 = .ok (.iadd, 1) := by decide +kernel
theorem dX8_gather_50 : decode cX8_gather 50 = .ok (.putfield 164, 3) := by decide +kernel
theorem dX8_gather_53 : decode cX8_gather 53 = .ok (.iinc 2 1, 3) := by decide +kernel
theorem dX8_gather_56 : decode cX8_gather 56 = .ok (.iinc 3 1, 3) := by decide +kernel
theorem dX8_gather_59 : decode cX8_gather 59 = .ok (.goto (-55), 3) := by decide +kernel
theorem dX8_gather_62 : decode cX8_gather 62 = .ok (.iload_n 2, 1) := by decide +kernel
theorem dX8_gather_63 : decode cX8_gather 63 = .ok (.ireturn, 1) := by decide +kernel
theorem dX8_rank_0 : decode cX8_rank 0 = .ok (.iconst 0, 1) := by decide +kernel
theorem dX8_rank_1 : decode cX8_rank 1 = .ok (.istore_n 2, 1) := by decide +kernel
theorem dX8_rank_2 : decode cX8_rank 2 = .ok (.iconst 0, 1) := by decide +kernel
theorem dX8_rank_3 : decode cX8_rank 3 = .ok (.istore_n 3, 1) := by decide +kernel
theorem dX8_rank_4 : decode cX8_rank 4 = .ok (.iload_n 3, 1) := by decide +kernel
theorem dX8_rank_5 : decode cX8_rank 5 = .ok (.aload_n 0, 1) := by decide +kernel
theorem dX8_rank_6 : decode cX8_rank 6 = .ok (.getfield 164, 3) := by decide +kernel
theorem dX8_rank_9 : decode cX8_rank 9 = .ok (.if_icmp .ge 56, 3) := by decide +kernel
theorem dX8_rank_12 : decode cX8_rank 12 = .ok (.iload_n 2, 1) := by decide +kernel
theorem dX8_rank_13 : decode cX8_rank 13 = .ok (.aload_n 0, 1) := by decide +kernel
theorem dX8_rank_14 : decode cX8_rank 14 = .ok (.getfield 41, 3) := by decide +kernel
theorem dX8_rank_17 : decode cX8_rank 17 = .ok (.iload_n 3, 1) := by decide +kernel
theorem dX8_rank_18 : decode cX8_rank 18 = .ok (.iaload, 1) := by decide +kernel
theorem dX8_rank_19 : decode cX8_rank 19 = .ok (.aload_n 0, 1) := by decide +kernel
theorem dX8_rank_20 : decode cX8_rank 20 = .ok (.getfield 41, 3) := by decide +kernel
theorem dX8_rank_23 : decode cX8_rank 23 = .ok (.iload_n 1, 1) := by decide +kernel
theorem dX8_rank_24 : decode cX8_rank 24 = .ok (.iaload, 1) := by decide +kernel
theorem dX8_rank_25 : decode cX8_rank 25 = .ok (.if_icmp .ge 7, 3) := by decide +kernel
theorem dX8_rank_28 : decode cX8_rank 28 = .ok (.iconst 2, 1) := by decide +kernel
theorem dX8_rank_29 : decode cX8_rank 29 = .ok (.goto 28, 3) := by decide +kernel
theorem dX8_rank_32 : decode cX8_rank 32 = .ok (.iload_n 3, 1) := by decide +kernel
theorem dX8_rank_33 : decode cX8_rank 33 = .ok (.iload_n 1, 1) := by decide +kernel
theorem dX8_rank_34 : decode cX8_rank 34 = .ok (.if_icmp .eq 22, 3) := by decide +kernel
theorem dX8_rank_37 : decode cX8_rank 37 = .ok (.aload_n 0, 1) := by decide +kernel
theorem dX8_rank_38 : decode cX8_rank 38 = .ok (.getfield 41, 3) := by decide +kernel
theorem dX8_rank_41 : decode cX8_rank 41 = .ok (.iload_n 3, 1) := by decide +kernel
theorem dX8_rank_42 : decode cX8_rank 42 = .ok (.iaload, 1) := by decide +kernel
theorem dX8_rank_43 : decode cX8_rank 43 = .ok (.aload_n 0, 1) := by decide +kernel
theorem dX8_rank_44 : decode cX8_rank 44 = .ok (.getfield 41, 3) := by decide +kernel
theorem dX8_rank_47 : decode cX8_rank 47 = .ok (.iload_n 1, 1) := by decide +kernel
theorem dX8_rank_48 : decode cX8_rank 48 = .ok (.iaload, 1) := by decide +kernel
theorem dX8_rank_49 : decode cX8_rank 49 = .ok (.if_icmp .ne 7, 3) := by decide +kernel
theorem dX8_rank_52 : decode cX8_rank 52 = .ok (.iconst 1, 1) := by decide +kernel
theorem dX8_rank_53 : decode cX8_rank 53 = .ok (.goto 4, 3) := by decide +kernel
theorem dX8_rank_56 : decode cX8_rank 56 = .ok (.iconst 0, 1) := by decide +kernel
theorem dX8_rank_57 : decode cX8_rank 57 = .ok (.iadd, 1) := by decide +kernel
theorem dX8_rank_58 : decode cX8_rank 58 = .ok (.istore_n 2, 1) := by decide +kernel
theorem dX8_rank_59 : decode cX8_rank 59 = .ok (.iinc 3 1, 3) := by decide +kernel
theorem dX8_rank_62 : decode cX8_rank 62 = .ok (.goto (-58), 3) := by decide +kernel
theorem dX8_rank_65 : decode cX8_rank 65 = .ok (.iload_n 2, 1) := by decide +kernel
theorem dX8_rank_66 : decode cX8_rank 66 = .ok (.ireturn, 1) := by decide +kernel
theorem dX8_chances_0 : decode cX8_chances 0 = .ok (.aload_n 0, 1) := by decide +kernel
theorem dX8_chances_1 : decode cX8_chances 1 = .ok (.iload_n 1, 1) := by decide +kernel
theorem dX8_chances_2 : decode cX8_chances 2 = .ok (.invokevirtual 98, 3) := by decide +kernel
theorem dX8_chances_5 : decode cX8_chances 5 = .ok (.ifCond .eq 16, 3) := by decide +kernel
theorem dX8_chances_8 : decode cX8_chances 8 = .ok (.aload_n 0, 1) := by decide +kernel
theorem dX8_chances_9 : decode cX8_chances 9 = .ok (.iload_n 2, 1) := by decide +kernel
theorem dX8_chances_10 : decode cX8_chances 10 = .ok (.invokevirtual 98, 3) := by decide +kernel
theorem dX8_chances_13 : decode cX8_chances 13 = .ok (.ifCond .eq 8, 3) := by decide +kernel
theorem dX8_chances_16 : decode cX8_chances 16 = .ok (.iload_n 1, 1) := by decide +kernel
theorem dX8_chances_17 : decode cX8_chances 17 = .ok (.iload_n 2, 1) := by decide +kernel
theorem dX8_chances_18 : decode cX8_chances 18 = .ok (.if_icmp .ne 5, 3) := by decide +kernel
theorem dX8_chances_21 : decode cX8_chances 21 = .ok (.iconst (-1), 1) := by decide +kernel
theorem dX8_chances_22 : decode cX8_chances 22 = .ok (.ireturn, 1) := by decide +kernel
theorem dX8_chances_23 : decode cX8_chances 23 = .ok (.aload_n 0, 1) := by decide +kernel
theorem dX8_chances_24 : decode cX8_chances 24 = .ok (.iconst 0, 1) := by decide +kernel
theorem dX8_chances_25 : decode cX8_chances 25 = .ok (.putfield 164, 3) := by decide +kernel
theorem dX8_chances_28 : decode cX8_chances 28 = .ok (.aload_n 0, 1) := by decide +kernel
theorem dX8_chances_29 : decode cX8_chances 29 = .ok (.iload_n 2, 1) := by decide +kernel
theorem dX8_chances_30 : decode cX8_chances 30 = .ok (.invokevirtual 167, 3) := by decide +kernel
theorem dX8_chances_33 : decode cX8_chances 33 = .ok (.istore_n 3, 1) := by decide +kernel
theorem dX8_chances_34 : decode cX8_chances 34 = .ok (.aload_n 0, 1) := by decide +kernel
theorem dX8_chances_35 : decode cX8_chances 35 = .ok (.iload_n 1, 1) := by decide +kernel
theorem dX8_chances_36 : decode cX8_chances 36 = .ok (.invokevirtual 167, 3) := by decide +kernel
theorem dX8_chances_39 : decode cX8_chances 39 = .ok (.istore 4, 2) := by decide +kernel
theorem dX8_chances_41 : decode cX8_chances 41 = .ok (.iload_n 3, 1) := by decide +kernel
theorem dX8_chances_42 : decode cX8_chances 42 = .ok (.ifCond .eq 8, 3) := by decide +kernel
theorem dX8_chances_45 : decode cX8_chances 45 = .ok (.iload 4, 2) := by decide +kernel
theorem dX8_chances_47 : decode cX8_chances 47 = .ok (.ifCond .ne 6, 3) := by decide +kernel
theorem dX8_chances_50 : decode cX8_chances 50 = .ok (.bipush (-2), 2) := by decide +kernel
theorem dX8_chances_52 : decode cX8_chances 52 = .ok (.ireturn, 1) := by decide +kernel
theorem dX8_chances_53 : decode cX8_chances 53 = .ok (.iconst 0, 1) := by decide +kernel
theorem dX8_chances_54 : decode cX8_chances 54 = .ok (.istore 5, 2) := by decide +kernel
theorem dX8_chances_56 : decode cX8_chances 56 = .ok (.iconst 0, 1) := by decide +kernel
theorem dX8_chances_57 : decode cX8_chances 57 = .ok (.istore 6, 2) := by decide +kernel
theorem dX8_chances_59 : decode cX8_chances 59 = .ok (.iload 6, 2) := by decide +kernel
theorem dX8_chances_61 : decode cX8_chances 61 = .ok (.iload_n 3, 1) := by decide +kernel
theorem dX8_chances_62 : decode cX8_chances 62 = .ok (.if_icmp .ge 20, 3) := by decide +kernel
theorem dX8_chances_65 : decode cX8_chances 65 = .ok (.iload 5, 2) := by decide +kernel
theorem dX8_chances_67 : decode cX8_chances 67 = .ok (.aload_n 0, 1) := by decide +kernel
theorem dX8_chances_68 : decode cX8_chances 68 = .ok (.iload 6, 2) := by decide +kernel
theorem dX8_chances_70 : decode cX8_chances 70 = .ok (.invokevirtual 170, 3) := by decide +kernel
theorem dX8_chances_73 : decode cX8_chances 73 = .ok (.iadd, 1) := by decide +kernel
theorem dX8_chances_74 : decode cX8_chances 74 = .ok (.istore 5, 2) := by decide +kernel
theorem dX8_chances_76 : decode cX8_chances 76 = .ok (.iinc 6 1, 3) := by decide +kernel
theorem dX8_chances_79 : decode cX8_chances 79 = .ok (.goto (-20), 3) := by decide +kernel
theorem dX8_chances_82 : decode cX8_chances 82 = .ok (.iconst 0, 1) := by decide +kernel
theorem dX8_chances_83 : decode cX8_chances 83 = .ok (.istore 6, 2) := by decide +kernel
theorem dX8_chances_85 : decode cX8_chances 85 = .ok (.iload 6, 2) := by decide +kernel
theorem dX8_chances_87 : decode cX8_chances 87 = .ok (.sipush 2304, 3) := by decide +kernel
theorem dX8_chances_90 : decode cX8_chances 90 = .ok (.if_icmp .ge 17, 3) := by decide +kernel
theorem dX8_chances_93 : decode cX8_chances 93 = .ok (.aload_n 0, 1) := by decide +kernel
theorem dX8_chances_94 : decode cX8_chances 94 = .ok (.getfield 44, 3) := by decide +kernel
theorem dX8_chances_97 : decode cX8_chances 97 = .ok (.iload 6, 2) := by decide +kernel
theorem dX8_chances_99 : decode cX8_chances 99 = .ok (.iconst 0, 1) := by decide +kernel
theorem dX8_chances_100 : decode cX8_chances 100 = .ok (.iastore, 1) := by decide +kernel
theorem dX8_chances_101 : decode cX8_chances 101 = .ok (.iinc 6 1, 3) := by decide +kernel
theorem dX8_chances_104 : decode cX8_chances 104 = .ok (.goto (-19), 3) := by decide +kernel
theorem dX8_chances_107 : decode cX8_chances 107 = .ok (.aload_n 0, 1) := by decide +kernel
theorem dX8_chances_108 : decode cX8_chances 108 = .ok (.getfield 44, 3) := by decide +kernel
theorem dX8_chances_111 : decode cX8_chances 111 = .ok (.iconst 0, 1) := by decide +kernel
theorem dX8_chances_112 : decode cX8_chances 112 = .ok (.iconst 1, 1) := by decide +kernel
theorem dX8_chances_113 : decode cX8_chances 113 = .ok (.iastore, 1) := by decide +kernel
theorem dX8_chances_114 : decode cX8_chances 114 = .ok (.iconst 0, 1) := by decide +kernel
theorem dX8_chances_115 : decode cX8_chances 115 = .ok (.istore 6, 2) := by decide +kernel
theorem dX8_chances_117 : decode cX8_chances 117 = .ok (.iload 6, 2) := by decide +kernel
theorem dX8_chances_119 : decode cX8_chances 119 = .ok (.aload_n 0, 1) := by decide +kernel
theorem dX8_chances_120 : decode cX8_chances 120 = .ok (.getfield 164, 3) := by decide +kernel
theorem dX8_chances_123 : decode cX8_chances 123 = .ok (.if_icmp .ge 99, 3) := by decide +kernel
theorem dX8_chances_126 : decode cX8_chances 126 = .ok (.aload_n 0, 1) := by decide +kernel
theorem dX8_chances_127 : decode cX8_chances 127 = .ok (.iload 6, 2) := by decide +kernel
theorem dX8_chances_129 : decode cX8_chances 129 = .ok (.invokevirtual 170, 3) := by decide +kernel
theorem dX8_chances_132 : decode cX8_chances 132 = .ok (.istore 7, 2) := by decide +kernel
theorem dX8_chances_134 : decode cX8_chances 134 = .ok (.iload 6, 2) := by decide +kernel
theorem dX8_chances_136 : decode cX8_chances 136 = .ok (.iload_n 3, 1) := by decide +kernel
theorem dX8_chances_137 : decode cX8_chances 137 = .ok (.if_icmp .ge 8, 3) := by decide +kernel
theorem dX8_chances_140 : decode cX8_chances 140 = .ok (.iload 6, 2) := by decide +kernel
theorem dX8_chances_142 : decode cX8_chances 142 = .ok (.goto 6, 3) := by decide +kernel
theorem dX8_chances_145 : decode cX8_chances 145 = .ok (.iload_n 3, 1) := by decide +kernel
theorem dX8_chances_146 : decode cX8_chances 146 = .ok (.iconst 1, 1) := by decide +kernel
theorem dX8_chances_147 : decode cX8_chances 147 = .ok (.isub, 1) := by decide +kernel
theorem dX8_chances_148 : decode cX8_chances 148 = .ok (.istore 8, 2) := by decide +kernel
theorem dX8_chances_150 : decode cX8_chances 150 = .ok (.iload 8, 2) := by decide +kernel
theorem dX8_chances_152 : decode cX8_chances 152 = .ok (.ifCond .lt 64, 3) := by decide +kernel
theorem dX8_chances_155 : decode cX8_chances 155 = .ok (.sipush 255, 3) := by decide +kernel
theorem dX8_chances_158 : decode cX8_chances 158 = .ok (.iload 7, 2) := by decide +kernel
theorem dX8_chances_160 : decode cX8_chances 160 = .ok (.isub, 1) := by decide +kernel
theorem dX8_chances_161 : decode cX8_chances 161 = .ok (.istore 9, 2) := by decide +kernel
theorem dX8_chances_163 : decode cX8_chances 163 = .ok (.iload 9, 2) := by decide +kernel
theorem dX8_chances_165 : decode cX8_chances 165 = .ok (.ifCond .lt 45, 3) := by decide +kernel
theorem dX8_chances_168 : decode cX8_chances 168 = .ok (.aload_n 0, 1) := by decide +kernel
theorem dX8_chances_169 : decode cX8_chances 169 = .ok (.getfield 44, 3) := by decide +kernel
theorem dX8_chances_172 : decode cX8_chances 172 = .ok (.sipush 256, 3) := by decide +kernel
theorem dX8_chances_175 : decode cX8_chances 175 = .ok (.iload 8, 2) := by decide +kernel
theorem dX8_chances_177 : decode cX8_chances 177 = .ok (.iconst 1, 1) := by decide +kernel
theorem dX8_chances_178 : decode cX8_chances 178 = .ok (.iadd, 1) := by decide +kernel
theorem dX8_chances_179 : decode cX8_chances 179 = .ok (.imul, 1) := by decide +kernel
theorem dX8_chances_180 : decode cX8_chances 180 = .ok (.iload 9, 2) := by decide +kernel
theorem dX8_chances_182 : decode cX8_chances 182 = .ok (.iadd, 1) := by decide +kernel
theorem dX8_chances_183 : decode cX8_chances 183 = .ok (.iload 7, 2) := by decide +kernel
theorem dX8_chances_185 : decode cX8_chances 185 = .ok (.iadd, 1) := by decide +kernel
theorem dX8_chances_186 : decode cX8_chances 186 = .ok (.dup2, 1) := by decide +kernel
theorem dX8_chances_187 : decode cX8_chances 187 = .ok (.iaload, 1) := by decide +kernel
theorem dX8_chances_188 : decode cX8_chances 188 = .ok (.aload_n 0, 1) := by decide +kernel
theorem dX8_chances_189 : decode cX8_chances 189 = .ok (.getfield 44, 3) := by decide +kernel
theorem dX8_chances_192 : decode cX8_chances 192 = .ok (.sipush 256, 3) := by decide +kernel
theorem dX8_chances_195 : decode cX8_chances 195 = .ok (.iload 8, 2) := by decide +kernel
theorem dX8_chances_197 : decode cX8_chances 197 = .ok (.imul, 1) := by decide +kernel
theorem dX8_chances_198 : decode cX8_chances 198 = .ok (.iload 9, 2) := by decide +kernel
theorem dX8_chances_200 : decode cX8_chances 200 = .ok (.iadd, 1) := by decide +kernel
theorem dX8_chances_201 : decode cX8_chances 201 = .ok (.iaload, 1) := by decide +kernel
theorem dX8_chances_202 : decode cX8_chances 202 = .ok (.iadd, 1) := by decide +kernel
theorem dX8_chances_203 : decode cX8_chances 203 = .ok (.iastore, 1) := by decide +kernel
theorem dX8_chances_204 : decode cX8_chances 204 = .ok (.iinc 9 (-1), 3) := by decide +kernel
theorem dX8_chances_207 : decode cX8_chances 207 = .ok (.goto (-44), 3) := by decide +kernel
theorem dX8_chances_210 : decode cX8_chances 210 = .ok (.iinc 8 (-1), 3) := by decide +kernel
theorem dX8_chances_213 : decode cX8_chances 213 = .ok (.goto (-63), 3) := by decide +kernel
theorem dX8_chances_216 : decode cX8_chances 216 = .ok (.iinc 6 1, 3) := by decide +kernel
theorem dX8_chances_219 : decode cX8_chances 219 = .ok (.goto (-102), 3) := by decide +kernel
theorem dX8_chances_222 : decode cX8_chances 222 = .ok (.aload_n 0, 1) := by decide +kernel
theorem dX8_chances_223 : decode cX8_chances 223 = .ok (.iconst 0, 1) := by decide +kernel
theorem dX8_chances_224 : decode cX8_chances 224 = .ok (.putfield 173, 3) := by decide +kernel
theorem dX8_chances_227 : decode cX8_chances 227 = .ok (.aload_n 0, 1) := by decide +kernel
theorem dX8_chances_228 : decode cX8_chances 228 = .ok (.iconst 0, 1) := by decide +kernel
theorem dX8_chances_229 : decode cX8_chances 229 = .ok (.putfield 176, 3) := by decide +kernel
theorem dX8_chances_232 : decode cX8_chances 232 = .ok (.iconst 0, 1) := by decide +kernel
theorem dX8_chances_233 : decode cX8_chances 233 = .ok (.istore 6, 2) := by decide +kernel
theorem dX8_chances_235 : decode cX8_chances 235 = .ok (.iload 6, 2) := by decide +kernel
theorem dX8_chances_237 : decode cX8_chances 237 = .ok (.sipush 256, 3) := by decide +kernel
theorem dX8_chances_240 : decode cX8_chances 240 = .ok (.if_icmp .ge 64, 3) := by decide +kernel
theorem dX8_chances_243 : decode cX8_chances 243 = .ok (.aload_n 0, 1) := by decide +kernel
theorem dX8_chances_244 : decode cX8_chances 244 = .ok (.dup, 1) := by decide +kernel
theorem dX8_chances_245 : decode cX8_chances 245 = .ok (.getfield 176, 3) := by decide +kernel
theorem dX8_chances_248 : decode cX8_chances 248 = .ok (.aload_n 0, 1) := by decide +kernel
theorem dX8_chances_249 : decode cX8_chances 249 = .ok (.getfield 44, 3) := by decide +kernel
theorem dX8_chances_252 : decode cX8_chances 252 = .ok (.sipush 256, 3) := by decide +kernel
theorem dX8_chances_255 : decode cX8_chances 255 = .ok (.iload_n 3, 1) := by decide +kernel
theorem dX8_chances_256 : decode cX8_chances 256 = .ok (.imul, 1) := by decide +kernel
theorem dX8_chances_257 : decode cX8_chances 257 = .ok (.iload 6, 2) := by decide +kernel
theorem dX8_chances_259 : decode cX8_chances 259 = .ok (.iadd, 1) := by decide +kernel
theorem dX8_chances_260 : decode cX8_chances 260 = .ok (.iaload, 1) := by decide +kernel
theorem dX8_chances_261 : decode cX8_chances 261 = .ok (.iadd, 1) := by decide +kernel
theorem dX8_chances_262 : decode cX8_chances 262 = .ok (.putfield 176, 3) := by decide +kernel
theorem dX8_chances_265 : decode cX8_chances 265 = .ok (.aload_n 0, 1) := by decide +kernel
theorem dX8_chances_266 : decode cX8_chances 266 = .ok (.dup, 1) := by decide +kernel
theorem dX8_chances_267 : decode cX8_chances 267 = .ok (.getfield 173, 3) := by decide +kernel
theorem dX8_chances_270 : decode cX8_chances 270 = .ok (.iload 6, 2) := by decide +kernel
theorem dX8_chances_272 : decode cX8_chances 272 = .ok (.iload 5, 2) := by decide +kernel
theorem dX8_chances_274 : decode cX8_chances 274 = .ok (.if_icmp .lt 19, 3) := by decide +kernel
theorem dX8_chances_277 : decode cX8_chances 277 = .ok (.aload_n 0, 1) := by decide +kernel
theorem dX8_chances_278 : decode cX8_chances 278 = .ok (.getfield 44, 3) := by decide +kernel
theorem dX8_chances_281 : decode cX8_chances 281 = .ok (.sipush 256, 3) := by decide +kernel
theorem dX8_chances_284 : decode cX8_chances 284 = .ok (.iload_n 3, 1) := by decide +kernel
theorem dX8_chances_285 : decode cX8_chances 285 = .ok (.imul, 1) := by decide +kernel
theorem dX8_chances_286 : decode cX8_chances 286 = .ok (.iload 6, 2) := by decide +kernel
theorem dX8_chances_288 : decode cX8_chances 288 = .ok (.iadd, 1) := by decide +kernel
theorem dX8_chances_289 : decode cX8_chances 289 = .ok (.iaload, 1) := by decide +kernel
theorem dX8_chances_290 : decode cX8_chances 290 = .ok (.goto 4, 3) := by decide +kernel
theorem dX8_chances_293 : decode cX8_chances 293 = .ok (.iconst 0, 1) := by decide +kernel
theorem dX8_chances_294 : decode cX8_chances 294 = .ok (.iadd, 1) := by decide +kernel
theorem dX8_chances_295 : decode cX8_chances 295 = .ok (.putfield 173, 3) := by decide +kernel
theorem dX8_chances_298 : decode cX8_chances 298 = .ok (.iinc 6 1, 3) := by decide +kernel
theorem dX8_chances_301 : decode cX8_chances 301 = .ok (.goto (-66), 3) := by decide +kernel
theorem dX8_chances_304 : decode cX8_chances 304 = .ok (.iconst 0, 1) := by decide +kernel
theorem dX8_chances_305 : decode cX8_chances 305 = .ok (.ireturn, 1) := by decide +kernel
theorem dX8_odds_0 : decode cX8_odds 0 = .ok (.iload_n 3, 1) := by decide +kernel
theorem dX8_odds_1 : decode cX8_odds 1 = .ok (.i2l, 1) := by decide +kernel
theorem dX8_odds_2 : decode cX8_odds 2 = .ok (.lconst 0, 1) := by decide +kernel
theorem dX8_odds_3 : decode cX8_odds 3 = .ok (.lconst 1, 1) := by decide +kernel
theorem dX8_odds_4 : decode cX8_odds 4 = .ok (.invokestatic 50, 3) := by decide +kernel
theorem dX8_odds_7 : decode cX8_odds 7 = .ok (.ifCond .ne 5, 3) := by decide +kernel
theorem dX8_odds_10 : decode cX8_odds 10 = .ok (.iconst (-1), 1) := by decide +kernel
theorem dX8_odds_11 : decode cX8_odds 11 = .ok (.ireturn, 1) := by decide +kernel
theorem dX8_odds_12 : decode cX8_odds 12 = .ok (.aload_n 0, 1) := by decide +kernel
theorem dX8_odds_13 : decode cX8_odds 13 = .ok (.iload_n 1, 1) := by decide +kernel
theorem dX8_odds_14 : decode cX8_odds 14 = .ok (.iload_n 2, 1) := by decide +kernel
theorem dX8_odds_15 : decode cX8_odds 15 = .ok (.invokevirtual 179, 3) := by decide +kernel
theorem dX8_odds_18 : decode cX8_odds 18 = .ok (.istore 4, 2) := by decide +kernel
theorem dX8_odds_20 : decode cX8_odds 20 = .ok (.iload 4, 2) := by decide +kernel
theorem dX8_odds_22 : decode cX8_odds 22 = .ok (.ifCond .ge 8, 3) := by decide +kernel
theorem dX8_odds_25 : decode cX8_odds 25 = .ok (.iload 4, 2) := by decide +kernel
theorem dX8_odds_27 : decode cX8_odds 27 = .ok (.goto 18, 3) := by decide +kernel
theorem dX8_odds_30 : decode cX8_odds 30 = .ok (.iload_n 3, 1) := by decide +kernel
theorem dX8_odds_31 : decode cX8_odds 31 = .ok (.ifCond .ne 10, 3) := by decide +kernel
theorem dX8_odds_34 : decode cX8_odds 34 = .ok (.aload_n 0, 1) := by decide +kernel
theorem dX8_odds_35 : decode cX8_odds 35 = .ok (.getfield 173, 3) := by decide +kernel
theorem dX8_odds_38 : decode cX8_odds 38 = .ok (.goto 7, 3) := by decide +kernel
theorem dX8_odds_41 : decode cX8_odds 41 = .ok (.aload_n 0, 1) := by decide +kernel
theorem dX8_odds_42 : decode cX8_odds 42 = .ok (.getfield 176, 3) := by decide +kernel
theorem dX8_odds_45 : decode cX8_odds 45 = .ok (.ireturn, 1) := by decide +kernel
theorem dX8_safe_0 : decode cX8_safe 0 = .ok (.iload_n 3, 1) := by decide +kernel
theorem dX8_safe_1 : decode cX8_safe 1 = .ok (.i2l, 1) := by decide +kernel
theorem dX8_safe_2 : decode cX8_safe 2 = .ok (.lconst 0, 1) := by decide +kernel
theorem dX8_safe_3 : decode cX8_safe 3 = .ok (.ldc2_w 78, 3) := by decide +kernel
theorem dX8_safe_6 : decode cX8_safe 6 = .ok (.invokestatic 50, 3) := by decide +kernel
theorem dX8_safe_9 : decode cX8_safe 9 = .ok (.ifCond .eq 16, 3) := by decide +kernel
theorem dX8_safe_12 : decode cX8_safe 12 = .ok (.iload 4, 2) := by decide +kernel
theorem dX8_safe_14 : decode cX8_safe 14 = .ok (.i2l, 1) := by decide +kernel
theorem dX8_safe_15 : decode cX8_safe 15 = .ok (.lconst 1, 1) := by decide +kernel
theorem dX8_safe_16 : decode cX8_safe 16 = .ok (.ldc2_w 78, 3) := by decide +kernel
theorem dX8_safe_19 : decode cX8_safe 19 = .ok (.invokestatic 50, 3) := by decide +kernel
theorem dX8_safe_22 : decode cX8_safe 22 = .ok (.ifCond .ne 5, 3) := by decide +kernel
theorem dX8_safe_25 : decode cX8_safe 25 = .ok (.iconst (-1), 1) := by decide +kernel
theorem dX8_safe_26 : decode cX8_safe 26 = .ok (.ireturn, 1) := by decide +kernel
theorem dX8_safe_27 : decode cX8_safe 27 = .ok (.aload_n 0, 1) := by decide +kernel
theorem dX8_safe_28 : decode cX8_safe 28 = .ok (.iload_n 1, 1) := by decide +kernel
theorem dX8_safe_29 : decode cX8_safe 29 = .ok (.iload_n 2, 1) := by decide +kernel
theorem dX8_safe_30 : decode cX8_safe 30 = .ok (.invokevirtual 179, 3) := by decide +kernel
theorem dX8_safe_33 : decode cX8_safe 33 = .ok (.istore 5, 2) := by decide +kernel
theorem dX8_safe_35 : decode cX8_safe 35 = .ok (.iload 5, 2) := by decide +kernel
theorem dX8_safe_37 : decode cX8_safe 37 = .ok (.ifCond .ge 8, 3) := by decide +kernel
theorem dX8_safe_40 : decode cX8_safe 40 = .ok (.iload 5, 2) := by decide +kernel
theorem dX8_safe_42 : decode cX8_safe 42 = .ok (.goto 24, 3) := by decide +kernel
theorem dX8_safe_45 : decode cX8_safe 45 = .ok (.aload_n 0, 1) := by decide +kernel
theorem dX8_safe_46 : decode cX8_safe 46 = .ok (.getfield 173, 3) := by decide +kernel
theorem dX8_safe_49 : decode cX8_safe 49 = .ok (.iload 4, 2) := by decide +kernel
theorem dX8_safe_51 : decode cX8_safe 51 = .ok (.imul, 1) := by decide +kernel
theorem dX8_safe_52 : decode cX8_safe 52 = .ok (.iload_n 3, 1) := by decide +kernel
theorem dX8_safe_53 : decode cX8_safe 53 = .ok (.aload_n 0, 1) := by decide +kernel
theorem dX8_safe_54 : decode cX8_safe 54 = .ok (.getfield 176, 3) := by decide +kernel
theorem dX8_safe_57 : decode cX8_safe 57 = .ok (.imul, 1) := by decide +kernel
theorem dX8_safe_58 : decode cX8_safe 58 = .ok (.if_icmp .gt 7, 3) := by decide +kernel
theorem dX8_safe_61 : decode cX8_safe 61 = .ok (.iconst 1, 1) := by decide +kernel
theorem dX8_safe_62 : decode cX8_safe 62 = .ok (.goto 4, 3) := by decide +kernel
theorem dX8_safe_65 : decode cX8_safe 65 = .ok (.iconst 0, 1) := by decide +kernel
theorem dX8_safe_66 : decode cX8_safe 66 = .ok (.ireturn, 1) := by decide +kernel
theorem dX8_back_0 : decode cX8_back 0 = .ok (.aload_n 0, 1) := by decide +kernel
theorem dX8_back_1 : decode cX8_back 1 = .ok (.iload_n 1, 1) := by decide +kernel
theorem dX8_back_2 : decode cX8_back 2 = .ok (.invokevirtual 98, 3) := by decide +kernel
theorem dX8_back_5 : decode cX8_back 5 = .ok (.ifCond .eq 11, 3) := by decide +kernel
theorem dX8_back_8 : decode cX8_back 8 = .ok (.aload_n 0, 1) := by decide +kernel
theorem dX8_back_9 : decode cX8_back 9 = .ok (.iload_n 2, 1) := by decide +kernel
theorem dX8_back_10 : decode cX8_back 10 = .ok (.invokevirtual 98, 3) := by decide +kernel
theorem dX8_back_13 : decode cX8_back 13 = .ok (.ifCond .ne 5, 3) := by decide +kernel
theorem dX8_back_16 : decode cX8_back 16 = .ok (.iconst (-1), 1) := by decide +kernel
theorem dX8_back_17 : decode cX8_back 17 = .ok (.ireturn, 1) := by decide +kernel
theorem dX8_back_18 : decode cX8_back 18 = .ok (.iload_n 1, 1) := by decide +kernel
theorem dX8_back_19 : decode cX8_back 19 = .ok (.istore_n 3, 1) := by decide +kernel
theorem dX8_back_20 : decode cX8_back 20 = .ok (.iconst 0, 1) := by decide +kernel
theorem dX8_back_21 : decode cX8_back 21 = .ok (.istore 4, 2) := by decide +kernel
theorem dX8_back_23 : decode cX8_back 23 = .ok (.iload 4, 2) := by decide +kernel
theorem dX8_back_25 : decode cX8_back 25 = .ok (.aload_n 0, 1) := by decide +kernel
theorem dX8_back_26 : decode cX8_back 26 = .ok (.getfield 47, 3) := by decide +kernel
theorem dX8_back_29 : decode cX8_back 29 = .ok (.if_icmp .ge 55, 3) := by decide +kernel
theorem dX8_back_32 : decode cX8_back 32 = .ok (.aload_n 0, 1) := by decide +kernel
theorem dX8_back_33 : decode cX8_back 33 = .ok (.iload_n 3, 1) := by decide +kernel
theorem dX8_back_34 : decode cX8_back 34 = .ok (.iload 4, 2) := by decide +kernel
theorem dX8_back_36 : decode cX8_back 36 = .ok (.aload_n 0, 1) := by decide +kernel
theorem dX8_back_37 : decode cX8_back 37 = .ok (.iload_n 2, 1) := by decide +kernel
theorem dX8_back_38 : decode cX8_back 38 = .ok (.iload 4, 2) := by decide +kernel
theorem dX8_back_40 : decode cX8_back 40 = .ok (.invokevirtual 94, 3) := by decide +kernel
theorem dX8_back_43 : decode cX8_back 43 = .ok (.invokevirtual 101, 3) := by decide +kernel
theorem dX8_back_46 : decode cX8_back 46 = .ok (.istore 5, 2) := by decide +kernel
theorem dX8_back_48 : decode cX8_back 48 = .ok (.aload_n 0, 1) := by decide +kernel
theorem dX8_back_49 : decode cX8_back 49 = .ok (.iload 5, 2) := by decide +kernel
theorem dX8_back_51 : decode cX8_back 51 = .ok (.invokevirtual 105, 3) := by decide +kernel
theorem dX8_back_54 : decode cX8_back 54 = .ok (.ifCond .eq 22, 3) := by decide +kernel
theorem dX8_back_57 : decode cX8_back 57 = .ok (.aload_n 0, 1) := by decide +kernel
theorem dX8_back_58 : decode cX8_back 58 = .ok (.iload 5, 2) := by decide +kernel
theorem dX8_back_60 : decode cX8_back 60 = .ok (.invokevirtual 108, 3) := by decide +kernel
theorem dX8_back_63 : decode cX8_back 63 = .ok (.aload_n 0, 1) := by decide +kernel
theorem dX8_back_64 : decode cX8_back 64 = .ok (.iload_n 3, 1) := by decide +kernel
theorem dX8_back_65 : decode cX8_back 65 = .ok (.invokevirtual 108, 3) := by decide +kernel
theorem dX8_back_68 : decode cX8_back 68 = .ok (.if_icmp .ne 8, 3) := by decide +kernel
theorem dX8_back_71 : decode cX8_back 71 = .ok (.iload 5, 2) := by decide +kernel
theorem dX8_back_73 : decode cX8_back 73 = .ok (.goto 4, 3) := by decide +kernel
theorem dX8_back_76 : decode cX8_back 76 = .ok (.iload_n 3, 1) := by decide +kernel
theorem dX8_back_77 : decode cX8_back 77 = .ok (.istore_n 3, 1) := by decide +kernel
theorem dX8_back_78 : decode cX8_back 78 = .ok (.iinc 4 1, 3) := by decide +kernel
theorem dX8_back_81 : decode cX8_back 81 = .ok (.goto (-58), 3) := by decide +kernel
theorem dX8_back_84 : decode cX8_back 84 = .ok (.iload_n 3, 1) := by decide +kernel
theorem dX8_back_85 : decode cX8_back 85 = .ok (.ireturn, 1) := by decide +kernel
theorem dX8_count_0 : decode cX8_count 0 = .ok (.iconst 0, 1) := by decide +kernel
theorem dX8_count_1 : decode cX8_count 1 = .ok (.istore_n 2, 1) := by decide +kernel
theorem dX8_count_2 : decode cX8_count 2 = .ok (.iconst 0, 1) := by decide +kernel
theorem dX8_count_3 : decode cX8_count 3 = .ok (.istore_n 3, 1) := by decide +kernel
theorem dX8_count_4 : decode cX8_count 4 = .ok (.iload_n 3, 1) := by decide +kernel
theorem dX8_count_5 : decode cX8_count 5 = .ok (.aload_n 0, 1) := by decide +kernel
theorem dX8_count_6 : decode cX8_count 6 = .ok (.getfield 7, 3) := by decide +kernel
theorem dX8_count_9 : decode cX8_count 9 = .ok (.if_icmp .ge 25, 3) := by decide +kernel
theorem dX8_count_12 : decode cX8_count 12 = .ok (.iload_n 2, 1) := by decide +kernel
theorem dX8_count_13 : decode cX8_count 13 = .ok (.aload_n 0, 1) := by decide +kernel
theorem dX8_count_14 : decode cX8_count 14 = .ok (.iload_n 3, 1) := by decide +kernel
theorem dX8_count_15 : decode cX8_count 15 = .ok (.invokevirtual 155, 3) := by decide +kernel
theorem dX8_count_18 : decode cX8_count 18 = .ok (.ifCond .lt 7, 3) := by decide +kernel
theorem dX8_count_21 : decode cX8_count 21 = .ok (.iconst 1, 1) := by decide +kernel
theorem dX8_count_22 : decode cX8_count 22 = .ok (.goto 4, 3) := by decide +kernel
theorem dX8_count_25 : decode cX8_count 25 = .ok (.iconst 0, 1) := by decide +kernel
theorem dX8_count_26 : decode cX8_count 26 = .ok (.iadd, 1) := by decide +kernel
theorem dX8_count_27 : decode cX8_count 27 = .ok (.istore_n 2, 1) := by decide +kernel
theorem dX8_count_28 : decode cX8_count 28 = .ok (.iinc 3 1, 3) := by decide +kernel
theorem dX8_count_31 : decode cX8_count 31 = .ok (.goto (-27), 3) := by decide +kernel
theorem dX8_count_34 : decode cX8_count 34 = .ok (.iload_n 1, 1) := by decide +kernel
theorem dX8_count_35 : decode cX8_count 35 = .ok (.tableswitch 64 0 5 #[37, 42, 47, 52, 57, 59], 37) := by decide +kernel
theorem dX8_count_72 : decode cX8_count 72 = .ok (.aload_n 0, 1) := by decide +kernel
theorem dX8_count_73 : decode cX8_count 73 = .ok (.getfield 47, 3) := by decide +kernel
theorem dX8_count_76 : decode cX8_count 76 = .ok (.ireturn, 1) := by decide +kernel
theorem dX8_count_77 : decode cX8_count 77 = .ok (.aload_n 0, 1) := by decide +kernel
theorem dX8_count_78 : decode cX8_count 78 = .ok (.getfield 7, 3) := by decide +kernel
theorem dX8_count_81 : decode cX8_count 81 = .ok (.ireturn, 1) := by decide +kernel
theorem dX8_count_82 : decode cX8_count 82 = .ok (.aload_n 0, 1) := by decide +kernel
theorem dX8_count_83 : decode cX8_count 83 = .ok (.getfield 73, 3) := by decide +kernel
theorem dX8_count_86 : decode cX8_count 86 = .ok (.ireturn, 1) := by decide +kernel
theorem dX8_count_87 : decode cX8_count 87 = .ok (.aload_n 0, 1) := by decide +kernel
theorem dX8_count_88 : decode cX8_count 88 = .ok (.getfield 62, 3) := by decide +kernel
theorem dX8_count_91 : decode cX8_count 91 = .ok (.ireturn, 1) := by decide +kernel
theorem dX8_count_92 : decode cX8_count 92 = .ok (.iload_n 2, 1) := by decide +kernel
theorem dX8_count_93 : decode cX8_count 93 = .ok (.ireturn, 1) := by decide +kernel
theorem dX8_count_94 : decode cX8_count 94 = .ok (.aload_n 0, 1) := by decide +kernel
theorem dX8_count_95 : decode cX8_count 95 = .ok (.getfield 85, 3) := by decide +kernel
theorem dX8_count_98 : decode cX8_count 98 = .ok (.ireturn, 1) := by decide +kernel
theorem dX8_count_99 : decode cX8_count 99 = .ok (.iconst (-1), 1) := by decide +kernel
theorem dX8_count_100 : decode cX8_count 100 = .ok (.ireturn, 1) := by decide +kernel
