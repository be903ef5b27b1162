theorem dX0_init_0 : decode cX0_init 0 = .ok (.aload_n 0, 1) := by decide +kernel
theorem dX0_init_1 : decode cX0_init 1 = .ok (.invokespecial 3, 3) := by decide +kernel
theorem dX0_init_4 : decode cX0_init 4 = .ok (.aload_n 0, 1) := by decide +kernel
theorem dX0_init_5 : decode cX0_init 5 = .ok (.sipush 144, 3) := by decide +kernel
theorem dX0_init_8 : decode cX0_init 8 = .ok (.newarray .int, 2) := by decide +kernel
theorem dX0_init_10 : decode cX0_init 10 = .ok (.putfield 9, 3) := by decide +kernel
theorem dX0_init_13 : decode cX0_init 13 = .ok (.aload_n 0, 1) := by decide +kernel
theorem dX0_init_14 : decode cX0_init 14 = .ok (.sipush 144, 3) := by decide +kernel
theorem dX0_init_17 : decode cX0_init 17 = .ok (.newarray .int, 2) := by decide +kernel
theorem dX0_init_19 : decode cX0_init 19 = .ok (.putfield 15, 3) := by decide +kernel
theorem dX0_init_22 : decode cX0_init 22 = .ok (.return_, 1) := by decide +kernel
theorem dX0_floorOf_0 : decode cX0_floorOf 0 = .ok (.aload_n 0, 1) := by decide +kernel
theorem dX0_floorOf_1 : decode cX0_floorOf 1 = .ok (.getfield 9, 3) := by decide +kernel
theorem dX0_floorOf_4 : decode cX0_floorOf 4 = .ok (.iload_n 1, 1) := by decide +kernel
theorem dX0_floorOf_5 : decode cX0_floorOf 5 = .ok (.iaload, 1) := by decide +kernel
theorem dX0_floorOf_6 : decode cX0_floorOf 6 = .ok (.ireturn, 1) := by decide +kernel
theorem dX0_roofOf_0 : decode cX0_roofOf 0 = .ok (.aload_n 0, 1) := by decide +kernel
theorem dX0_roofOf_1 : decode cX0_roofOf 1 = .ok (.getfield 15, 3) := by decide +kernel
theorem dX0_roofOf_4 : decode cX0_roofOf 4 = .ok (.iload_n 1, 1) := by decide +kernel
theorem dX0_roofOf_5 : decode cX0_roofOf 5 = .ok (.iaload, 1) := by decide +kernel
theorem dX0_roofOf_6 : decode cX0_roofOf 6 = .ok (.ireturn, 1) := by decide +kernel
theorem dX0_measureAll_0 : decode cX0_measureAll 0 = .ok (.iconst 0, 1) := by decide +kernel
theorem dX0_measureAll_1 : decode cX0_measureAll 1 = .ok (.istore_n 3, 1) := by decide +kernel
theorem dX0_measureAll_2 : decode cX0_measureAll 2 = .ok (.iload_n 3, 1) := by decide +kernel
theorem dX0_measureAll_3 : decode cX0_measureAll 3 = .ok (.aload_n 2, 1) := by decide +kernel
theorem dX0_measureAll_4 : decode cX0_measureAll 4 = .ok (.invokevirtual 18, 3) := by decide +kernel
theorem dX0_measureAll_7 : decode cX0_measureAll 7 = .ok (.if_icmp .ge 16, 3) := by decide +kernel
theorem dX0_measureAll_10 : decode cX0_measureAll 10 = .ok (.aload_n 0, 1) := by decide +kernel
theorem dX0_measureAll_11 : decode cX0_measureAll 11 = .ok (.iload_n 3, 1) := by decide +kernel
theorem dX0_measureAll_12 : decode cX0_measureAll 12 = .ok (.aload_n 1, 1) := by decide +kernel
theorem dX0_measureAll_13 : decode cX0_measureAll 13 = .ok (.aload_n 2, 1) := by decide +kernel
theorem dX0_measureAll_14 : decode cX0_measureAll 14 = .ok (.invokevirtual 24, 3) := by decide +kernel
theorem dX0_measureAll_17 : decode cX0_measureAll 17 = .ok (.iinc 3 1, 3) := by decide +kernel
theorem dX0_measureAll_20 : decode cX0_measureAll 20 = .ok (.goto (-18), 3) := by decide +kernel
theorem dX0_measureAll_23 : decode cX0_measureAll 23 = .ok (.return_, 1) := by decide +kernel
theorem dX0_measure_0 : decode cX0_measure 0 = .ok (.aload_n 0, 1) := by decide +kernel
theorem dX0_measure_1 : decode cX0_measure 1 = .ok (.getfield 9, 3) := by decide +kernel
theorem dX0_measure_4 : decode cX0_measure 4 = .ok (.iload_n 1, 1) := by decide +kernel
theorem dX0_measure_5 : decode cX0_measure 5 = .ok (.ldc 28, 2) := by decide +kernel
theorem dX0_measure_7 : decode cX0_measure 7 = .ok (.iastore, 1) := by decide +kernel
theorem dX0_measure_8 : decode cX0_measure 8 = .ok (.aload_n 0, 1) := by decide +kernel
theorem dX0_measure_9 : decode cX0_measure 9 = .ok (.getfield 15, 3) := by decide +kernel
theorem dX0_measure_12 : decode cX0_measure 12 = .ok (.iload_n 1, 1) := by decide +kernel
theorem dX0_measure_13 : decode cX0_measure 13 = .ok (.ldc 29, 2) := by decide +kernel
theorem dX0_measure_15 : decode cX0_measure 15 = .ok (.iastore, 1) := by decide +kernel
theorem dX0_measure_16 : decode cX0_measure 16 = .ok (.iconst 0, 1) := by decide +kernel
theorem dX0_measure_17 : decode cX0_measure 17 = .ok (.istore 4, 2) := by decide +kernel
theorem dX0_measure_19 : decode cX0_measure 19 = .ok (.iload 4, 2) := by decide +kernel
theorem dX0_measure_21 : decode cX0_measure 21 = .ok (.aload_n 2, 1) := by decide +kernel
theorem dX0_measure_22 : decode cX0_measure 22 = .ok (.invokevirtual 30, 3) := by decide +kernel
theorem dX0_measure_25 : decode cX0_measure 25 = .ok (.if_icmp .ge 18, 3) := by decide +kernel
theorem dX0_measure_28 : decode cX0_measure 28 = .ok (.aload_n 0, 1) := by decide +kernel
theorem dX0_measure_29 : decode cX0_measure 29 = .ok (.iload_n 1, 1) := by decide +kernel
theorem dX0_measure_30 : decode cX0_measure 30 = .ok (.iload 4, 2) := by decide +kernel
theorem dX0_measure_32 : decode cX0_measure 32 = .ok (.aload_n 2, 1) := by decide +kernel
theorem dX0_measure_33 : decode cX0_measure 33 = .ok (.aload_n 3, 1) := by decide +kernel
theorem dX0_measure_34 : decode cX0_measure 34 = .ok (.invokevirtual 35, 3) := by decide +kernel
theorem dX0_measure_37 : decode cX0_measure 37 = .ok (.iinc 4 1, 3) := by decide +kernel
theorem dX0_measure_40 : decode cX0_measure 40 = .ok (.goto (-21), 3) := by decide +kernel
theorem dX0_measure_43 : decode cX0_measure 43 = .ok (.return_, 1) := by decide +kernel
theorem dX0_tightenByLatest_0 : decode cX0_tightenByLatest 0 = .ok (.iconst 0, 1) := by decide +kernel
theorem dX0_tightenByLatest_1 : decode cX0_tightenByLatest 1 = .ok (.istore_n 3, 1) := by decide +kernel
theorem dX0_tightenByLatest_2 : decode cX0_tightenByLatest 2 = .ok (.iload_n 3, 1) := by decide +kernel
theorem dX0_tightenByLatest_3 : decode cX0_tightenByLatest 3 = .ok (.aload_n 2, 1) := by decide +kernel
theorem dX0_tightenByLatest_4 : decode cX0_tightenByLatest 4 = .ok (.invokevirtual 18, 3) := by decide +kernel
theorem dX0_tightenByLatest_7 : decode cX0_tightenByLatest 7 = .ok (.if_icmp .ge 22, 3) := by decide +kernel
theorem dX0_tightenByLatest_10 : decode cX0_tightenByLatest 10 = .ok (.aload_n 0, 1) := by decide +kernel
theorem dX0_tightenByLatest_11 : decode cX0_tightenByLatest 11 = .ok (.iload_n 3, 1) := by decide +kernel
theorem dX0_tightenByLatest_12 : decode cX0_tightenByLatest 12 = .ok (.aload_n 1, 1) := by decide +kernel
theorem dX0_tightenByLatest_13 : decode cX0_tightenByLatest 13 = .ok (.invokevirtual 30, 3) := by decide +kernel
theorem dX0_tightenByLatest_16 : decode cX0_tightenByLatest 16 = .ok (.iconst 1, 1) := by decide +kernel
theorem dX0_tightenByLatest_17 : decode cX0_tightenByLatest 17 = .ok (.isub, 1) := by decide +kernel
theorem dX0_tightenByLatest_18 : decode cX0_tightenByLatest 18 = .ok (.aload_n 1, 1) := by decide +kernel
theorem dX0_tightenByLatest_19 : decode cX0_tightenByLatest 19 = .ok (.aload_n 2, 1) := by decide +kernel
theorem dX0_tightenByLatest_20 : decode cX0_tightenByLatest 20 = .ok (.invokevirtual 35, 3) := by decide +kernel
theorem dX0_tightenByLatest_23 : decode cX0_tightenByLatest 23 = .ok (.iinc 3 1, 3) := by decide +kernel
theorem dX0_tightenByLatest_26 : decode cX0_tightenByLatest 26 = .ok (.goto (-24), 3) := by decide +kernel
theorem dX0_tightenByLatest_29 : decode cX0_tightenByLatest 29 = .ok (.return_, 1) := by decide +kernel
theorem dX0_tighten_0 : decode cX0_tighten 0 = .ok (.aload_n 3, 1) := by decide +kernel
theorem dX0_tighten_1 : decode cX0_tighten 1 = .ok (.invokevirtual 39, 3) := by decide +kernel
theorem dX0_tighten_4 : decode cX0_tighten 4 = .ok (.aload 4, 2) := by decide +kernel
theorem dX0_tighten_6 : decode cX0_tighten 6 = .ok (.iload_n 1, 1) := by decide +kernel
theorem dX0_tighten_7 : decode cX0_tighten 7 = .ok (.aload_n 3, 1) := by decide +kernel
theorem dX0_tighten_8 : decode cX0_tighten 8 = .ok (.iload_n 2, 1) := by decide +kernel
theorem dX0_tighten_9 : decode cX0_tighten 9 = .ok (.invokevirtual 42, 3) := by decide +kernel
theorem dX0_tighten_12 : decode cX0_tighten 12 = .ok (.invokevirtual 46, 3) := by decide +kernel
theorem dX0_tighten_15 : decode cX0_tighten 15 = .ok (.iadd, 1) := by decide +kernel
theorem dX0_tighten_16 : decode cX0_tighten 16 = .ok (.istore 5, 2) := by decide +kernel
theorem dX0_tighten_18 : decode cX0_tighten 18 = .ok (.aload_n 0, 1) := by decide +kernel
theorem dX0_tighten_19 : decode cX0_tighten 19 = .ok (.getfield 9, 3) := by decide +kernel
theorem dX0_tighten_22 : decode cX0_tighten 22 = .ok (.iload_n 1, 1) := by decide +kernel
theorem dX0_tighten_23 : decode cX0_tighten 23 = .ok (.aload_n 0, 1) := by decide +kernel
theorem dX0_tighten_24 : decode cX0_tighten 24 = .ok (.getfield 9, 3) := by decide +kernel
theorem dX0_tighten_27 : decode cX0_tighten 27 = .ok (.iload_n 1, 1) := by decide +kernel
theorem dX0_tighten_28 : decode cX0_tighten 28 = .ok (.iaload, 1) := by decide +kernel
theorem dX0_tighten_29 : decode cX0_tighten 29 = .ok (.aload_n 3, 1) := by decide +kernel
theorem dX0_tighten_30 : decode cX0_tighten 30 = .ok (.iload_n 2, 1) := by decide +kernel
theorem dX0_tighten_31 : decode cX0_tighten 31 = .ok (.invokevirtual 50, 3) := by decide +kernel
theorem dX0_tighten_34 : decode cX0_tighten 34 = .ok (.iload 5, 2) := by decide +kernel
theorem dX0_tighten_36 : decode cX0_tighten 36 = .ok (.isub, 1) := by decide +kernel
theorem dX0_tighten_37 : decode cX0_tighten 37 = .ok (.invokestatic 53, 3) := by decide +kernel
theorem dX0_tighten_40 : decode cX0_tighten 40 = .ok (.iastore, 1) := by decide +kernel
theorem dX0_tighten_41 : decode cX0_tighten 41 = .ok (.aload_n 0, 1) := by decide +kernel
theorem dX0_tighten_42 : decode cX0_tighten 42 = .ok (.getfield 15, 3) := by decide +kernel
theorem dX0_tighten_45 : decode cX0_tighten 45 = .ok (.iload_n 1, 1) := by decide +kernel
theorem dX0_tighten_46 : decode cX0_tighten 46 = .ok (.aload_n 0, 1) := by decide +kernel
theorem dX0_tighten_47 : decode cX0_tighten 47 = .ok (.getfield 15, 3) := by decide +kernel
theorem dX0_tighten_50 : decode cX0_tighten 50 = .ok (.iload_n 1, 1) := by decide +kernel
theorem dX0_tighten_51 : decode cX0_tighten 51 = .ok (.iaload, 1) := by decide +kernel
theorem dX0_tighten_52 : decode cX0_tighten 52 = .ok (.aload_n 3, 1) := by decide +kernel
theorem dX0_tighten_53 : decode cX0_tighten 53 = .ok (.iload_n 2, 1) := by decide +kernel
theorem dX0_tighten_54 : decode cX0_tighten 54 = .ok (.invokevirtual 50, 3) := by decide +kernel
theorem dX0_tighten_57 : decode cX0_tighten 57 = .ok (.iload 5, 2) := by decide +kernel
theorem dX0_tighten_59 : decode cX0_tighten 59 = .ok (.iadd, 1) := by decide +kernel
theorem dX0_tighten_60 : decode cX0_tighten 60 = .ok (.invokestatic 58, 3) := by decide +kernel
theorem dX0_tighten_63 : decode cX0_tighten 63 = .ok (.iastore, 1) := by decide +kernel
theorem dX0_tighten_64 : decode cX0_tighten 64 = .ok (.return_, 1) := by decide +kernel
theorem dX0_howManyLeft_0 : decode cX0_howManyLeft 0 = .ok (.aload_n 0, 1) := by decide +kernel
theorem dX0_howManyLeft_1 : decode cX0_howManyLeft 1 = .ok (.aload_n 1, 1) := by decide +kernel
theorem dX0_howManyLeft_2 : decode cX0_howManyLeft 2 = .ok (.invokevirtual 61, 3) := by decide +kernel
theorem dX0_howManyLeft_5 : decode cX0_howManyLeft 5 = .ok (.istore_n 2, 1) := by decide +kernel
theorem dX0_howManyLeft_6 : decode cX0_howManyLeft 6 = .ok (.iconst 0, 1) := by decide +kernel
theorem dX0_howManyLeft_7 : decode cX0_howManyLeft 7 = .ok (.istore_n 3, 1) := by decide +kernel
theorem dX0_howManyLeft_8 : decode cX0_howManyLeft 8 = .ok (.iconst 0, 1) := by decide +kernel
theorem dX0_howManyLeft_9 : decode cX0_howManyLeft 9 = .ok (.istore 4, 2) := by decide +kernel
theorem dX0_howManyLeft_11 : decode cX0_howManyLeft 11 = .ok (.iload 4, 2) := by decide +kernel
theorem dX0_howManyLeft_13 : decode cX0_howManyLeft 13 = .ok (.aload_n 1, 1) := by decide +kernel
theorem dX0_howManyLeft_14 : decode cX0_howManyLeft 14 = .ok (.invokevirtual 65, 3) := by decide +kernel
theorem dX0_howManyLeft_17 : decode cX0_howManyLeft 17 = .ok (.if_icmp .ge 27, 3) := by decide +kernel
theorem dX0_howManyLeft_20 : decode cX0_howManyLeft 20 = .ok (.aload_n 0, 1) := by decide +kernel
theorem dX0_howManyLeft_21 : decode cX0_howManyLeft 21 = .ok (.getfield 15, 3) := by decide +kernel
theorem dX0_howManyLeft_24 : decode cX0_howManyLeft 24 = .ok (.aload_n 1, 1) := by decide +kernel
theorem dX0_howManyLeft_25 : decode cX0_howManyLeft 25 = .ok (.iload 4, 2) := by decide +kernel
theorem dX0_howManyLeft_27 : decode cX0_howManyLeft 27 = .ok (.invokevirtual 68, 3) := by decide +kernel
theorem dX0_howManyLeft_30 : decode cX0_howManyLeft 30 = .ok (.iaload, 1) := by decide +kernel
theorem dX0_howManyLeft_31 : decode cX0_howManyLeft 31 = .ok (.iload_n 2, 1) := by decide +kernel
theorem dX0_howManyLeft_32 : decode cX0_howManyLeft 32 = .ok (.if_icmp .lt 6, 3) := by decide +kernel
theorem dX0_howManyLeft_35 : decode cX0_howManyLeft 35 = .ok (.iinc 3 1, 3) := by decide +kernel
theorem dX0_howManyLeft_38 : decode cX0_howManyLeft 38 = .ok (.iinc 4 1, 3) := by decide +kernel
theorem dX0_howManyLeft_41 : decode cX0_howManyLeft 41 = .ok (.goto (-30), 3) := by decide +kernel
theorem dX0_howManyLeft_44 : decode cX0_howManyLeft 44 = .ok (.iload_n 3, 1) := by decide +kernel
theorem dX0_howManyLeft_45 : decode cX0_howManyLeft 45 = .ok (.ireturn, 1) := by decide +kernel
theorem dX0_nextOf_0 : decode cX0_nextOf 0 = .ok (.aload_n 0, 1) := by decide +kernel
theorem dX0_nextOf_1 : decode cX0_nextOf 1 = .ok (.aload_n 1, 1) := by decide +kernel
theorem dX0_nextOf_2 : decode cX0_nextOf 2 = .ok (.invokevirtual 61, 3) := by decide +kernel
theorem dX0_nextOf_5 : decode cX0_nextOf 5 = .ok (.istore_n 2, 1) := by decide +kernel
theorem dX0_nextOf_6 : decode cX0_nextOf 6 = .ok (.bipush (-4), 2) := by decide +kernel
theorem dX0_nextOf_8 : decode cX0_nextOf 8 = .ok (.istore_n 3, 1) := by decide +kernel
theorem dX0_nextOf_9 : decode cX0_nextOf 9 = .ok (.iconst 0, 1) := by decide +kernel
theorem dX0_nextOf_10 : decode cX0_nextOf 10 = .ok (.istore 4, 2) := by decide +kernel
theorem dX0_nextOf_12 : decode cX0_nextOf 12 = .ok (.iload 4, 2) := by decide +kernel
theorem dX0_nextOf_14 : decode cX0_nextOf 14 = .ok (.aload_n 1, 1) := by decide +kernel
theorem dX0_nextOf_15 : decode cX0_nextOf 15 = .ok (.invokevirtual 65, 3) := by decide +kernel
theorem dX0_nextOf_18 : decode cX0_nextOf 18 = .ok (.if_icmp .ge 53, 3) := by decide +kernel
theorem dX0_nextOf_21 : decode cX0_nextOf 21 = .ok (.aload_n 1, 1) := by decide +kernel
theorem dX0_nextOf_22 : decode cX0_nextOf 22 = .ok (.iload 4, 2) := by decide +kernel
theorem dX0_nextOf_24 : decode cX0_nextOf 24 = .ok (.invokevirtual 68, 3) := by decide +kernel
theorem dX0_nextOf_27 : decode cX0_nextOf 27 = .ok (.istore 5, 2) := by decide +kernel
theorem dX0_nextOf_29 : decode cX0_nextOf 29 = .ok (.aload_n 0, 1) := by decide +kernel
theorem dX0_nextOf_30 : decode cX0_nextOf 30 = .ok (.getfield 15, 3) := by decide +kernel
theorem dX0_nextOf_33 : decode cX0_nextOf 33 = .ok (.iload 5, 2) := by decide +kernel
theorem dX0_nextOf_35 : decode cX0_nextOf 35 = .ok (.iaload, 1) := by decide +kernel
theorem dX0_nextOf_36 : decode cX0_nextOf 36 = .ok (.iload_n 2, 1) := by decide +kernel
theorem dX0_nextOf_37 : decode cX0_nextOf 37 = .ok (.if_icmp .lt 28, 3) := by decide +kernel
theorem dX0_nextOf_40 : decode cX0_nextOf 40 = .ok (.iload_n 3, 1) := by decide +kernel
theorem dX0_nextOf_41 : decode cX0_nextOf 41 = .ok (.bipush (-4), 2) := by decide +kernel
theorem dX0_nextOf_43 : decode cX0_nextOf 43 = .ok (.if_icmp .eq 19, 3) := by decide +kernel
theorem dX0_nextOf_46 : decode cX0_nextOf 46 = .ok (.aload_n 0, 1) := by decide +kernel
theorem dX0_nextOf_47 : decode cX0_nextOf 47 = .ok (.getfield 15, 3) := by decide +kernel
theorem dX0_nextOf_50 : decode cX0_nextOf 50 = .ok (.iload 5, 2) := by decide +kernel
theorem dX0_nextOf_52 : decode cX0_nextOf 52 = .ok (.iaload, 1) := by decide +kernel
theorem dX0_nextOf_53 : decode cX0_nextOf 53 = .ok (.aload_n 0, 1) := by decide +kernel
theorem dX0_nextOf_54 : decode cX0_nextOf 54 = .ok (.getfield 15, 3) := by decide +kernel
theorem dX0_nextOf_57 : decode cX0_nextOf 57 = .ok (.iload_n 3, 1) := by decide +kernel
theorem dX0_nextOf_58 : decode cX0_nextOf 58 = .ok (.iaload, 1) := by decide +kernel
theorem dX0_nextOf_59 : decode cX0_nextOf 59 = .ok (.if_icmp .le 6, 3) := by decide +kernel
theorem dX0_nextOf_62 : decode cX0_nextOf 62 = .ok (.iload 5, 2) := by decide +kernel
theorem dX0_nextOf_64 : decode cX0_nextOf 64 = .ok (.istore_n 3, 1) := by decide +kernel
theorem dX0_nextOf_65 : decode cX0_nextOf 65 = .ok (.iinc 4 1, 3) := by decide +kernel
theorem dX0_nextOf_68 : decode cX0_nextOf 68 = .ok (.goto (-56), 3) := by decide +kernel
theorem dX0_nextOf_71 : decode cX0_nextOf 71 = .ok (.iload_n 3, 1) := by decide +kernel
theorem dX0_nextOf_72 : decode cX0_nextOf 72 = .ok (.ireturn, 1) := by decide +kernel
theorem dX0_greatestFloor_0 : decode cX0_greatestFloor 0 = .ok (.ldc 28, 2) := by decide +kernel
theorem dX0_greatestFloor_2 : decode cX0_greatestFloor 2 = .ok (.istore_n 2, 1) := by decide +kernel
theorem dX0_greatestFloor_3 : decode cX0_greatestFloor 3 = .ok (.iconst 0, 1) := by decide +kernel
theorem dX0_greatestFloor_4 : decode cX0_greatestFloor 4 = .ok (.istore_n 3, 1) := by decide +kernel
theorem dX0_greatestFloor_5 : decode cX0_greatestFloor 5 = .ok (.iload_n 3, 1) := by decide +kernel
theorem dX0_greatestFloor_6 : decode cX0_greatestFloor 6 = .ok (.aload_n 1, 1) := by decide +kernel
theorem dX0_greatestFloor_7 : decode cX0_greatestFloor 7 = .ok (.invokevirtual 65, 3) := by decide +kernel
theorem dX0_greatestFloor_10 : decode cX0_greatestFloor 10 = .ok (.if_icmp .ge 24, 3) := by decide +kernel
theorem dX0_greatestFloor_13 : decode cX0_greatestFloor 13 = .ok (.iload_n 2, 1) := by decide +kernel
theorem dX0_greatestFloor_14 : decode cX0_greatestFloor 14 = .ok (.aload_n 0, 1) := by decide +kernel
theorem dX0_greatestFloor_15 : decode cX0_greatestFloor 15 = .ok (.getfield 9, 3) := by decide +kernel
theorem dX0_greatestFloor_18 : decode cX0_greatestFloor 18 = .ok (.aload_n 1, 1) := by decide +kernel
theorem dX0_greatestFloor_19 : decode cX0_greatestFloor 19 = .ok (.iload_n 3, 1) := by decide +kernel
theorem dX0_greatestFloor_20 : decode cX0_greatestFloor 20 = .ok (.invokevirtual 68, 3) := by decide +kernel
theorem dX0_greatestFloor_23 : decode cX0_greatestFloor 23 = .ok (.iaload, 1) := by decide +kernel
theorem dX0_greatestFloor_24 : decode cX0_greatestFloor 24 = .ok (.invokestatic 53, 3) := by decide +kernel
theorem dX0_greatestFloor_27 : decode cX0_greatestFloor 27 = .ok (.istore_n 2, 1) := by decide +kernel
theorem dX0_greatestFloor_28 : decode cX0_greatestFloor 28 = .ok (.iinc 3 1, 3) := by decide +kernel
theorem dX0_greatestFloor_31 : decode cX0_greatestFloor 31 = .ok (.goto (-26), 3) := by decide +kernel
theorem dX0_greatestFloor_34 : decode cX0_greatestFloor 34 = .ok (.iload_n 2, 1) := by decide +kernel
theorem dX0_greatestFloor_35 : decode cX0_greatestFloor 35 = .ok (.ireturn, 1) := by decide +kernel
theorem dX1_init_0 : decode cX1_init 0 = .ok (.aload_n 0, 1) := by decide +kernel
theorem dX1_init_1 : decode cX1_init 1 = .ok (.invokespecial 3, 3) := by decide +kernel
theorem dX1_init_4 : decode cX1_init 4 = .ok (.aload_n 0, 1) := by decide +kernel
theorem dX1_init_5 : decode cX1_init 5 = .ok (.iconst 0, 1) := by decide +kernel
theorem dX1_init_6 : decode cX1_init 6 = .ok (.putfield 9, 3) := by decide +kernel
theorem dX1_init_9 : decode cX1_init 9 = .ok (.aload_n 0, 1) := by decide +kernel
theorem dX1_init_10 : decode cX1_init 10 = .ok (.bipush 24, 2) := by decide +kernel
theorem dX1_init_12 : decode cX1_init 12 = .ok (.newarray .int, 2) := by decide +kernel
theorem dX1_init_14 : decode cX1_init 14 = .ok (.putfield 15, 3) := by decide +kernel
theorem dX1_init_17 : decode cX1_init 17 = .ok (.aload_n 0, 1) := by decide +kernel
theorem dX1_init_18 : decode cX1_init 18 = .ok (.sipush 576, 3) := by decide +kernel
theorem dX1_init_21 : decode cX1_init 21 = .ok (.newarray .int, 2) := by decide +kernel
theorem dX1_init_23 : decode cX1_init 23 = .ok (.putfield 19, 3) := by decide +kernel
theorem dX1_init_26 : decode cX1_init 26 = .ok (.aload_n 0, 1) := by decide +kernel
theorem dX1_init_27 : decode cX1_init 27 = .ok (.bipush 6, 2) := by decide +kernel
theorem dX1_init_29 : decode cX1_init 29 = .ok (.newarray .int, 2) := by decide +kernel
theorem dX1_init_31 : decode cX1_init 31 = .ok (.putfield 22, 3) := by decide +kernel
theorem dX1_init_34 : decode cX1_init 34 = .ok (.return_, 1) := by decide +kernel
theorem dX1_changeBase_0 : decode cX1_changeBase 0 = .ok (.aload_n 0, 1) := by decide +kernel
theorem dX1_changeBase_1 : decode cX1_changeBase 1 = .ok (.getfield 9, 3) := by decide +kernel
theorem dX1_changeBase_4 : decode cX1_changeBase 4 = .ok (.istore_n 2, 1) := by decide +kernel
theorem dX1_changeBase_5 : decode cX1_changeBase 5 = .ok (.aload_n 0, 1) := by decide +kernel
theorem dX1_changeBase_6 : decode cX1_changeBase 6 = .ok (.iload_n 1, 1) := by decide +kernel
theorem dX1_changeBase_7 : decode cX1_changeBase 7 = .ok (.putfield 9, 3) := by decide +kernel
theorem dX1_changeBase_10 : decode cX1_changeBase 10 = .ok (.iload_n 2, 1) := by decide +kernel
theorem dX1_changeBase_11 : decode cX1_changeBase 11 = .ok (.ireturn, 1) := by decide +kernel
theorem dX1_changeSingle_0 : decode cX1_changeSingle 0 = .ok (.iload_n 1, 1) := by decide +kernel
theorem dX1_changeSingle_1 : decode cX1_changeSingle 1 = .ok (.iload_n 2, 1) := by decide +kernel
theorem dX1_changeSingle_2 : decode cX1_changeSingle 2 = .ok (.invokestatic 25, 3) := by decide +kernel
theorem dX1_changeSingle_5 : decode cX1_changeSingle 5 = .ok (.istore 4, 2) := by decide +kernel
theorem dX1_changeSingle_7 : decode cX1_changeSingle 7 = .ok (.aload_n 0, 1) := by decide +kernel
theorem dX1_changeSingle_8 : decode cX1_changeSingle 8 = .ok (.getfield 15, 3) := by decide +kernel
theorem dX1_changeSingle_11 : decode cX1_changeSingle 11 = .ok (.iload 4, 2) := by decide +kernel
theorem dX1_changeSingle_13 : decode cX1_changeSingle 13 = .ok (.iaload, 1) := by decide +kernel
theorem dX1_changeSingle_14 : decode cX1_changeSingle 14 = .ok (.istore 5, 2) := by decide +kernel
theorem dX1_changeSingle_16 : decode cX1_changeSingle 16 = .ok (.aload_n 0, 1) := by decide +kernel
theorem dX1_changeSingle_17 : decode cX1_changeSingle 17 = .ok (.getfield 15, 3) := by decide +kernel
theorem dX1_changeSingle_20 : decode cX1_changeSingle 20 = .ok (.iload 4, 2) := by decide +kernel
theorem dX1_changeSingle_22 : decode cX1_changeSingle 22 = .ok (.iload_n 3, 1) := by decide +kernel
theorem dX1_changeSingle_23 : decode cX1_changeSingle 23 = .ok (.iastore, 1) := by decide +kernel
theorem dX1_changeSingle_24 : decode cX1_changeSingle 24 = .ok (.iload 5, 2) := by decide +kernel
theorem dX1_changeSingle_26 : decode cX1_changeSingle 26 = .ok (.ireturn, 1) := by decide +kernel
theorem dX1_changeJoint_0 : decode cX1_changeJoint 0 = .ok (.iload_n 1, 1) := by decide +kernel
theorem dX1_changeJoint_1 : decode cX1_changeJoint 1 = .ok (.iload_n 2, 1) := by decide +kernel
theorem dX1_changeJoint_2 : decode cX1_changeJoint 2 = .ok (.invokestatic 25, 3) := by decide +kernel
theorem dX1_changeJoint_5 : decode cX1_changeJoint 5 = .ok (.bipush 24, 2) := by decide +kernel
theorem dX1_changeJoint_7 : decode cX1_changeJoint 7 = .ok (.imul, 1) := by decide +kernel
theorem dX1_changeJoint_8 : decode cX1_changeJoint 8 = .ok (.iload_n 3, 1) := by decide +kernel
theorem dX1_changeJoint_9 : decode cX1_changeJoint 9 = .ok (.iload 4, 2) := by decide +kernel
theorem dX1_changeJoint_11 : decode cX1_changeJoint 11 = .ok (.invokestatic 25, 3) := by decide +kernel
theorem dX1_changeJoint_14 : decode cX1_changeJoint 14 = .ok (.iadd, 1) := by decide +kernel
theorem dX1_changeJoint_15 : decode cX1_changeJoint 15 = .ok (.istore 6, 2) := by decide +kernel
theorem dX1_changeJoint_17 : decode cX1_changeJoint 17 = .ok (.aload_n 0, 1) := by decide +kernel
theorem dX1_changeJoint_18 : decode cX1_changeJoint 18 = .ok (.getfield 19, 3) := by decide +kernel
theorem dX1_changeJoint_21 : decode cX1_changeJoint 21 = .ok (.iload 6, 2) := by decide +kernel
theorem dX1_changeJoint_23 : decode cX1_changeJoint 23 = .ok (.iaload, 1) := by decide +kernel
theorem dX1_changeJoint_24 : decode cX1_changeJoint 24 = .ok (.istore 7, 2) := by decide +kernel
theorem dX1_changeJoint_26 : decode cX1_changeJoint 26 = .ok (.aload_n 0, 1) := by decide +kernel
theorem dX1_changeJoint_27 : decode cX1_changeJoint 27 = .ok (.getfield 19, 3) := by decide +kernel
theorem dX1_changeJoint_30 : decode cX1_changeJoint 30 = .ok (.iload 6, 2) := by decide +kernel
theorem dX1_changeJoint_32 : decode cX1_changeJoint 32 = .ok (.iload 5, 2) := by decide +kernel
theorem dX1_changeJoint_34 : decode cX1_changeJoint 34 = .ok (.iastore, 1) := by decide +kernel
theorem dX1_changeJoint_35 : decode cX1_changeJoint 35 = .ok (.iload 7, 2) := by decide +kernel
theorem dX1_changeJoint_37 : decode cX1_changeJoint 37 = .ok (.ireturn, 1) := by decide +kernel
theorem dX1_sumFor_0 : decode cX1_sumFor 0 = .ok (.aload_n 0, 1) := by decide +kernel
theorem dX1_sumFor_1 : decode cX1_sumFor 1 = .ok (.getfield 9, 3) := by decide +kernel
theorem dX1_sumFor_4 : decode cX1_sumFor 4 = .ok (.istore_n 3, 1) := by decide +kernel
theorem dX1_sumFor_5 : decode cX1_sumFor 5 = .ok (.iconst 0, 1) := by decide +kernel
theorem dX1_sumFor_6 : decode cX1_sumFor 6 = .ok (.istore 4, 2) := by decide +kernel
theorem dX1_sumFor_8 : decode cX1_sumFor 8 = .ok (.iload 4, 2) := by decide +kernel
theorem dX1_sumFor_10 : decode cX1_sumFor 10 = .ok (.aload_n 2, 1) := by decide +kernel
theorem dX1_sumFor_11 : decode cX1_sumFor 11 = .ok (.invokevirtual 31, 3) := by decide +kernel
theorem dX1_sumFor_14 : decode cX1_sumFor 14 = .ok (.if_icmp .ge 85, 3) := by decide +kernel
theorem dX1_sumFor_17 : decode cX1_sumFor 17 = .ok (.aload_n 0, 1) := by decide +kernel
theorem dX1_sumFor_18 : decode cX1_sumFor 18 = .ok (.getfield 22, 3) := by decide +kernel
theorem dX1_sumFor_21 : decode cX1_sumFor 21 = .ok (.iload 4, 2) := by decide +kernel
theorem dX1_sumFor_23 : decode cX1_sumFor 23 = .ok (.iload 4, 2) := by decide +kernel
theorem dX1_sumFor_25 : decode cX1_sumFor 25 = .ok (.aload_n 2, 1) := by decide +kernel
theorem dX1_sumFor_26 : decode cX1_sumFor 26 = .ok (.iload_n 1, 1) := by decide +kernel
theorem dX1_sumFor_27 : decode cX1_sumFor 27 = .ok (.iload 4, 2) := by decide +kernel
theorem dX1_sumFor_29 : decode cX1_sumFor 29 = .ok (.invokevirtual 35, 3) := by decide +kernel
theorem dX1_sumFor_32 : decode cX1_sumFor 32 = .ok (.invokestatic 25, 3) := by decide +kernel
theorem dX1_sumFor_35 : decode cX1_sumFor 35 = .ok (.iastore, 1) := by decide +kernel
theorem dX1_sumFor_36 : decode cX1_sumFor 36 = .ok (.iload_n 3, 1) := by decide +kernel
theorem dX1_sumFor_37 : decode cX1_sumFor 37 = .ok (.aload_n 0, 1) := by decide +kernel
theorem dX1_sumFor_38 : decode cX1_sumFor 38 = .ok (.getfield 15, 3) := by decide +kernel
theorem dX1_sumFor_41 : decode cX1_sumFor 41 = .ok (.aload_n 0, 1) := by decide +kernel
theorem dX1_sumFor_42 : decode cX1_sumFor 42 = .ok (.getfield 22, 3) := by decide +kernel
theorem dX1_sumFor_45 : decode cX1_sumFor 45 = .ok (.iload 4, 2) := by decide +kernel
theorem dX1_sumFor_47 : decode cX1_sumFor 47 = .ok (.iaload, 1) := by decide +kernel
theorem dX1_sumFor_48 : decode cX1_sumFor 48 = .ok (.iaload, 1) := by decide +kernel
theorem dX1_sumFor_49 : decode cX1_sumFor 49 = .ok (.iadd, 1) := by decide +kernel
theorem dX1_sumFor_50 : decode cX1_sumFor 50 = .ok (.istore_n 3, 1) := by decide +kernel
theorem dX1_sumFor_51 : decode cX1_sumFor 51 = .ok (.iconst 0, 1) := by decide +kernel
theorem dX1_sumFor_52 : decode cX1_sumFor 52 = .ok (.istore 5, 2) := by decide +kernel
theorem dX1_sumFor_54 : decode cX1_sumFor 54 = .ok (.iload 5, 2) := by decide +kernel
theorem dX1_sumFor_56 : decode cX1_sumFor 56 = .ok (.iload 4, 2) := by decide +kernel
theorem dX1_sumFor_58 : decode cX1_sumFor 58 = .ok (.if_icmp .ge 35, 3) := by decide +kernel
theorem dX1_sumFor_61 : decode cX1_sumFor 61 = .ok (.iload_n 3, 1) := by decide +kernel
theorem dX1_sumFor_62 : decode cX1_sumFor 62 = .ok (.aload_n 0, 1) := by decide +kernel
theorem dX1_sumFor_63 : decode cX1_sumFor 63 = .ok (.getfield 19, 3) := by decide +kernel
theorem dX1_sumFor_66 : decode cX1_sumFor 66 = .ok (.aload_n 0, 1) := by decide +kernel
theorem dX1_sumFor_67 : decode cX1_sumFor 67 = .ok (.getfield 22, 3) := by decide +kernel
theorem dX1_sumFor_70 : decode cX1_sumFor 70 = .ok (.iload 5, 2) := by decide +kernel
theorem dX1_sumFor_72 : decode cX1_sumFor 72 = .ok (.iaload, 1) := by decide +kernel
theorem dX1_sumFor_73 : decode cX1_sumFor 73 = .ok (.bipush 24, 2) := by decide +kernel
theorem dX1_sumFor_75 : decode cX1_sumFor 75 = .ok (.imul, 1) := by decide +kernel
theorem dX1_sumFor_76 : decode cX1_sumFor 76 = .ok (.aload_n 0, 1) := by decide +kernel
theorem dX1_sumFor_77 : decode cX1_sumFor 77 = .ok (.getfield 22, 3) := by decide +kernel
theorem dX1_sumFor_80 : decode cX1_sumFor 80 = .ok (.iload 4, 2) := by decide +kernel
theorem dX1_sumFor_82 : decode cX1_sumFor 82 = .ok (.iaload, 1) := by decide +kernel
theorem dX1_sumFor_83 : decode cX1_sumFor 83 = .ok (.iadd, 1) := by decide +kernel
theorem dX1_sumFor_84 : decode cX1_sumFor 84 = .ok (.iaload, 1) := by decide +kernel
theorem dX1_sumFor_85 : decode cX1_sumFor 85 = .ok (.iadd, 1) := by decide +kernel
theorem dX1_sumFor_86 : decode cX1_sumFor 86 = .ok (.istore_n 3, 1) := by decide +kernel
theorem dX1_sumFor_87 : decode cX1_sumFor 87 = .ok (.iinc 5 1, 3) := by decide +kernel
theorem dX1_sumFor_90 : decode cX1_sumFor 90 = .ok (.goto (-36), 3) := by decide +kernel
theorem dX1_sumFor_93 : decode cX1_sumFor 93 = .ok (.iinc 4 1, 3) := by decide +kernel
theorem dX1_sumFor_96 : decode cX1_sumFor 96 = .ok (.goto (-88), 3) := by decide +kernel
theorem dX1_sumFor_99 : decode cX1_sumFor 99 = .ok (.iload_n 3, 1) := by decide +kernel
theorem dX1_sumFor_100 : decode cX1_sumFor 100 = .ok (.ireturn, 1) := by decide +kernel
theorem dX2_init_0 : decode cX2_init 0 = .ok (.aload_n 0, 1) := by decide +kernel
theorem dX2_init_1 : decode cX2_init 1 = .ok (.invokespecial 3, 3) := by decide +kernel
theorem dX2_init_4 : decode cX2_init 4 = .ok (.aload_n 0, 1) := by decide +kernel
theorem dX2_init_5 : decode cX2_init 5 = .ok (.iconst 0, 1) := by decide +kernel
theorem dX2_init_6 : decode cX2_init 6 = .ok (.putfield 9, 3) := by decide +kernel
theorem dX2_init_9 : decode cX2_init 9 = .ok (.aload_n 0, 1) := by decide +kernel
theorem dX2_init_10 : decode cX2_init 10 = .ok (.iconst 1, 1) := by decide +kernel
theorem dX2_init_11 : decode cX2_init 11 = .ok (.putfield 15, 3) := by decide +kernel
theorem dX2_init_14 : decode cX2_init 14 = .ok (.aload_n 0, 1) := by decide +kernel
theorem dX2_init_15 : decode cX2_init 15 = .ok (.bipush 6, 2) := by decide +kernel
theorem dX2_init_17 : decode cX2_init 17 = .ok (.newarray .int, 2) := by decide +kernel
theorem dX2_init_19 : decode cX2_init 19 = .ok (.putfield 18, 3) := by decide +kernel
theorem dX2_init_22 : decode cX2_init 22 = .ok (.aload_n 0, 1) := by decide +kernel
theorem dX2_init_23 : decode cX2_init 23 = .ok (.bipush 6, 2) := by decide +kernel
theorem dX2_init_25 : decode cX2_init 25 = .ok (.newarray .int, 2) := by decide +kernel
theorem dX2_init_27 : decode cX2_init 27 = .ok (.putfield 22, 3) := by decide +kernel
theorem dX2_init_30 : decode cX2_init 30 = .ok (.aload_n 0, 1) := by decide +kernel
theorem dX2_init_31 : decode cX2_init 31 = .ok (.bipush 24, 2) := by decide +kernel
theorem dX2_init_33 : decode cX2_init 33 = .ok (.newarray .int, 2) := by decide +kernel
theorem dX2_init_35 : decode cX2_init 35 = .ok (.putfield 25, 3) := by decide +kernel
theorem dX2_init_38 : decode cX2_init 38 = .ok (.aload_n 0, 1) := by decide +kernel
theorem dX2_init_39 : decode cX2_init 39 = .ok (.bipush 6, 2) := by decide +kernel
theorem dX2_init_41 : decode cX2_init 41 = .ok (.newarray .int, 2) := by decide +kernel
theorem dX2_init_43 : decode cX2_init 43 = .ok (.putfield 28, 3) := by decide +kernel
theorem dX2_init_46 : decode cX2_init 46 = .ok (.aload_n 0, 1) := by decide +kernel
theorem dX2_init_47 : decode cX2_init 47 = .ok (.getfield 18, 3) := by decide +kernel
theorem dX2_init_50 : decode cX2_init 50 = .ok (.iconst 1, 1) := by decide +kernel
theorem dX2_init_51 : decode cX2_init 51 = .ok (.invokestatic 31, 3) := by decide +kernel
theorem dX2_init_54 : decode cX2_init 54 = .ok (.aload_n 0, 1) := by decide +kernel
theorem dX2_init_55 : decode cX2_init 55 = .ok (.getfield 22, 3) := by decide +kernel
theorem dX2_init_58 : decode cX2_init 58 = .ok (.iconst 1, 1) := by decide +kernel
theorem dX2_init_59 : decode cX2_init 59 = .ok (.invokestatic 31, 3) := by decide +kernel
theorem dX2_init_62 : decode cX2_init 62 = .ok (.return_, 1) := by decide +kernel
theorem dX2_howMany_0 : decode cX2_howMany 0 = .ok (.aload_n 0, 1) := by decide +kernel
theorem dX2_howMany_1 : decode cX2_howMany 1 = .ok (.getfield 9, 3) := by decide +kernel
theorem dX2_howMany_4 : decode cX2_howMany 4 = .ok (.ireturn, 1) := by decide +kernel
theorem dX2_howManySettings_0 : decode cX2_howManySettings 0 = .ok (.aload_n 0, 1) := by decide +kernel
theorem dX2_howManySettings_1 : decode cX2_howManySettings 1 = .ok (.getfield 15, 3) := by decide +kernel
theorem dX2_howManySettings_4 : decode cX2_howManySettings 4 = .ok (.ireturn, 1) := by decide +kernel
theorem dX2_hasRoomFor_0 : decode cX2_hasRoomFor 0 = .ok (.aload_n 0, 1) := by decide +kernel
theorem dX2_hasRoomFor_1 : decode cX2_hasRoomFor 1 = .ok (.getfield 9, 3) := by decide +kernel
theorem dX2_hasRoomFor_4 : decode cX2_hasRoomFor 4 = .ok (.bipush 6, 2) := by decide +kernel
theorem dX2_hasRoomFor_6 : decode cX2_hasRoomFor 6 = .ok (.if_icmp .ge 19, 3) := by decide +kernel
theorem dX2_hasRoomFor_9 : decode cX2_hasRoomFor 9 = .ok (.aload_n 0, 1) := by decide +kernel
theorem dX2_hasRoomFor_10 : decode cX2_hasRoomFor 10 = .ok (.getfield 15, 3) := by decide +kernel
theorem dX2_hasRoomFor_13 : decode cX2_hasRoomFor 13 = .ok (.iload_n 1, 1) := by decide +kernel
theorem dX2_hasRoomFor_14 : decode cX2_hasRoomFor 14 = .ok (.imul, 1) := by decide +kernel
theorem dX2_hasRoomFor_15 : decode cX2_hasRoomFor 15 = .ok (.sipush 144, 3) := by decide +kernel
theorem dX2_hasRoomFor_18 : decode cX2_hasRoomFor 18 = .ok (.if_icmp .gt 7, 3) := by decide +kernel
theorem dX2_hasRoomFor_21 : decode cX2_hasRoomFor 21 = .ok (.iconst 1, 1) := by decide +kernel
theorem dX2_hasRoomFor_22 : decode cX2_hasRoomFor 22 = .ok (.goto 4, 3) := by decide +kernel
theorem dX2_hasRoomFor_25 : decode cX2_hasRoomFor 25 = .ok (.iconst 0, 1) := by decide +kernel
theorem dX2_hasRoomFor_26 : decode cX2_hasRoomFor 26 = .ok (.ireturn, 1) := by decide +kernel
theorem dX2_add_0 : decode cX2_add 0 = .ok (.aload_n 0, 1) := by decide +kernel
theorem dX2_add_1 : decode cX2_add 1 = .ok (.getfield 9, 3) := by decide +kernel
theorem dX2_add_4 : decode cX2_add 4 = .ok (.istore_n 2, 1) := by decide +kernel
theorem dX2_add_5 : decode cX2_add 5 = .ok (.aload_n 0, 1) := by decide +kernel
theorem dX2_add_6 : decode cX2_add 6 = .ok (.getfield 18, 3) := by decide +kernel
theorem dX2_add_9 : decode cX2_add 9 = .ok (.iload_n 2, 1) := by decide +kernel
theorem dX2_add_10 : decode cX2_add 10 = .ok (.iload_n 1, 1) := by decide +kernel
theorem dX2_add_11 : decode cX2_add 11 = .ok (.iastore, 1) := by decide +kernel
theorem dX2_add_12 : decode cX2_add 12 = .ok (.aload_n 0, 1) := by decide +kernel
theorem dX2_add_13 : decode cX2_add 13 = .ok (.getfield 22, 3) := by decide +kernel
theorem dX2_add_16 : decode cX2_add 16 = .ok (.iload_n 2, 1) := by decide +kernel
theorem dX2_add_17 : decode cX2_add 17 = .ok (.aload_n 0, 1) := by decide +kernel
theorem dX2_add_18 : decode cX2_add 18 = .ok (.getfield 15, 3) := by decide +kernel
theorem dX2_add_21 : decode cX2_add 21 = .ok (.iastore, 1) := by decide +kernel
theorem dX2_add_22 : decode cX2_add 22 = .ok (.iconst 0, 1) := by decide +kernel
theorem dX2_add_23 : decode cX2_add 23 = .ok (.istore_n 3, 1) := by decide +kernel
theorem dX2_add_24 : decode cX2_add 24 = .ok (.iload_n 3, 1) := by decide +kernel
theorem dX2_add_25 : decode cX2_add 25 = .ok (.iload_n 1, 1) := by decide +kernel
theorem dX2_add_26 : decode cX2_add 26 = .ok (.if_icmp .ge 20, 3) := by decide +kernel
theorem dX2_add_29 : decode cX2_add 29 = .ok (.aload_n 0, 1) := by decide +kernel
theorem dX2_add_30 : decode cX2_add 30 = .ok (.getfield 25, 3) := by decide +kernel
theorem dX2_add_33 : decode cX2_add 33 = .ok (.iload_n 2, 1) := by decide +kernel
theorem dX2_add_34 : decode cX2_add 34 = .ok (.iload_n 3, 1) := by decide +kernel
theorem dX2_add_35 : decode cX2_add 35 = .ok (.invokestatic 37, 3) := by decide +kernel
theorem dX2_add_38 : decode cX2_add 38 = .ok (.iload_n 3, 1) := by decide +kernel
theorem dX2_add_39 : decode cX2_add 39 = .ok (.iastore, 1) := by decide +kernel
theorem dX2_add_40 : decode cX2_add 40 = .ok (.iinc 3 1, 3) := by decide +kernel
theorem dX2_add_43 : decode cX2_add 43 = .ok (.goto (-19), 3) := by decide +kernel
theorem dX2_add_46 : decode cX2_add 46 = .ok (.aload_n 0, 1) := by decide +kernel
theorem dX2_add_47 : decode cX2_add 47 = .ok (.dup, 1) := by decide +kernel
theorem dX2_add_48 : decode cX2_add 48 = .ok (.getfield 15, 3) := by decide +kernel
theorem dX2_add_51 : decode cX2_add 51 = .ok (.iload_n 1, 1) := by decide +kernel
theorem dX2_add_52 : decode cX2_add 52 = .ok (.imul, 1) := by decide +kernel
theorem dX2_add_53 : decode cX2_add 53 = .ok (.putfield 15, 3) := by decide +kernel
theorem dX2_add_56 : decode cX2_add 56 = .ok (.aload_n 0, 1) := by decide +kernel
theorem dX2_add_57 : decode cX2_add 57 = .ok (.dup, 1) := by decide +kernel
theorem dX2_add_58 : decode cX2_add 58 = .ok (.getfield 9, 3) := by decide +kernel
theorem dX2_add_61 : decode cX2_add 61 = .ok (.iconst 1, 1) := by decide +kernel
theorem dX2_add_62 : decode cX2_add 62 = .ok (.iadd, 1) := by decide +kernel
theorem dX2_add_63 : decode cX2_add 63 = .ok (.putfield 9, 3) := by decide +kernel
theorem dX2_add_66 : decode cX2_add 66 = .ok (.iload_n 2, 1) := by decide +kernel
theorem dX2_add_67 : decode cX2_add 67 = .ok (.ireturn, 1) := by decide +kernel
theorem dX2_hasKnob_0 : decode cX2_hasKnob 0 = .ok (.iload_n 1, 1) := by decide +kernel
theorem dX2_hasKnob_1 : decode cX2_hasKnob 1 = .ok (.ifCond .lt 15, 3) := by decide +kernel
theorem dX2_hasKnob_4 : decode cX2_hasKnob 4 = .ok (.iload_n 1, 1) := by decide +kernel
theorem dX2_hasKnob_5 : decode cX2_hasKnob 5 = .ok (.aload_n 0, 1) := by decide +kernel
theorem dX2_hasKnob_6 : decode cX2_hasKnob 6 = .ok (.getfield 9, 3) := by decide +kernel
theorem dX2_hasKnob_9 : decode cX2_hasKnob 9 = .ok (.if_icmp .ge 7, 3) := by decide +kernel
theorem dX2_hasKnob_12 : decode cX2_hasKnob 12 = .ok (.iconst 1, 1) := by decide +kernel
theorem dX2_hasKnob_13 : decode cX2_hasKnob 13 = .ok (.goto 4, 3) := by decide +kernel
theorem dX2_hasKnob_16 : decode cX2_hasKnob 16 = .ok (.iconst 0, 1) := by decide +kernel
theorem dX2_hasKnob_17 : decode cX2_hasKnob 17 = .ok (.ireturn, 1) := by decide +kernel
theorem dX2_hasValue_0 : decode cX2_hasValue 0 = .ok (.aload_n 0, 1) := by decide +kernel
theorem dX2_hasValue_1 : decode cX2_hasValue 1 = .ok (.iload_n 1, 1) := by decide +kernel
theorem dX2_hasValue_2 : decode cX2_hasValue 2 = .ok (.invokevirtual 41, 3) := by decide +kernel
theorem dX2_hasValue_5 : decode cX2_hasValue 5 = .ok (.ifCond .eq 21, 3) := by decide +kernel
theorem dX2_hasValue_8 : decode cX2_hasValue 8 = .ok (.iload_n 2, 1) := by decide +kernel
theorem dX2_hasValue_9 : decode cX2_hasValue 9 = .ok (.ifCond .lt 17, 3) := by decide +kernel
theorem dX2_hasValue_12 : decode cX2_hasValue 12 = .ok (.iload_n 2, 1) := by decide +kernel
theorem dX2_hasValue_13 : decode cX2_hasValue 13 = .ok (.aload_n 0, 1) := by decide +kernel
theorem dX2_hasValue_14 : decode cX2_hasValue 14 = .ok (.getfield 18, 3) := by decide +kernel
theorem dX2_hasValue_17 : decode cX2_hasValue 17 = .ok (.iload_n 1, 1) := by decide +kernel
theorem dX2_hasValue_18 : decode cX2_hasValue 18 = .ok (.iaload, 1) := by decide +kernel
theorem dX2_hasValue_19 : decode cX2_hasValue 19 = .ok (.if_icmp .ge 7, 3) := by decide +kernel
theorem dX2_hasValue_22 : decode cX2_hasValue 22 = .ok (.iconst 1, 1) := by decide +kernel
theorem dX2_hasValue_23 : decode cX2_hasValue 23 = .ok (.goto 4, 3) := by decide +kernel
theorem dX2_hasValue_26 : decode cX2_hasValue 26 = .ok (.iconst 0, 1) := by decide +kernel
theorem dX2_hasValue_27 : decode cX2_hasValue 27 = .ok (.ireturn, 1) := by decide +kernel
theorem dX2_hasSetting_0 : decode cX2_hasSetting 0 = .ok (.iload_n 1, 1) := by decide +kernel
theorem dX2_hasSetting_1 : decode cX2_hasSetting 1 = .ok (.ifCond .lt 15, 3) := by decide +kernel
theorem dX2_hasSetting_4 : decode cX2_hasSetting 4 = .ok (.iload_n 1, 1) := by decide +kernel
theorem dX2_hasSetting_5 : decode cX2_hasSetting 5 = .ok (.aload_n 0, 1) := by decide +kernel
theorem dX2_hasSetting_6 : decode cX2_hasSetting 6 = .ok (.getfield 15, 3) := by decide +kernel
theorem dX2_hasSetting_9 : decode cX2_hasSetting 9 = .ok (.if_icmp .ge 7, 3) := by decide +kernel
theorem dX2_hasSetting_12 : decode cX2_hasSetting 12 = .ok (.iconst 1, 1) := by decide +kernel
theorem dX2_hasSetting_13 : decode cX2_hasSetting 13 = .ok (.goto 4, 3) := by decide +kernel
theorem dX2_hasSetting_16 : decode cX2_hasSetting 16 = .ok (.iconst 0, 1) := by decide +kernel
theorem dX2_hasSetting_17 : decode cX2_hasSetting 17 = .ok (.ireturn, 1) := by decide +kernel
theorem dX2_changePlace_0 : decode cX2_changePlace 0 = .ok (.aload_n 0, 1) := by decide +kernel
theorem dX2_changePlace_1 : decode cX2_changePlace 1 = .ok (.getfield 25, 3) := by decide +kernel
theorem dX2_changePlace_4 : decode cX2_changePlace 4 = .ok (.iload_n 1, 1) := by decide +kernel
theorem dX2_changePlace_5 : decode cX2_changePlace 5 = .ok (.iload_n 2, 1) := by decide +kernel
theorem dX2_changePlace_6 : decode cX2_changePlace 6 = .ok (.invokestatic 37, 3) := by decide +kernel
theorem dX2_changePlace_9 : decode cX2_changePlace 9 = .ok (.iaload, 1) := by decide +kernel
theorem dX2_changePlace_10 : decode cX2_changePlace 10 = .ok (.istore 4, 2) := by decide +kernel
theorem dX2_changePlace_12 : decode cX2_changePlace 12 = .ok (.aload_n 0, 1) := by decide +kernel
theorem dX2_changePlace_13 : decode cX2_changePlace 13 = .ok (.getfield 25, 3) := by decide +kernel
theorem dX2_changePlace_16 : decode cX2_changePlace 16 = .ok (.iload_n 1, 1) := by decide +kernel
theorem dX2_changePlace_17 : decode cX2_changePlace 17 = .ok (.iload_n 2, 1) := by decide +kernel
theorem dX2_changePlace_18 : decode cX2_changePlace 18 = .ok (.invokestatic 37, 3) := by decide +kernel
theorem dX2_changePlace_21 : decode cX2_changePlace 21 = .ok (.iload_n 3, 1) := by decide +kernel
theorem dX2_changePlace_22 : decode cX2_changePlace 22 = .ok (.iastore, 1) := by decide +kernel
theorem dX2_changePlace_23 : decode cX2_changePlace 23 = .ok (.iload 4, 2) := by decide +kernel
theorem dX2_changePlace_25 : decode cX2_changePlace 25 = .ok (.ireturn, 1) := by decide +kernel
theorem dX2_changeSteepness_0 : decode cX2_changeSteepness 0 = .ok (.aload_n 0, 1) := by decide +kernel
theorem dX2_changeSteepness_1 : decode cX2_changeSteepness 1 = .ok (.getfield 28, 3) := by decide +kernel
theorem dX2_changeSteepness_4 : decode cX2_changeSteepness 4 = .ok (.iload_n 1, 1) := by decide +kernel
theorem dX2_changeSteepness_5 : decode cX2_changeSteepness 5 = .ok (.iaload, 1) := by decide +kernel
theorem dX2_changeSteepness_6 : decode cX2_changeSteepness 6 = .ok (.istore_n 3, 1) := by decide +kernel
theorem dX2_changeSteepness_7 : decode cX2_changeSteepness 7 = .ok (.aload_n 0, 1) := by decide +kernel
theorem dX2_changeSteepness_8 : decode cX2_changeSteepness 8 = .ok (.getfield 28, 3) := by decide +kernel
theorem dX2_changeSteepness_11 : decode cX2_changeSteepness 11 = .ok (.iload_n 1, 1) := by decide +kernel
theorem dX2_changeSteepness_12 : decode cX2_changeSteepness 12 = .ok (.iload_n 2, 1) := by decide +kernel
theorem dX2_changeSteepness_13 : decode cX2_changeSteepness 13 = .ok (.iastore, 1) := by decide +kernel
theorem dX2_changeSteepness_14 : decode cX2_changeSteepness 14 = .ok (.iload_n 3, 1) := by decide +kernel
theorem dX2_changeSteepness_15 : decode cX2_changeSteepness 15 = .ok (.ireturn, 1) := by decide +kernel
theorem dX2_valueIn_0 : decode cX2_valueIn 0 = .ok (.iload_n 1, 1) := by decide +kernel
theorem dX2_valueIn_1 : decode cX2_valueIn 1 = .ok (.aload_n 0, 1) := by decide +kernel
theorem dX2_valueIn_2 : decode cX2_valueIn 2 = .ok (.getfield 22, 3) := by decide +kernel
theorem dX2_valueIn_5 : decode cX2_valueIn 5 = .ok (.iload_n 2, 1) := by decide +kernel
theorem dX2_valueIn_6 : decode cX2_valueIn 6 = .ok (.iaload, 1) := by decide +kernel
theorem dX2_valueIn_7 : decode cX2_valueIn 7 = .ok (.idiv, 1) := by decide +kernel
theorem dX2_valueIn_8 : decode cX2_valueIn 8 = .ok (.aload_n 0, 1) := by decide +kernel
theorem dX2_valueIn_9 : decode cX2_valueIn 9 = .ok (.getfield 18, 3) := by decide +kernel
theorem dX2_valueIn_12 : decode cX2_valueIn 12 = .ok (.iload_n 2, 1) := by decide +kernel
theorem dX2_valueIn_13 : decode cX2_valueIn 13 = .ok (.iaload, 1) := by decide +kernel
theorem dX2_valueIn_14 : decode cX2_valueIn 14 = .ok (.irem, 1) := by decide +kernel
theorem dX2_valueIn_15 : decode cX2_valueIn 15 = .ok (.ireturn, 1) := by decide +kernel
theorem dX2_moved_0 : decode cX2_moved 0 = .ok (.iload_n 1, 1) := by decide +kernel
theorem dX2_moved_1 : decode cX2_moved 1 = .ok (.iload_n 3, 1) := by decide +kernel
theorem dX2_moved_2 : decode cX2_moved 2 = .ok (.aload_n 0, 1) := by decide +kernel
theorem dX2_moved_3 : decode cX2_moved 3 = .ok (.iload_n 1, 1) := by decide +kernel
theorem dX2_moved_4 : decode cX2_moved 4 = .ok (.iload_n 2, 1) := by decide +kernel
theorem dX2_moved_5 : decode cX2_moved 5 = .ok (.invokevirtual 45, 3) := by decide +kernel
theorem dX2_moved_8 : decode cX2_moved 8 = .ok (.isub, 1) := by decide +kernel
theorem dX2_moved_9 : decode cX2_moved 9 = .ok (.aload_n 0, 1) := by decide +kernel
theorem dX2_moved_10 : decode cX2_moved 10 = .ok (.getfield 22, 3) := by decide +kernel
theorem dX2_moved_13 : decode cX2_moved 13 = .ok (.iload_n 2, 1) := by decide +kernel
theorem dX2_moved_14 : decode cX2_moved 14 = .ok (.iaload, 1) := by decide +kernel
theorem dX2_moved_15 : decode cX2_moved 15 = .ok (.imul, 1) := by decide +kernel
theorem dX2_moved_16 : decode cX2_moved 16 = .ok (.iadd, 1) := by decide +kernel
theorem dX2_moved_17 : decode cX2_moved 17 = .ok (.ireturn, 1) := by decide +kernel
theorem dX2_off_0 : decode cX2_off 0 = .ok (.iconst 0, 1) := by decide +kernel
theorem dX2_off_1 : decode cX2_off 1 = .ok (.istore_n 3, 1) := by decide +kernel
theorem dX2_off_2 : decode cX2_off 2 = .ok (.iconst 0, 1) := by decide +kernel
theorem dX2_off_3 : decode cX2_off 3 = .ok (.istore 4, 2) := by decide +kernel
theorem dX2_off_5 : decode cX2_off 5 = .ok (.iload 4, 2) := by decide +kernel
theorem dX2_off_7 : decode cX2_off 7 = .ok (.aload_n 0, 1) := by decide +kernel
theorem dX2_off_8 : decode cX2_off 8 = .ok (.getfield 9, 3) := by decide +kernel
theorem dX2_off_11 : decode cX2_off 11 = .ok (.if_icmp .ge 62, 3) := by decide +kernel
theorem dX2_off_14 : decode cX2_off 14 = .ok (.aload_n 0, 1) := by decide +kernel
theorem dX2_off_15 : decode cX2_off 15 = .ok (.getfield 25, 3) := by decide +kernel
theorem dX2_off_18 : decode cX2_off 18 = .ok (.iload 4, 2) := by decide +kernel
theorem dX2_off_20 : decode cX2_off 20 = .ok (.aload_n 0, 1) := by decide +kernel
theorem dX2_off_21 : decode cX2_off 21 = .ok (.iload_n 1, 1) := by decide +kernel
theorem dX2_off_22 : decode cX2_off 22 = .ok (.iload 4, 2) := by decide +kernel
theorem dX2_off_24 : decode cX2_off 24 = .ok (.invokevirtual 45, 3) := by decide +kernel
theorem dX2_off_27 : decode cX2_off 27 = .ok (.invokestatic 37, 3) := by decide +kernel
theorem dX2_off_30 : decode cX2_off 30 = .ok (.iaload, 1) := by decide +kernel
theorem dX2_off_31 : decode cX2_off 31 = .ok (.aload_n 0, 1) := by decide +kernel
theorem dX2_off_32 : decode cX2_off 32 = .ok (.getfield 25, 3) := by decide +kernel
theorem dX2_off_35 : decode cX2_off 35 = .ok (.iload 4, 2) := by decide +kernel
theorem dX2_off_37 : decode cX2_off 37 = .ok (.aload_n 0, 1) := by decide +kernel
theorem dX2_off_38 : decode cX2_off 38 = .ok (.iload_n 2, 1) := by decide +kernel
theorem dX2_off_39 : decode cX2_off 39 = .ok (.iload 4, 2) := by decide +kernel
theorem dX2_off_41 : decode cX2_off 41 = .ok (.invokevirtual 45, 3) := by decide +kernel
theorem dX2_off_44 : decode cX2_off 44 = .ok (.invokestatic 37, 3) := by decide +kernel
theorem dX2_off_47 : decode cX2_off 47 = .ok (.iaload, 1) := by decide +kernel
theorem dX2_off_48 : decode cX2_off 48 = .ok (.isub, 1) := by decide +kernel
theorem dX2_off_49 : decode cX2_off 49 = .ok (.istore 5, 2) := by decide +kernel
theorem dX2_off_51 : decode cX2_off 51 = .ok (.iload_n 3, 1) := by decide +kernel
theorem dX2_off_52 : decode cX2_off 52 = .ok (.iload 5, 2) := by decide +kernel
theorem dX2_off_54 : decode cX2_off 54 = .ok (.invokestatic 48, 3) := by decide +kernel
theorem dX2_off_57 : decode cX2_off 57 = .ok (.aload_n 0, 1) := by decide +kernel
theorem dX2_off_58 : decode cX2_off 58 = .ok (.getfield 28, 3) := by decide +kernel
theorem dX2_off_61 : decode cX2_off 61 = .ok (.iload 4, 2) := by decide +kernel
theorem dX2_off_63 : decode cX2_off 63 = .ok (.iaload, 1) := by decide +kernel
theorem dX2_off_64 : decode cX2_off 64 = .ok (.imul, 1) := by decide +kernel
theorem dX2_off_65 : decode cX2_off 65 = .ok (.iadd, 1) := by decide +kernel
theorem dX2_off_66 : decode cX2_off 66 = .ok (.istore_n 3, 1) := by decide +kernel
theorem dX2_off_67 : decode cX2_off 67 = .ok (.iinc 4 1, 3) := by decide +kernel
theorem dX2_off_70 : decode cX2_off 70 = .ok (.goto (-65), 3) := by decide +kernel
theorem dX2_off_73 : decode cX2_off 73 = .ok (.iload_n 3, 1) := by decide +kernel
theorem dX2_off_74 : decode cX2_off 74 = .ok (.ireturn, 1) := by decide +kernel
theorem dX2_slot_0 : decode cX2_slot 0 = .ok (.iload_n 0, 1) := by decide +kernel
theorem dX2_slot_1 : decode cX2_slot 1 = .ok (.iconst 4, 1) := by decide +kernel
theorem dX2_slot_2 : decode cX2_slot 2 = .ok (.imul, 1) := by decide +kernel
theorem dX2_slot_3 : decode cX2_slot 3 = .ok (.iload_n 1, 1) := by decide +kernel
theorem dX2_slot_4 : decode cX2_slot 4 = .ok (.iadd, 1) := by decide +kernel
theorem dX2_slot_5 : decode cX2_slot 5 = .ok (.ireturn, 1) := by decide +kernel
theorem dX3_init_0 : decode cX3_init 0 = .ok (.aload_n 0, 1) := by decide +kernel
theorem dX3_init_1 : decode cX3_init 1 = .ok (.invokespecial 3, 3) := by decide +kernel
theorem dX3_init_4 : decode cX3_init 4 = .ok (.aload_n 0, 1) := by decide +kernel
theorem dX3_init_5 : decode cX3_init 5 = .ok (.iconst 0, 1) := by decide +kernel
theorem dX3_init_6 : decode cX3_init 6 = .ok (.putfield 9, 3) := by decide +kernel
theorem dX3_init_9 : decode cX3_init 9 = .ok (.aload_n 0, 1) := by decide +kernel
theorem dX3_init_10 : decode cX3_init 10 = .ok (.sipush 144, 3) := by decide +kernel
theorem dX3_init_13 : decode cX3_init 13 = .ok (.newarray .int, 2) := by decide +kernel
theorem dX3_init_15 : decode cX3_init 15 = .ok (.putfield 15, 3) := by decide +kernel
theorem dX3_init_18 : decode cX3_init 18 = .ok (.aload_n 0, 1) := by decide +kernel
theorem dX3_init_19 : decode cX3_init 19 = .ok (.sipush 144, 3) := by decide +kernel
theorem dX3_init_22 : decode cX3_init 22 = .ok (.newarray .int, 2) := by decide +kernel
theorem dX3_init_24 : decode cX3_init 24 = .ok (.putfield 19, 3) := by decide +kernel
theorem dX3_init_27 : decode cX3_init 27 = .ok (.return_, 1) := by decide +kernel
theorem dX3_howMany_0 : decode cX3_howMany 0 = .ok (.aload_n 0, 1) := by decide +kernel
theorem dX3_howMany_1 : decode cX3_howMany 1 = .ok (.getfield 9, 3) := by decide +kernel
theorem dX3_howMany_4 : decode cX3_howMany 4 = .ok (.ireturn, 1) := by decide +kernel
theorem dX3_settingAt_0 : decode cX3_settingAt 0 = .ok (.aload_n 0, 1) := by decide +kernel
theorem dX3_settingAt_1 : decode cX3_settingAt 1 = .ok (.getfield 15, 3) := by decide +kernel
theorem dX3_settingAt_4 : decode cX3_settingAt 4 = .ok (.iload_n 1, 1) := by decide +kernel
theorem dX3_settingAt_5 : decode cX3_settingAt 5 = .ok (.iaload, 1) := by decide +kernel
theorem dX3_settingAt_6 : decode cX3_settingAt 6 = .ok (.ireturn, 1) := by decide +kernel
theorem dX3_worthAt_0 : decode cX3_worthAt 0 = .ok (.aload_n 0, 1) := by decide +kernel
theorem dX3_worthAt_1 : decode cX3_worthAt 1 = .ok (.getfield 19, 3) := by decide +kernel
theorem dX3_worthAt_4 : decode cX3_worthAt 4 = .ok (.iload_n 1, 1) := by decide +kernel
theorem dX3_worthAt_5 : decode cX3_worthAt 5 = .ok (.iaload, 1) := by decide +kernel
theorem dX3_worthAt_6 : decode cX3_worthAt 6 = .ok (.ireturn, 1) := by decide +kernel
theorem dX3_gather_0 : decode cX3_gather 0 = .ok (.aload_n 0, 1) := by decide +kernel
theorem dX3_gather_1 : decode cX3_gather 1 = .ok (.iconst 0, 1) := by decide +kernel
theorem dX3_gather_2 : decode cX3_gather 2 = .ok (.putfield 9, 3) := by decide +kernel
theorem dX3_gather_5 : decode cX3_gather 5 = .ok (.iconst 0, 1) := by decide +kernel
theorem dX3_gather_6 : decode cX3_gather 6 = .ok (.istore_n 3, 1) := by decide +kernel
theorem dX3_gather_7 : decode cX3_gather 7 = .ok (.iload_n 3, 1) := by decide +kernel
theorem dX3_gather_8 : decode cX3_gather 8 = .ok (.aload_n 1, 1) := by decide +kernel
theorem dX3_gather_9 : decode cX3_gather 9 = .ok (.invokevirtual 22, 3) := by decide +kernel
theorem dX3_gather_12 : decode cX3_gather 12 = .ok (.if_icmp .ge 38, 3) := by decide +kernel
theorem dX3_gather_15 : decode cX3_gather 15 = .ok (.aload_n 2, 1) := by decide +kernel
theorem dX3_gather_16 : decode cX3_gather 16 = .ok (.iload_n 3, 1) := by decide +kernel
theorem dX3_gather_17 : decode cX3_gather 17 = .ok (.aload_n 1, 1) := by decide +kernel
theorem dX3_gather_18 : decode cX3_gather 18 = .ok (.invokevirtual 28, 3) := by decide +kernel
theorem dX3_gather_21 : decode cX3_gather 21 = .ok (.ifCond .eq 23, 3) := by decide +kernel
theorem dX3_gather_24 : decode cX3_gather 24 = .ok (.aload_n 0, 1) := by decide +kernel
theorem dX3_gather_25 : decode cX3_gather 25 = .ok (.getfield 15, 3) := by decide +kernel
theorem dX3_gather_28 : decode cX3_gather 28 = .ok (.aload_n 0, 1) := by decide +kernel
theorem dX3_gather_29 : decode cX3_gather 29 = .ok (.getfield 9, 3) := by decide +kernel
theorem dX3_gather_32 : decode cX3_gather 32 = .ok (.iload_n 3, 1) := by decide +kernel
theorem dX3_gather_33 : decode cX3_gather 33 = .ok (.iastore, 1) := by decide +kernel
theorem dX3_gather_34 : decode cX3_gather 34 = .ok (.aload_n 0, 1) := by decide +kernel
theorem dX3_gather_35 : decode cX3_gather 35 = .ok (.dup, 1) := by decide +kernel
theorem dX3_gather_36 : decode cX3_gather 36 = .ok (.getfield 9, 3) := by decide +kernel
theorem dX3_gather_39 : decode cX3_gather 39 = .ok (.iconst 1, 1) := by decide +kernel
theorem dX3_gather_40 : decode cX3_gather 40 = .ok (.iadd, 1) := by decide +kernel
theorem dX3_gather_41 : decode cX3_gather 41 = .ok (.putfield 9, 3) := by decide +kernel
theorem dX3_gather_44 : decode cX3_gather 44 = .ok (.iinc 3 1, 3) := by decide +kernel
theorem dX3_gather_47 : decode cX3_gather 47 = .ok (.goto (-40), 3) := by decide +kernel
theorem dX3_gather_50 : decode cX3_gather 50 = .ok (.return_, 1) := by decide +kernel
theorem dX3_weigh_0 : decode cX3_weigh 0 = .ok (.iconst 0, 1) := by decide +kernel
theorem dX3_weigh_1 : decode cX3_weigh 1 = .ok (.istore_n 3, 1) := by decide +kernel
theorem dX3_weigh_2 : decode cX3_weigh 2 = .ok (.iload_n 3, 1) := by decide +kernel
theorem dX3_weigh_3 : decode cX3_weigh 3 = .ok (.aload_n 0, 1) := by decide +kernel
theorem dX3_weigh_4 : decode cX3_weigh 4 = .ok (.getfield 9, 3) := by decide +kernel
theorem dX3_weigh_7 : decode cX3_weigh 7 = .ok (.if_icmp .ge 26, 3) := by decide +kernel
theorem dX3_weigh_10 : decode cX3_weigh 10 = .ok (.aload_n 0, 1) := by decide +kernel
theorem dX3_weigh_11 : decode cX3_weigh 11 = .ok (.getfield 19, 3) := by decide +kernel
theorem dX3_weigh_14 : decode cX3_weigh 14 = .ok (.iload_n 3, 1) := by decide +kernel
theorem dX3_weigh_15 : decode cX3_weigh 15 = .ok (.aload_n 2, 1) := by decide +kernel
theorem dX3_weigh_16 : decode cX3_weigh 16 = .ok (.aload_n 0, 1) := by decide +kernel
theorem dX3_weigh_17 : decode cX3_weigh 17 = .ok (.getfield 15, 3) := by decide +kernel
theorem dX3_weigh_20 : decode cX3_weigh 20 = .ok (.iload_n 3, 1) := by decide +kernel
theorem dX3_weigh_21 : decode cX3_weigh 21 = .ok (.iaload, 1) := by decide +kernel
theorem dX3_weigh_22 : decode cX3_weigh 22 = .ok (.aload_n 1, 1) := by decide +kernel
theorem dX3_weigh_23 : decode cX3_weigh 23 = .ok (.invokevirtual 34, 3) := by decide +kernel
theorem dX3_weigh_26 : decode cX3_weigh 26 = .ok (.iastore, 1) := by decide +kernel
theorem dX3_weigh_27 : decode cX3_weigh 27 = .ok (.iinc 3 1, 3) := by decide +kernel
theorem dX3_weigh_30 : decode cX3_weigh 30 = .ok (.goto (-28), 3) := by decide +kernel
theorem dX3_weigh_33 : decode cX3_weigh 33 = .ok (.return_, 1) := by decide +kernel
theorem dX4_init_0 : decode cX4_init 0 = .ok (.aload_n 0, 1) := by decide +kernel
theorem dX4_init_1 : decode cX4_init 1 = .ok (.invokespecial 5, 3) := by decide +kernel
theorem dX4_init_4 : decode cX4_init 4 = .ok (.aload_n 0, 1) := by decide +kernel
theorem dX4_init_5 : decode cX4_init 5 = .ok (.iconst 0, 1) := by decide +kernel
theorem dX4_init_6 : decode cX4_init 6 = .ok (.putfield 11, 3) := by decide +kernel
theorem dX4_init_9 : decode cX4_init 9 = .ok (.aload_n 0, 1) := by decide +kernel
theorem dX4_init_10 : decode cX4_init 10 = .ok (.iconst 0, 1) := by decide +kernel
theorem dX4_init_11 : decode cX4_init 11 = .ok (.putfield 15, 3) := by decide +kernel
theorem dX4_init_14 : decode cX4_init 14 = .ok (.aload_n 0, 1) := by decide +kernel
theorem dX4_init_15 : decode cX4_init 15 = .ok (.iconst 0, 1) := by decide +kernel
theorem dX4_init_16 : decode cX4_init 16 = .ok (.putfield 18, 3) := by decide +kernel
theorem dX4_init_19 : decode cX4_init 19 = .ok (.aload_n 0, 1) := by decide +kernel
theorem dX4_init_20 : decode cX4_init 20 = .ok (.bipush 16, 2) := by decide +kernel
theorem dX4_init_22 : decode cX4_init 22 = .ok (.newarray .int, 2) := by decide +kernel
theorem dX4_init_24 : decode cX4_init 24 = .ok (.putfield 21, 3) := by decide +kernel
theorem dX4_init_27 : decode cX4_init 27 = .ok (.aload_n 0, 1) := by decide +kernel
theorem dX4_init_28 : decode cX4_init 28 = .ok (.sipush 2169, 3) := by decide +kernel
theorem dX4_init_31 : decode cX4_init 31 = .ok (.newarray .int, 2) := by decide +kernel
theorem dX4_init_33 : decode cX4_init 33 = .ok (.putfield 25, 3) := by decide +kernel
theorem dX4_init_36 : decode cX4_init 36 = .ok (.return_, 1) := by decide +kernel
theorem dX4_countingWays_0 : decode cX4_countingWays 0 = .ok (.aload_n 0, 1) := by decide +kernel
theorem dX4_countingWays_1 : decode cX4_countingWays 1 = .ok (.getfield 15, 3) := by decide +kernel
theorem dX4_countingWays_4 : decode cX4_countingWays 4 = .ok (.ireturn, 1) := by decide +kernel
theorem dX4_allWays_0 : decode cX4_allWays 0 = .ok (.aload_n 0, 1) := by decide +kernel
theorem dX4_allWays_1 : decode cX4_allWays 1 = .ok (.getfield 18, 3) := by decide +kernel
theorem dX4_allWays_4 : decode cX4_allWays 4 = .ok (.ireturn, 1) := by decide +kernel
theorem dX4_compare_0 : decode cX4_compare 0 = .ok (.aload_n 0, 1) := by decide +kernel
theorem dX4_compare_1 : decode cX4_compare 1 = .ok (.iconst 0, 1) := by decide +kernel
theorem dX4_compare_2 : decode cX4_compare 2 = .ok (.putfield 11, 3) := by decide +kernel
theorem dX4_compare_5 : decode cX4_compare 5 = .ok (.aload_n 0, 1) := by decide +kernel
theorem dX4_compare_6 : decode cX4_compare 6 = .ok (.iload_n 1, 1) := by decide +kernel
theorem dX4_compare_7 : decode cX4_compare 7 = .ok (.aload_n 3, 1) := by decide +kernel
theorem dX4_compare_8 : decode cX4_compare 8 = .ok (.invokevirtual 28, 3) := by decide +kernel
theorem dX4_compare_11 : decode cX4_compare 11 = .ok (.aload_n 0, 1) := by decide +kernel
theorem dX4_compare_12 : decode cX4_compare 12 = .ok (.getfield 11, 3) := by decide +kernel
theorem dX4_compare_15 : decode cX4_compare 15 = .ok (.istore 4, 2) := by decide +kernel
theorem dX4_compare_17 : decode cX4_compare 17 = .ok (.aload_n 0, 1) := by decide +kernel
theorem dX4_compare_18 : decode cX4_compare 18 = .ok (.iload_n 2, 1) := by decide +kernel
theorem dX4_compare_19 : decode cX4_compare 19 = .ok (.aload_n 3, 1) := by decide +kernel
theorem dX4_compare_20 : decode cX4_compare 20 = .ok (.invokevirtual 28, 3) := by decide +kernel
theorem dX4_compare_23 : decode cX4_compare 23 = .ok (.iconst 0, 1) := by decide +kernel
theorem dX4_compare_24 : decode cX4_compare 24 = .ok (.istore 5, 2) := by decide +kernel
theorem dX4_compare_26 : decode cX4_compare 26 = .ok (.iload 4, 2) := by decide +kernel
theorem dX4_compare_28 : decode cX4_compare 28 = .ok (.istore 6, 2) := by decide +kernel
theorem dX4_compare_30 : decode cX4_compare 30 = .ok (.iload 6, 2) := by decide +kernel
theorem dX4_compare_32 : decode cX4_compare 32 = .ok (.aload_n 0, 1) := by decide +kernel
theorem dX4_compare_33 : decode cX4_compare 33 = .ok (.getfield 11, 3) := by decide +kernel
theorem dX4_compare_36 : decode cX4_compare 36 = .ok (.if_icmp .ge 20, 3) := by decide +kernel
theorem dX4_compare_39 : decode cX4_compare 39 = .ok (.iload 5, 2) := by decide +kernel
theorem dX4_compare_41 : decode cX4_compare 41 = .ok (.aload_n 0, 1) := by decide +kernel
theorem dX4_compare_42 : decode cX4_compare 42 = .ok (.iload 6, 2) := by decide +kernel
theorem dX4_compare_44 : decode cX4_compare 44 = .ok (.invokevirtual 32, 3) := by decide +kernel
theorem dX4_compare_47 : decode cX4_compare 47 = .ok (.iadd, 1) := by decide +kernel
theorem dX4_compare_48 : decode cX4_compare 48 = .ok (.istore 5, 2) := by decide +kernel
theorem dX4_compare_50 : decode cX4_compare 50 = .ok (.iinc 6 1, 3) := by decide +kernel
theorem dX4_compare_53 : decode cX4_compare 53 = .ok (.goto (-23), 3) := by decide +kernel
theorem dX4_compare_56 : decode cX4_compare 56 = .ok (.aload_n 0, 1) := by decide +kernel
theorem dX4_compare_57 : decode cX4_compare 57 = .ok (.getfield 11, 3) := by decide +kernel
theorem dX4_compare_60 : decode cX4_compare 60 = .ok (.iload 4, 2) := by decide +kernel
theorem dX4_compare_62 : decode cX4_compare 62 = .ok (.isub, 1) := by decide +kernel
theorem dX4_compare_63 : decode cX4_compare 63 = .ok (.istore 6, 2) := by decide +kernel
theorem dX4_compare_65 : decode cX4_compare 65 = .ok (.aload_n 0, 1) := by decide +kernel
theorem dX4_compare_66 : decode cX4_compare 66 = .ok (.iload 6, 2) := by decide +kernel
theorem dX4_compare_68 : decode cX4_compare 68 = .ok (.invokevirtual 36, 3) := by decide +kernel
theorem dX4_compare_71 : decode cX4_compare 71 = .ok (.aload_n 0, 1) := by decide +kernel
theorem dX4_compare_72 : decode cX4_compare 72 = .ok (.aload_n 0, 1) := by decide +kernel
theorem dX4_compare_73 : decode cX4_compare 73 = .ok (.iload 5, 2) := by decide +kernel
theorem dX4_compare_75 : decode cX4_compare 75 = .ok (.iload 6, 2) := by decide +kernel
theorem dX4_compare_77 : decode cX4_compare 77 = .ok (.invokevirtual 40, 3) := by decide +kernel
theorem dX4_compare_80 : decode cX4_compare 80 = .ok (.putfield 15, 3) := by decide +kernel
theorem dX4_compare_83 : decode cX4_compare 83 = .ok (.aload_n 0, 1) := by decide +kernel
theorem dX4_compare_84 : decode cX4_compare 84 = .ok (.aload_n 0, 1) := by decide +kernel
theorem dX4_compare_85 : decode cX4_compare 85 = .ok (.iconst 0, 1) := by decide +kernel
theorem dX4_compare_86 : decode cX4_compare 86 = .ok (.iload 6, 2) := by decide +kernel
theorem dX4_compare_88 : decode cX4_compare 88 = .ok (.invokevirtual 40, 3) := by decide +kernel
theorem dX4_compare_91 : decode cX4_compare 91 = .ok (.putfield 18, 3) := by decide +kernel
theorem dX4_compare_94 : decode cX4_compare 94 = .ok (.return_, 1) := by decide +kernel
theorem dX4_gather_0 : decode cX4_gather 0 = .ok (.aload_n 0, 1) := by decide +kernel
theorem dX4_gather_1 : decode cX4_gather 1 = .ok (.getfield 11, 3) := by decide +kernel
theorem dX4_gather_4 : decode cX4_gather 4 = .ok (.bipush 8, 2) := by decide +kernel
theorem dX4_gather_6 : decode cX4_gather 6 = .ok (.iadd, 1) := by decide +kernel
theorem dX4_gather_7 : decode cX4_gather 7 = .ok (.istore_n 3, 1) := by decide +kernel
theorem dX4_gather_8 : decode cX4_gather 8 = .ok (.iconst 0, 1) := by decide +kernel
theorem dX4_gather_9 : decode cX4_gather 9 = .ok (.istore 4, 2) := by decide +kernel
theorem dX4_gather_11 : decode cX4_gather 11 = .ok (.iload 4, 2) := by decide +kernel
theorem dX4_gather_13 : decode cX4_gather 13 = .ok (.aload_n 2, 1) := by decide +kernel
theorem dX4_gather_14 : decode cX4_gather 14 = .ok (.invokevirtual 44, 3) := by decide +kernel
theorem dX4_gather_17 : decode cX4_gather 17 = .ok (.if_icmp .ge 52, 3) := by decide +kernel
theorem dX4_gather_20 : decode cX4_gather 20 = .ok (.aload_n 0, 1) := by decide +kernel
theorem dX4_gather_21 : decode cX4_gather 21 = .ok (.getfield 11, 3) := by decide +kernel
theorem dX4_gather_24 : decode cX4_gather 24 = .ok (.iload_n 3, 1) := by decide +kernel
theorem dX4_gather_25 : decode cX4_gather 25 = .ok (.if_icmp .ge 44, 3) := by decide +kernel
theorem dX4_gather_28 : decode cX4_gather 28 = .ok (.aload_n 2, 1) := by decide +kernel
theorem dX4_gather_29 : decode cX4_gather 29 = .ok (.iload 4, 2) := by decide +kernel
theorem dX4_gather_31 : decode cX4_gather 31 = .ok (.invokevirtual 50, 3) := by decide +kernel
theorem dX4_gather_34 : decode cX4_gather 34 = .ok (.iload_n 1, 1) := by decide +kernel
theorem dX4_gather_35 : decode cX4_gather 35 = .ok (.if_icmp .ne 28, 3) := by decide +kernel
theorem dX4_gather_38 : decode cX4_gather 38 = .ok (.aload_n 0, 1) := by decide +kernel
theorem dX4_gather_39 : decode cX4_gather 39 = .ok (.getfield 21, 3) := by decide +kernel
theorem dX4_gather_42 : decode cX4_gather 42 = .ok (.aload_n 0, 1) := by decide +kernel
theorem dX4_gather_43 : decode cX4_gather 43 = .ok (.getfield 11, 3) := by decide +kernel
theorem dX4_gather_46 : decode cX4_gather 46 = .ok (.aload_n 2, 1) := by decide +kernel
theorem dX4_gather_47 : decode cX4_gather 47 = .ok (.iload 4, 2) := by decide +kernel
theorem dX4_gather_49 : decode cX4_gather 49 = .ok (.invokevirtual 53, 3) := by decide +kernel
theorem dX4_gather_52 : decode cX4_gather 52 = .ok (.iastore, 1) := by decide +kernel
theorem dX4_gather_53 : decode cX4_gather 53 = .ok (.aload_n 0, 1) := by decide +kernel
theorem dX4_gather_54 : decode cX4_gather 54 = .ok (.dup, 1) := by decide +kernel
theorem dX4_gather_55 : decode cX4_gather 55 = .ok (.getfield 11, 3) := by decide +kernel
theorem dX4_gather_58 : decode cX4_gather 58 = .ok (.iconst 1, 1) := by decide +kernel
theorem dX4_gather_59 : decode cX4_gather 59 = .ok (.iadd, 1) := by decide +kernel
theorem dX4_gather_60 : decode cX4_gather 60 = .ok (.putfield 11, 3) := by decide +kernel
theorem dX4_gather_63 : decode cX4_gather 63 = .ok (.iinc 4 1, 3) := by decide +kernel
theorem dX4_gather_66 : decode cX4_gather 66 = .ok (.goto (-55), 3) := by decide +kernel
theorem dX4_gather_69 : decode cX4_gather 69 = .ok (.return_, 1) := by decide +kernel
theorem dX4_rankAt_0 : decode cX4_rankAt 0 = .ok (.iconst 0, 1) := by decide +kernel
theorem dX4_rankAt_1 : decode cX4_rankAt 1 = .ok (.istore_n 2, 1) := by decide +kernel
theorem dX4_rankAt_2 : decode cX4_rankAt 2 = .ok (.iconst 0, 1) := by decide +kernel
theorem dX4_rankAt_3 : decode cX4_rankAt 3 = .ok (.istore_n 3, 1) := by decide +kernel
theorem dX4_rankAt_4 : decode cX4_rankAt 4 = .ok (.iload_n 3, 1) := by decide +kernel
theorem dX4_rankAt_5 : decode cX4_rankAt 5 = .ok (.aload_n 0, 1) := by decide +kernel
theorem dX4_rankAt_6 : decode cX4_rankAt 6 = .ok (.getfield 11, 3) := by decide +kernel
theorem dX4_rankAt_9 : decode cX4_rankAt 9 = .ok (.if_icmp .ge 53, 3) := by decide +kernel
theorem dX4_rankAt_12 : decode cX4_rankAt 12 = .ok (.aload_n 0, 1) := by decide +kernel
theorem dX4_rankAt_13 : decode cX4_rankAt 13 = .ok (.getfield 21, 3) := by decide +kernel
theorem dX4_rankAt_16 : decode cX4_rankAt 16 = .ok (.iload_n 3, 1) := by decide +kernel
theorem dX4_rankAt_17 : decode cX4_rankAt 17 = .ok (.iaload, 1) := by decide +kernel
theorem dX4_rankAt_18 : decode cX4_rankAt 18 = .ok (.aload_n 0, 1) := by decide +kernel
theorem dX4_rankAt_19 : decode cX4_rankAt 19 = .ok (.getfield 21, 3) := by decide +kernel
theorem dX4_rankAt_22 : decode cX4_rankAt 22 = .ok (.iload_n 1, 1) := by decide +kernel
theorem dX4_rankAt_23 : decode cX4_rankAt 23 = .ok (.iaload, 1) := by decide +kernel
theorem dX4_rankAt_24 : decode cX4_rankAt 24 = .ok (.if_icmp .ge 9, 3) := by decide +kernel
theorem dX4_rankAt_27 : decode cX4_rankAt 27 = .ok (.iinc 2 2, 3) := by decide +kernel
theorem dX4_rankAt_30 : decode cX4_rankAt 30 = .ok (.goto 26, 3) := by decide +kernel
theorem dX4_rankAt_33 : decode cX4_rankAt 33 = .ok (.aload_n 0, 1) := by decide +kernel
theorem dX4_rankAt_34 : decode cX4_rankAt 34 = .ok (.getfield 21, 3) := by decide +kernel
theorem dX4_rankAt_37 : decode cX4_rankAt 37 = .ok (.iload_n 3, 1) := by decide +kernel
theorem dX4_rankAt_38 : decode cX4_rankAt 38 = .ok (.iaload, 1) := by decide +kernel
theorem dX4_rankAt_39 : decode cX4_rankAt 39 = .ok (.aload_n 0, 1) := by decide +kernel
theorem dX4_rankAt_40 : decode cX4_rankAt 40 = .ok (.getfield 21, 3) := by decide +kernel
theorem dX4_rankAt_43 : decode cX4_rankAt 43 = .ok (.iload_n 1, 1) := by decide +kernel
theorem dX4_rankAt_44 : decode cX4_rankAt 44 = .ok (.iaload, 1) := by decide +kernel
theorem dX4_rankAt_45 : decode cX4_rankAt 45 = .ok (.if_icmp .ne 11, 3) := by decide +kernel
theorem dX4_rankAt_48 : decode cX4_rankAt 48 = .ok (.iload_n 3, 1) := by decide +kernel
theorem dX4_rankAt_49 : decode cX4_rankAt 49 = .ok (.iload_n 1, 1) := by decide +kernel
theorem dX4_rankAt_50 : decode cX4_rankAt 50 = .ok (.if_icmp .eq 6, 3) := by decide +kernel
theorem dX4_rankAt_53 : decode cX4_rankAt 53 = .ok (.iinc 2 1, 3) := by decide +kernel
theorem dX4_rankAt_56 : decode cX4_rankAt 56 = .ok (.iinc 3 1, 3) := by decide +kernel
theorem dX4_rankAt_59 : decode cX4_rankAt 59 = .ok (.goto (-55), 3) := by decide +kernel
theorem dX4_rankAt_62 : decode cX4_rankAt 62 = .ok (.iload_n 2, 1) := by decide +kernel
theorem dX4_rankAt_63 : decode cX4_rankAt 63 = .ok (.ireturn, 1) := by decide +kernel
theorem dX4_spreadWays_0 : decode cX4_spreadWays 0 = .ok (.aload_n 0, 1) := by decide +kernel
theorem dX4_spreadWays_1 : decode cX4_spreadWays 1 = .ok (.getfield 25, 3) := by decide +kernel
theorem dX4_spreadWays_4 : decode cX4_spreadWays 4 = .ok (.iconst 0, 1) := by decide +kernel
theorem dX4_spreadWays_5 : decode cX4_spreadWays 5 = .ok (.invokestatic 56, 3) := by decide +kernel
theorem dX4_spreadWays_8 : decode cX4_spreadWays 8 = .ok (.aload_n 0, 1) := by decide +kernel
theorem dX4_spreadWays_9 : decode cX4_spreadWays 9 = .ok (.getfield 25, 3) := by decide +kernel
theorem dX4_spreadWays_12 : decode cX4_spreadWays 12 = .ok (.iconst 0, 1) := by decide +kernel
theorem dX4_spreadWays_13 : decode cX4_spreadWays 13 = .ok (.iconst 1, 1) := by decide +kernel
theorem dX4_spreadWays_14 : decode cX4_spreadWays 14 = .ok (.iastore, 1) := by decide +kernel
theorem dX4_spreadWays_15 : decode cX4_spreadWays 15 = .ok (.iconst 0, 1) := by decide +kernel
theorem dX4_spreadWays_16 : decode cX4_spreadWays 16 = .ok (.istore_n 2, 1) := by decide +kernel
theorem dX4_spreadWays_17 : decode cX4_spreadWays 17 = .ok (.iload_n 2, 1) := by decide +kernel
theorem dX4_spreadWays_18 : decode cX4_spreadWays 18 = .ok (.aload_n 0, 1) := by decide +kernel
theorem dX4_spreadWays_19 : decode cX4_spreadWays 19 = .ok (.getfield 11, 3) := by decide +kernel
theorem dX4_spreadWays_22 : decode cX4_spreadWays 22 = .ok (.if_icmp .ge 85, 3) := by decide +kernel
theorem dX4_spreadWays_25 : decode cX4_spreadWays 25 = .ok (.aload_n 0, 1) := by decide +kernel
theorem dX4_spreadWays_26 : decode cX4_spreadWays 26 = .ok (.iload_n 2, 1) := by decide +kernel
theorem dX4_spreadWays_27 : decode cX4_spreadWays 27 = .ok (.invokevirtual 32, 3) := by decide +kernel
theorem dX4_spreadWays_30 : decode cX4_spreadWays 30 = .ok (.istore_n 3, 1) := by decide +kernel
theorem dX4_spreadWays_31 : decode cX4_spreadWays 31 = .ok (.iload_n 1, 1) := by decide +kernel
theorem dX4_spreadWays_32 : decode cX4_spreadWays 32 = .ok (.iconst 1, 1) := by decide +kernel
theorem dX4_spreadWays_33 : decode cX4_spreadWays 33 = .ok (.isub, 1) := by decide +kernel
theorem dX4_spreadWays_34 : decode cX4_spreadWays 34 = .ok (.istore 4, 2) := by decide +kernel
theorem dX4_spreadWays_36 : decode cX4_spreadWays 36 = .ok (.iload 4, 2) := by decide +kernel
theorem dX4_spreadWays_38 : decode cX4_spreadWays 38 = .ok (.ifCond .lt 63, 3) := by decide +kernel
theorem dX4_spreadWays_41 : decode cX4_spreadWays 41 = .ok (.iconst 0, 1) := by decide +kernel
theorem dX4_spreadWays_42 : decode cX4_spreadWays 42 = .ok (.istore 5, 2) := by decide +kernel
theorem dX4_spreadWays_44 : decode cX4_spreadWays 44 = .ok (.iload 5, 2) := by decide +kernel
theorem dX4_spreadWays_46 : decode cX4_spreadWays 46 = .ok (.iload_n 3, 1) := by decide +kernel
theorem dX4_spreadWays_47 : decode cX4_spreadWays 47 = .ok (.iadd, 1) := by decide +kernel
theorem dX4_spreadWays_48 : decode cX4_spreadWays 48 = .ok (.sipush 241, 3) := by decide +kernel
theorem dX4_spreadWays_51 : decode cX4_spreadWays 51 = .ok (.if_icmp .ge 44, 3) := by decide +kernel
theorem dX4_spreadWays_54 : decode cX4_spreadWays 54 = .ok (.aload_n 0, 1) := by decide +kernel
theorem dX4_spreadWays_55 : decode cX4_spreadWays 55 = .ok (.getfield 25, 3) := by decide +kernel
theorem dX4_spreadWays_58 : decode cX4_spreadWays 58 = .ok (.iload 4, 2) := by decide +kernel
theorem dX4_spreadWays_60 : decode cX4_spreadWays 60 = .ok (.iconst 1, 1) := by decide +kernel
theorem dX4_spreadWays_61 : decode cX4_spreadWays 61 = .ok (.iadd, 1) := by decide +kernel
theorem dX4_spreadWays_62 : decode cX4_spreadWays 62 = .ok (.sipush 241, 3) := by decide +kernel
theorem dX4_spreadWays_65 : decode cX4_spreadWays 65 = .ok (.imul, 1) := by decide +kernel
theorem dX4_spreadWays_66 : decode cX4_spreadWays 66 = .ok (.iload 5, 2) := by decide +kernel
theorem dX4_spreadWays_68 : decode cX4_spreadWays 68 = .ok (.iadd, 1) := by decide +kernel
theorem dX4_spreadWays_69 : decode cX4_spreadWays 69 = .ok (.iload_n 3, 1) := by decide +kernel
theorem dX4_spreadWays_70 : decode cX4_spreadWays 70 = .ok (.iadd, 1) := by decide +kernel
theorem dX4_spreadWays_71 : decode cX4_spreadWays 71 = .ok (.dup2, 1) := by decide +kernel
theorem dX4_spreadWays_72 : decode cX4_spreadWays 72 = .ok (.iaload, 1) := by decide +kernel
theorem dX4_spreadWays_73 : decode cX4_spreadWays 73 = .ok (.aload_n 0, 1) := by decide +kernel
theorem dX4_spreadWays_74 : decode cX4_spreadWays 74 = .ok (.getfield 25, 3) := by decide +kernel
theorem dX4_spreadWays_77 : decode cX4_spreadWays 77 = .ok (.iload 4, 2) := by decide +kernel
theorem dX4_spreadWays_79 : decode cX4_spreadWays 79 = .ok (.sipush 241, 3) := by decide +kernel
theorem dX4_spreadWays_82 : decode cX4_spreadWays 82 = .ok (.imul, 1) := by decide +kernel
theorem dX4_spreadWays_83 : decode cX4_spreadWays 83 = .ok (.iload 5, 2) := by decide +kernel
theorem dX4_spreadWays_85 : decode cX4_spreadWays 85 = .ok (.iadd, 1) := by decide +kernel
theorem dX4_spreadWays_86 : decode cX4_spreadWays 86 = .ok (.iaload, 1) := by decide +kernel
theorem dX4_spreadWays_87 : decode cX4_spreadWays 87 = .ok (.iadd, 1) := by decide +kernel
theorem dX4_spreadWays_88 : decode cX4_spreadWays 88 = .ok (.iastore, 1) := by decide +kernel
theorem dX4_spreadWays_89 : decode cX4_spreadWays 89 = .ok (.iinc 5 1, 3) := by decide +kernel
theorem dX4_spreadWays_92 : decode cX4_spreadWays 92 = .ok (.goto (-48), 3) := by decide +kernel
theorem dX4_spreadWays_95 : decode cX4_spreadWays 95 = .ok (.iinc 4 (-1), 3) := by decide +kernel
theorem dX4_spreadWays_98 : decode cX4_spreadWays 98 = .ok (.goto (-62), 3) := by decide +kernel
theorem dX4_spreadWays_101 : decode cX4_spreadWays 101 = .ok (.iinc 2 1, 3) := by decide +kernel
theorem dX4_spreadWays_104 : decode cX4_spreadWays 104 = .ok (.goto (-87), 3) := by decide +kernel
theorem dX4_spreadWays_107 : decode cX4_spreadWays 107 = .ok (.return_, 1) := by decide +kernel
theorem dX4_waysFrom_0 : decode cX4_waysFrom 0 = .ok (.iconst 0, 1) := by decide +kernel
theorem dX4_waysFrom_1 : decode cX4_waysFrom 1 = .ok (.istore_n 3, 1) := by decide +kernel
theorem dX4_waysFrom_2 : decode cX4_waysFrom 2 = .ok (.iload_n 1, 1) := by decide +kernel
theorem dX4_waysFrom_3 : decode cX4_waysFrom 3 = .ok (.istore 4, 2) := by decide +kernel
theorem dX4_waysFrom_5 : decode cX4_waysFrom 5 = .ok (.iload 4, 2) := by decide +kernel
theorem dX4_waysFrom_7 : decode cX4_waysFrom 7 = .ok (.sipush 241, 3) := by decide +kernel
theorem dX4_waysFrom_10 : decode cX4_waysFrom 10 = .ok (.if_icmp .ge 25, 3) := by decide +kernel
theorem dX4_waysFrom_13 : decode cX4_waysFrom 13 = .ok (.iload_n 3, 1) := by decide +kernel
theorem dX4_waysFrom_14 : decode cX4_waysFrom 14 = .ok (.aload_n 0, 1) := by decide +kernel
theorem dX4_waysFrom_15 : decode cX4_waysFrom 15 = .ok (.getfield 25, 3) := by decide +kernel
theorem dX4_waysFrom_18 : decode cX4_waysFrom 18 = .ok (.iload_n 2, 1) := by decide +kernel
theorem dX4_waysFrom_19 : decode cX4_waysFrom 19 = .ok (.sipush 241, 3) := by decide +kernel
theorem dX4_waysFrom_22 : decode cX4_waysFrom 22 = .ok (.imul, 1) := by decide +kernel
theorem dX4_waysFrom_23 : decode cX4_waysFrom 23 = .ok (.iload 4, 2) := by decide +kernel
theorem dX4_waysFrom_25 : decode cX4_waysFrom 25 = .ok (.iadd, 1) := by decide +kernel
theorem dX4_waysFrom_26 : decode cX4_waysFrom 26 = .ok (.iaload, 1) := by decide +kernel
theorem dX4_waysFrom_27 : decode cX4_waysFrom 27 = .ok (.iadd, 1) := by decide +kernel
theorem dX4_waysFrom_28 : decode cX4_waysFrom 28 = .ok (.istore_n 3, 1) := by decide +kernel
theorem dX4_waysFrom_29 : decode cX4_waysFrom 29 = .ok (.iinc 4 1, 3) := by decide +kernel
theorem dX4_waysFrom_32 : decode cX4_waysFrom 32 = .ok (.goto (-27), 3) := by decide +kernel
theorem dX4_waysFrom_35 : decode cX4_waysFrom 35 = .ok (.iload_n 3, 1) := by decide +kernel
theorem dX4_waysFrom_36 : decode cX4_waysFrom 36 = .ok (.ireturn, 1) := by decide +kernel
theorem dX5_init_0 : decode cX5_init 0 = .ok (.aload_n 0, 1) := by decide +kernel
theorem dX5_init_1 : decode cX5_init 1 = .ok (.invokespecial 3, 3) := by decide +kernel
theorem dX5_init_4 : decode cX5_init 4 = .ok (.aload_n 0, 1) := by decide +kernel
theorem dX5_init_5 : decode cX5_init 5 = .ok (.iconst 0, 1) := by decide +kernel
theorem dX5_init_6 : decode cX5_init 6 = .ok (.putfield 9, 3) := by decide +kernel
theorem dX5_init_9 : decode cX5_init 9 = .ok (.aload_n 0, 1) := by decide +kernel
theorem dX5_init_10 : decode cX5_init 10 = .ok (.bipush 12, 2) := by decide +kernel
theorem dX5_init_12 : decode cX5_init 12 = .ok (.newarray .boolean, 2) := by decide +kernel
theorem dX5_init_14 : decode cX5_init 14 = .ok (.putfield 15, 3) := by decide +kernel
theorem dX5_init_17 : decode cX5_init 17 = .ok (.aload_n 0, 1) := by decide +kernel
theorem dX5_init_18 : decode cX5_init 18 = .ok (.bipush 12, 2) := by decide +kernel
theorem dX5_init_20 : decode cX5_init 20 = .ok (.newarray .int, 2) := by decide +kernel
theorem dX5_init_22 : decode cX5_init 22 = .ok (.putfield 19, 3) := by decide +kernel
theorem dX5_init_25 : decode cX5_init 25 = .ok (.aload_n 0, 1) := by decide +kernel
theorem dX5_init_26 : decode cX5_init 26 = .ok (.bipush 12, 2) := by decide +kernel
theorem dX5_init_28 : decode cX5_init 28 = .ok (.newarray .int, 2) := by decide +kernel
theorem dX5_init_30 : decode cX5_init 30 = .ok (.putfield 23, 3) := by decide +kernel
theorem dX5_init_33 : decode cX5_init 33 = .ok (.aload_n 0, 1) := by decide +kernel
theorem dX5_init_34 : decode cX5_init 34 = .ok (.bipush 12, 2) := by decide +kernel
theorem dX5_init_36 : decode cX5_init 36 = .ok (.newarray .int, 2) := by decide +kernel
theorem dX5_init_38 : decode cX5_init 38 = .ok (.putfield 26, 3) := by decide +kernel
theorem dX5_init_41 : decode cX5_init 41 = .ok (.aload_n 0, 1) := by decide +kernel
theorem dX5_init_42 : decode cX5_init 42 = .ok (.bipush 12, 2) := by decide +kernel
theorem dX5_init_44 : decode cX5_init 44 = .ok (.newarray .int, 2) := by decide +kernel
theorem dX5_init_46 : decode cX5_init 46 = .ok (.putfield 29, 3) := by decide +kernel
theorem dX5_init_49 : decode cX5_init 49 = .ok (.return_, 1) := by decide +kernel
theorem dX5_howMany_0 : decode cX5_howMany 0 = .ok (.aload_n 0, 1) := by decide +kernel
theorem dX5_howMany_1 : decode cX5_howMany 1 = .ok (.getfield 9, 3) := by decide +kernel
theorem dX5_howMany_4 : decode cX5_howMany 4 = .ok (.ireturn, 1) := by decide +kernel
theorem dX5_isFull_0 : decode cX5_isFull 0 = .ok (.aload_n 0, 1) := by decide +kernel
theorem dX5_isFull_1 : decode cX5_isFull 1 = .ok (.getfield 9, 3) := by decide +kernel
theorem dX5_isFull_4 : decode cX5_isFull 4 = .ok (.bipush 12, 2) := by decide +kernel
theorem dX5_isFull_6 : decode cX5_isFull 6 = .ok (.if_icmp .lt 7, 3) := by decide +kernel
theorem dX5_isFull_9 : decode cX5_isFull 9 = .ok (.iconst 1, 1) := by decide +kernel
theorem dX5_isFull_10 : decode cX5_isFull 10 = .ok (.goto 4, 3) := by decide +kernel
theorem dX5_isFull_13 : decode cX5_isFull 13 = .ok (.iconst 0, 1) := by decide +kernel
theorem dX5_isFull_14 : decode cX5_isFull 14 = .ok (.ireturn, 1) := by decide +kernel
theorem dX5_add_0 : decode cX5_add 0 = .ok (.aload_n 0, 1) := by decide +kernel
theorem dX5_add_1 : decode cX5_add 1 = .ok (.getfield 15, 3) := by decide +kernel
theorem dX5_add_4 : decode cX5_add 4 = .ok (.aload_n 0, 1) := by decide +kernel
theorem dX5_add_5 : decode cX5_add 5 = .ok (.getfield 9, 3) := by decide +kernel
theorem dX5_add_8 : decode cX5_add 8 = .ok (.iload_n 1, 1) := by decide +kernel
theorem dX5_add_9 : decode cX5_add 9 = .ok (.bastore, 1) := by decide +kernel
theorem dX5_add_10 : decode cX5_add 10 = .ok (.aload_n 0, 1) := by decide +kernel
theorem dX5_add_11 : decode cX5_add 11 = .ok (.getfield 19, 3) := by decide +kernel
theorem dX5_add_14 : decode cX5_add 14 = .ok (.aload_n 0, 1) := by decide +kernel
theorem dX5_add_15 : decode cX5_add 15 = .ok (.getfield 9, 3) := by decide +kernel
theorem dX5_add_18 : decode cX5_add 18 = .ok (.iload_n 2, 1) := by decide +kernel
theorem dX5_add_19 : decode cX5_add 19 = .ok (.iastore, 1) := by decide +kernel
theorem dX5_add_20 : decode cX5_add 20 = .ok (.aload_n 0, 1) := by decide +kernel
theorem dX5_add_21 : decode cX5_add 21 = .ok (.getfield 23, 3) := by decide +kernel
theorem dX5_add_24 : decode cX5_add 24 = .ok (.aload_n 0, 1) := by decide +kernel
theorem dX5_add_25 : decode cX5_add 25 = .ok (.getfield 9, 3) := by decide +kernel
theorem dX5_add_28 : decode cX5_add 28 = .ok (.iload_n 3, 1) := by decide +kernel
theorem dX5_add_29 : decode cX5_add 29 = .ok (.iastore, 1) := by decide +kernel
theorem dX5_add_30 : decode cX5_add 30 = .ok (.aload_n 0, 1) := by decide +kernel
theorem dX5_add_31 : decode cX5_add 31 = .ok (.getfield 26, 3) := by decide +kernel
theorem dX5_add_34 : decode cX5_add 34 = .ok (.aload_n 0, 1) := by decide +kernel
theorem dX5_add_35 : decode cX5_add 35 = .ok (.getfield 9, 3) := by decide +kernel
theorem dX5_add_38 : decode cX5_add 38 = .ok (.iload 4, 2) := by decide +kernel
theorem dX5_add_40 : decode cX5_add 40 = .ok (.iastore, 1) := by decide +kernel
theorem dX5_add_41 : decode cX5_add 41 = .ok (.aload_n 0, 1) := by decide +kernel
theorem dX5_add_42 : decode cX5_add 42 = .ok (.getfield 29, 3) := by decide +kernel
theorem dX5_add_45 : decode cX5_add 45 = .ok (.aload_n 0, 1) := by decide +kernel
theorem dX5_add_46 : decode cX5_add 46 = .ok (.getfield 9, 3) := by decide +kernel
theorem dX5_add_49 : decode cX5_add 49 = .ok (.iload 5, 2) := by decide +kernel
theorem dX5_add_51 : decode cX5_add 51 = .ok (.iastore, 1) := by decide +kernel
theorem dX5_add_52 : decode cX5_add 52 = .ok (.aload_n 0, 1) := by decide +kernel
theorem dX5_add_53 : decode cX5_add 53 = .ok (.dup, 1) := by decide +kernel
theorem dX5_add_54 : decode cX5_add 54 = .ok (.getfield 9, 3) := by decide +kernel
theorem dX5_add_57 : decode cX5_add 57 = .ok (.iconst 1, 1) := by decide +kernel
theorem dX5_add_58 : decode cX5_add 58 = .ok (.iadd, 1) := by decide +kernel
theorem dX5_add_59 : decode cX5_add 59 = .ok (.putfield 9, 3) := by decide +kernel
theorem dX5_add_62 : decode cX5_add 62 = .ok (.return_, 1) := by decide +kernel
theorem dX5_dropLatest_0 : decode cX5_dropLatest 0 = .ok (.aload_n 0, 1) := by decide +kernel
theorem dX5_dropLatest_1 : decode cX5_dropLatest 1 = .ok (.dup, 1) := by decide +kernel
theorem dX5_dropLatest_2 : decode cX5_dropLatest 2 = .ok (.getfield 9, 3) := by decide +kernel
theorem dX5_dropLatest_5 : decode cX5_dropLatest 5 = .ok (.iconst 1, 1) := by decide +kernel
theorem dX5_dropLatest_6 : decode cX5_dropLatest 6 = .ok (.isub, 1) := by decide +kernel
theorem dX5_dropLatest_7 : decode cX5_dropLatest 7 = .ok (.putfield 9, 3) := by decide +kernel
theorem dX5_dropLatest_10 : decode cX5_dropLatest 10 = .ok (.return_, 1) := by decide +kernel
theorem dX5_allow_0 : decode cX5_allow 0 = .ok (.iconst 0, 1) := by decide +kernel
theorem dX5_allow_1 : decode cX5_allow 1 = .ok (.istore_n 3, 1) := by decide +kernel
theorem dX5_allow_2 : decode cX5_allow 2 = .ok (.iload_n 3, 1) := by decide +kernel
theorem dX5_allow_3 : decode cX5_allow 3 = .ok (.aload_n 0, 1) := by decide +kernel
theorem dX5_allow_4 : decode cX5_allow 4 = .ok (.getfield 9, 3) := by decide +kernel
theorem dX5_allow_7 : decode cX5_allow 7 = .ok (.if_icmp .ge 21, 3) := by decide +kernel
theorem dX5_allow_10 : decode cX5_allow 10 = .ok (.aload_n 0, 1) := by decide +kernel
theorem dX5_allow_11 : decode cX5_allow 11 = .ok (.iload_n 3, 1) := by decide +kernel
theorem dX5_allow_12 : decode cX5_allow 12 = .ok (.iload_n 1, 1) := by decide +kernel
theorem dX5_allow_13 : decode cX5_allow 13 = .ok (.aload_n 2, 1) := by decide +kernel
theorem dX5_allow_14 : decode cX5_allow 14 = .ok (.invokevirtual 32, 3) := by decide +kernel
theorem dX5_allow_17 : decode cX5_allow 17 = .ok (.ifCond .eq 5, 3) := by decide +kernel
theorem dX5_allow_20 : decode cX5_allow 20 = .ok (.iconst 0, 1) := by decide +kernel
theorem dX5_allow_21 : decode cX5_allow 21 = .ok (.ireturn, 1) := by decide +kernel
theorem dX5_allow_22 : decode cX5_allow 22 = .ok (.iinc 3 1, 3) := by decide +kernel
theorem dX5_allow_25 : decode cX5_allow 25 = .ok (.goto (-23), 3) := by decide +kernel
theorem dX5_allow_28 : decode cX5_allow 28 = .ok (.iconst 1, 1) := by decide +kernel
theorem dX5_allow_29 : decode cX5_allow 29 = .ok (.ireturn, 1) := by decide +kernel
theorem dX5_isAgainst_0 : decode cX5_isAgainst 0 = .ok (.aload_n 3, 1) := by decide +kernel
theorem dX5_isAgainst_1 : decode cX5_isAgainst 1 = .ok (.iload_n 2, 1) := by decide +kernel
theorem dX5_isAgainst_2 : decode cX5_isAgainst 2 = .ok (.aload_n 0, 1) := by decide +kernel
theorem dX5_isAgainst_3 : decode cX5_isAgainst 3 = .ok (.getfield 19, 3) := by decide +kernel
theorem dX5_isAgainst_6 : decode cX5_isAgainst 6 = .ok (.iload_n 1, 1) := by decide +kernel
theorem dX5_isAgainst_7 : decode cX5_isAgainst 7 = .ok (.iaload, 1) := by decide +kernel
theorem dX5_isAgainst_8 : decode cX5_isAgainst 8 = .ok (.invokevirtual 36, 3) := by decide +kernel
theorem dX5_isAgainst_11 : decode cX5_isAgainst 11 = .ok (.aload_n 0, 1) := by decide +kernel
theorem dX5_isAgainst_12 : decode cX5_isAgainst 12 = .ok (.getfield 23, 3) := by decide +kernel
theorem dX5_isAgainst_15 : decode cX5_isAgainst 15 = .ok (.iload_n 1, 1) := by decide +kernel
theorem dX5_isAgainst_16 : decode cX5_isAgainst 16 = .ok (.iaload, 1) := by decide +kernel
theorem dX5_isAgainst_17 : decode cX5_isAgainst 17 = .ok (.if_icmp .eq 5, 3) := by decide +kernel
theorem dX5_isAgainst_20 : decode cX5_isAgainst 20 = .ok (.iconst 0, 1) := by decide +kernel
theorem dX5_isAgainst_21 : decode cX5_isAgainst 21 = .ok (.ireturn, 1) := by decide +kernel
theorem dX5_isAgainst_22 : decode cX5_isAgainst 22 = .ok (.aload_n 3, 1) := by decide +kernel
theorem dX5_isAgainst_23 : decode cX5_isAgainst 23 = .ok (.iload_n 2, 1) := by decide +kernel
theorem dX5_isAgainst_24 : decode cX5_isAgainst 24 = .ok (.aload_n 0, 1) := by decide +kernel
theorem dX5_isAgainst_25 : decode cX5_isAgainst 25 = .ok (.getfield 26, 3) := by decide +kernel
theorem dX5_isAgainst_28 : decode cX5_isAgainst 28 = .ok (.iload_n 1, 1) := by decide +kernel
theorem dX5_isAgainst_29 : decode cX5_isAgainst 29 = .ok (.iaload, 1) := by decide +kernel
theorem dX5_isAgainst_30 : decode cX5_isAgainst 30 = .ok (.invokevirtual 36, 3) := by decide +kernel
theorem dX5_isAgainst_33 : decode cX5_isAgainst 33 = .ok (.aload_n 0, 1) := by decide +kernel
theorem dX5_isAgainst_34 : decode cX5_isAgainst 34 = .ok (.getfield 29, 3) := by decide +kernel
theorem dX5_isAgainst_37 : decode cX5_isAgainst 37 = .ok (.iload_n 1, 1) := by decide +kernel
theorem dX5_isAgainst_38 : decode cX5_isAgainst 38 = .ok (.iaload, 1) := by decide +kernel
theorem dX5_isAgainst_39 : decode cX5_isAgainst 39 = .ok (.if_icmp .ne 7, 3) := by decide +kernel
theorem dX5_isAgainst_42 : decode cX5_isAgainst 42 = .ok (.iconst 1, 1) := by decide +kernel
theorem dX5_isAgainst_43 : decode cX5_isAgainst 43 = .ok (.goto 4, 3) := by decide +kernel
theorem dX5_isAgainst_46 : decode cX5_isAgainst 46 = .ok (.iconst 0, 1) := by decide +kernel
theorem dX5_isAgainst_47 : decode cX5_isAgainst 47 = .ok (.istore 4, 2) := by decide +kernel
theorem dX5_isAgainst_49 : decode cX5_isAgainst 49 = .ok (.iload 4, 2) := by decide +kernel
theorem dX5_isAgainst_51 : decode cX5_isAgainst 51 = .ok (.aload_n 0, 1) := by decide +kernel
theorem dX5_isAgainst_52 : decode cX5_isAgainst 52 = .ok (.getfield 15, 3) := by decide +kernel
theorem dX5_isAgainst_55 : decode cX5_isAgainst 55 = .ok (.iload_n 1, 1) := by decide +kernel
theorem dX5_isAgainst_56 : decode cX5_isAgainst 56 = .ok (.baload, 1) := by decide +kernel
theorem dX5_isAgainst_57 : decode cX5_isAgainst 57 = .ok (.if_icmp .eq 7, 3) := by decide +kernel
theorem dX5_isAgainst_60 : decode cX5_isAgainst 60 = .ok (.iconst 1, 1) := by decide +kernel
theorem dX5_isAgainst_61 : decode cX5_isAgainst 61 = .ok (.goto 4, 3) := by decide +kernel
theorem dX5_isAgainst_64 : decode cX5_isAgainst 64 = .ok (.iconst 0, 1) := by decide +kernel
theorem dX5_isAgainst_65 : decode cX5_isAgainst 65 = .ok (.ireturn, 1) := by decide +kernel
theorem dX6_init_0 : decode cX6_init 0 = .ok (.aload_n 0, 1) := by decide +kernel
theorem dX6_init_1 : decode cX6_init 1 = .ok (.invokespecial 3, 3) := by decide +kernel
theorem dX6_init_4 : decode cX6_init 4 = .ok (.aload_n 0, 1) := by decide +kernel
theorem dX6_init_5 : decode cX6_init 5 = .ok (.iconst 0, 1) := by decide +kernel
theorem dX6_init_6 : decode cX6_init 6 = .ok (.putfield 9, 3) := by decide +kernel
theorem dX6_init_9 : decode cX6_init 9 = .ok (.aload_n 0, 1) := by decide +kernel
theorem dX6_init_10 : decode cX6_init 10 = .ok (.iconst 0, 1) := by decide +kernel
theorem dX6_init_11 : decode cX6_init 11 = .ok (.putfield 15, 3) := by decide +kernel
theorem dX6_init_14 : decode cX6_init 14 = .ok (.aload_n 0, 1) := by decide +kernel
theorem dX6_init_15 : decode cX6_init 15 = .ok (.iconst 1, 1) := by decide +kernel
theorem dX6_init_16 : decode cX6_init 16 = .ok (.putfield 18, 3) := by decide +kernel
theorem dX6_init_19 : decode cX6_init 19 = .ok (.aload_n 0, 1) := by decide +kernel
theorem dX6_init_20 : decode cX6_init 20 = .ok (.bipush 60, 2) := by decide +kernel
theorem dX6_init_22 : decode cX6_init 22 = .ok (.newarray .int, 2) := by decide +kernel
theorem dX6_init_24 : decode cX6_init 24 = .ok (.putfield 21, 3) := by decide +kernel
theorem dX6_init_27 : decode cX6_init 27 = .ok (.aload_n 0, 1) := by decide +kernel
theorem dX6_init_28 : decode cX6_init 28 = .ok (.bipush 60, 2) := by decide +kernel
theorem dX6_init_30 : decode cX6_init 30 = .ok (.newarray .int, 2) := by decide +kernel
theorem dX6_init_32 : decode cX6_init 32 = .ok (.putfield 25, 3) := by decide +kernel
theorem dX6_init_35 : decode cX6_init 35 = .ok (.return_, 1) := by decide +kernel
theorem dX6_howMany_0 : decode cX6_howMany 0 = .ok (.aload_n 0, 1) := by decide +kernel
theorem dX6_howMany_1 : decode cX6_howMany 1 = .ok (.getfield 9, 3) := by decide +kernel
theorem dX6_howMany_4 : decode cX6_howMany 4 = .ok (.ireturn, 1) := by decide +kernel
theorem dX6_isFull_0 : decode cX6_isFull 0 = .ok (.aload_n 0, 1) := by decide +kernel
theorem dX6_isFull_1 : decode cX6_isFull 1 = .ok (.getfield 9, 3) := by decide +kernel
theorem dX6_isFull_4 : decode cX6_isFull 4 = .ok (.bipush 60, 2) := by decide +kernel
theorem dX6_isFull_6 : decode cX6_isFull 6 = .ok (.if_icmp .lt 7, 3) := by decide +kernel
theorem dX6_isFull_9 : decode cX6_isFull 9 = .ok (.iconst 1, 1) := by decide +kernel
theorem dX6_isFull_10 : decode cX6_isFull 10 = .ok (.goto 4, 3) := by decide +kernel
theorem dX6_isFull_13 : decode cX6_isFull 13 = .ok (.iconst 0, 1) := by decide +kernel
theorem dX6_isFull_14 : decode cX6_isFull 14 = .ok (.ireturn, 1) := by decide +kernel
theorem dX6_has_0 : decode cX6_has 0 = .ok (.iload_n 1, 1) := by decide +kernel
theorem dX6_has_1 : decode cX6_has 1 = .ok (.ifCond .lt 15, 3) := by decide +kernel
theorem dX6_has_4 : decode cX6_has 4 = .ok (.iload_n 1, 1) := by decide +kernel
theorem dX6_has_5 : decode cX6_has 5 = .ok (.aload_n 0, 1) := by decide +kernel
theorem dX6_has_6 : decode cX6_has 6 = .ok (.getfield 9, 3) := by decide +kernel
theorem dX6_has_9 : decode cX6_has 9 = .ok (.if_icmp .ge 7, 3) := by decide +kernel
theorem dX6_has_12 : decode cX6_has 12 = .ok (.iconst 1, 1) := by decide +kernel
theorem dX6_has_13 : decode cX6_has 13 = .ok (.goto 4, 3) := by decide +kernel
theorem dX6_has_16 : decode cX6_has 16 = .ok (.iconst 0, 1) := by decide +kernel
theorem dX6_has_17 : decode cX6_has 17 = .ok (.ireturn, 1) := by decide +kernel
theorem dX6_settingAt_0 : decode cX6_settingAt 0 = .ok (.aload_n 0, 1) := by decide +kernel
theorem dX6_settingAt_1 : decode cX6_settingAt 1 = .ok (.getfield 21, 3) := by decide +kernel
theorem dX6_settingAt_4 : decode cX6_settingAt 4 = .ok (.iload_n 1, 1) := by decide +kernel
theorem dX6_settingAt_5 : decode cX6_settingAt 5 = .ok (.iaload, 1) := by decide +kernel
theorem dX6_settingAt_6 : decode cX6_settingAt 6 = .ok (.ireturn, 1) := by decide +kernel
theorem dX6_readingAt_0 : decode cX6_readingAt 0 = .ok (.aload_n 0, 1) := by decide +kernel
theorem dX6_readingAt_1 : decode cX6_readingAt 1 = .ok (.getfield 25, 3) := by decide +kernel
theorem dX6_readingAt_4 : decode cX6_readingAt 4 = .ok (.iload_n 1, 1) := by decide +kernel
theorem dX6_readingAt_5 : decode cX6_readingAt 5 = .ok (.iaload, 1) := by decide +kernel
theorem dX6_readingAt_6 : decode cX6_readingAt 6 = .ok (.ireturn, 1) := by decide +kernel
theorem dX6_currentNoise_0 : decode cX6_currentNoise 0 = .ok (.aload_n 0, 1) := by decide +kernel
theorem dX6_currentNoise_1 : decode cX6_currentNoise 1 = .ok (.getfield 15, 3) := by decide +kernel
theorem dX6_currentNoise_4 : decode cX6_currentNoise 4 = .ok (.ireturn, 1) := by decide +kernel
theorem dX6_changeNoise_0 : decode cX6_changeNoise 0 = .ok (.aload_n 0, 1) := by decide +kernel
theorem dX6_changeNoise_1 : decode cX6_changeNoise 1 = .ok (.getfield 15, 3) := by decide +kernel
theorem dX6_changeNoise_4 : decode cX6_changeNoise 4 = .ok (.istore_n 2, 1) := by decide +kernel
theorem dX6_changeNoise_5 : decode cX6_changeNoise 5 = .ok (.aload_n 0, 1) := by decide +kernel
theorem dX6_changeNoise_6 : decode cX6_changeNoise 6 = .ok (.iload_n 1, 1) := by decide +kernel
theorem dX6_changeNoise_7 : decode cX6_changeNoise 7 = .ok (.putfield 15, 3) := by decide +kernel
theorem dX6_changeNoise_10 : decode cX6_changeNoise 10 = .ok (.iload_n 2, 1) := by decide +kernel
theorem dX6_changeNoise_11 : decode cX6_changeNoise 11 = .ok (.ireturn, 1) := by decide +kernel
theorem dX6_changeSeed_0 : decode cX6_changeSeed 0 = .ok (.aload_n 0, 1) := by decide +kernel
theorem dX6_changeSeed_1 : decode cX6_changeSeed 1 = .ok (.iload_n 1, 1) := by decide +kernel
theorem dX6_changeSeed_2 : decode cX6_changeSeed 2 = .ok (.putfield 18, 3) := by decide +kernel
theorem dX6_changeSeed_5 : decode cX6_changeSeed 5 = .ok (.return_, 1) := by decide +kernel
theorem dX6_clear_0 : decode cX6_clear 0 = .ok (.aload_n 0, 1) := by decide +kernel
theorem dX6_clear_1 : decode cX6_clear 1 = .ok (.iconst 0, 1) := by decide +kernel
theorem dX6_clear_2 : decode cX6_clear 2 = .ok (.putfield 9, 3) := by decide +kernel
theorem dX6_clear_5 : decode cX6_clear 5 = .ok (.return_, 1) := by decide +kernel
theorem dX6_add_0 : decode cX6_add 0 = .ok (.aload_n 0, 1) := by decide +kernel
theorem dX6_add_1 : decode cX6_add 1 = .ok (.getfield 21, 3) := by decide +kernel
theorem dX6_add_4 : decode cX6_add 4 = .ok (.aload_n 0, 1) := by decide +kernel
theorem dX6_add_5 : decode cX6_add 5 = .ok (.getfield 9, 3) := by decide +kernel
theorem dX6_add_8 : decode cX6_add 8 = .ok (.iload_n 1, 1) := by decide +kernel
theorem dX6_add_9 : decode cX6_add 9 = .ok (.iastore, 1) := by decide +kernel
theorem dX6_add_10 : decode cX6_add 10 = .ok (.aload_n 0, 1) := by decide +kernel
theorem dX6_add_11 : decode cX6_add 11 = .ok (.getfield 25, 3) := by decide +kernel
theorem dX6_add_14 : decode cX6_add 14 = .ok (.aload_n 0, 1) := by decide +kernel
theorem dX6_add_15 : decode cX6_add 15 = .ok (.getfield 9, 3) := by decide +kernel
theorem dX6_add_18 : decode cX6_add 18 = .ok (.iload_n 2, 1) := by decide +kernel
theorem dX6_add_19 : decode cX6_add 19 = .ok (.aload_n 0, 1) := by decide +kernel
theorem dX6_add_20 : decode cX6_add 20 = .ok (.invokevirtual 28, 3) := by decide +kernel
theorem dX6_add_23 : decode cX6_add 23 = .ok (.iadd, 1) := by decide +kernel
theorem dX6_add_24 : decode cX6_add 24 = .ok (.iastore, 1) := by decide +kernel
theorem dX6_add_25 : decode cX6_add 25 = .ok (.aload_n 0, 1) := by decide +kernel
theorem dX6_add_26 : decode cX6_add 26 = .ok (.dup, 1) := by decide +kernel
theorem dX6_add_27 : decode cX6_add 27 = .ok (.getfield 9, 3) := by decide +kernel
theorem dX6_add_30 : decode cX6_add 30 = .ok (.iconst 1, 1) := by decide +kernel
theorem dX6_add_31 : decode cX6_add 31 = .ok (.iadd, 1) := by decide +kernel
theorem dX6_add_32 : decode cX6_add 32 = .ok (.putfield 9, 3) := by decide +kernel
theorem dX6_add_35 : decode cX6_add 35 = .ok (.return_, 1) := by decide +kernel
theorem dX6_drawNoise_0 : decode cX6_drawNoise 0 = .ok (.aload_n 0, 1) := by decide +kernel
theorem dX6_drawNoise_1 : decode cX6_drawNoise 1 = .ok (.aload_n 0, 1) := by decide +kernel
theorem dX6_drawNoise_2 : decode cX6_drawNoise 2 = .ok (.getfield 18, 3) := by decide +kernel
theorem dX6_drawNoise_5 : decode cX6_drawNoise 5 = .ok (.i2l, 1) := by decide +kernel
theorem dX6_drawNoise_6 : decode cX6_drawNoise 6 = .ok (.ldc2_w 32, 3) := by decide +kernel
theorem dX6_drawNoise_9 : decode cX6_drawNoise 9 = .ok (.lmul, 1) := by decide +kernel
theorem dX6_drawNoise_10 : decode cX6_drawNoise 10 = .ok (.ldc2_w 34, 3) := by decide +kernel
theorem dX6_drawNoise_13 : decode cX6_drawNoise 13 = .ok (.ladd, 1) := by decide +kernel
theorem dX6_drawNoise_14 : decode cX6_drawNoise 14 = .ok (.ldc2_w 36, 3) := by decide +kernel
theorem dX6_drawNoise_17 : decode cX6_drawNoise 17 = .ok (.lrem, 1) := by decide +kernel
theorem dX6_drawNoise_18 : decode cX6_drawNoise 18 = .ok (.l2i, 1) := by decide +kernel
theorem dX6_drawNoise_19 : decode cX6_drawNoise 19 = .ok (.putfield 18, 3) := by decide +kernel
theorem dX6_drawNoise_22 : decode cX6_drawNoise 22 = .ok (.aload_n 0, 1) := by decide +kernel
theorem dX6_drawNoise_23 : decode cX6_drawNoise 23 = .ok (.getfield 18, 3) := by decide +kernel
theorem dX6_drawNoise_26 : decode cX6_drawNoise 26 = .ok (.bipush 64, 2) := by decide +kernel
theorem dX6_drawNoise_28 : decode cX6_drawNoise 28 = .ok (.idiv, 1) := by decide +kernel
theorem dX6_drawNoise_29 : decode cX6_drawNoise 29 = .ok (.iconst 2, 1) := by decide +kernel
theorem dX6_drawNoise_30 : decode cX6_drawNoise 30 = .ok (.aload_n 0, 1) := by decide +kernel
theorem dX6_drawNoise_31 : decode cX6_drawNoise 31 = .ok (.getfield 15, 3) := by decide +kernel
theorem dX6_drawNoise_34 : decode cX6_drawNoise 34 = .ok (.imul, 1) := by decide +kernel
theorem dX6_drawNoise_35 : decode cX6_drawNoise 35 = .ok (.iconst 1, 1) := by decide +kernel
theorem dX6_drawNoise_36 : decode cX6_drawNoise 36 = .ok (.iadd, 1) := by decide +kernel
theorem dX6_drawNoise_37 : decode cX6_drawNoise 37 = .ok (.irem, 1) := by decide +kernel
theorem dX6_drawNoise_38 : decode cX6_drawNoise 38 = .ok (.aload_n 0, 1) := by decide +kernel
theorem dX6_drawNoise_39 : decode cX6_drawNoise 39 = .ok (.getfield 15, 3) := by decide +kernel
theorem dX6_drawNoise_42 : decode cX6_drawNoise 42 = .ok (.isub, 1) := by decide +kernel
theorem dX6_drawNoise_43 : decode cX6_drawNoise 43 = .ok (.ireturn, 1) := by decide +kernel
theorem dX6_firstOf_0 : decode cX6_firstOf 0 = .ok (.iconst 0, 1) := by decide +kernel
theorem dX6_firstOf_1 : decode cX6_firstOf 1 = .ok (.istore_n 2, 1) := by decide +kernel
theorem dX6_firstOf_2 : decode cX6_firstOf 2 = .ok (.iload_n 2, 1) := by decide +kernel
theorem dX6_firstOf_3 : decode cX6_firstOf 3 = .ok (.aload_n 0, 1) := by decide +kernel
theorem dX6_firstOf_4 : decode cX6_firstOf 4 = .ok (.getfield 9, 3) := by decide +kernel
theorem dX6_firstOf_7 : decode cX6_firstOf 7 = .ok (.if_icmp .ge 21, 3) := by decide +kernel
theorem dX6_firstOf_10 : decode cX6_firstOf 10 = .ok (.aload_n 0, 1) := by decide +kernel
theorem dX6_firstOf_11 : decode cX6_firstOf 11 = .ok (.getfield 21, 3) := by decide +kernel
theorem dX6_firstOf_14 : decode cX6_firstOf 14 = .ok (.iload_n 2, 1) := by decide +kernel
theorem dX6_firstOf_15 : decode cX6_firstOf 15 = .ok (.iaload, 1) := by decide +kernel
theorem dX6_firstOf_16 : decode cX6_firstOf 16 = .ok (.iload_n 1, 1) := by decide +kernel
theorem dX6_firstOf_17 : decode cX6_firstOf 17 = .ok (.if_icmp .ne 5, 3) := by decide +kernel
theorem dX6_firstOf_20 : decode cX6_firstOf 20 = .ok (.iload_n 2, 1) := by decide +kernel
theorem dX6_firstOf_21 : decode cX6_firstOf 21 = .ok (.ireturn, 1) := by decide +kernel
theorem dX6_firstOf_22 : decode cX6_firstOf 22 = .ok (.iinc 2 1, 3) := by decide +kernel
theorem dX6_firstOf_25 : decode cX6_firstOf 25 = .ok (.goto (-23), 3) := by decide +kernel
theorem dX6_firstOf_28 : decode cX6_firstOf 28 = .ok (.bipush (-4), 2) := by decide +kernel
theorem dX6_firstOf_30 : decode cX6_firstOf 30 = .ok (.ireturn, 1) := by decide +kernel
theorem dX6_howManySettings_0 : decode cX6_howManySettings 0 = .ok (.iconst 0, 1) := by decide +kernel
theorem dX6_howManySettings_1 : decode cX6_howManySettings 1 = .ok (.istore_n 1, 1) := by decide +kernel
theorem dX6_howManySettings_2 : decode cX6_howManySettings 2 = .ok (.iconst 0, 1) := by decide +kernel
theorem dX6_howManySettings_3 : decode cX6_howManySettings 3 = .ok (.istore_n 2, 1) := by decide +kernel
theorem dX6_howManySettings_4 : decode cX6_howManySettings 4 = .ok (.iload_n 2, 1) := by decide +kernel
theorem dX6_howManySettings_5 : decode cX6_howManySettings 5 = .ok (.aload_n 0, 1) := by decide +kernel
theorem dX6_howManySettings_6 : decode cX6_howManySettings 6 = .ok (.getfield 9, 3) := by decide +kernel
theorem dX6_howManySettings_9 : decode cX6_howManySettings 9 = .ok (.if_icmp .ge 26, 3) := by decide +kernel
theorem dX6_howManySettings_12 : decode cX6_howManySettings 12 = .ok (.aload_n 0, 1) := by decide +kernel
theorem dX6_howManySettings_13 : decode cX6_howManySettings 13 = .ok (.aload_n 0, 1) := by decide +kernel
theorem dX6_howManySettings_14 : decode cX6_howManySettings 14 = .ok (.getfield 21, 3) := by decide +kernel
theorem dX6_howManySettings_17 : decode cX6_howManySettings 17 = .ok (.iload_n 2, 1) := by decide +kernel
theorem dX6_howManySettings_18 : decode cX6_howManySettings 18 = .ok (.iaload, 1) := by decide +kernel
theorem dX6_howManySettings_19 : decode cX6_howManySettings 19 = .ok (.invokevirtual 38, 3) := by decide +kernel
theorem dX6_howManySettings_22 : decode cX6_howManySettings 22 = .ok (.iload_n 2, 1) := by decide +kernel
theorem dX6_howManySettings_23 : decode cX6_howManySettings 23 = .ok (.if_icmp .ne 6, 3) := by decide +kernel
theorem dX6_howManySettings_26 : decode cX6_howManySettings 26 = .ok (.iinc 1 1, 3) := by decide +kernel
theorem dX6_howManySettings_29 : decode cX6_howManySettings 29 = .ok (.iinc 2 1, 3) := by decide +kernel
theorem dX6_howManySettings_32 : decode cX6_howManySettings 32 = .ok (.goto (-28), 3) := by decide +kernel
theorem dX6_howManySettings_35 : decode cX6_howManySettings 35 = .ok (.iload_n 1, 1) := by decide +kernel
theorem dX6_howManySettings_36 : decode cX6_howManySettings 36 = .ok (.ireturn, 1) := by decide +kernel
theorem dJ7_fill_53178_0 : decode cJ7_fill_53178 0 = .ok (.iconst 0, 1) := by decide +kernel
theorem dJ7_fill_53178_1 : decode cJ7_fill_53178 1 = .ok (.istore_n 2, 1) := by decide +kernel
theorem dJ7_fill_53178_2 : decode cJ7_fill_53178 2 = .ok (.aload_n 0, 1) := by decide +kernel
theorem dJ7_fill_53178_3 : decode cJ7_fill_53178 3 = .ok (.arraylength, 1) := by decide +kernel
theorem dJ7_fill_53178_4 : decode cJ7_fill_53178 4 = .ok (.istore_n 3, 1) := by decide +kernel
theorem dJ7_fill_53178_5 : decode cJ7_fill_53178 5 = .ok (.iload_n 2, 1) := by decide +kernel
theorem dJ7_fill_53178_6 : decode cJ7_fill_53178 6 = .ok (.iload_n 3, 1) := by decide +kernel
theorem dJ7_fill_53178_7 : decode cJ7_fill_53178 7 = .ok (.if_icmp .ge 13, 3) := by decide +kernel
theorem dJ7_fill_53178_10 : decode cJ7_fill_53178 10 = .ok (.aload_n 0, 1) := by decide +kernel
theorem dJ7_fill_53178_11 : decode cJ7_fill_53178 11 = .ok (.iload_n 2, 1) := by decide +kernel
theorem dJ7_fill_53178_12 : decode cJ7_fill_53178 12 = .ok (.iload_n 1, 1) := by decide +kernel
theorem dJ7_fill_53178_13 : decode cJ7_fill_53178 13 = .ok (.iastore, 1) := by decide +kernel
theorem dJ7_fill_53178_14 : decode cJ7_fill_53178 14 = .ok (.iinc 2 1, 3) := by decide +kernel
theorem dJ7_fill_53178_17 : decode cJ7_fill_53178 17 = .ok (.goto (-12), 3) := by decide +kernel
theorem dJ7_fill_53178_20 : decode cJ7_fill_53178 20 = .ok (.return_, 1) := by decide +kernel
