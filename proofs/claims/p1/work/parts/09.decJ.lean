theorem d_JObject_init_0 : decode object_method_1_code 0 = .ok (.return_, 1) := by decide +kernel
theorem d_JArrayList_init_0 : decode prog_24_method_2_code 0 = .ok (.aload_n 0, 1) := by decide +kernel
theorem d_JArrayList_init_1 : decode prog_24_method_2_code 1 = .ok (.invokespecial 1, 3) := by decide +kernel
theorem d_JArrayList_init_4 : decode prog_24_method_2_code 4 = .ok (.aload_n 0, 1) := by decide +kernel
theorem d_JArrayList_init_5 : decode prog_24_method_2_code 5 = .ok (.getstatic 39, 3) := by decide +kernel
theorem d_JArrayList_init_8 : decode prog_24_method_2_code 8 = .ok (.putfield 9, 3) := by decide +kernel
theorem d_JArrayList_init_11 : decode prog_24_method_2_code 11 = .ok (.return_, 1) := by decide +kernel
theorem d_JAbstractList_init_0 : decode prog_23_method_1_code 0 = .ok (.aload_n 0, 1) := by decide +kernel
theorem d_JAbstractList_init_1 : decode prog_23_method_1_code 1 = .ok (.invokespecial 1, 3) := by decide +kernel
theorem d_JAbstractList_init_4 : decode prog_23_method_1_code 4 = .ok (.aload_n 0, 1) := by decide +kernel
theorem d_JAbstractList_init_5 : decode prog_23_method_1_code 5 = .ok (.iconst 0, 1) := by decide +kernel
theorem d_JAbstractList_init_6 : decode prog_23_method_1_code 6 = .ok (.putfield 7, 3) := by decide +kernel
theorem d_JAbstractList_init_9 : decode prog_23_method_1_code 9 = .ok (.return_, 1) := by decide +kernel
theorem d_JAbstractCollection_init_0 : decode prog_22_method_1_code 0 = .ok (.aload_n 0, 1) := by decide +kernel
theorem d_JAbstractCollection_init_1 : decode prog_22_method_1_code 1 = .ok (.invokespecial 1, 3) := by decide +kernel
theorem d_JAbstractCollection_init_4 : decode prog_22_method_1_code 4 = .ok (.return_, 1) := by decide +kernel
theorem d_JArrayList_clear_0 : decode prog_24_method_40_code 0 = .ok (.aload_n 0, 1) := by decide +kernel
theorem d_JArrayList_clear_1 : decode prog_24_method_40_code 1 = .ok (.dup, 1) := by decide +kernel
theorem d_JArrayList_clear_2 : decode prog_24_method_40_code 2 = .ok (.getfield 63, 3) := by decide +kernel
theorem d_JArrayList_clear_5 : decode prog_24_method_40_code 5 = .ok (.iconst 1, 1) := by decide +kernel
theorem d_JArrayList_clear_6 : decode prog_24_method_40_code 6 = .ok (.iadd, 1) := by decide +kernel
theorem d_JArrayList_clear_7 : decode prog_24_method_40_code 7 = .ok (.putfield 63, 3) := by decide +kernel
theorem d_JArrayList_clear_10 : decode prog_24_method_40_code 10 = .ok (.aload_n 0, 1) := by decide +kernel
theorem d_JArrayList_clear_11 : decode prog_24_method_40_code 11 = .ok (.getfield 9, 3) := by decide +kernel
theorem d_JArrayList_clear_14 : decode prog_24_method_40_code 14 = .ok (.astore_n 1, 1) := by decide +kernel
theorem d_JArrayList_clear_15 : decode prog_24_method_40_code 15 = .ok (.aload_n 0, 1) := by decide +kernel
theorem d_JArrayList_clear_16 : decode prog_24_method_40_code 16 = .ok (.getfield 48, 3) := by decide +kernel
theorem d_JArrayList_clear_19 : decode prog_24_method_40_code 19 = .ok (.istore_n 2, 1) := by decide +kernel
theorem d_JArrayList_clear_20 : decode prog_24_method_40_code 20 = .ok (.aload_n 0, 1) := by decide +kernel
theorem d_JArrayList_clear_21 : decode prog_24_method_40_code 21 = .ok (.iconst 0, 1) := by decide +kernel
theorem d_JArrayList_clear_22 : decode prog_24_method_40_code 22 = .ok (.dup_x1, 1) := by decide +kernel
theorem d_JArrayList_clear_23 : decode prog_24_method_40_code 23 = .ok (.putfield 48, 3) := by decide +kernel
theorem d_JArrayList_clear_26 : decode prog_24_method_40_code 26 = .ok (.istore_n 3, 1) := by decide +kernel
theorem d_JArrayList_clear_27 : decode prog_24_method_40_code 27 = .ok (.iload_n 3, 1) := by decide +kernel
theorem d_JArrayList_clear_28 : decode prog_24_method_40_code 28 = .ok (.iload_n 2, 1) := by decide +kernel
theorem d_JArrayList_clear_29 : decode prog_24_method_40_code 29 = .ok (.if_icmp .ge 13, 3) := by decide +kernel
theorem d_JArrayList_clear_32 : decode prog_24_method_40_code 32 = .ok (.aload_n 1, 1) := by decide +kernel
theorem d_JArrayList_clear_33 : decode prog_24_method_40_code 33 = .ok (.iload_n 3, 1) := by decide +kernel
theorem d_JArrayList_clear_34 : decode prog_24_method_40_code 34 = .ok (.aconst_null, 1) := by decide +kernel
theorem d_JArrayList_clear_35 : decode prog_24_method_40_code 35 = .ok (.aastore, 1) := by decide +kernel
theorem d_JArrayList_clear_36 : decode prog_24_method_40_code 36 = .ok (.iinc 3 1, 3) := by decide +kernel
theorem d_JArrayList_clear_39 : decode prog_24_method_40_code 39 = .ok (.goto (-12), 3) := by decide +kernel
theorem d_JArrayList_clear_42 : decode prog_24_method_40_code 42 = .ok (.return_, 1) := by decide +kernel
theorem d_JArrayList_size_0 : decode prog_24_method_8_code 0 = .ok (.aload_n 0, 1) := by decide +kernel
theorem d_JArrayList_size_1 : decode prog_24_method_8_code 1 = .ok (.getfield 48, 3) := by decide +kernel
theorem d_JArrayList_size_4 : decode prog_24_method_8_code 4 = .ok (.ireturn, 1) := by decide +kernel
theorem d_JMath_max_0 : decode prog_17_method_65_code 0 = .ok (.iload_n 0, 1) := by decide +kernel
theorem d_JMath_max_1 : decode prog_17_method_65_code 1 = .ok (.iload_n 1, 1) := by decide +kernel
theorem d_JMath_max_2 : decode prog_17_method_65_code 2 = .ok (.if_icmp .lt 7, 3) := by decide +kernel
theorem d_JMath_max_5 : decode prog_17_method_65_code 5 = .ok (.iload_n 0, 1) := by decide +kernel
theorem d_JMath_max_6 : decode prog_17_method_65_code 6 = .ok (.goto 4, 3) := by decide +kernel
theorem d_JMath_max_9 : decode prog_17_method_65_code 9 = .ok (.iload_n 1, 1) := by decide +kernel
theorem d_JMath_max_10 : decode prog_17_method_65_code 10 = .ok (.ireturn, 1) := by decide +kernel
theorem d_JMath_min_0 : decode prog_17_method_69_code 0 = .ok (.iload_n 0, 1) := by decide +kernel
theorem d_JMath_min_1 : decode prog_17_method_69_code 1 = .ok (.iload_n 1, 1) := by decide +kernel
theorem d_JMath_min_2 : decode prog_17_method_69_code 2 = .ok (.if_icmp .gt 7, 3) := by decide +kernel
theorem d_JMath_min_5 : decode prog_17_method_69_code 5 = .ok (.iload_n 0, 1) := by decide +kernel
theorem d_JMath_min_6 : decode prog_17_method_69_code 6 = .ok (.goto 4, 3) := by decide +kernel
theorem d_JMath_min_9 : decode prog_17_method_69_code 9 = .ok (.iload_n 1, 1) := by decide +kernel
theorem d_JMath_min_10 : decode prog_17_method_69_code 10 = .ok (.ireturn, 1) := by decide +kernel
theorem d_JArrays_copyOf_0_0 : decode prog_25_method_121_code 0 = .ok (.iload_n 1, 1) := by decide +kernel
theorem d_JArrays_copyOf_0_1 : decode prog_25_method_121_code 1 = .ok (.aload_n 0, 1) := by decide +kernel
theorem d_JArrays_copyOf_0_2 : decode prog_25_method_121_code 2 = .ok (.arraylength, 1) := by decide +kernel
theorem d_JArrays_copyOf_0_3 : decode prog_25_method_121_code 3 = .ok (.if_icmp .ne 11, 3) := by decide +kernel
theorem d_JArrays_copyOf_0_6 : decode prog_25_method_121_code 6 = .ok (.aload_n 0, 1) := by decide +kernel
theorem d_JArrays_copyOf_0_7 : decode prog_25_method_121_code 7 = .ok (.invokevirtual 310, 3) := by decide +kernel
theorem d_JArrays_copyOf_0_10 : decode prog_25_method_121_code 10 = .ok (.checkcast 311, 3) := by decide +kernel
theorem d_JArrays_copyOf_0_13 : decode prog_25_method_121_code 13 = .ok (.areturn, 1) := by decide +kernel
theorem d_JArrays_copyOf_0_14 : decode prog_25_method_121_code 14 = .ok (.iload_n 1, 1) := by decide +kernel
theorem d_JArrays_copyOf_0_15 : decode prog_25_method_121_code 15 = .ok (.newarray .byte, 2) := by decide +kernel
theorem d_JArrays_copyOf_0_17 : decode prog_25_method_121_code 17 = .ok (.astore_n 2, 1) := by decide +kernel
theorem d_JArrays_copyOf_0_18 : decode prog_25_method_121_code 18 = .ok (.aload_n 0, 1) := by decide +kernel
theorem d_JArrays_copyOf_0_19 : decode prog_25_method_121_code 19 = .ok (.iconst 0, 1) := by decide +kernel
theorem d_JArrays_copyOf_0_20 : decode prog_25_method_121_code 20 = .ok (.aload_n 2, 1) := by decide +kernel
theorem d_JArrays_copyOf_0_21 : decode prog_25_method_121_code 21 = .ok (.iconst 0, 1) := by decide +kernel
theorem d_JArrays_copyOf_0_22 : decode prog_25_method_121_code 22 = .ok (.aload_n 0, 1) := by decide +kernel
theorem d_JArrays_copyOf_0_23 : decode prog_25_method_121_code 23 = .ok (.arraylength, 1) := by decide +kernel
theorem d_JArrays_copyOf_0_24 : decode prog_25_method_121_code 24 = .ok (.iload_n 1, 1) := by decide +kernel
theorem d_JArrays_copyOf_0_25 : decode prog_25_method_121_code 25 = .ok (.invokestatic 304, 3) := by decide +kernel
theorem d_JArrays_copyOf_0_28 : decode prog_25_method_121_code 28 = .ok (.invokestatic 150, 3) := by decide +kernel
theorem d_JArrays_copyOf_0_31 : decode prog_25_method_121_code 31 = .ok (.aload_n 2, 1) := by decide +kernel
theorem d_JArrays_copyOf_0_32 : decode prog_25_method_121_code 32 = .ok (.areturn, 1) := by decide +kernel
theorem d_JArrays_fill_0 : decode prog_25_method_110_code 0 = .ok (.aload_n 0, 1) := by decide +kernel
theorem d_JArrays_fill_1 : decode prog_25_method_110_code 1 = .ok (.arraylength, 1) := by decide +kernel
theorem d_JArrays_fill_2 : decode prog_25_method_110_code 2 = .ok (.iload_n 1, 1) := by decide +kernel
theorem d_JArrays_fill_3 : decode prog_25_method_110_code 3 = .ok (.iload_n 2, 1) := by decide +kernel
theorem d_JArrays_fill_4 : decode prog_25_method_110_code 4 = .ok (.invokestatic 13, 3) := by decide +kernel
theorem d_JArrays_fill_7 : decode prog_25_method_110_code 7 = .ok (.iload_n 1, 1) := by decide +kernel
theorem d_JArrays_fill_8 : decode prog_25_method_110_code 8 = .ok (.istore 4, 2) := by decide +kernel
theorem d_JArrays_fill_10 : decode prog_25_method_110_code 10 = .ok (.iload 4, 2) := by decide +kernel
theorem d_JArrays_fill_12 : decode prog_25_method_110_code 12 = .ok (.iload_n 2, 1) := by decide +kernel
theorem d_JArrays_fill_13 : decode prog_25_method_110_code 13 = .ok (.if_icmp .ge 14, 3) := by decide +kernel
theorem d_JArrays_fill_16 : decode prog_25_method_110_code 16 = .ok (.aload_n 0, 1) := by decide +kernel
theorem d_JArrays_fill_17 : decode prog_25_method_110_code 17 = .ok (.iload 4, 2) := by decide +kernel
theorem d_JArrays_fill_19 : decode prog_25_method_110_code 19 = .ok (.iload_n 3, 1) := by decide +kernel
theorem d_JArrays_fill_20 : decode prog_25_method_110_code 20 = .ok (.bastore, 1) := by decide +kernel
theorem d_JArrays_fill_21 : decode prog_25_method_110_code 21 = .ok (.iinc 4 1, 3) := by decide +kernel
theorem d_JArrays_fill_24 : decode prog_25_method_110_code 24 = .ok (.goto (-14), 3) := by decide +kernel
theorem d_JArrays_fill_27 : decode prog_25_method_110_code 27 = .ok (.return_, 1) := by decide +kernel
theorem d_JArrays_rangeCheck_0 : decode prog_25_method_30_code 0 = .ok (.iload_n 1, 1) := by decide +kernel
theorem d_JArrays_rangeCheck_1 : decode prog_25_method_30_code 1 = .ok (.iload_n 2, 1) := by decide +kernel
theorem d_JArrays_rangeCheck_2 : decode prog_25_method_30_code 2 = .ok (.if_icmp .le 44, 3) := by decide +kernel
theorem d_JArrays_rangeCheck_5 : decode prog_25_method_30_code 5 = .ok (.new 43, 3) := by decide +kernel
theorem d_JArrays_rangeCheck_8 : decode prog_25_method_30_code 8 = .ok (.dup, 1) := by decide +kernel
theorem d_JArrays_rangeCheck_9 : decode prog_25_method_30_code 9 = .ok (.new 45, 3) := by decide +kernel
theorem d_JArrays_rangeCheck_12 : decode prog_25_method_30_code 12 = .ok (.dup, 1) := by decide +kernel
theorem d_JArrays_rangeCheck_13 : decode prog_25_method_30_code 13 = .ok (.invokespecial 47, 3) := by decide +kernel
theorem d_JArrays_rangeCheck_16 : decode prog_25_method_30_code 16 = .ok (.ldc 48, 2) := by decide +kernel
theorem d_JArrays_rangeCheck_18 : decode prog_25_method_30_code 18 = .ok (.invokevirtual 50, 3) := by decide +kernel
theorem d_JArrays_rangeCheck_21 : decode prog_25_method_30_code 21 = .ok (.iload_n 1, 1) := by decide +kernel
theorem d_JArrays_rangeCheck_22 : decode prog_25_method_30_code 22 = .ok (.invokevirtual 54, 3) := by decide +kernel
theorem d_JArrays_rangeCheck_25 : decode prog_25_method_30_code 25 = .ok (.ldc 57, 2) := by decide +kernel
theorem d_JArrays_rangeCheck_27 : decode prog_25_method_30_code 27 = .ok (.invokevirtual 50, 3) := by decide +kernel
theorem d_JArrays_rangeCheck_30 : decode prog_25_method_30_code 30 = .ok (.iload_n 2, 1) := by decide +kernel
theorem d_JArrays_rangeCheck_31 : decode prog_25_method_30_code 31 = .ok (.invokevirtual 54, 3) := by decide +kernel
theorem d_JArrays_rangeCheck_34 : decode prog_25_method_30_code 34 = .ok (.ldc 59, 2) := by decide +kernel
theorem d_JArrays_rangeCheck_36 : decode prog_25_method_30_code 36 = .ok (.invokevirtual 50, 3) := by decide +kernel
theorem d_JArrays_rangeCheck_39 : decode prog_25_method_30_code 39 = .ok (.invokevirtual 61, 3) := by decide +kernel
theorem d_JArrays_rangeCheck_42 : decode prog_25_method_30_code 42 = .ok (.invokespecial 65, 3) := by decide +kernel
theorem d_JArrays_rangeCheck_45 : decode prog_25_method_30_code 45 = .ok (.athrow, 1) := by decide +kernel
theorem d_JArrays_rangeCheck_46 : decode prog_25_method_30_code 46 = .ok (.iload_n 1, 1) := by decide +kernel
theorem d_JArrays_rangeCheck_47 : decode prog_25_method_30_code 47 = .ok (.ifCond .ge 12, 3) := by decide +kernel
theorem d_JArrays_rangeCheck_50 : decode prog_25_method_30_code 50 = .ok (.new 68, 3) := by decide +kernel
theorem d_JArrays_rangeCheck_53 : decode prog_25_method_30_code 53 = .ok (.dup, 1) := by decide +kernel
theorem d_JArrays_rangeCheck_54 : decode prog_25_method_30_code 54 = .ok (.iload_n 1, 1) := by decide +kernel
theorem d_JArrays_rangeCheck_55 : decode prog_25_method_30_code 55 = .ok (.invokespecial 70, 3) := by decide +kernel
theorem d_JArrays_rangeCheck_58 : decode prog_25_method_30_code 58 = .ok (.athrow, 1) := by decide +kernel
theorem d_JArrays_rangeCheck_59 : decode prog_25_method_30_code 59 = .ok (.iload_n 2, 1) := by decide +kernel
theorem d_JArrays_rangeCheck_60 : decode prog_25_method_30_code 60 = .ok (.iload_n 0, 1) := by decide +kernel
theorem d_JArrays_rangeCheck_61 : decode prog_25_method_30_code 61 = .ok (.if_icmp .le 12, 3) := by decide +kernel
theorem d_JArrays_rangeCheck_64 : decode prog_25_method_30_code 64 = .ok (.new 68, 3) := by decide +kernel
theorem d_JArrays_rangeCheck_67 : decode prog_25_method_30_code 67 = .ok (.dup, 1) := by decide +kernel
theorem d_JArrays_rangeCheck_68 : decode prog_25_method_30_code 68 = .ok (.iload_n 2, 1) := by decide +kernel
theorem d_JArrays_rangeCheck_69 : decode prog_25_method_30_code 69 = .ok (.invokespecial 70, 3) := by decide +kernel
theorem d_JArrays_rangeCheck_72 : decode prog_25_method_30_code 72 = .ok (.athrow, 1) := by decide +kernel
theorem d_JArrays_rangeCheck_73 : decode prog_25_method_30_code 73 = .ok (.return_, 1) := by decide +kernel
theorem d_JArrayList_add_0_0 : decode prog_24_method_25_code 0 = .ok (.aload_n 0, 1) := by decide +kernel
theorem d_JArrayList_add_0_1 : decode prog_24_method_25_code 1 = .ok (.dup, 1) := by decide +kernel
theorem d_JArrayList_add_0_2 : decode prog_24_method_25_code 2 = .ok (.getfield 63, 3) := by decide +kernel
theorem d_JArrayList_add_0_5 : decode prog_24_method_25_code 5 = .ok (.iconst 1, 1) := by decide +kernel
theorem d_JArrayList_add_0_6 : decode prog_24_method_25_code 6 = .ok (.iadd, 1) := by decide +kernel
theorem d_JArrayList_add_0_7 : decode prog_24_method_25_code 7 = .ok (.putfield 63, 3) := by decide +kernel
theorem d_JArrayList_add_0_10 : decode prog_24_method_25_code 10 = .ok (.aload_n 0, 1) := by decide +kernel
theorem d_JArrayList_add_0_11 : decode prog_24_method_25_code 11 = .ok (.aload_n 1, 1) := by decide +kernel
theorem d_JArrayList_add_0_12 : decode prog_24_method_25_code 12 = .ok (.aload_n 0, 1) := by decide +kernel
theorem d_JArrayList_add_0_13 : decode prog_24_method_25_code 13 = .ok (.getfield 9, 3) := by decide +kernel
theorem d_JArrayList_add_0_16 : decode prog_24_method_25_code 16 = .ok (.aload_n 0, 1) := by decide +kernel
theorem d_JArrayList_add_0_17 : decode prog_24_method_25_code 17 = .ok (.getfield 48, 3) := by decide +kernel
theorem d_JArrayList_add_0_20 : decode prog_24_method_25_code 20 = .ok (.invokevirtual 131, 3) := by decide +kernel
theorem d_JArrayList_add_0_23 : decode prog_24_method_25_code 23 = .ok (.iconst 1, 1) := by decide +kernel
theorem d_JArrayList_add_0_24 : decode prog_24_method_25_code 24 = .ok (.ireturn, 1) := by decide +kernel
theorem d_JArrayList_add_1_0 : decode prog_24_method_24_code 0 = .ok (.iload_n 3, 1) := by decide +kernel
theorem d_JArrayList_add_1_1 : decode prog_24_method_24_code 1 = .ok (.aload_n 2, 1) := by decide +kernel
theorem d_JArrayList_add_1_2 : decode prog_24_method_24_code 2 = .ok (.arraylength, 1) := by decide +kernel
theorem d_JArrayList_add_1_3 : decode prog_24_method_24_code 3 = .ok (.if_icmp .ne 8, 3) := by decide +kernel
theorem d_JArrayList_add_1_6 : decode prog_24_method_24_code 6 = .ok (.aload_n 0, 1) := by decide +kernel
theorem d_JArrayList_add_1_7 : decode prog_24_method_24_code 7 = .ok (.invokevirtual 129, 3) := by decide +kernel
theorem d_JArrayList_add_1_10 : decode prog_24_method_24_code 10 = .ok (.astore_n 2, 1) := by decide +kernel
theorem d_JArrayList_add_1_11 : decode prog_24_method_24_code 11 = .ok (.aload_n 2, 1) := by decide +kernel
theorem d_JArrayList_add_1_12 : decode prog_24_method_24_code 12 = .ok (.iload_n 3, 1) := by decide +kernel
theorem d_JArrayList_add_1_13 : decode prog_24_method_24_code 13 = .ok (.aload_n 1, 1) := by decide +kernel
theorem d_JArrayList_add_1_14 : decode prog_24_method_24_code 14 = .ok (.aastore, 1) := by decide +kernel
theorem d_JArrayList_add_1_15 : decode prog_24_method_24_code 15 = .ok (.aload_n 0, 1) := by decide +kernel
theorem d_JArrayList_add_1_16 : decode prog_24_method_24_code 16 = .ok (.iload_n 3, 1) := by decide +kernel
theorem d_JArrayList_add_1_17 : decode prog_24_method_24_code 17 = .ok (.iconst 1, 1) := by decide +kernel
theorem d_JArrayList_add_1_18 : decode prog_24_method_24_code 18 = .ok (.iadd, 1) := by decide +kernel
theorem d_JArrayList_add_1_19 : decode prog_24_method_24_code 19 = .ok (.putfield 48, 3) := by decide +kernel
theorem d_JArrayList_add_1_22 : decode prog_24_method_24_code 22 = .ok (.return_, 1) := by decide +kernel
theorem d_JArrayList_grow_0_0 : decode prog_24_method_7_code 0 = .ok (.aload_n 0, 1) := by decide +kernel
theorem d_JArrayList_grow_0_1 : decode prog_24_method_7_code 1 = .ok (.aload_n 0, 1) := by decide +kernel
theorem d_JArrayList_grow_0_2 : decode prog_24_method_7_code 2 = .ok (.getfield 48, 3) := by decide +kernel
theorem d_JArrayList_grow_0_5 : decode prog_24_method_7_code 5 = .ok (.iconst 1, 1) := by decide +kernel
theorem d_JArrayList_grow_0_6 : decode prog_24_method_7_code 6 = .ok (.iadd, 1) := by decide +kernel
theorem d_JArrayList_grow_0_7 : decode prog_24_method_7_code 7 = .ok (.invokevirtual 69, 3) := by decide +kernel
theorem d_JArrayList_grow_0_10 : decode prog_24_method_7_code 10 = .ok (.areturn, 1) := by decide +kernel
theorem d_JArrayList_grow_1_0 : decode prog_24_method_6_code 0 = .ok (.aload_n 0, 1) := by decide +kernel
theorem d_JArrayList_grow_1_1 : decode prog_24_method_6_code 1 = .ok (.getfield 9, 3) := by decide +kernel
theorem d_JArrayList_grow_1_4 : decode prog_24_method_6_code 4 = .ok (.arraylength, 1) := by decide +kernel
theorem d_JArrayList_grow_1_5 : decode prog_24_method_6_code 5 = .ok (.istore_n 2, 1) := by decide +kernel
theorem d_JArrayList_grow_1_6 : decode prog_24_method_6_code 6 = .ok (.iload_n 2, 1) := by decide +kernel
theorem d_JArrayList_grow_1_7 : decode prog_24_method_6_code 7 = .ok (.ifCond .gt 13, 3) := by decide +kernel
theorem d_JArrayList_grow_1_10 : decode prog_24_method_6_code 10 = .ok (.aload_n 0, 1) := by decide +kernel
theorem d_JArrayList_grow_1_11 : decode prog_24_method_6_code 11 = .ok (.getfield 9, 3) := by decide +kernel
theorem d_JArrayList_grow_1_14 : decode prog_24_method_6_code 14 = .ok (.getstatic 39, 3) := by decide +kernel
theorem d_JArrayList_grow_1_17 : decode prog_24_method_6_code 17 = .ok (.if_acmp .eq 28, 3) := by decide +kernel
theorem d_JArrayList_grow_1_20 : decode prog_24_method_6_code 20 = .ok (.iload_n 2, 1) := by decide +kernel
theorem d_JArrayList_grow_1_21 : decode prog_24_method_6_code 21 = .ok (.iload_n 1, 1) := by decide +kernel
theorem d_JArrayList_grow_1_22 : decode prog_24_method_6_code 22 = .ok (.iload_n 2, 1) := by decide +kernel
theorem d_JArrayList_grow_1_23 : decode prog_24_method_6_code 23 = .ok (.isub, 1) := by decide +kernel
theorem d_JArrayList_grow_1_24 : decode prog_24_method_6_code 24 = .ok (.iload_n 2, 1) := by decide +kernel
theorem d_JArrayList_grow_1_25 : decode prog_24_method_6_code 25 = .ok (.iconst 1, 1) := by decide +kernel
theorem d_JArrayList_grow_1_26 : decode prog_24_method_6_code 26 = .ok (.ishr, 1) := by decide +kernel
theorem d_JArrayList_grow_1_27 : decode prog_24_method_6_code 27 = .ok (.invokestatic 73, 3) := by decide +kernel
theorem d_JArrayList_grow_1_30 : decode prog_24_method_6_code 30 = .ok (.istore_n 3, 1) := by decide +kernel
theorem d_JArrayList_grow_1_31 : decode prog_24_method_6_code 31 = .ok (.aload_n 0, 1) := by decide +kernel
theorem d_JArrayList_grow_1_32 : decode prog_24_method_6_code 32 = .ok (.aload_n 0, 1) := by decide +kernel
theorem d_JArrayList_grow_1_33 : decode prog_24_method_6_code 33 = .ok (.getfield 9, 3) := by decide +kernel
theorem d_JArrayList_grow_1_36 : decode prog_24_method_6_code 36 = .ok (.iload_n 3, 1) := by decide +kernel
theorem d_JArrayList_grow_1_37 : decode prog_24_method_6_code 37 = .ok (.invokestatic 66, 3) := by decide +kernel
theorem d_JArrayList_grow_1_40 : decode prog_24_method_6_code 40 = .ok (.dup_x1, 1) := by decide +kernel
theorem d_JArrayList_grow_1_41 : decode prog_24_method_6_code 41 = .ok (.putfield 9, 3) := by decide +kernel
theorem d_JArrayList_grow_1_44 : decode prog_24_method_6_code 44 = .ok (.areturn, 1) := by decide +kernel
theorem d_JArrayList_grow_1_45 : decode prog_24_method_6_code 45 = .ok (.aload_n 0, 1) := by decide +kernel
theorem d_JArrayList_grow_1_46 : decode prog_24_method_6_code 46 = .ok (.bipush 10, 2) := by decide +kernel
theorem d_JArrayList_grow_1_48 : decode prog_24_method_6_code 48 = .ok (.iload_n 1, 1) := by decide +kernel
theorem d_JArrayList_grow_1_49 : decode prog_24_method_6_code 49 = .ok (.invokestatic 79, 3) := by decide +kernel
theorem d_JArrayList_grow_1_52 : decode prog_24_method_6_code 52 = .ok (.anewarray 7, 3) := by decide +kernel
theorem d_JArrayList_grow_1_55 : decode prog_24_method_6_code 55 = .ok (.dup_x1, 1) := by decide +kernel
theorem d_JArrayList_grow_1_56 : decode prog_24_method_6_code 56 = .ok (.putfield 9, 3) := by decide +kernel
theorem d_JArrayList_grow_1_59 : decode prog_24_method_6_code 59 = .ok (.areturn, 1) := by decide +kernel
theorem d_JArraysSupport_newLength_0 : decode prog_32_method_27_code 0 = .ok (.iload_n 0, 1) := by decide +kernel
theorem d_JArraysSupport_newLength_1 : decode prog_32_method_27_code 1 = .ok (.iload_n 1, 1) := by decide +kernel
theorem d_JArraysSupport_newLength_2 : decode prog_32_method_27_code 2 = .ok (.iload_n 2, 1) := by decide +kernel
theorem d_JArraysSupport_newLength_3 : decode prog_32_method_27_code 3 = .ok (.invokestatic 194, 3) := by decide +kernel
theorem d_JArraysSupport_newLength_6 : decode prog_32_method_27_code 6 = .ok (.iadd, 1) := by decide +kernel
theorem d_JArraysSupport_newLength_7 : decode prog_32_method_27_code 7 = .ok (.istore_n 3, 1) := by decide +kernel
theorem d_JArraysSupport_newLength_8 : decode prog_32_method_27_code 8 = .ok (.iconst 0, 1) := by decide +kernel
theorem d_JArraysSupport_newLength_9 : decode prog_32_method_27_code 9 = .ok (.iload_n 3, 1) := by decide +kernel
theorem d_JArraysSupport_newLength_10 : decode prog_32_method_27_code 10 = .ok (.if_icmp .ge 11, 3) := by decide +kernel
theorem d_JArraysSupport_newLength_13 : decode prog_32_method_27_code 13 = .ok (.iload_n 3, 1) := by decide +kernel
theorem d_JArraysSupport_newLength_14 : decode prog_32_method_27_code 14 = .ok (.ldc 200, 2) := by decide +kernel
theorem d_JArraysSupport_newLength_16 : decode prog_32_method_27_code 16 = .ok (.if_icmp .gt 5, 3) := by decide +kernel
theorem d_JArraysSupport_newLength_19 : decode prog_32_method_27_code 19 = .ok (.iload_n 3, 1) := by decide +kernel
theorem d_JArraysSupport_newLength_20 : decode prog_32_method_27_code 20 = .ok (.ireturn, 1) := by decide +kernel
theorem d_JArraysSupport_newLength_21 : decode prog_32_method_27_code 21 = .ok (.iload_n 0, 1) := by decide +kernel
theorem d_JArraysSupport_newLength_22 : decode prog_32_method_27_code 22 = .ok (.iload_n 1, 1) := by decide +kernel
theorem d_JArraysSupport_newLength_23 : decode prog_32_method_27_code 23 = .ok (.invokestatic 201, 3) := by decide +kernel
theorem d_JArraysSupport_newLength_26 : decode prog_32_method_27_code 26 = .ok (.ireturn, 1) := by decide +kernel
theorem d_JArraysSupport_hugeLength_0 : decode prog_32_method_28_code 0 = .ok (.iload_n 0, 1) := by decide +kernel
theorem d_JArraysSupport_hugeLength_1 : decode prog_32_method_28_code 1 = .ok (.iload_n 1, 1) := by decide +kernel
theorem d_JArraysSupport_hugeLength_2 : decode prog_32_method_28_code 2 = .ok (.iadd, 1) := by decide +kernel
theorem d_JArraysSupport_hugeLength_3 : decode prog_32_method_28_code 3 = .ok (.istore_n 2, 1) := by decide +kernel
theorem d_JArraysSupport_hugeLength_4 : decode prog_32_method_28_code 4 = .ok (.iload_n 2, 1) := by decide +kernel
theorem d_JArraysSupport_hugeLength_5 : decode prog_32_method_28_code 5 = .ok (.ifCond .ge 44, 3) := by decide +kernel
theorem d_JArraysSupport_hugeLength_8 : decode prog_32_method_28_code 8 = .ok (.new 204, 3) := by decide +kernel
theorem d_JArraysSupport_hugeLength_11 : decode prog_32_method_28_code 11 = .ok (.dup, 1) := by decide +kernel
theorem d_JArraysSupport_hugeLength_12 : decode prog_32_method_28_code 12 = .ok (.new 89, 3) := by decide +kernel
theorem d_JArraysSupport_hugeLength_15 : decode prog_32_method_28_code 15 = .ok (.dup, 1) := by decide +kernel
theorem d_JArraysSupport_hugeLength_16 : decode prog_32_method_28_code 16 = .ok (.invokespecial 91, 3) := by decide +kernel
theorem d_JArraysSupport_hugeLength_19 : decode prog_32_method_28_code 19 = .ok (.ldc 206, 2) := by decide +kernel
theorem d_JArraysSupport_hugeLength_21 : decode prog_32_method_28_code 21 = .ok (.invokevirtual 94, 3) := by decide +kernel
theorem d_JArraysSupport_hugeLength_24 : decode prog_32_method_28_code 24 = .ok (.iload_n 0, 1) := by decide +kernel
theorem d_JArraysSupport_hugeLength_25 : decode prog_32_method_28_code 25 = .ok (.invokevirtual 98, 3) := by decide +kernel
theorem d_JArraysSupport_hugeLength_28 : decode prog_32_method_28_code 28 = .ok (.ldc 208, 2) := by decide +kernel
theorem d_JArraysSupport_hugeLength_30 : decode prog_32_method_28_code 30 = .ok (.invokevirtual 94, 3) := by decide +kernel
theorem d_JArraysSupport_hugeLength_33 : decode prog_32_method_28_code 33 = .ok (.iload_n 1, 1) := by decide +kernel
theorem d_JArraysSupport_hugeLength_34 : decode prog_32_method_28_code 34 = .ok (.invokevirtual 98, 3) := by decide +kernel
theorem d_JArraysSupport_hugeLength_37 : decode prog_32_method_28_code 37 = .ok (.ldc 210, 2) := by decide +kernel
theorem d_JArraysSupport_hugeLength_39 : decode prog_32_method_28_code 39 = .ok (.invokevirtual 94, 3) := by decide +kernel
theorem d_JArraysSupport_hugeLength_42 : decode prog_32_method_28_code 42 = .ok (.invokevirtual 101, 3) := by decide +kernel
theorem d_JArraysSupport_hugeLength_45 : decode prog_32_method_28_code 45 = .ok (.invokespecial 212, 3) := by decide +kernel
theorem d_JArraysSupport_hugeLength_48 : decode prog_32_method_28_code 48 = .ok (.athrow, 1) := by decide +kernel
theorem d_JArraysSupport_hugeLength_49 : decode prog_32_method_28_code 49 = .ok (.iload_n 2, 1) := by decide +kernel
theorem d_JArraysSupport_hugeLength_50 : decode prog_32_method_28_code 50 = .ok (.ldc 200, 2) := by decide +kernel
theorem d_JArraysSupport_hugeLength_52 : decode prog_32_method_28_code 52 = .ok (.if_icmp .gt 6, 3) := by decide +kernel
theorem d_JArraysSupport_hugeLength_55 : decode prog_32_method_28_code 55 = .ok (.ldc 200, 2) := by decide +kernel
theorem d_JArraysSupport_hugeLength_57 : decode prog_32_method_28_code 57 = .ok (.ireturn, 1) := by decide +kernel
theorem d_JArraysSupport_hugeLength_58 : decode prog_32_method_28_code 58 = .ok (.iload_n 2, 1) := by decide +kernel
theorem d_JArraysSupport_hugeLength_59 : decode prog_32_method_28_code 59 = .ok (.ireturn, 1) := by decide +kernel
theorem d_JArrays_copyOf_1_0 : decode prog_25_method_119_code 0 = .ok (.aload_n 0, 1) := by decide +kernel
theorem d_JArrays_copyOf_1_1 : decode prog_25_method_119_code 1 = .ok (.iload_n 1, 1) := by decide +kernel
theorem d_JArrays_copyOf_1_2 : decode prog_25_method_119_code 2 = .ok (.aload_n 0, 1) := by decide +kernel
theorem d_JArrays_copyOf_1_3 : decode prog_25_method_119_code 3 = .ok (.invokevirtual 86, 3) := by decide +kernel
theorem d_JArrays_copyOf_1_6 : decode prog_25_method_119_code 6 = .ok (.invokestatic 300, 3) := by decide +kernel
theorem d_JArrays_copyOf_1_9 : decode prog_25_method_119_code 9 = .ok (.areturn, 1) := by decide +kernel
theorem d_JArrays_copyOf_2_0 : decode prog_25_method_120_code 0 = .ok (.aload_n 2, 1) := by decide +kernel
theorem d_JArrays_copyOf_2_1 : decode prog_25_method_120_code 1 = .ok (.ldc 110, 2) := by decide +kernel
theorem d_JArrays_copyOf_2_3 : decode prog_25_method_120_code 3 = .ok (.if_acmp .ne 10, 3) := by decide +kernel
theorem d_JArrays_copyOf_2_6 : decode prog_25_method_120_code 6 = .ok (.iload_n 1, 1) := by decide +kernel
theorem d_JArrays_copyOf_2_7 : decode prog_25_method_120_code 7 = .ok (.anewarray 2, 3) := by decide +kernel
theorem d_JArrays_copyOf_2_10 : decode prog_25_method_120_code 10 = .ok (.goto 14, 3) := by decide +kernel
theorem d_JArrays_copyOf_2_13 : decode prog_25_method_120_code 13 = .ok (.aload_n 2, 1) := by decide +kernel
theorem d_JArrays_copyOf_2_14 : decode prog_25_method_120_code 14 = .ok (.invokevirtual 90, 3) := by decide +kernel
theorem d_JArrays_copyOf_2_17 : decode prog_25_method_120_code 17 = .ok (.iload_n 1, 1) := by decide +kernel
theorem d_JArrays_copyOf_2_18 : decode prog_25_method_120_code 18 = .ok (.invokestatic 95, 3) := by decide +kernel
theorem d_JArrays_copyOf_2_21 : decode prog_25_method_120_code 21 = .ok (.checkcast 110, 3) := by decide +kernel
theorem d_JArrays_copyOf_2_24 : decode prog_25_method_120_code 24 = .ok (.astore_n 3, 1) := by decide +kernel
theorem d_JArrays_copyOf_2_25 : decode prog_25_method_120_code 25 = .ok (.aload_n 0, 1) := by decide +kernel
theorem d_JArrays_copyOf_2_26 : decode prog_25_method_120_code 26 = .ok (.iconst 0, 1) := by decide +kernel
theorem d_JArrays_copyOf_2_27 : decode prog_25_method_120_code 27 = .ok (.aload_n 3, 1) := by decide +kernel
theorem d_JArrays_copyOf_2_28 : decode prog_25_method_120_code 28 = .ok (.iconst 0, 1) := by decide +kernel
theorem d_JArrays_copyOf_2_29 : decode prog_25_method_120_code 29 = .ok (.aload_n 0, 1) := by decide +kernel
theorem d_JArrays_copyOf_2_30 : decode prog_25_method_120_code 30 = .ok (.arraylength, 1) := by decide +kernel
theorem d_JArrays_copyOf_2_31 : decode prog_25_method_120_code 31 = .ok (.iload_n 1, 1) := by decide +kernel
theorem d_JArrays_copyOf_2_32 : decode prog_25_method_120_code 32 = .ok (.invokestatic 304, 3) := by decide +kernel
theorem d_JArrays_copyOf_2_35 : decode prog_25_method_120_code 35 = .ok (.invokestatic 150, 3) := by decide +kernel
theorem d_JArrays_copyOf_2_38 : decode prog_25_method_120_code 38 = .ok (.aload_n 3, 1) := by decide +kernel
theorem d_JArrays_copyOf_2_39 : decode prog_25_method_120_code 39 = .ok (.areturn, 1) := by decide +kernel
theorem d_JArrayList_isEmpty_0 : decode prog_24_method_9_code 0 = .ok (.aload_n 0, 1) := by decide +kernel
theorem d_JArrayList_isEmpty_1 : decode prog_24_method_9_code 1 = .ok (.getfield 48, 3) := by decide +kernel
theorem d_JArrayList_isEmpty_4 : decode prog_24_method_9_code 4 = .ok (.ifCond .ne 7, 3) := by decide +kernel
theorem d_JArrayList_isEmpty_7 : decode prog_24_method_9_code 7 = .ok (.iconst 1, 1) := by decide +kernel
theorem d_JArrayList_isEmpty_8 : decode prog_24_method_9_code 8 = .ok (.goto 4, 3) := by decide +kernel
theorem d_JArrayList_isEmpty_11 : decode prog_24_method_9_code 11 = .ok (.iconst 0, 1) := by decide +kernel
theorem d_JArrayList_isEmpty_12 : decode prog_24_method_9_code 12 = .ok (.ireturn, 1) := by decide +kernel
theorem d_JArrayList_get_0 : decode prog_24_method_20_code 0 = .ok (.iload_n 1, 1) := by decide +kernel
theorem d_JArrayList_get_1 : decode prog_24_method_20_code 1 = .ok (.aload_n 0, 1) := by decide +kernel
theorem d_JArrayList_get_2 : decode prog_24_method_20_code 2 = .ok (.getfield 48, 3) := by decide +kernel
theorem d_JArrayList_get_5 : decode prog_24_method_20_code 5 = .ok (.invokestatic 118, 3) := by decide +kernel
theorem d_JArrayList_get_8 : decode prog_24_method_20_code 8 = .ok (.pop, 1) := by decide +kernel
theorem d_JArrayList_get_9 : decode prog_24_method_20_code 9 = .ok (.aload_n 0, 1) := by decide +kernel
theorem d_JArrayList_get_10 : decode prog_24_method_20_code 10 = .ok (.iload_n 1, 1) := by decide +kernel
theorem d_JArrayList_get_11 : decode prog_24_method_20_code 11 = .ok (.invokevirtual 123, 3) := by decide +kernel
theorem d_JArrayList_get_14 : decode prog_24_method_20_code 14 = .ok (.areturn, 1) := by decide +kernel
theorem d_JObjects_checkIndex_0 : decode prog_29_method_17_code 0 = .ok (.iload_n 0, 1) := by decide +kernel
theorem d_JObjects_checkIndex_1 : decode prog_29_method_17_code 1 = .ok (.iload_n 1, 1) := by decide +kernel
theorem d_JObjects_checkIndex_2 : decode prog_29_method_17_code 2 = .ok (.aconst_null, 1) := by decide +kernel
theorem d_JObjects_checkIndex_3 : decode prog_29_method_17_code 3 = .ok (.invokestatic 105, 3) := by decide +kernel
theorem d_JObjects_checkIndex_6 : decode prog_29_method_17_code 6 = .ok (.ireturn, 1) := by decide +kernel
theorem d_JPreconditions_checkIndex_0 : decode prog_33_method_11_code 0 = .ok (.iload_n 0, 1) := by decide +kernel
theorem d_JPreconditions_checkIndex_1 : decode prog_33_method_11_code 1 = .ok (.ifCond .lt 8, 3) := by decide +kernel
theorem d_JPreconditions_checkIndex_4 : decode prog_33_method_11_code 4 = .ok (.iload_n 0, 1) := by decide +kernel
theorem d_JPreconditions_checkIndex_5 : decode prog_33_method_11_code 5 = .ok (.iload_n 1, 1) := by decide +kernel
theorem d_JPreconditions_checkIndex_6 : decode prog_33_method_11_code 6 = .ok (.if_icmp .lt 10, 3) := by decide +kernel
theorem d_JPreconditions_checkIndex_9 : decode prog_33_method_11_code 9 = .ok (.aload_n 2, 1) := by decide +kernel
theorem d_JPreconditions_checkIndex_10 : decode prog_33_method_11_code 10 = .ok (.iload_n 0, 1) := by decide +kernel
theorem d_JPreconditions_checkIndex_11 : decode prog_33_method_11_code 11 = .ok (.iload_n 1, 1) := by decide +kernel
theorem d_JPreconditions_checkIndex_12 : decode prog_33_method_11_code 12 = .ok (.invokestatic 95, 3) := by decide +kernel
theorem d_JPreconditions_checkIndex_15 : decode prog_33_method_11_code 15 = .ok (.athrow, 1) := by decide +kernel
theorem d_JPreconditions_checkIndex_16 : decode prog_33_method_11_code 16 = .ok (.iload_n 0, 1) := by decide +kernel
theorem d_JPreconditions_checkIndex_17 : decode prog_33_method_11_code 17 = .ok (.ireturn, 1) := by decide +kernel
theorem d_JArrayList_elementData_0 : decode prog_24_method_18_code 0 = .ok (.aload_n 0, 1) := by decide +kernel
theorem d_JArrayList_elementData_1 : decode prog_24_method_18_code 1 = .ok (.getfield 9, 3) := by decide +kernel
theorem d_JArrayList_elementData_4 : decode prog_24_method_18_code 4 = .ok (.iload_n 1, 1) := by decide +kernel
theorem d_JArrayList_elementData_5 : decode prog_24_method_18_code 5 = .ok (.aaload, 1) := by decide +kernel
theorem d_JArrayList_elementData_6 : decode prog_24_method_18_code 6 = .ok (.areturn, 1) := by decide +kernel
theorem d_JThrowable_init_0_0 : decode prog_21_method_1_code 0 = .ok (.aload_n 0, 1) := by decide +kernel
theorem d_JThrowable_init_0_1 : decode prog_21_method_1_code 1 = .ok (.invokespecial 1, 3) := by decide +kernel
theorem d_JThrowable_init_0_4 : decode prog_21_method_1_code 4 = .ok (.aload_n 0, 1) := by decide +kernel
theorem d_JThrowable_init_0_5 : decode prog_21_method_1_code 5 = .ok (.aload_n 0, 1) := by decide +kernel
theorem d_JThrowable_init_0_6 : decode prog_21_method_1_code 6 = .ok (.putfield 7, 3) := by decide +kernel
theorem d_JThrowable_init_0_9 : decode prog_21_method_1_code 9 = .ok (.aload_n 0, 1) := by decide +kernel
theorem d_JThrowable_init_0_10 : decode prog_21_method_1_code 10 = .ok (.getstatic 13, 3) := by decide +kernel
theorem d_JThrowable_init_0_13 : decode prog_21_method_1_code 13 = .ok (.putfield 17, 3) := by decide +kernel
theorem d_JThrowable_init_0_16 : decode prog_21_method_1_code 16 = .ok (.aload_n 0, 1) := by decide +kernel
theorem d_JThrowable_init_0_17 : decode prog_21_method_1_code 17 = .ok (.getstatic 20, 3) := by decide +kernel
theorem d_JThrowable_init_0_20 : decode prog_21_method_1_code 20 = .ok (.putfield 24, 3) := by decide +kernel
theorem d_JThrowable_init_0_23 : decode prog_21_method_1_code 23 = .ok (.aload_n 0, 1) := by decide +kernel
theorem d_JThrowable_init_0_24 : decode prog_21_method_1_code 24 = .ok (.invokevirtual 27, 3) := by decide +kernel
theorem d_JThrowable_init_0_27 : decode prog_21_method_1_code 27 = .ok (.pop, 1) := by decide +kernel
theorem d_JThrowable_init_0_28 : decode prog_21_method_1_code 28 = .ok (.return_, 1) := by decide +kernel
theorem d_JIllegalStateException_init_0 : decode prog_15_method_2_code 0 = .ok (.aload_n 0, 1) := by decide +kernel
theorem d_JIllegalStateException_init_1 : decode prog_15_method_2_code 1 = .ok (.aload_n 1, 1) := by decide +kernel
theorem d_JIllegalStateException_init_2 : decode prog_15_method_2_code 2 = .ok (.invokespecial 7, 3) := by decide +kernel
theorem d_JIllegalStateException_init_5 : decode prog_15_method_2_code 5 = .ok (.return_, 1) := by decide +kernel
theorem d_JRuntimeException_init_0 : decode prog_18_method_2_code 0 = .ok (.aload_n 0, 1) := by decide +kernel
theorem d_JRuntimeException_init_1 : decode prog_18_method_2_code 1 = .ok (.aload_n 1, 1) := by decide +kernel
theorem d_JRuntimeException_init_2 : decode prog_18_method_2_code 2 = .ok (.invokespecial 7, 3) := by decide +kernel
theorem d_JRuntimeException_init_5 : decode prog_18_method_2_code 5 = .ok (.return_, 1) := by decide +kernel
theorem d_JException_init_0 : decode prog_14_method_2_code 0 = .ok (.aload_n 0, 1) := by decide +kernel
theorem d_JException_init_1 : decode prog_14_method_2_code 1 = .ok (.aload_n 1, 1) := by decide +kernel
theorem d_JException_init_2 : decode prog_14_method_2_code 2 = .ok (.invokespecial 7, 3) := by decide +kernel
theorem d_JException_init_5 : decode prog_14_method_2_code 5 = .ok (.return_, 1) := by decide +kernel
theorem d_JThrowable_init_1_0 : decode prog_21_method_2_code 0 = .ok (.aload_n 0, 1) := by decide +kernel
theorem d_JThrowable_init_1_1 : decode prog_21_method_2_code 1 = .ok (.invokespecial 1, 3) := by decide +kernel
theorem d_JThrowable_init_1_4 : decode prog_21_method_2_code 4 = .ok (.aload_n 0, 1) := by decide +kernel
theorem d_JThrowable_init_1_5 : decode prog_21_method_2_code 5 = .ok (.aload_n 0, 1) := by decide +kernel
theorem d_JThrowable_init_1_6 : decode prog_21_method_2_code 6 = .ok (.putfield 7, 3) := by decide +kernel
theorem d_JThrowable_init_1_9 : decode prog_21_method_2_code 9 = .ok (.aload_n 0, 1) := by decide +kernel
theorem d_JThrowable_init_1_10 : decode prog_21_method_2_code 10 = .ok (.getstatic 13, 3) := by decide +kernel
theorem d_JThrowable_init_1_13 : decode prog_21_method_2_code 13 = .ok (.putfield 17, 3) := by decide +kernel
theorem d_JThrowable_init_1_16 : decode prog_21_method_2_code 16 = .ok (.aload_n 0, 1) := by decide +kernel
theorem d_JThrowable_init_1_17 : decode prog_21_method_2_code 17 = .ok (.getstatic 20, 3) := by decide +kernel
theorem d_JThrowable_init_1_20 : decode prog_21_method_2_code 20 = .ok (.putfield 24, 3) := by decide +kernel
theorem d_JThrowable_init_1_23 : decode prog_21_method_2_code 23 = .ok (.aload_n 0, 1) := by decide +kernel
theorem d_JThrowable_init_1_24 : decode prog_21_method_2_code 24 = .ok (.invokevirtual 27, 3) := by decide +kernel
theorem d_JThrowable_init_1_27 : decode prog_21_method_2_code 27 = .ok (.pop, 1) := by decide +kernel
theorem d_JThrowable_init_1_28 : decode prog_21_method_2_code 28 = .ok (.aload_n 0, 1) := by decide +kernel
theorem d_JThrowable_init_1_29 : decode prog_21_method_2_code 29 = .ok (.aload_n 1, 1) := by decide +kernel
theorem d_JThrowable_init_1_30 : decode prog_21_method_2_code 30 = .ok (.putfield 31, 3) := by decide +kernel
theorem d_JThrowable_init_1_33 : decode prog_21_method_2_code 33 = .ok (.return_, 1) := by decide +kernel
theorem d_JArrays_copyOf_3_0 : decode prog_25_method_124_code 0 = .ok (.iload_n 1, 1) := by decide +kernel
theorem d_JArrays_copyOf_3_1 : decode prog_25_method_124_code 1 = .ok (.aload_n 0, 1) := by decide +kernel
theorem d_JArrays_copyOf_3_2 : decode prog_25_method_124_code 2 = .ok (.arraylength, 1) := by decide +kernel
theorem d_JArrays_copyOf_3_3 : decode prog_25_method_124_code 3 = .ok (.if_icmp .ne 11, 3) := by decide +kernel
theorem d_JArrays_copyOf_3_6 : decode prog_25_method_124_code 6 = .ok (.aload_n 0, 1) := by decide +kernel
theorem d_JArrays_copyOf_3_7 : decode prog_25_method_124_code 7 = .ok (.invokevirtual 319, 3) := by decide +kernel
theorem d_JArrays_copyOf_3_10 : decode prog_25_method_124_code 10 = .ok (.checkcast 320, 3) := by decide +kernel
theorem d_JArrays_copyOf_3_13 : decode prog_25_method_124_code 13 = .ok (.areturn, 1) := by decide +kernel
theorem d_JArrays_copyOf_3_14 : decode prog_25_method_124_code 14 = .ok (.iload_n 1, 1) := by decide +kernel
theorem d_JArrays_copyOf_3_15 : decode prog_25_method_124_code 15 = .ok (.newarray .long, 2) := by decide +kernel
theorem d_JArrays_copyOf_3_17 : decode prog_25_method_124_code 17 = .ok (.astore_n 2, 1) := by decide +kernel
theorem d_JArrays_copyOf_3_18 : decode prog_25_method_124_code 18 = .ok (.aload_n 0, 1) := by decide +kernel
theorem d_JArrays_copyOf_3_19 : decode prog_25_method_124_code 19 = .ok (.iconst 0, 1) := by decide +kernel
theorem d_JArrays_copyOf_3_20 : decode prog_25_method_124_code 20 = .ok (.aload_n 2, 1) := by decide +kernel
theorem d_JArrays_copyOf_3_21 : decode prog_25_method_124_code 21 = .ok (.iconst 0, 1) := by decide +kernel
theorem d_JArrays_copyOf_3_22 : decode prog_25_method_124_code 22 = .ok (.aload_n 0, 1) := by decide +kernel
theorem d_JArrays_copyOf_3_23 : decode prog_25_method_124_code 23 = .ok (.arraylength, 1) := by decide +kernel
theorem d_JArrays_copyOf_3_24 : decode prog_25_method_124_code 24 = .ok (.iload_n 1, 1) := by decide +kernel
theorem d_JArrays_copyOf_3_25 : decode prog_25_method_124_code 25 = .ok (.invokestatic 304, 3) := by decide +kernel
theorem d_JArrays_copyOf_3_28 : decode prog_25_method_124_code 28 = .ok (.invokestatic 150, 3) := by decide +kernel
theorem d_JArrays_copyOf_3_31 : decode prog_25_method_124_code 31 = .ok (.aload_n 2, 1) := by decide +kernel
theorem d_JArrays_copyOf_3_32 : decode prog_25_method_124_code 32 = .ok (.areturn, 1) := by decide +kernel
theorem d_JArrays_copyOf_4_0 : decode prog_25_method_123_code 0 = .ok (.iload_n 1, 1) := by decide +kernel
theorem d_JArrays_copyOf_4_1 : decode prog_25_method_123_code 1 = .ok (.aload_n 0, 1) := by decide +kernel
theorem d_JArrays_copyOf_4_2 : decode prog_25_method_123_code 2 = .ok (.arraylength, 1) := by decide +kernel
theorem d_JArrays_copyOf_4_3 : decode prog_25_method_123_code 3 = .ok (.if_icmp .ne 11, 3) := by decide +kernel
theorem d_JArrays_copyOf_4_6 : decode prog_25_method_123_code 6 = .ok (.aload_n 0, 1) := by decide +kernel
theorem d_JArrays_copyOf_4_7 : decode prog_25_method_123_code 7 = .ok (.invokevirtual 316, 3) := by decide +kernel
theorem d_JArrays_copyOf_4_10 : decode prog_25_method_123_code 10 = .ok (.checkcast 317, 3) := by decide +kernel
theorem d_JArrays_copyOf_4_13 : decode prog_25_method_123_code 13 = .ok (.areturn, 1) := by decide +kernel
theorem d_JArrays_copyOf_4_14 : decode prog_25_method_123_code 14 = .ok (.iload_n 1, 1) := by decide +kernel
theorem d_JArrays_copyOf_4_15 : decode prog_25_method_123_code 15 = .ok (.newarray .int, 2) := by decide +kernel
theorem d_JArrays_copyOf_4_17 : decode prog_25_method_123_code 17 = .ok (.astore_n 2, 1) := by decide +kernel
theorem d_JArrays_copyOf_4_18 : decode prog_25_method_123_code 18 = .ok (.aload_n 0, 1) := by decide +kernel
theorem d_JArrays_copyOf_4_19 : decode prog_25_method_123_code 19 = .ok (.iconst 0, 1) := by decide +kernel
theorem d_JArrays_copyOf_4_20 : decode prog_25_method_123_code 20 = .ok (.aload_n 2, 1) := by decide +kernel
theorem d_JArrays_copyOf_4_21 : decode prog_25_method_123_code 21 = .ok (.iconst 0, 1) := by decide +kernel
theorem d_JArrays_copyOf_4_22 : decode prog_25_method_123_code 22 = .ok (.aload_n 0, 1) := by decide +kernel
theorem d_JArrays_copyOf_4_23 : decode prog_25_method_123_code 23 = .ok (.arraylength, 1) := by decide +kernel
theorem d_JArrays_copyOf_4_24 : decode prog_25_method_123_code 24 = .ok (.iload_n 1, 1) := by decide +kernel
theorem d_JArrays_copyOf_4_25 : decode prog_25_method_123_code 25 = .ok (.invokestatic 304, 3) := by decide +kernel
theorem d_JArrays_copyOf_4_28 : decode prog_25_method_123_code 28 = .ok (.invokestatic 150, 3) := by decide +kernel
theorem d_JArrays_copyOf_4_31 : decode prog_25_method_123_code 31 = .ok (.aload_n 2, 1) := by decide +kernel
theorem d_JArrays_copyOf_4_32 : decode prog_25_method_123_code 32 = .ok (.areturn, 1) := by decide +kernel
theorem d_JNoSuchElementException_init_0 : decode prog_28_method_4_code 0 = .ok (.aload_n 0, 1) := by decide +kernel
theorem d_JNoSuchElementException_init_1 : decode prog_28_method_4_code 1 = .ok (.aload_n 1, 1) := by decide +kernel
theorem d_JNoSuchElementException_init_2 : decode prog_28_method_4_code 2 = .ok (.invokespecial 13, 3) := by decide +kernel
theorem d_JNoSuchElementException_init_5 : decode prog_28_method_4_code 5 = .ok (.return_, 1) := by decide +kernel
