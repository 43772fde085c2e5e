theorem d_JObject_init_0 : decode object_method_1_code 0 = .ok (.return_, 1) := by decide +kernel
theorem d_JArrays_fill_0 : decode prog_18_method_110_code 0 = .ok (.aload_n 0, 1) := by decide +kernel
theorem d_JArrays_fill_1 : decode prog_18_method_110_code 1 = .ok (.arraylength, 1) := by decide +kernel
theorem d_JArrays_fill_2 : decode prog_18_method_110_code 2 = .ok (.iload_n 1, 1) := by decide +kernel
theorem d_JArrays_fill_3 : decode prog_18_method_110_code 3 = .ok (.iload_n 2, 1) := by decide +kernel
theorem d_JArrays_fill_4 : decode prog_18_method_110_code 4 = .ok (.invokestatic 13, 3) := by decide +kernel
theorem d_JArrays_fill_7 : decode prog_18_method_110_code 7 = .ok (.iload_n 1, 1) := by decide +kernel
theorem d_JArrays_fill_8 : decode prog_18_method_110_code 8 = .ok (.istore 4, 2) := by decide +kernel
theorem d_JArrays_fill_10 : decode prog_18_method_110_code 10 = .ok (.iload 4, 2) := by decide +kernel
theorem d_JArrays_fill_12 : decode prog_18_method_110_code 12 = .ok (.iload_n 2, 1) := by decide +kernel
theorem d_JArrays_fill_13 : decode prog_18_method_110_code 13 = .ok (.if_icmp .ge 14, 3) := by decide +kernel
theorem d_JArrays_fill_16 : decode prog_18_method_110_code 16 = .ok (.aload_n 0, 1) := by decide +kernel
theorem d_JArrays_fill_17 : decode prog_18_method_110_code 17 = .ok (.iload 4, 2) := by decide +kernel
theorem d_JArrays_fill_19 : decode prog_18_method_110_code 19 = .ok (.iload_n 3, 1) := by decide +kernel
theorem d_JArrays_fill_20 : decode prog_18_method_110_code 20 = .ok (.bastore, 1) := by decide +kernel
theorem d_JArrays_fill_21 : decode prog_18_method_110_code 21 = .ok (.iinc 4 1, 3) := by decide +kernel
theorem d_JArrays_fill_24 : decode prog_18_method_110_code 24 = .ok (.goto (-14), 3) := by decide +kernel
theorem d_JArrays_fill_27 : decode prog_18_method_110_code 27 = .ok (.return_, 1) := by decide +kernel
theorem d_JArrays_rangeCheck_0 : decode prog_18_method_30_code 0 = .ok (.iload_n 1, 1) := by decide +kernel
theorem d_JArrays_rangeCheck_1 : decode prog_18_method_30_code 1 = .ok (.iload_n 2, 1) := by decide +kernel
theorem d_JArrays_rangeCheck_2 : decode prog_18_method_30_code 2 = .ok (.if_icmp .le 44, 3) := by decide +kernel
theorem d_JArrays_rangeCheck_5 : decode prog_18_method_30_code 5 = .ok (.new 43, 3) := by decide +kernel
theorem d_JArrays_rangeCheck_8 : decode prog_18_method_30_code 8 = .ok (.dup, 1) := by decide +kernel
theorem d_JArrays_rangeCheck_9 : decode prog_18_method_30_code 9 = .ok (.new 45, 3) := by decide +kernel
theorem d_JArrays_rangeCheck_12 : decode prog_18_method_30_code 12 = .ok (.dup, 1) := by decide +kernel
theorem d_JArrays_rangeCheck_13 : decode prog_18_method_30_code 13 = .ok (.invokespecial 47, 3) := by decide +kernel
theorem d_JArrays_rangeCheck_16 : decode prog_18_method_30_code 16 = .ok (.ldc 48, 2) := by decide +kernel
theorem d_JArrays_rangeCheck_18 : decode prog_18_method_30_code 18 = .ok (.invokevirtual 50, 3) := by decide +kernel
theorem d_JArrays_rangeCheck_21 : decode prog_18_method_30_code 21 = .ok (.iload_n 1, 1) := by decide +kernel
theorem d_JArrays_rangeCheck_22 : decode prog_18_method_30_code 22 = .ok (.invokevirtual 54, 3) := by decide +kernel
theorem d_JArrays_rangeCheck_25 : decode prog_18_method_30_code 25 = .ok (.ldc 57, 2) := by decide +kernel
theorem d_JArrays_rangeCheck_27 : decode prog_18_method_30_code 27 = .ok (.invokevirtual 50, 3) := by decide +kernel
theorem d_JArrays_rangeCheck_30 : decode prog_18_method_30_code 30 = .ok (.iload_n 2, 1) := by decide +kernel
theorem d_JArrays_rangeCheck_31 : decode prog_18_method_30_code 31 = .ok (.invokevirtual 54, 3) := by decide +kernel
theorem d_JArrays_rangeCheck_34 : decode prog_18_method_30_code 34 = .ok (.ldc 59, 2) := by decide +kernel
theorem d_JArrays_rangeCheck_36 : decode prog_18_method_30_code 36 = .ok (.invokevirtual 50, 3) := by decide +kernel
theorem d_JArrays_rangeCheck_39 : decode prog_18_method_30_code 39 = .ok (.invokevirtual 61, 3) := by decide +kernel
theorem d_JArrays_rangeCheck_42 : decode prog_18_method_30_code 42 = .ok (.invokespecial 65, 3) := by decide +kernel
theorem d_JArrays_rangeCheck_45 : decode prog_18_method_30_code 45 = .ok (.athrow, 1) := by decide +kernel
theorem d_JArrays_rangeCheck_46 : decode prog_18_method_30_code 46 = .ok (.iload_n 1, 1) := by decide +kernel
theorem d_JArrays_rangeCheck_47 : decode prog_18_method_30_code 47 = .ok (.ifCond .ge 12, 3) := by decide +kernel
theorem d_JArrays_rangeCheck_50 : decode prog_18_method_30_code 50 = .ok (.new 68, 3) := by decide +kernel
theorem d_JArrays_rangeCheck_53 : decode prog_18_method_30_code 53 = .ok (.dup, 1) := by decide +kernel
theorem d_JArrays_rangeCheck_54 : decode prog_18_method_30_code 54 = .ok (.iload_n 1, 1) := by decide +kernel
theorem d_JArrays_rangeCheck_55 : decode prog_18_method_30_code 55 = .ok (.invokespecial 70, 3) := by decide +kernel
theorem d_JArrays_rangeCheck_58 : decode prog_18_method_30_code 58 = .ok (.athrow, 1) := by decide +kernel
theorem d_JArrays_rangeCheck_59 : decode prog_18_method_30_code 59 = .ok (.iload_n 2, 1) := by decide +kernel
theorem d_JArrays_rangeCheck_60 : decode prog_18_method_30_code 60 = .ok (.iload_n 0, 1) := by decide +kernel
theorem d_JArrays_rangeCheck_61 : decode prog_18_method_30_code 61 = .ok (.if_icmp .le 12, 3) := by decide +kernel
theorem d_JArrays_rangeCheck_64 : decode prog_18_method_30_code 64 = .ok (.new 68, 3) := by decide +kernel
theorem d_JArrays_rangeCheck_67 : decode prog_18_method_30_code 67 = .ok (.dup, 1) := by decide +kernel
theorem d_JArrays_rangeCheck_68 : decode prog_18_method_30_code 68 = .ok (.iload_n 2, 1) := by decide +kernel
theorem d_JArrays_rangeCheck_69 : decode prog_18_method_30_code 69 = .ok (.invokespecial 70, 3) := by decide +kernel
theorem d_JArrays_rangeCheck_72 : decode prog_18_method_30_code 72 = .ok (.athrow, 1) := by decide +kernel
theorem d_JArrays_rangeCheck_73 : decode prog_18_method_30_code 73 = .ok (.return_, 1) := by decide +kernel
theorem d_JThrowable_init_0_0 : decode prog_17_method_1_code 0 = .ok (.aload_n 0, 1) := by decide +kernel
theorem d_JThrowable_init_0_1 : decode prog_17_method_1_code 1 = .ok (.invokespecial 1, 3) := by decide +kernel
theorem d_JThrowable_init_0_4 : decode prog_17_method_1_code 4 = .ok (.aload_n 0, 1) := by decide +kernel
theorem d_JThrowable_init_0_5 : decode prog_17_method_1_code 5 = .ok (.aload_n 0, 1) := by decide +kernel
theorem d_JThrowable_init_0_6 : decode prog_17_method_1_code 6 = .ok (.putfield 7, 3) := by decide +kernel
theorem d_JThrowable_init_0_9 : decode prog_17_method_1_code 9 = .ok (.aload_n 0, 1) := by decide +kernel
theorem d_JThrowable_init_0_10 : decode prog_17_method_1_code 10 = .ok (.getstatic 13, 3) := by decide +kernel
theorem d_JThrowable_init_0_13 : decode prog_17_method_1_code 13 = .ok (.putfield 17, 3) := by decide +kernel
theorem d_JThrowable_init_0_16 : decode prog_17_method_1_code 16 = .ok (.aload_n 0, 1) := by decide +kernel
theorem d_JThrowable_init_0_17 : decode prog_17_method_1_code 17 = .ok (.getstatic 20, 3) := by decide +kernel
theorem d_JThrowable_init_0_20 : decode prog_17_method_1_code 20 = .ok (.putfield 24, 3) := by decide +kernel
theorem d_JThrowable_init_0_23 : decode prog_17_method_1_code 23 = .ok (.aload_n 0, 1) := by decide +kernel
theorem d_JThrowable_init_0_24 : decode prog_17_method_1_code 24 = .ok (.invokevirtual 27, 3) := by decide +kernel
theorem d_JThrowable_init_0_27 : decode prog_17_method_1_code 27 = .ok (.pop, 1) := by decide +kernel
theorem d_JThrowable_init_0_28 : decode prog_17_method_1_code 28 = .ok (.return_, 1) := by decide +kernel
theorem d_JIllegalStateException_init_0 : decode prog_13_method_2_code 0 = .ok (.aload_n 0, 1) := by decide +kernel
theorem d_JIllegalStateException_init_1 : decode prog_13_method_2_code 1 = .ok (.aload_n 1, 1) := by decide +kernel
theorem d_JIllegalStateException_init_2 : decode prog_13_method_2_code 2 = .ok (.invokespecial 7, 3) := by decide +kernel
theorem d_JIllegalStateException_init_5 : decode prog_13_method_2_code 5 = .ok (.return_, 1) := by decide +kernel
theorem d_JRuntimeException_init_0 : decode prog_14_method_2_code 0 = .ok (.aload_n 0, 1) := by decide +kernel
theorem d_JRuntimeException_init_1 : decode prog_14_method_2_code 1 = .ok (.aload_n 1, 1) := by decide +kernel
theorem d_JRuntimeException_init_2 : decode prog_14_method_2_code 2 = .ok (.invokespecial 7, 3) := by decide +kernel
theorem d_JRuntimeException_init_5 : decode prog_14_method_2_code 5 = .ok (.return_, 1) := by decide +kernel
theorem d_JException_init_0 : decode prog_12_method_2_code 0 = .ok (.aload_n 0, 1) := by decide +kernel
theorem d_JException_init_1 : decode prog_12_method_2_code 1 = .ok (.aload_n 1, 1) := by decide +kernel
theorem d_JException_init_2 : decode prog_12_method_2_code 2 = .ok (.invokespecial 7, 3) := by decide +kernel
theorem d_JException_init_5 : decode prog_12_method_2_code 5 = .ok (.return_, 1) := by decide +kernel
theorem d_JThrowable_init_1_0 : decode prog_17_method_2_code 0 = .ok (.aload_n 0, 1) := by decide +kernel
theorem d_JThrowable_init_1_1 : decode prog_17_method_2_code 1 = .ok (.invokespecial 1, 3) := by decide +kernel
theorem d_JThrowable_init_1_4 : decode prog_17_method_2_code 4 = .ok (.aload_n 0, 1) := by decide +kernel
theorem d_JThrowable_init_1_5 : decode prog_17_method_2_code 5 = .ok (.aload_n 0, 1) := by decide +kernel
theorem d_JThrowable_init_1_6 : decode prog_17_method_2_code 6 = .ok (.putfield 7, 3) := by decide +kernel
theorem d_JThrowable_init_1_9 : decode prog_17_method_2_code 9 = .ok (.aload_n 0, 1) := by decide +kernel
theorem d_JThrowable_init_1_10 : decode prog_17_method_2_code 10 = .ok (.getstatic 13, 3) := by decide +kernel
theorem d_JThrowable_init_1_13 : decode prog_17_method_2_code 13 = .ok (.putfield 17, 3) := by decide +kernel
theorem d_JThrowable_init_1_16 : decode prog_17_method_2_code 16 = .ok (.aload_n 0, 1) := by decide +kernel
theorem d_JThrowable_init_1_17 : decode prog_17_method_2_code 17 = .ok (.getstatic 20, 3) := by decide +kernel
theorem d_JThrowable_init_1_20 : decode prog_17_method_2_code 20 = .ok (.putfield 24, 3) := by decide +kernel
theorem d_JThrowable_init_1_23 : decode prog_17_method_2_code 23 = .ok (.aload_n 0, 1) := by decide +kernel
theorem d_JThrowable_init_1_24 : decode prog_17_method_2_code 24 = .ok (.invokevirtual 27, 3) := by decide +kernel
theorem d_JThrowable_init_1_27 : decode prog_17_method_2_code 27 = .ok (.pop, 1) := by decide +kernel
theorem d_JThrowable_init_1_28 : decode prog_17_method_2_code 28 = .ok (.aload_n 0, 1) := by decide +kernel
theorem d_JThrowable_init_1_29 : decode prog_17_method_2_code 29 = .ok (.aload_n 1, 1) := by decide +kernel
theorem d_JThrowable_init_1_30 : decode prog_17_method_2_code 30 = .ok (.putfield 31, 3) := by decide +kernel
theorem d_JThrowable_init_1_33 : decode prog_17_method_2_code 33 = .ok (.return_, 1) := by decide +kernel
theorem d_JNoSuchElementException_init_0 : decode prog_19_method_4_code 0 = .ok (.aload_n 0, 1) := by decide +kernel
theorem d_JNoSuchElementException_init_1 : decode prog_19_method_4_code 1 = .ok (.aload_n 1, 1) := by decide +kernel
theorem d_JNoSuchElementException_init_2 : decode prog_19_method_4_code 2 = .ok (.invokespecial 13, 3) := by decide +kernel
theorem d_JNoSuchElementException_init_5 : decode prog_19_method_4_code 5 = .ok (.return_, 1) := by decide +kernel
