theorem d_L_init_0 : decode prog_1_method_1_code 0 = .ok (.aload_n 0, 1) := by decide +kernel
theorem d_L_init_1 : decode prog_1_method_1_code 1 = .ok (.invokespecial 1, 3) := by decide +kernel
theorem d_L_init_4 : decode prog_1_method_1_code 4 = .ok (.aload_n 0, 1) := by decide +kernel
theorem d_L_init_5 : decode prog_1_method_1_code 5 = .ok (.bipush 32, 2) := by decide +kernel
theorem d_L_init_7 : decode prog_1_method_1_code 7 = .ok (.anewarray 9, 3) := by decide +kernel
theorem d_L_init_10 : decode prog_1_method_1_code 10 = .ok (.putfield 11, 3) := by decide +kernel
theorem d_L_init_13 : decode prog_1_method_1_code 13 = .ok (.aload_n 0, 1) := by decide +kernel
theorem d_L_init_14 : decode prog_1_method_1_code 14 = .ok (.sipush 2048, 3) := by decide +kernel
theorem d_L_init_17 : decode prog_1_method_1_code 17 = .ok (.anewarray 15, 3) := by decide +kernel
theorem d_L_init_20 : decode prog_1_method_1_code 20 = .ok (.putfield 17, 3) := by decide +kernel
theorem d_L_init_23 : decode prog_1_method_1_code 23 = .ok (.aload_n 0, 1) := by decide +kernel
theorem d_L_init_24 : decode prog_1_method_1_code 24 = .ok (.sipush 2048, 3) := by decide +kernel
theorem d_L_init_27 : decode prog_1_method_1_code 27 = .ok (.anewarray 21, 3) := by decide +kernel
theorem d_L_init_30 : decode prog_1_method_1_code 30 = .ok (.putfield 23, 3) := by decide +kernel
theorem d_L_init_33 : decode prog_1_method_1_code 33 = .ok (.aload_n 0, 1) := by decide +kernel
theorem d_L_init_34 : decode prog_1_method_1_code 34 = .ok (.sipush 4096, 3) := by decide +kernel
theorem d_L_init_37 : decode prog_1_method_1_code 37 = .ok (.anewarray 27, 3) := by decide +kernel
theorem d_L_init_40 : decode prog_1_method_1_code 40 = .ok (.putfield 29, 3) := by decide +kernel
theorem d_L_init_43 : decode prog_1_method_1_code 43 = .ok (.aload_n 0, 1) := by decide +kernel
theorem d_L_init_44 : decode prog_1_method_1_code 44 = .ok (.sipush 8192, 3) := by decide +kernel
theorem d_L_init_47 : decode prog_1_method_1_code 47 = .ok (.anewarray 33, 3) := by decide +kernel
theorem d_L_init_50 : decode prog_1_method_1_code 50 = .ok (.putfield 35, 3) := by decide +kernel
theorem d_L_init_53 : decode prog_1_method_1_code 53 = .ok (.aload_n 0, 1) := by decide +kernel
theorem d_L_init_54 : decode prog_1_method_1_code 54 = .ok (.ldc 39, 2) := by decide +kernel
theorem d_L_init_56 : decode prog_1_method_1_code 56 = .ok (.newarray .byte, 2) := by decide +kernel
theorem d_L_init_58 : decode prog_1_method_1_code 58 = .ok (.putfield 40, 3) := by decide +kernel
theorem d_L_init_61 : decode prog_1_method_1_code 61 = .ok (.aload_n 0, 1) := by decide +kernel
theorem d_L_init_62 : decode prog_1_method_1_code 62 = .ok (.new 44, 3) := by decide +kernel
theorem d_L_init_65 : decode prog_1_method_1_code 65 = .ok (.dup, 1) := by decide +kernel
theorem d_L_init_66 : decode prog_1_method_1_code 66 = .ok (.invokespecial 46, 3) := by decide +kernel
theorem d_L_init_69 : decode prog_1_method_1_code 69 = .ok (.putfield 47, 3) := by decide +kernel
theorem d_L_init_72 : decode prog_1_method_1_code 72 = .ok (.aload_n 0, 1) := by decide +kernel
theorem d_L_init_73 : decode prog_1_method_1_code 73 = .ok (.new 51, 3) := by decide +kernel
theorem d_L_init_76 : decode prog_1_method_1_code 76 = .ok (.dup, 1) := by decide +kernel
theorem d_L_init_77 : decode prog_1_method_1_code 77 = .ok (.invokespecial 53, 3) := by decide +kernel
theorem d_L_init_80 : decode prog_1_method_1_code 80 = .ok (.putfield 54, 3) := by decide +kernel
theorem d_L_init_83 : decode prog_1_method_1_code 83 = .ok (.aload_n 0, 1) := by decide +kernel
theorem d_L_init_84 : decode prog_1_method_1_code 84 = .ok (.bipush 7, 2) := by decide +kernel
theorem d_L_init_86 : decode prog_1_method_1_code 86 = .ok (.newarray .int, 2) := by decide +kernel
theorem d_L_init_88 : decode prog_1_method_1_code 88 = .ok (.putfield 58, 3) := by decide +kernel
theorem d_L_init_91 : decode prog_1_method_1_code 91 = .ok (.aload_n 0, 1) := by decide +kernel
theorem d_L_init_92 : decode prog_1_method_1_code 92 = .ok (.iconst 0, 1) := by decide +kernel
theorem d_L_init_93 : decode prog_1_method_1_code 93 = .ok (.putfield 62, 3) := by decide +kernel
theorem d_L_init_96 : decode prog_1_method_1_code 96 = .ok (.aload_n 0, 1) := by decide +kernel
theorem d_L_init_97 : decode prog_1_method_1_code 97 = .ok (.iconst 0, 1) := by decide +kernel
theorem d_L_init_98 : decode prog_1_method_1_code 98 = .ok (.putfield 66, 3) := by decide +kernel
theorem d_L_init_101 : decode prog_1_method_1_code 101 = .ok (.aload_n 0, 1) := by decide +kernel
theorem d_L_init_102 : decode prog_1_method_1_code 102 = .ok (.iconst 0, 1) := by decide +kernel
theorem d_L_init_103 : decode prog_1_method_1_code 103 = .ok (.putfield 69, 3) := by decide +kernel
theorem d_L_init_106 : decode prog_1_method_1_code 106 = .ok (.aload_n 0, 1) := by decide +kernel
theorem d_L_init_107 : decode prog_1_method_1_code 107 = .ok (.iconst 0, 1) := by decide +kernel
theorem d_L_init_108 : decode prog_1_method_1_code 108 = .ok (.putfield 72, 3) := by decide +kernel
theorem d_L_init_111 : decode prog_1_method_1_code 111 = .ok (.aload_n 0, 1) := by decide +kernel
theorem d_L_init_112 : decode prog_1_method_1_code 112 = .ok (.iconst 0, 1) := by decide +kernel
theorem d_L_init_113 : decode prog_1_method_1_code 113 = .ok (.putfield 75, 3) := by decide +kernel
theorem d_L_init_116 : decode prog_1_method_1_code 116 = .ok (.aload_n 0, 1) := by decide +kernel
theorem d_L_init_117 : decode prog_1_method_1_code 117 = .ok (.iconst 0, 1) := by decide +kernel
theorem d_L_init_118 : decode prog_1_method_1_code 118 = .ok (.putfield 78, 3) := by decide +kernel
theorem d_L_init_121 : decode prog_1_method_1_code 121 = .ok (.aload_n 0, 1) := by decide +kernel
theorem d_L_init_122 : decode prog_1_method_1_code 122 = .ok (.ldc 81, 2) := by decide +kernel
theorem d_L_init_124 : decode prog_1_method_1_code 124 = .ok (.putfield 82, 3) := by decide +kernel
theorem d_L_init_127 : decode prog_1_method_1_code 127 = .ok (.return_, 1) := by decide +kernel
theorem d_Fault_init_0 : decode prog_2_method_1_code 0 = .ok (.aload_n 0, 1) := by decide +kernel
theorem d_Fault_init_1 : decode prog_2_method_1_code 1 = .ok (.invokespecial 3, 3) := by decide +kernel
theorem d_Fault_init_4 : decode prog_2_method_1_code 4 = .ok (.aload_n 0, 1) := by decide +kernel
theorem d_Fault_init_5 : decode prog_2_method_1_code 5 = .ok (.iconst 0, 1) := by decide +kernel
theorem d_Fault_init_6 : decode prog_2_method_1_code 6 = .ok (.putfield 9, 3) := by decide +kernel
theorem d_Fault_init_9 : decode prog_2_method_1_code 9 = .ok (.aload_n 0, 1) := by decide +kernel
theorem d_Fault_init_10 : decode prog_2_method_1_code 10 = .ok (.iconst 0, 1) := by decide +kernel
theorem d_Fault_init_11 : decode prog_2_method_1_code 11 = .ok (.putfield 15, 3) := by decide +kernel
theorem d_Fault_init_14 : decode prog_2_method_1_code 14 = .ok (.aload_n 0, 1) := by decide +kernel
theorem d_Fault_init_15 : decode prog_2_method_1_code 15 = .ok (.iconst (-1), 1) := by decide +kernel
theorem d_Fault_init_16 : decode prog_2_method_1_code 16 = .ok (.putfield 18, 3) := by decide +kernel
theorem d_Fault_init_19 : decode prog_2_method_1_code 19 = .ok (.return_, 1) := by decide +kernel
theorem d_Image_init_0 : decode prog_3_method_1_code 0 = .ok (.aload_n 0, 1) := by decide +kernel
theorem d_Image_init_1 : decode prog_3_method_1_code 1 = .ok (.invokespecial 3, 3) := by decide +kernel
theorem d_Image_init_4 : decode prog_3_method_1_code 4 = .ok (.aload_n 0, 1) := by decide +kernel
theorem d_Image_init_5 : decode prog_3_method_1_code 5 = .ok (.bipush 7, 2) := by decide +kernel
theorem d_Image_init_7 : decode prog_3_method_1_code 7 = .ok (.newarray .int, 2) := by decide +kernel
theorem d_Image_init_9 : decode prog_3_method_1_code 9 = .ok (.putfield 9, 3) := by decide +kernel
theorem d_Image_init_12 : decode prog_3_method_1_code 12 = .ok (.aload_n 0, 1) := by decide +kernel
theorem d_Image_init_13 : decode prog_3_method_1_code 13 = .ok (.ldc 15, 2) := by decide +kernel
theorem d_Image_init_15 : decode prog_3_method_1_code 15 = .ok (.newarray .byte, 2) := by decide +kernel
theorem d_Image_init_17 : decode prog_3_method_1_code 17 = .ok (.putfield 16, 3) := by decide +kernel
theorem d_Image_init_20 : decode prog_3_method_1_code 20 = .ok (.aload_n 0, 1) := by decide +kernel
theorem d_Image_init_21 : decode prog_3_method_1_code 21 = .ok (.sipush 2048, 3) := by decide +kernel
theorem d_Image_init_24 : decode prog_3_method_1_code 24 = .ok (.newarray .long, 2) := by decide +kernel
theorem d_Image_init_26 : decode prog_3_method_1_code 26 = .ok (.putfield 20, 3) := by decide +kernel
theorem d_Image_init_29 : decode prog_3_method_1_code 29 = .ok (.aload_n 0, 1) := by decide +kernel
theorem d_Image_init_30 : decode prog_3_method_1_code 30 = .ok (.sipush 2048, 3) := by decide +kernel
theorem d_Image_init_33 : decode prog_3_method_1_code 33 = .ok (.newarray .int, 2) := by decide +kernel
theorem d_Image_init_35 : decode prog_3_method_1_code 35 = .ok (.putfield 24, 3) := by decide +kernel
theorem d_Image_init_38 : decode prog_3_method_1_code 38 = .ok (.aload_n 0, 1) := by decide +kernel
theorem d_Image_init_39 : decode prog_3_method_1_code 39 = .ok (.sipush 2048, 3) := by decide +kernel
theorem d_Image_init_42 : decode prog_3_method_1_code 42 = .ok (.newarray .int, 2) := by decide +kernel
theorem d_Image_init_44 : decode prog_3_method_1_code 44 = .ok (.putfield 27, 3) := by decide +kernel
theorem d_Image_init_47 : decode prog_3_method_1_code 47 = .ok (.aload_n 0, 1) := by decide +kernel
theorem d_Image_init_48 : decode prog_3_method_1_code 48 = .ok (.sipush 8192, 3) := by decide +kernel
theorem d_Image_init_51 : decode prog_3_method_1_code 51 = .ok (.newarray .int, 2) := by decide +kernel
theorem d_Image_init_53 : decode prog_3_method_1_code 53 = .ok (.putfield 30, 3) := by decide +kernel
theorem d_Image_init_56 : decode prog_3_method_1_code 56 = .ok (.aload_n 0, 1) := by decide +kernel
theorem d_Image_init_57 : decode prog_3_method_1_code 57 = .ok (.sipush 8192, 3) := by decide +kernel
theorem d_Image_init_60 : decode prog_3_method_1_code 60 = .ok (.newarray .int, 2) := by decide +kernel
theorem d_Image_init_62 : decode prog_3_method_1_code 62 = .ok (.putfield 33, 3) := by decide +kernel
theorem d_Image_init_65 : decode prog_3_method_1_code 65 = .ok (.aload_n 0, 1) := by decide +kernel
theorem d_Image_init_66 : decode prog_3_method_1_code 66 = .ok (.iconst 0, 1) := by decide +kernel
theorem d_Image_init_67 : decode prog_3_method_1_code 67 = .ok (.putfield 36, 3) := by decide +kernel
theorem d_Image_init_70 : decode prog_3_method_1_code 70 = .ok (.aload_n 0, 1) := by decide +kernel
theorem d_Image_init_71 : decode prog_3_method_1_code 71 = .ok (.iconst 0, 1) := by decide +kernel
theorem d_Image_init_72 : decode prog_3_method_1_code 72 = .ok (.putfield 40, 3) := by decide +kernel
theorem d_Image_init_75 : decode prog_3_method_1_code 75 = .ok (.return_, 1) := by decide +kernel
theorem d_L_clear_0 : decode prog_1_method_2_code 0 = .ok (.aload_n 0, 1) := by decide +kernel
theorem d_L_clear_1 : decode prog_1_method_2_code 1 = .ok (.iconst 0, 1) := by decide +kernel
theorem d_L_clear_2 : decode prog_1_method_2_code 2 = .ok (.putfield 62, 3) := by decide +kernel
theorem d_L_clear_5 : decode prog_1_method_2_code 5 = .ok (.aload_n 0, 1) := by decide +kernel
theorem d_L_clear_6 : decode prog_1_method_2_code 6 = .ok (.iconst 0, 1) := by decide +kernel
theorem d_L_clear_7 : decode prog_1_method_2_code 7 = .ok (.putfield 66, 3) := by decide +kernel
theorem d_L_clear_10 : decode prog_1_method_2_code 10 = .ok (.aload_n 0, 1) := by decide +kernel
theorem d_L_clear_11 : decode prog_1_method_2_code 11 = .ok (.iconst 0, 1) := by decide +kernel
theorem d_L_clear_12 : decode prog_1_method_2_code 12 = .ok (.putfield 69, 3) := by decide +kernel
theorem d_L_clear_15 : decode prog_1_method_2_code 15 = .ok (.aload_n 0, 1) := by decide +kernel
theorem d_L_clear_16 : decode prog_1_method_2_code 16 = .ok (.iconst 0, 1) := by decide +kernel
theorem d_L_clear_17 : decode prog_1_method_2_code 17 = .ok (.putfield 72, 3) := by decide +kernel
theorem d_L_clear_20 : decode prog_1_method_2_code 20 = .ok (.aload_n 0, 1) := by decide +kernel
theorem d_L_clear_21 : decode prog_1_method_2_code 21 = .ok (.iconst 0, 1) := by decide +kernel
theorem d_L_clear_22 : decode prog_1_method_2_code 22 = .ok (.putfield 75, 3) := by decide +kernel
theorem d_L_clear_25 : decode prog_1_method_2_code 25 = .ok (.aload_n 0, 1) := by decide +kernel
theorem d_L_clear_26 : decode prog_1_method_2_code 26 = .ok (.iconst 0, 1) := by decide +kernel
theorem d_L_clear_27 : decode prog_1_method_2_code 27 = .ok (.putfield 78, 3) := by decide +kernel
theorem d_L_clear_30 : decode prog_1_method_2_code 30 = .ok (.return_, 1) := by decide +kernel
theorem d_L_unit_0 : decode prog_1_method_3_code 0 = .ok (.iload_n 2, 1) := by decide +kernel
theorem d_L_unit_1 : decode prog_1_method_3_code 1 = .ok (.invokestatic 85, 3) := by decide +kernel
theorem d_L_unit_4 : decode prog_1_method_3_code 4 = .ok (.ifCond .eq 26, 3) := by decide +kernel
theorem d_L_unit_7 : decode prog_1_method_3_code 7 = .ok (.iload_n 3, 1) := by decide +kernel
theorem d_L_unit_8 : decode prog_1_method_3_code 8 = .ok (.invokestatic 85, 3) := by decide +kernel
theorem d_L_unit_11 : decode prog_1_method_3_code 11 = .ok (.ifCond .eq 19, 3) := by decide +kernel
theorem d_L_unit_14 : decode prog_1_method_3_code 14 = .ok (.iload 4, 2) := by decide +kernel
theorem d_L_unit_16 : decode prog_1_method_3_code 16 = .ok (.invokestatic 85, 3) := by decide +kernel
theorem d_L_unit_19 : decode prog_1_method_3_code 19 = .ok (.ifCond .eq 11, 3) := by decide +kernel
theorem d_L_unit_22 : decode prog_1_method_3_code 22 = .ok (.iload 5, 2) := by decide +kernel
theorem d_L_unit_24 : decode prog_1_method_3_code 24 = .ok (.invokestatic 85, 3) := by decide +kernel
theorem d_L_unit_27 : decode prog_1_method_3_code 27 = .ok (.ifCond .ne 5, 3) := by decide +kernel
theorem d_L_unit_30 : decode prog_1_method_3_code 30 = .ok (.iconst (-1), 1) := by decide +kernel
theorem d_L_unit_31 : decode prog_1_method_3_code 31 = .ok (.ireturn, 1) := by decide +kernel
theorem d_L_unit_32 : decode prog_1_method_3_code 32 = .ok (.iload_n 2, 1) := by decide +kernel
theorem d_L_unit_33 : decode prog_1_method_3_code 33 = .ok (.iload_n 3, 1) := by decide +kernel
theorem d_L_unit_34 : decode prog_1_method_3_code 34 = .ok (.iadd, 1) := by decide +kernel
theorem d_L_unit_35 : decode prog_1_method_3_code 35 = .ok (.iload 4, 2) := by decide +kernel
theorem d_L_unit_37 : decode prog_1_method_3_code 37 = .ok (.iadd, 1) := by decide +kernel
theorem d_L_unit_38 : decode prog_1_method_3_code 38 = .ok (.istore 6, 2) := by decide +kernel
theorem d_L_unit_40 : decode prog_1_method_3_code 40 = .ok (.iload 6, 2) := by decide +kernel
theorem d_L_unit_42 : decode prog_1_method_3_code 42 = .ok (.ldc 39, 2) := by decide +kernel
theorem d_L_unit_44 : decode prog_1_method_3_code 44 = .ok (.aload_n 0, 1) := by decide +kernel
theorem d_L_unit_45 : decode prog_1_method_3_code 45 = .ok (.getfield 78, 3) := by decide +kernel
theorem d_L_unit_48 : decode prog_1_method_3_code 48 = .ok (.isub, 1) := by decide +kernel
theorem d_L_unit_49 : decode prog_1_method_3_code 49 = .ok (.if_icmp .gt 12, 3) := by decide +kernel
theorem d_L_unit_52 : decode prog_1_method_3_code 52 = .ok (.aload_n 0, 1) := by decide +kernel
theorem d_L_unit_53 : decode prog_1_method_3_code 53 = .ok (.getfield 62, 3) := by decide +kernel
theorem d_L_unit_56 : decode prog_1_method_3_code 56 = .ok (.bipush 32, 2) := by decide +kernel
theorem d_L_unit_58 : decode prog_1_method_3_code 58 = .ok (.if_icmp .lt 5, 3) := by decide +kernel
theorem d_L_unit_61 : decode prog_1_method_3_code 61 = .ok (.iconst (-1), 1) := by decide +kernel
theorem d_L_unit_62 : decode prog_1_method_3_code 62 = .ok (.ireturn, 1) := by decide +kernel
theorem d_L_unit_63 : decode prog_1_method_3_code 63 = .ok (.new 9, 3) := by decide +kernel
theorem d_L_unit_66 : decode prog_1_method_3_code 66 = .ok (.dup, 1) := by decide +kernel
theorem d_L_unit_67 : decode prog_1_method_3_code 67 = .ok (.aload_n 0, 1) := by decide +kernel
theorem d_L_unit_68 : decode prog_1_method_3_code 68 = .ok (.getfield 62, 3) := by decide +kernel
theorem d_L_unit_71 : decode prog_1_method_3_code 71 = .ok (.iload_n 1, 1) := by decide +kernel
theorem d_L_unit_72 : decode prog_1_method_3_code 72 = .ok (.aload_n 0, 1) := by decide +kernel
theorem d_L_unit_73 : decode prog_1_method_3_code 73 = .ok (.getfield 23, 3) := by decide +kernel
theorem d_L_unit_76 : decode prog_1_method_3_code 76 = .ok (.aload_n 0, 1) := by decide +kernel
theorem d_L_unit_77 : decode prog_1_method_3_code 77 = .ok (.getfield 69, 3) := by decide +kernel
theorem d_L_unit_80 : decode prog_1_method_3_code 80 = .ok (.invokespecial 89, 3) := by decide +kernel
theorem d_L_unit_83 : decode prog_1_method_3_code 83 = .ok (.astore 7, 2) := by decide +kernel
theorem d_L_unit_85 : decode prog_1_method_3_code 85 = .ok (.aload_n 0, 1) := by decide +kernel
theorem d_L_unit_86 : decode prog_1_method_3_code 86 = .ok (.aload 7, 2) := by decide +kernel
theorem d_L_unit_88 : decode prog_1_method_3_code 88 = .ok (.iconst 0, 1) := by decide +kernel
theorem d_L_unit_89 : decode prog_1_method_3_code 89 = .ok (.iload_n 2, 1) := by decide +kernel
theorem d_L_unit_90 : decode prog_1_method_3_code 90 = .ok (.invokevirtual 92, 3) := by decide +kernel
theorem d_L_unit_93 : decode prog_1_method_3_code 93 = .ok (.aload_n 0, 1) := by decide +kernel
theorem d_L_unit_94 : decode prog_1_method_3_code 94 = .ok (.aload 7, 2) := by decide +kernel
theorem d_L_unit_96 : decode prog_1_method_3_code 96 = .ok (.iconst 1, 1) := by decide +kernel
theorem d_L_unit_97 : decode prog_1_method_3_code 97 = .ok (.iload_n 3, 1) := by decide +kernel
theorem d_L_unit_98 : decode prog_1_method_3_code 98 = .ok (.invokevirtual 92, 3) := by decide +kernel
theorem d_L_unit_101 : decode prog_1_method_3_code 101 = .ok (.aload_n 0, 1) := by decide +kernel
theorem d_L_unit_102 : decode prog_1_method_3_code 102 = .ok (.aload 7, 2) := by decide +kernel
theorem d_L_unit_104 : decode prog_1_method_3_code 104 = .ok (.iconst 2, 1) := by decide +kernel
theorem d_L_unit_105 : decode prog_1_method_3_code 105 = .ok (.iload 4, 2) := by decide +kernel
theorem d_L_unit_107 : decode prog_1_method_3_code 107 = .ok (.invokevirtual 92, 3) := by decide +kernel
theorem d_L_unit_110 : decode prog_1_method_3_code 110 = .ok (.aload 7, 2) := by decide +kernel
theorem d_L_unit_112 : decode prog_1_method_3_code 112 = .ok (.getfield 96, 3) := by decide +kernel
theorem d_L_unit_115 : decode prog_1_method_3_code 115 = .ok (.iconst 3, 1) := by decide +kernel
theorem d_L_unit_116 : decode prog_1_method_3_code 116 = .ok (.new 100, 3) := by decide +kernel
theorem d_L_unit_119 : decode prog_1_method_3_code 119 = .ok (.dup, 1) := by decide +kernel
theorem d_L_unit_120 : decode prog_1_method_3_code 120 = .ok (.aload 7, 2) := by decide +kernel
theorem d_L_unit_122 : decode prog_1_method_3_code 122 = .ok (.iload 5, 2) := by decide +kernel
theorem d_L_unit_124 : decode prog_1_method_3_code 124 = .ok (.iconst 0, 1) := by decide +kernel
theorem d_L_unit_125 : decode prog_1_method_3_code 125 = .ok (.invokespecial 102, 3) := by decide +kernel
theorem d_L_unit_128 : decode prog_1_method_3_code 128 = .ok (.aastore, 1) := by decide +kernel
theorem d_L_unit_129 : decode prog_1_method_3_code 129 = .ok (.aload_n 0, 1) := by decide +kernel
theorem d_L_unit_130 : decode prog_1_method_3_code 130 = .ok (.getfield 11, 3) := by decide +kernel
theorem d_L_unit_133 : decode prog_1_method_3_code 133 = .ok (.aload_n 0, 1) := by decide +kernel
theorem d_L_unit_134 : decode prog_1_method_3_code 134 = .ok (.getfield 62, 3) := by decide +kernel
theorem d_L_unit_137 : decode prog_1_method_3_code 137 = .ok (.aload 7, 2) := by decide +kernel
theorem d_L_unit_139 : decode prog_1_method_3_code 139 = .ok (.aastore, 1) := by decide +kernel
theorem d_L_unit_140 : decode prog_1_method_3_code 140 = .ok (.aload_n 0, 1) := by decide +kernel
theorem d_L_unit_141 : decode prog_1_method_3_code 141 = .ok (.dup, 1) := by decide +kernel
theorem d_L_unit_142 : decode prog_1_method_3_code 142 = .ok (.getfield 62, 3) := by decide +kernel
theorem d_L_unit_145 : decode prog_1_method_3_code 145 = .ok (.iconst 1, 1) := by decide +kernel
theorem d_L_unit_146 : decode prog_1_method_3_code 146 = .ok (.iadd, 1) := by decide +kernel
theorem d_L_unit_147 : decode prog_1_method_3_code 147 = .ok (.putfield 62, 3) := by decide +kernel
theorem d_L_unit_150 : decode prog_1_method_3_code 150 = .ok (.aload 7, 2) := by decide +kernel
theorem d_L_unit_152 : decode prog_1_method_3_code 152 = .ok (.getfield 104, 3) := by decide +kernel
theorem d_L_unit_155 : decode prog_1_method_3_code 155 = .ok (.ireturn, 1) := by decide +kernel
theorem d_L_isSectionSize_0 : decode prog_1_method_16_code 0 = .ok (.iload_n 0, 1) := by decide +kernel
theorem d_L_isSectionSize_1 : decode prog_1_method_16_code 1 = .ok (.ifCond .lt 14, 3) := by decide +kernel
theorem d_L_isSectionSize_4 : decode prog_1_method_16_code 4 = .ok (.iload_n 0, 1) := by decide +kernel
theorem d_L_isSectionSize_5 : decode prog_1_method_16_code 5 = .ok (.ldc_w 263, 3) := by decide +kernel
theorem d_L_isSectionSize_8 : decode prog_1_method_16_code 8 = .ok (.if_icmp .gt 7, 3) := by decide +kernel
theorem d_L_isSectionSize_11 : decode prog_1_method_16_code 11 = .ok (.iconst 1, 1) := by decide +kernel
theorem d_L_isSectionSize_12 : decode prog_1_method_16_code 12 = .ok (.goto 4, 3) := by decide +kernel
theorem d_L_isSectionSize_15 : decode prog_1_method_16_code 15 = .ok (.iconst 0, 1) := by decide +kernel
theorem d_L_isSectionSize_16 : decode prog_1_method_16_code 16 = .ok (.ireturn, 1) := by decide +kernel
theorem d_Unit_init_0 : decode prog_8_method_1_code 0 = .ok (.aload_n 0, 1) := by decide +kernel
theorem d_Unit_init_1 : decode prog_8_method_1_code 1 = .ok (.invokespecial 3, 3) := by decide +kernel
theorem d_Unit_init_4 : decode prog_8_method_1_code 4 = .ok (.aload_n 0, 1) := by decide +kernel
theorem d_Unit_init_5 : decode prog_8_method_1_code 5 = .ok (.iload_n 1, 1) := by decide +kernel
theorem d_Unit_init_6 : decode prog_8_method_1_code 6 = .ok (.putfield 9, 3) := by decide +kernel
theorem d_Unit_init_9 : decode prog_8_method_1_code 9 = .ok (.aload_n 0, 1) := by decide +kernel
theorem d_Unit_init_10 : decode prog_8_method_1_code 10 = .ok (.iload_n 2, 1) := by decide +kernel
theorem d_Unit_init_11 : decode prog_8_method_1_code 11 = .ok (.putfield 15, 3) := by decide +kernel
theorem d_Unit_init_14 : decode prog_8_method_1_code 14 = .ok (.aload_n 0, 1) := by decide +kernel
theorem d_Unit_init_15 : decode prog_8_method_1_code 15 = .ok (.iconst 4, 1) := by decide +kernel
theorem d_Unit_init_16 : decode prog_8_method_1_code 16 = .ok (.anewarray 19, 3) := by decide +kernel
theorem d_Unit_init_19 : decode prog_8_method_1_code 19 = .ok (.putfield 21, 3) := by decide +kernel
theorem d_Unit_init_22 : decode prog_8_method_1_code 22 = .ok (.aload_n 0, 1) := by decide +kernel
theorem d_Unit_init_23 : decode prog_8_method_1_code 23 = .ok (.aload_n 3, 1) := by decide +kernel
theorem d_Unit_init_24 : decode prog_8_method_1_code 24 = .ok (.putfield 25, 3) := by decide +kernel
theorem d_Unit_init_27 : decode prog_8_method_1_code 27 = .ok (.aload_n 0, 1) := by decide +kernel
theorem d_Unit_init_28 : decode prog_8_method_1_code 28 = .ok (.iload 4, 2) := by decide +kernel
theorem d_Unit_init_30 : decode prog_8_method_1_code 30 = .ok (.putfield 29, 3) := by decide +kernel
theorem d_Unit_init_33 : decode prog_8_method_1_code 33 = .ok (.aload_n 0, 1) := by decide +kernel
theorem d_Unit_init_34 : decode prog_8_method_1_code 34 = .ok (.iload 4, 2) := by decide +kernel
theorem d_Unit_init_36 : decode prog_8_method_1_code 36 = .ok (.putfield 32, 3) := by decide +kernel
theorem d_Unit_init_39 : decode prog_8_method_1_code 39 = .ok (.aload_n 0, 1) := by decide +kernel
theorem d_Unit_init_40 : decode prog_8_method_1_code 40 = .ok (.iconst 0, 1) := by decide +kernel
theorem d_Unit_init_41 : decode prog_8_method_1_code 41 = .ok (.putfield 35, 3) := by decide +kernel
theorem d_Unit_init_44 : decode prog_8_method_1_code 44 = .ok (.return_, 1) := by decide +kernel
theorem d_L_addSection_0 : decode prog_1_method_24_code 0 = .ok (.aload_n 0, 1) := by decide +kernel
theorem d_L_addSection_1 : decode prog_1_method_24_code 1 = .ok (.getfield 78, 3) := by decide +kernel
theorem d_L_addSection_4 : decode prog_1_method_24_code 4 = .ok (.iload_n 3, 1) := by decide +kernel
theorem d_L_addSection_5 : decode prog_1_method_24_code 5 = .ok (.iadd, 1) := by decide +kernel
theorem d_L_addSection_6 : decode prog_1_method_24_code 6 = .ok (.istore 4, 2) := by decide +kernel
theorem d_L_addSection_8 : decode prog_1_method_24_code 8 = .ok (.aload_n 0, 1) := by decide +kernel
theorem d_L_addSection_9 : decode prog_1_method_24_code 9 = .ok (.getfield 40, 3) := by decide +kernel
theorem d_L_addSection_12 : decode prog_1_method_24_code 12 = .ok (.aload_n 0, 1) := by decide +kernel
theorem d_L_addSection_13 : decode prog_1_method_24_code 13 = .ok (.getfield 78, 3) := by decide +kernel
theorem d_L_addSection_16 : decode prog_1_method_24_code 16 = .ok (.iload 4, 2) := by decide +kernel
theorem d_L_addSection_18 : decode prog_1_method_24_code 18 = .ok (.iconst 0, 1) := by decide +kernel
theorem d_L_addSection_19 : decode prog_1_method_24_code 19 = .ok (.invokestatic 265, 3) := by decide +kernel
theorem d_L_addSection_22 : decode prog_1_method_24_code 22 = .ok (.aload_n 1, 1) := by decide +kernel
theorem d_L_addSection_23 : decode prog_1_method_24_code 23 = .ok (.getfield 96, 3) := by decide +kernel
theorem d_L_addSection_26 : decode prog_1_method_24_code 26 = .ok (.iload_n 2, 1) := by decide +kernel
theorem d_L_addSection_27 : decode prog_1_method_24_code 27 = .ok (.new 100, 3) := by decide +kernel
theorem d_L_addSection_30 : decode prog_1_method_24_code 30 = .ok (.dup, 1) := by decide +kernel
theorem d_L_addSection_31 : decode prog_1_method_24_code 31 = .ok (.aload_n 1, 1) := by decide +kernel
theorem d_L_addSection_32 : decode prog_1_method_24_code 32 = .ok (.iload_n 3, 1) := by decide +kernel
theorem d_L_addSection_33 : decode prog_1_method_24_code 33 = .ok (.aload_n 0, 1) := by decide +kernel
theorem d_L_addSection_34 : decode prog_1_method_24_code 34 = .ok (.getfield 78, 3) := by decide +kernel
theorem d_L_addSection_37 : decode prog_1_method_24_code 37 = .ok (.invokespecial 102, 3) := by decide +kernel
theorem d_L_addSection_40 : decode prog_1_method_24_code 40 = .ok (.aastore, 1) := by decide +kernel
theorem d_L_addSection_41 : decode prog_1_method_24_code 41 = .ok (.aload_n 0, 1) := by decide +kernel
theorem d_L_addSection_42 : decode prog_1_method_24_code 42 = .ok (.iload 4, 2) := by decide +kernel
theorem d_L_addSection_44 : decode prog_1_method_24_code 44 = .ok (.putfield 78, 3) := by decide +kernel
theorem d_L_addSection_47 : decode prog_1_method_24_code 47 = .ok (.return_, 1) := by decide +kernel
theorem d_Section_init_0 : decode prog_5_method_1_code 0 = .ok (.aload_n 0, 1) := by decide +kernel
theorem d_Section_init_1 : decode prog_5_method_1_code 1 = .ok (.invokespecial 1, 3) := by decide +kernel
theorem d_Section_init_4 : decode prog_5_method_1_code 4 = .ok (.aload_n 0, 1) := by decide +kernel
theorem d_Section_init_5 : decode prog_5_method_1_code 5 = .ok (.aload_n 1, 1) := by decide +kernel
theorem d_Section_init_6 : decode prog_5_method_1_code 6 = .ok (.putfield 7, 3) := by decide +kernel
theorem d_Section_init_9 : decode prog_5_method_1_code 9 = .ok (.aload_n 0, 1) := by decide +kernel
theorem d_Section_init_10 : decode prog_5_method_1_code 10 = .ok (.iload_n 2, 1) := by decide +kernel
theorem d_Section_init_11 : decode prog_5_method_1_code 11 = .ok (.putfield 13, 3) := by decide +kernel
theorem d_Section_init_14 : decode prog_5_method_1_code 14 = .ok (.aload_n 0, 1) := by decide +kernel
theorem d_Section_init_15 : decode prog_5_method_1_code 15 = .ok (.iload_n 3, 1) := by decide +kernel
theorem d_Section_init_16 : decode prog_5_method_1_code 16 = .ok (.putfield 17, 3) := by decide +kernel
theorem d_Section_init_19 : decode prog_5_method_1_code 19 = .ok (.aload_n 0, 1) := by decide +kernel
theorem d_Section_init_20 : decode prog_5_method_1_code 20 = .ok (.iconst 0, 1) := by decide +kernel
theorem d_Section_init_21 : decode prog_5_method_1_code 21 = .ok (.putfield 20, 3) := by decide +kernel
theorem d_Section_init_24 : decode prog_5_method_1_code 24 = .ok (.aload_n 0, 1) := by decide +kernel
theorem d_Section_init_25 : decode prog_5_method_1_code 25 = .ok (.iconst 0, 1) := by decide +kernel
theorem d_Section_init_26 : decode prog_5_method_1_code 26 = .ok (.putfield 24, 3) := by decide +kernel
theorem d_Section_init_29 : decode prog_5_method_1_code 29 = .ok (.aload_n 0, 1) := by decide +kernel
theorem d_Section_init_30 : decode prog_5_method_1_code 30 = .ok (.iconst 0, 1) := by decide +kernel
theorem d_Section_init_31 : decode prog_5_method_1_code 31 = .ok (.putfield 27, 3) := by decide +kernel
theorem d_Section_init_34 : decode prog_5_method_1_code 34 = .ok (.return_, 1) := by decide +kernel
theorem d_L_put_0 : decode prog_1_method_4_code 0 = .ok (.aload_n 0, 1) := by decide +kernel
theorem d_L_put_1 : decode prog_1_method_4_code 1 = .ok (.iload_n 1, 1) := by decide +kernel
theorem d_L_put_2 : decode prog_1_method_4_code 2 = .ok (.invokevirtual 107, 3) := by decide +kernel
theorem d_L_put_5 : decode prog_1_method_4_code 5 = .ok (.astore 6, 2) := by decide +kernel
theorem d_L_put_7 : decode prog_1_method_4_code 7 = .ok (.aload 6, 2) := by decide +kernel
theorem d_L_put_9 : decode prog_1_method_4_code 9 = .ok (.ifnull 32, 3) := by decide +kernel
theorem d_L_put_12 : decode prog_1_method_4_code 12 = .ok (.iload_n 1, 1) := by decide +kernel
theorem d_L_put_13 : decode prog_1_method_4_code 13 = .ok (.iconst 3, 1) := by decide +kernel
theorem d_L_put_14 : decode prog_1_method_4_code 14 = .ok (.if_icmp .eq 27, 3) := by decide +kernel
theorem d_L_put_17 : decode prog_1_method_4_code 17 = .ok (.iload 5, 2) := by decide +kernel
theorem d_L_put_19 : decode prog_1_method_4_code 19 = .ok (.iconst 1, 1) := by decide +kernel
theorem d_L_put_20 : decode prog_1_method_4_code 20 = .ok (.if_icmp .lt 21, 3) := by decide +kernel
theorem d_L_put_23 : decode prog_1_method_4_code 23 = .ok (.iload 5, 2) := by decide +kernel
theorem d_L_put_25 : decode prog_1_method_4_code 25 = .ok (.bipush 8, 2) := by decide +kernel
theorem d_L_put_27 : decode prog_1_method_4_code 27 = .ok (.if_icmp .gt 14, 3) := by decide +kernel
theorem d_L_put_30 : decode prog_1_method_4_code 30 = .ok (.aload 6, 2) := by decide +kernel
theorem d_L_put_32 : decode prog_1_method_4_code 32 = .ok (.iload_n 2, 1) := by decide +kernel
theorem d_L_put_33 : decode prog_1_method_4_code 33 = .ok (.iload 5, 2) := by decide +kernel
theorem d_L_put_35 : decode prog_1_method_4_code 35 = .ok (.invokevirtual 111, 3) := by decide +kernel
theorem d_L_put_38 : decode prog_1_method_4_code 38 = .ok (.ifCond .ne 5, 3) := by decide +kernel
theorem d_L_put_41 : decode prog_1_method_4_code 41 = .ok (.iconst 0, 1) := by decide +kernel
theorem d_L_put_42 : decode prog_1_method_4_code 42 = .ok (.ireturn, 1) := by decide +kernel
theorem d_L_put_43 : decode prog_1_method_4_code 43 = .ok (.aload_n 0, 1) := by decide +kernel
theorem d_L_put_44 : decode prog_1_method_4_code 44 = .ok (.getfield 40, 3) := by decide +kernel
theorem d_L_put_47 : decode prog_1_method_4_code 47 = .ok (.aload 6, 2) := by decide +kernel
theorem d_L_put_49 : decode prog_1_method_4_code 49 = .ok (.getfield 115, 3) := by decide +kernel
theorem d_L_put_52 : decode prog_1_method_4_code 52 = .ok (.iload_n 2, 1) := by decide +kernel
theorem d_L_put_53 : decode prog_1_method_4_code 53 = .ok (.iadd, 1) := by decide +kernel
theorem d_L_put_54 : decode prog_1_method_4_code 54 = .ok (.lload_n 3, 1) := by decide +kernel
theorem d_L_put_55 : decode prog_1_method_4_code 55 = .ok (.iload 5, 2) := by decide +kernel
theorem d_L_put_57 : decode prog_1_method_4_code 57 = .ok (.invokestatic 118, 3) := by decide +kernel
theorem d_L_put_60 : decode prog_1_method_4_code 60 = .ok (.iconst 1, 1) := by decide +kernel
theorem d_L_put_61 : decode prog_1_method_4_code 61 = .ok (.ireturn, 1) := by decide +kernel
theorem d_L_latestSection_0 : decode prog_1_method_23_code 0 = .ok (.aload_n 0, 1) := by decide +kernel
theorem d_L_latestSection_1 : decode prog_1_method_23_code 1 = .ok (.invokevirtual 126, 3) := by decide +kernel
theorem d_L_latestSection_4 : decode prog_1_method_23_code 4 = .ok (.astore_n 2, 1) := by decide +kernel
theorem d_L_latestSection_5 : decode prog_1_method_23_code 5 = .ok (.aload_n 2, 1) := by decide +kernel
theorem d_L_latestSection_6 : decode prog_1_method_23_code 6 = .ok (.ifnonnull 7, 3) := by decide +kernel
theorem d_L_latestSection_9 : decode prog_1_method_23_code 9 = .ok (.aconst_null, 1) := by decide +kernel
theorem d_L_latestSection_10 : decode prog_1_method_23_code 10 = .ok (.goto 8, 3) := by decide +kernel
theorem d_L_latestSection_13 : decode prog_1_method_23_code 13 = .ok (.aload_n 2, 1) := by decide +kernel
theorem d_L_latestSection_14 : decode prog_1_method_23_code 14 = .ok (.iload_n 1, 1) := by decide +kernel
theorem d_L_latestSection_15 : decode prog_1_method_23_code 15 = .ok (.invokevirtual 167, 3) := by decide +kernel
theorem d_L_latestSection_18 : decode prog_1_method_23_code 18 = .ok (.areturn, 1) := by decide +kernel
theorem d_L_latestUnit_0 : decode prog_1_method_22_code 0 = .ok (.aload_n 0, 1) := by decide +kernel
theorem d_L_latestUnit_1 : decode prog_1_method_22_code 1 = .ok (.getfield 62, 3) := by decide +kernel
theorem d_L_latestUnit_4 : decode prog_1_method_22_code 4 = .ok (.ifCond .ne 7, 3) := by decide +kernel
theorem d_L_latestUnit_7 : decode prog_1_method_22_code 7 = .ok (.aconst_null, 1) := by decide +kernel
theorem d_L_latestUnit_8 : decode prog_1_method_22_code 8 = .ok (.goto 14, 3) := by decide +kernel
theorem d_L_latestUnit_11 : decode prog_1_method_22_code 11 = .ok (.aload_n 0, 1) := by decide +kernel
theorem d_L_latestUnit_12 : decode prog_1_method_22_code 12 = .ok (.getfield 11, 3) := by decide +kernel
theorem d_L_latestUnit_15 : decode prog_1_method_22_code 15 = .ok (.aload_n 0, 1) := by decide +kernel
theorem d_L_latestUnit_16 : decode prog_1_method_22_code 16 = .ok (.getfield 62, 3) := by decide +kernel
theorem d_L_latestUnit_19 : decode prog_1_method_22_code 19 = .ok (.iconst 1, 1) := by decide +kernel
theorem d_L_latestUnit_20 : decode prog_1_method_22_code 20 = .ok (.isub, 1) := by decide +kernel
theorem d_L_latestUnit_21 : decode prog_1_method_22_code 21 = .ok (.aaload, 1) := by decide +kernel
theorem d_L_latestUnit_22 : decode prog_1_method_22_code 22 = .ok (.areturn, 1) := by decide +kernel
theorem d_Unit_sectionOfKind_0 : decode prog_8_method_2_code 0 = .ok (.iload_n 1, 1) := by decide +kernel
theorem d_Unit_sectionOfKind_1 : decode prog_8_method_2_code 1 = .ok (.ifCond .lt 12, 3) := by decide +kernel
theorem d_Unit_sectionOfKind_4 : decode prog_8_method_2_code 4 = .ok (.iload_n 1, 1) := by decide +kernel
theorem d_Unit_sectionOfKind_5 : decode prog_8_method_2_code 5 = .ok (.aload_n 0, 1) := by decide +kernel
theorem d_Unit_sectionOfKind_6 : decode prog_8_method_2_code 6 = .ok (.getfield 21, 3) := by decide +kernel
theorem d_Unit_sectionOfKind_9 : decode prog_8_method_2_code 9 = .ok (.arraylength, 1) := by decide +kernel
theorem d_Unit_sectionOfKind_10 : decode prog_8_method_2_code 10 = .ok (.if_icmp .lt 7, 3) := by decide +kernel
theorem d_Unit_sectionOfKind_13 : decode prog_8_method_2_code 13 = .ok (.aconst_null, 1) := by decide +kernel
theorem d_Unit_sectionOfKind_14 : decode prog_8_method_2_code 14 = .ok (.goto 9, 3) := by decide +kernel
theorem d_Unit_sectionOfKind_17 : decode prog_8_method_2_code 17 = .ok (.aload_n 0, 1) := by decide +kernel
theorem d_Unit_sectionOfKind_18 : decode prog_8_method_2_code 18 = .ok (.getfield 21, 3) := by decide +kernel
theorem d_Unit_sectionOfKind_21 : decode prog_8_method_2_code 21 = .ok (.iload_n 1, 1) := by decide +kernel
theorem d_Unit_sectionOfKind_22 : decode prog_8_method_2_code 22 = .ok (.aaload, 1) := by decide +kernel
theorem d_Unit_sectionOfKind_23 : decode prog_8_method_2_code 23 = .ok (.areturn, 1) := by decide +kernel
theorem d_Section_holds_0 : decode prog_5_method_2_code 0 = .ok (.iload_n 1, 1) := by decide +kernel
theorem d_Section_holds_1 : decode prog_5_method_2_code 1 = .ok (.ifCond .lt 17, 3) := by decide +kernel
theorem d_Section_holds_4 : decode prog_5_method_2_code 4 = .ok (.iload_n 1, 1) := by decide +kernel
theorem d_Section_holds_5 : decode prog_5_method_2_code 5 = .ok (.aload_n 0, 1) := by decide +kernel
theorem d_Section_holds_6 : decode prog_5_method_2_code 6 = .ok (.getfield 13, 3) := by decide +kernel
theorem d_Section_holds_9 : decode prog_5_method_2_code 9 = .ok (.iload_n 2, 1) := by decide +kernel
theorem d_Section_holds_10 : decode prog_5_method_2_code 10 = .ok (.isub, 1) := by decide +kernel
theorem d_Section_holds_11 : decode prog_5_method_2_code 11 = .ok (.if_icmp .gt 7, 3) := by decide +kernel
theorem d_Section_holds_14 : decode prog_5_method_2_code 14 = .ok (.iconst 1, 1) := by decide +kernel
theorem d_Section_holds_15 : decode prog_5_method_2_code 15 = .ok (.goto 4, 3) := by decide +kernel
theorem d_Section_holds_18 : decode prog_5_method_2_code 18 = .ok (.iconst 0, 1) := by decide +kernel
theorem d_Section_holds_19 : decode prog_5_method_2_code 19 = .ok (.ireturn, 1) := by decide +kernel
theorem d_L_storeLowestFirst_0 : decode prog_1_method_21_code 0 = .ok (.iconst 0, 1) := by decide +kernel
theorem d_L_storeLowestFirst_1 : decode prog_1_method_21_code 1 = .ok (.istore 5, 2) := by decide +kernel
theorem d_L_storeLowestFirst_3 : decode prog_1_method_21_code 3 = .ok (.iload 5, 2) := by decide +kernel
theorem d_L_storeLowestFirst_5 : decode prog_1_method_21_code 5 = .ok (.iload 4, 2) := by decide +kernel
theorem d_L_storeLowestFirst_7 : decode prog_1_method_21_code 7 = .ok (.if_icmp .ge 24, 3) := by decide +kernel
theorem d_L_storeLowestFirst_10 : decode prog_1_method_21_code 10 = .ok (.aload_n 0, 1) := by decide +kernel
theorem d_L_storeLowestFirst_11 : decode prog_1_method_21_code 11 = .ok (.iload_n 1, 1) := by decide +kernel
theorem d_L_storeLowestFirst_12 : decode prog_1_method_21_code 12 = .ok (.iload 5, 2) := by decide +kernel
theorem d_L_storeLowestFirst_14 : decode prog_1_method_21_code 14 = .ok (.iadd, 1) := by decide +kernel
theorem d_L_storeLowestFirst_15 : decode prog_1_method_21_code 15 = .ok (.lload_n 2, 1) := by decide +kernel
theorem d_L_storeLowestFirst_16 : decode prog_1_method_21_code 16 = .ok (.bipush 8, 2) := by decide +kernel
theorem d_L_storeLowestFirst_18 : decode prog_1_method_21_code 18 = .ok (.iload 5, 2) := by decide +kernel
theorem d_L_storeLowestFirst_20 : decode prog_1_method_21_code 20 = .ok (.imul, 1) := by decide +kernel
theorem d_L_storeLowestFirst_21 : decode prog_1_method_21_code 21 = .ok (.lshr, 1) := by decide +kernel
theorem d_L_storeLowestFirst_22 : decode prog_1_method_21_code 22 = .ok (.l2i, 1) := by decide +kernel
theorem d_L_storeLowestFirst_23 : decode prog_1_method_21_code 23 = .ok (.i2b, 1) := by decide +kernel
theorem d_L_storeLowestFirst_24 : decode prog_1_method_21_code 24 = .ok (.bastore, 1) := by decide +kernel
theorem d_L_storeLowestFirst_25 : decode prog_1_method_21_code 25 = .ok (.iinc 5 1, 3) := by decide +kernel
theorem d_L_storeLowestFirst_28 : decode prog_1_method_21_code 28 = .ok (.goto (-25), 3) := by decide +kernel
theorem d_L_storeLowestFirst_31 : decode prog_1_method_21_code 31 = .ok (.return_, 1) := by decide +kernel
theorem d_L_keep_0 : decode prog_1_method_5_code 0 = .ok (.aload_n 0, 1) := by decide +kernel
theorem d_L_keep_1 : decode prog_1_method_5_code 1 = .ok (.iload_n 1, 1) := by decide +kernel
theorem d_L_keep_2 : decode prog_1_method_5_code 2 = .ok (.invokevirtual 107, 3) := by decide +kernel
theorem d_L_keep_5 : decode prog_1_method_5_code 5 = .ok (.astore_n 2, 1) := by decide +kernel
theorem d_L_keep_6 : decode prog_1_method_5_code 6 = .ok (.aload_n 2, 1) := by decide +kernel
theorem d_L_keep_7 : decode prog_1_method_5_code 7 = .ok (.ifnonnull 5, 3) := by decide +kernel
theorem d_L_keep_10 : decode prog_1_method_5_code 10 = .ok (.iconst 0, 1) := by decide +kernel
theorem d_L_keep_11 : decode prog_1_method_5_code 11 = .ok (.ireturn, 1) := by decide +kernel
theorem d_L_keep_12 : decode prog_1_method_5_code 12 = .ok (.aload_n 2, 1) := by decide +kernel
theorem d_L_keep_13 : decode prog_1_method_5_code 13 = .ok (.iconst 1, 1) := by decide +kernel
theorem d_L_keep_14 : decode prog_1_method_5_code 14 = .ok (.putfield 122, 3) := by decide +kernel
theorem d_L_keep_17 : decode prog_1_method_5_code 17 = .ok (.iconst 1, 1) := by decide +kernel
theorem d_L_keep_18 : decode prog_1_method_5_code 18 = .ok (.ireturn, 1) := by decide +kernel
theorem d_L_symbol_0 : decode prog_1_method_6_code 0 = .ok (.aload_n 0, 1) := by decide +kernel
theorem d_L_symbol_1 : decode prog_1_method_6_code 1 = .ok (.invokevirtual 126, 3) := by decide +kernel
theorem d_L_symbol_4 : decode prog_1_method_6_code 4 = .ok (.astore 8, 2) := by decide +kernel
theorem d_L_symbol_6 : decode prog_1_method_6_code 6 = .ok (.aload 8, 2) := by decide +kernel
theorem d_L_symbol_8 : decode prog_1_method_6_code 8 = .ok (.ifnull 20, 3) := by decide +kernel
theorem d_L_symbol_11 : decode prog_1_method_6_code 11 = .ok (.aload_n 0, 1) := by decide +kernel
theorem d_L_symbol_12 : decode prog_1_method_6_code 12 = .ok (.getfield 69, 3) := by decide +kernel
theorem d_L_symbol_15 : decode prog_1_method_6_code 15 = .ok (.sipush 2048, 3) := by decide +kernel
theorem d_L_symbol_18 : decode prog_1_method_6_code 18 = .ok (.if_icmp .ge 10, 3) := by decide +kernel
theorem d_L_symbol_21 : decode prog_1_method_6_code 21 = .ok (.iload_n 3, 1) := by decide +kernel
theorem d_L_symbol_22 : decode prog_1_method_6_code 22 = .ok (.invokestatic 130, 3) := by decide +kernel
theorem d_L_symbol_25 : decode prog_1_method_6_code 25 = .ok (.ifCond .ne 5, 3) := by decide +kernel
theorem d_L_symbol_28 : decode prog_1_method_6_code 28 = .ok (.iconst (-1), 1) := by decide +kernel
theorem d_L_symbol_29 : decode prog_1_method_6_code 29 = .ok (.ireturn, 1) := by decide +kernel
theorem d_L_symbol_30 : decode prog_1_method_6_code 30 = .ok (.iload 4, 2) := by decide +kernel
theorem d_L_symbol_32 : decode prog_1_method_6_code 32 = .ok (.ifCond .lt 17, 3) := by decide +kernel
theorem d_L_symbol_35 : decode prog_1_method_6_code 35 = .ok (.iload 4, 2) := by decide +kernel
theorem d_L_symbol_37 : decode prog_1_method_6_code 37 = .ok (.iconst 3, 1) := by decide +kernel
theorem d_L_symbol_38 : decode prog_1_method_6_code 38 = .ok (.if_icmp .gt 11, 3) := by decide +kernel
theorem d_L_symbol_41 : decode prog_1_method_6_code 41 = .ok (.iload 7, 2) := by decide +kernel
theorem d_L_symbol_43 : decode prog_1_method_6_code 43 = .ok (.invokestatic 133, 3) := by decide +kernel
theorem d_L_symbol_46 : decode prog_1_method_6_code 46 = .ok (.ifCond .ne 5, 3) := by decide +kernel
theorem d_L_symbol_49 : decode prog_1_method_6_code 49 = .ok (.iconst (-1), 1) := by decide +kernel
theorem d_L_symbol_50 : decode prog_1_method_6_code 50 = .ok (.ireturn, 1) := by decide +kernel
theorem d_L_symbol_51 : decode prog_1_method_6_code 51 = .ok (.aload_n 0, 1) := by decide +kernel
theorem d_L_symbol_52 : decode prog_1_method_6_code 52 = .ok (.iload 5, 2) := by decide +kernel
theorem d_L_symbol_54 : decode prog_1_method_6_code 54 = .ok (.invokevirtual 107, 3) := by decide +kernel
theorem d_L_symbol_57 : decode prog_1_method_6_code 57 = .ok (.astore 9, 2) := by decide +kernel
theorem d_L_symbol_59 : decode prog_1_method_6_code 59 = .ok (.iload 5, 2) := by decide +kernel
theorem d_L_symbol_61 : decode prog_1_method_6_code 61 = .ok (.iconst (-1), 1) := by decide +kernel
theorem d_L_symbol_62 : decode prog_1_method_6_code 62 = .ok (.if_icmp .eq 20, 3) := by decide +kernel
theorem d_L_symbol_65 : decode prog_1_method_6_code 65 = .ok (.aload 9, 2) := by decide +kernel
theorem d_L_symbol_67 : decode prog_1_method_6_code 67 = .ok (.ifnull 13, 3) := by decide +kernel
theorem d_L_symbol_70 : decode prog_1_method_6_code 70 = .ok (.aload 9, 2) := by decide +kernel
theorem d_L_symbol_72 : decode prog_1_method_6_code 72 = .ok (.iload 6, 2) := by decide +kernel
theorem d_L_symbol_74 : decode prog_1_method_6_code 74 = .ok (.invokevirtual 136, 3) := by decide +kernel
theorem d_L_symbol_77 : decode prog_1_method_6_code 77 = .ok (.ifCond .ne 5, 3) := by decide +kernel
theorem d_L_symbol_80 : decode prog_1_method_6_code 80 = .ok (.iconst (-1), 1) := by decide +kernel
theorem d_L_symbol_81 : decode prog_1_method_6_code 81 = .ok (.ireturn, 1) := by decide +kernel
theorem d_L_symbol_82 : decode prog_1_method_6_code 82 = .ok (.aload_n 0, 1) := by decide +kernel
theorem d_L_symbol_83 : decode prog_1_method_6_code 83 = .ok (.lload_n 1, 1) := by decide +kernel
theorem d_L_symbol_84 : decode prog_1_method_6_code 84 = .ok (.iload_n 3, 1) := by decide +kernel
theorem d_L_symbol_85 : decode prog_1_method_6_code 85 = .ok (.invokevirtual 139, 3) := by decide +kernel
theorem d_L_symbol_88 : decode prog_1_method_6_code 88 = .ok (.astore 10, 2) := by decide +kernel
theorem d_L_symbol_90 : decode prog_1_method_6_code 90 = .ok (.aload 10, 2) := by decide +kernel
theorem d_L_symbol_92 : decode prog_1_method_6_code 92 = .ok (.ifnull 15, 3) := by decide +kernel
theorem d_L_symbol_95 : decode prog_1_method_6_code 95 = .ok (.aload 8, 2) := by decide +kernel
theorem d_L_symbol_97 : decode prog_1_method_6_code 97 = .ok (.aload 10, 2) := by decide +kernel
theorem d_L_symbol_99 : decode prog_1_method_6_code 99 = .ok (.invokevirtual 143, 3) := by decide +kernel
theorem d_L_symbol_102 : decode prog_1_method_6_code 102 = .ok (.ifCond .eq 5, 3) := by decide +kernel
theorem d_L_symbol_105 : decode prog_1_method_6_code 105 = .ok (.iconst (-1), 1) := by decide +kernel
theorem d_L_symbol_106 : decode prog_1_method_6_code 106 = .ok (.ireturn, 1) := by decide +kernel
theorem d_L_symbol_107 : decode prog_1_method_6_code 107 = .ok (.aload 10, 2) := by decide +kernel
theorem d_L_symbol_109 : decode prog_1_method_6_code 109 = .ok (.ifnonnull 15, 3) := by decide +kernel
theorem d_L_symbol_112 : decode prog_1_method_6_code 112 = .ok (.aload_n 0, 1) := by decide +kernel
theorem d_L_symbol_113 : decode prog_1_method_6_code 113 = .ok (.lload_n 1, 1) := by decide +kernel
theorem d_L_symbol_114 : decode prog_1_method_6_code 114 = .ok (.iload_n 3, 1) := by decide +kernel
theorem d_L_symbol_115 : decode prog_1_method_6_code 115 = .ok (.invokestatic 147, 3) := by decide +kernel
theorem d_L_symbol_118 : decode prog_1_method_6_code 118 = .ok (.iload_n 3, 1) := by decide +kernel
theorem d_L_symbol_119 : decode prog_1_method_6_code 119 = .ok (.invokevirtual 151, 3) := by decide +kernel
theorem d_L_symbol_122 : decode prog_1_method_6_code 122 = .ok (.astore 10, 2) := by decide +kernel
theorem d_L_symbol_124 : decode prog_1_method_6_code 124 = .ok (.aload_n 0, 1) := by decide +kernel
theorem d_L_symbol_125 : decode prog_1_method_6_code 125 = .ok (.getfield 23, 3) := by decide +kernel
theorem d_L_symbol_128 : decode prog_1_method_6_code 128 = .ok (.aload_n 0, 1) := by decide +kernel
theorem d_L_symbol_129 : decode prog_1_method_6_code 129 = .ok (.getfield 69, 3) := by decide +kernel
theorem d_L_symbol_132 : decode prog_1_method_6_code 132 = .ok (.new 21, 3) := by decide +kernel
theorem d_L_symbol_135 : decode prog_1_method_6_code 135 = .ok (.dup, 1) := by decide +kernel
theorem d_L_symbol_136 : decode prog_1_method_6_code 136 = .ok (.aload 10, 2) := by decide +kernel
theorem d_L_symbol_138 : decode prog_1_method_6_code 138 = .ok (.iload 4, 2) := by decide +kernel
theorem d_L_symbol_140 : decode prog_1_method_6_code 140 = .ok (.aload 9, 2) := by decide +kernel
theorem d_L_symbol_142 : decode prog_1_method_6_code 142 = .ok (.iload 6, 2) := by decide +kernel
theorem d_L_symbol_144 : decode prog_1_method_6_code 144 = .ok (.iload 7, 2) := by decide +kernel
theorem d_L_symbol_146 : decode prog_1_method_6_code 146 = .ok (.invokespecial 154, 3) := by decide +kernel
theorem d_L_symbol_149 : decode prog_1_method_6_code 149 = .ok (.aastore, 1) := by decide +kernel
theorem d_L_symbol_150 : decode prog_1_method_6_code 150 = .ok (.aload_n 0, 1) := by decide +kernel
theorem d_L_symbol_151 : decode prog_1_method_6_code 151 = .ok (.dup, 1) := by decide +kernel
theorem d_L_symbol_152 : decode prog_1_method_6_code 152 = .ok (.getfield 69, 3) := by decide +kernel
theorem d_L_symbol_155 : decode prog_1_method_6_code 155 = .ok (.iconst 1, 1) := by decide +kernel
theorem d_L_symbol_156 : decode prog_1_method_6_code 156 = .ok (.iadd, 1) := by decide +kernel
theorem d_L_symbol_157 : decode prog_1_method_6_code 157 = .ok (.putfield 69, 3) := by decide +kernel
theorem d_L_symbol_160 : decode prog_1_method_6_code 160 = .ok (.aload 8, 2) := by decide +kernel
theorem d_L_symbol_162 : decode prog_1_method_6_code 162 = .ok (.aload_n 0, 1) := by decide +kernel
theorem d_L_symbol_163 : decode prog_1_method_6_code 163 = .ok (.getfield 69, 3) := by decide +kernel
theorem d_L_symbol_166 : decode prog_1_method_6_code 166 = .ok (.putfield 157, 3) := by decide +kernel
theorem d_L_symbol_169 : decode prog_1_method_6_code 169 = .ok (.aload_n 0, 1) := by decide +kernel
theorem d_L_symbol_170 : decode prog_1_method_6_code 170 = .ok (.getfield 69, 3) := by decide +kernel
theorem d_L_symbol_173 : decode prog_1_method_6_code 173 = .ok (.iconst 1, 1) := by decide +kernel
theorem d_L_symbol_174 : decode prog_1_method_6_code 174 = .ok (.isub, 1) := by decide +kernel
theorem d_L_symbol_175 : decode prog_1_method_6_code 175 = .ok (.aload 8, 2) := by decide +kernel
theorem d_L_symbol_177 : decode prog_1_method_6_code 177 = .ok (.getfield 160, 3) := by decide +kernel
theorem d_L_symbol_180 : decode prog_1_method_6_code 180 = .ok (.isub, 1) := by decide +kernel
theorem d_L_symbol_181 : decode prog_1_method_6_code 181 = .ok (.ireturn, 1) := by decide +kernel
theorem d_L_isNameLength_0 : decode prog_1_method_18_code 0 = .ok (.iload_n 0, 1) := by decide +kernel
theorem d_L_isNameLength_1 : decode prog_1_method_18_code 1 = .ok (.iconst 1, 1) := by decide +kernel
theorem d_L_isNameLength_2 : decode prog_1_method_18_code 2 = .ok (.if_icmp .lt 13, 3) := by decide +kernel
theorem d_L_isNameLength_5 : decode prog_1_method_18_code 5 = .ok (.iload_n 0, 1) := by decide +kernel
theorem d_L_isNameLength_6 : decode prog_1_method_18_code 6 = .ok (.bipush 8, 2) := by decide +kernel
theorem d_L_isNameLength_8 : decode prog_1_method_18_code 8 = .ok (.if_icmp .gt 7, 3) := by decide +kernel
theorem d_L_isNameLength_11 : decode prog_1_method_18_code 11 = .ok (.iconst 1, 1) := by decide +kernel
theorem d_L_isNameLength_12 : decode prog_1_method_18_code 12 = .ok (.goto 4, 3) := by decide +kernel
theorem d_L_isNameLength_15 : decode prog_1_method_18_code 15 = .ok (.iconst 0, 1) := by decide +kernel
theorem d_L_isNameLength_16 : decode prog_1_method_18_code 16 = .ok (.ireturn, 1) := by decide +kernel
theorem d_L_isLine_0 : decode prog_1_method_17_code 0 = .ok (.iload_n 0, 1) := by decide +kernel
theorem d_L_isLine_1 : decode prog_1_method_17_code 1 = .ok (.ifCond .lt 14, 3) := by decide +kernel
theorem d_L_isLine_4 : decode prog_1_method_17_code 4 = .ok (.iload_n 0, 1) := by decide +kernel
theorem d_L_isLine_5 : decode prog_1_method_17_code 5 = .ok (.ldc_w 264, 3) := by decide +kernel
theorem d_L_isLine_8 : decode prog_1_method_17_code 8 = .ok (.if_icmp .gt 7, 3) := by decide +kernel
theorem d_L_isLine_11 : decode prog_1_method_17_code 11 = .ok (.iconst 1, 1) := by decide +kernel
theorem d_L_isLine_12 : decode prog_1_method_17_code 12 = .ok (.goto 4, 3) := by decide +kernel
theorem d_L_isLine_15 : decode prog_1_method_17_code 15 = .ok (.iconst 0, 1) := by decide +kernel
theorem d_L_isLine_16 : decode prog_1_method_17_code 16 = .ok (.ireturn, 1) := by decide +kernel
theorem d_Section_hasPlace_0 : decode prog_5_method_3_code 0 = .ok (.aload_n 0, 1) := by decide +kernel
theorem d_Section_hasPlace_1 : decode prog_5_method_3_code 1 = .ok (.iload_n 1, 1) := by decide +kernel
theorem d_Section_hasPlace_2 : decode prog_5_method_3_code 2 = .ok (.iconst 0, 1) := by decide +kernel
theorem d_Section_hasPlace_3 : decode prog_5_method_3_code 3 = .ok (.invokevirtual 30, 3) := by decide +kernel
theorem d_Section_hasPlace_6 : decode prog_5_method_3_code 6 = .ok (.ireturn, 1) := by decide +kernel
theorem d_L_findName_0 : decode prog_1_method_25_code 0 = .ok (.lload_n 1, 1) := by decide +kernel
theorem d_L_findName_1 : decode prog_1_method_25_code 1 = .ok (.iload_n 3, 1) := by decide +kernel
theorem d_L_findName_2 : decode prog_1_method_25_code 2 = .ok (.invokestatic 147, 3) := by decide +kernel
theorem d_L_findName_5 : decode prog_1_method_25_code 5 = .ok (.lstore 4, 2) := by decide +kernel
theorem d_L_findName_7 : decode prog_1_method_25_code 7 = .ok (.iconst 0, 1) := by decide +kernel
theorem d_L_findName_8 : decode prog_1_method_25_code 8 = .ok (.istore 6, 2) := by decide +kernel
theorem d_L_findName_10 : decode prog_1_method_25_code 10 = .ok (.iload 6, 2) := by decide +kernel
theorem d_L_findName_12 : decode prog_1_method_25_code 12 = .ok (.aload_n 0, 1) := by decide +kernel
theorem d_L_findName_13 : decode prog_1_method_25_code 13 = .ok (.getfield 66, 3) := by decide +kernel
theorem d_L_findName_16 : decode prog_1_method_25_code 16 = .ok (.if_icmp .ge 41, 3) := by decide +kernel
theorem d_L_findName_19 : decode prog_1_method_25_code 19 = .ok (.aload_n 0, 1) := by decide +kernel
theorem d_L_findName_20 : decode prog_1_method_25_code 20 = .ok (.getfield 17, 3) := by decide +kernel
theorem d_L_findName_23 : decode prog_1_method_25_code 23 = .ok (.iload 6, 2) := by decide +kernel
theorem d_L_findName_25 : decode prog_1_method_25_code 25 = .ok (.aaload, 1) := by decide +kernel
theorem d_L_findName_26 : decode prog_1_method_25_code 26 = .ok (.astore 7, 2) := by decide +kernel
theorem d_L_findName_28 : decode prog_1_method_25_code 28 = .ok (.aload 7, 2) := by decide +kernel
theorem d_L_findName_30 : decode prog_1_method_25_code 30 = .ok (.getfield 271, 3) := by decide +kernel
theorem d_L_findName_33 : decode prog_1_method_25_code 33 = .ok (.lload 4, 2) := by decide +kernel
theorem d_L_findName_35 : decode prog_1_method_25_code 35 = .ok (.lcmp, 1) := by decide +kernel
theorem d_L_findName_36 : decode prog_1_method_25_code 36 = .ok (.ifCond .ne 15, 3) := by decide +kernel
theorem d_L_findName_39 : decode prog_1_method_25_code 39 = .ok (.aload 7, 2) := by decide +kernel
theorem d_L_findName_41 : decode prog_1_method_25_code 41 = .ok (.getfield 275, 3) := by decide +kernel
theorem d_L_findName_44 : decode prog_1_method_25_code 44 = .ok (.iload_n 3, 1) := by decide +kernel
theorem d_L_findName_45 : decode prog_1_method_25_code 45 = .ok (.if_icmp .ne 6, 3) := by decide +kernel
theorem d_L_findName_48 : decode prog_1_method_25_code 48 = .ok (.aload 7, 2) := by decide +kernel
theorem d_L_findName_50 : decode prog_1_method_25_code 50 = .ok (.areturn, 1) := by decide +kernel
theorem d_L_findName_51 : decode prog_1_method_25_code 51 = .ok (.iinc 6 1, 3) := by decide +kernel
theorem d_L_findName_54 : decode prog_1_method_25_code 54 = .ok (.goto (-44), 3) := by decide +kernel
theorem d_L_findName_57 : decode prog_1_method_25_code 57 = .ok (.aconst_null, 1) := by decide +kernel
theorem d_L_findName_58 : decode prog_1_method_25_code 58 = .ok (.areturn, 1) := by decide +kernel
theorem d_L_nameWord_0 : decode prog_1_method_19_code 0 = .ok (.iload_n 2, 1) := by decide +kernel
theorem d_L_nameWord_1 : decode prog_1_method_19_code 1 = .ok (.bipush 8, 2) := by decide +kernel
theorem d_L_nameWord_3 : decode prog_1_method_19_code 3 = .ok (.if_icmp .lt 7, 3) := by decide +kernel
theorem d_L_nameWord_6 : decode prog_1_method_19_code 6 = .ok (.lload_n 0, 1) := by decide +kernel
theorem d_L_nameWord_7 : decode prog_1_method_19_code 7 = .ok (.goto 13, 3) := by decide +kernel
theorem d_L_nameWord_10 : decode prog_1_method_19_code 10 = .ok (.lload_n 0, 1) := by decide +kernel
theorem d_L_nameWord_11 : decode prog_1_method_19_code 11 = .ok (.lconst 1, 1) := by decide +kernel
theorem d_L_nameWord_12 : decode prog_1_method_19_code 12 = .ok (.bipush 8, 2) := by decide +kernel
theorem d_L_nameWord_14 : decode prog_1_method_19_code 14 = .ok (.iload_n 2, 1) := by decide +kernel
theorem d_L_nameWord_15 : decode prog_1_method_19_code 15 = .ok (.imul, 1) := by decide +kernel
theorem d_L_nameWord_16 : decode prog_1_method_19_code 16 = .ok (.lshl, 1) := by decide +kernel
theorem d_L_nameWord_17 : decode prog_1_method_19_code 17 = .ok (.lconst 1, 1) := by decide +kernel
theorem d_L_nameWord_18 : decode prog_1_method_19_code 18 = .ok (.lsub, 1) := by decide +kernel
theorem d_L_nameWord_19 : decode prog_1_method_19_code 19 = .ok (.land, 1) := by decide +kernel
theorem d_L_nameWord_20 : decode prog_1_method_19_code 20 = .ok (.lreturn, 1) := by decide +kernel
theorem d_Unit_hasSymbol_0 : decode prog_8_method_4_code 0 = .ok (.aload_n 0, 1) := by decide +kernel
theorem d_Unit_hasSymbol_1 : decode prog_8_method_4_code 1 = .ok (.getfield 29, 3) := by decide +kernel
theorem d_Unit_hasSymbol_4 : decode prog_8_method_4_code 4 = .ok (.istore_n 2, 1) := by decide +kernel
theorem d_Unit_hasSymbol_5 : decode prog_8_method_4_code 5 = .ok (.iload_n 2, 1) := by decide +kernel
theorem d_Unit_hasSymbol_6 : decode prog_8_method_4_code 6 = .ok (.aload_n 0, 1) := by decide +kernel
theorem d_Unit_hasSymbol_7 : decode prog_8_method_4_code 7 = .ok (.getfield 32, 3) := by decide +kernel
theorem d_Unit_hasSymbol_10 : decode prog_8_method_4_code 10 = .ok (.if_icmp .ge 24, 3) := by decide +kernel
theorem d_Unit_hasSymbol_13 : decode prog_8_method_4_code 13 = .ok (.aload_n 0, 1) := by decide +kernel
theorem d_Unit_hasSymbol_14 : decode prog_8_method_4_code 14 = .ok (.getfield 25, 3) := by decide +kernel
theorem d_Unit_hasSymbol_17 : decode prog_8_method_4_code 17 = .ok (.iload_n 2, 1) := by decide +kernel
theorem d_Unit_hasSymbol_18 : decode prog_8_method_4_code 18 = .ok (.aaload, 1) := by decide +kernel
theorem d_Unit_hasSymbol_19 : decode prog_8_method_4_code 19 = .ok (.getfield 38, 3) := by decide +kernel
theorem d_Unit_hasSymbol_22 : decode prog_8_method_4_code 22 = .ok (.aload_n 1, 1) := by decide +kernel
theorem d_Unit_hasSymbol_23 : decode prog_8_method_4_code 23 = .ok (.if_acmp .ne 5, 3) := by decide +kernel
theorem d_Unit_hasSymbol_26 : decode prog_8_method_4_code 26 = .ok (.iconst 1, 1) := by decide +kernel
theorem d_Unit_hasSymbol_27 : decode prog_8_method_4_code 27 = .ok (.ireturn, 1) := by decide +kernel
theorem d_Unit_hasSymbol_28 : decode prog_8_method_4_code 28 = .ok (.iinc 2 1, 3) := by decide +kernel
theorem d_Unit_hasSymbol_31 : decode prog_8_method_4_code 31 = .ok (.goto (-26), 3) := by decide +kernel
theorem d_Unit_hasSymbol_34 : decode prog_8_method_4_code 34 = .ok (.iconst 0, 1) := by decide +kernel
theorem d_Unit_hasSymbol_35 : decode prog_8_method_4_code 35 = .ok (.ireturn, 1) := by decide +kernel
theorem d_L_addName_0 : decode prog_1_method_26_code 0 = .ok (.new 15, 3) := by decide +kernel
theorem d_L_addName_3 : decode prog_1_method_26_code 3 = .ok (.dup, 1) := by decide +kernel
theorem d_L_addName_4 : decode prog_1_method_26_code 4 = .ok (.lload_n 1, 1) := by decide +kernel
theorem d_L_addName_5 : decode prog_1_method_26_code 5 = .ok (.iload_n 3, 1) := by decide +kernel
theorem d_L_addName_6 : decode prog_1_method_26_code 6 = .ok (.invokespecial 278, 3) := by decide +kernel
theorem d_L_addName_9 : decode prog_1_method_26_code 9 = .ok (.astore 4, 2) := by decide +kernel
theorem d_L_addName_11 : decode prog_1_method_26_code 11 = .ok (.aload_n 0, 1) := by decide +kernel
theorem d_L_addName_12 : decode prog_1_method_26_code 12 = .ok (.getfield 66, 3) := by decide +kernel
theorem d_L_addName_15 : decode prog_1_method_26_code 15 = .ok (.sipush 2048, 3) := by decide +kernel
theorem d_L_addName_18 : decode prog_1_method_26_code 18 = .ok (.if_icmp .ge 24, 3) := by decide +kernel
theorem d_L_addName_21 : decode prog_1_method_26_code 21 = .ok (.aload_n 0, 1) := by decide +kernel
theorem d_L_addName_22 : decode prog_1_method_26_code 22 = .ok (.getfield 17, 3) := by decide +kernel
theorem d_L_addName_25 : decode prog_1_method_26_code 25 = .ok (.aload_n 0, 1) := by decide +kernel
theorem d_L_addName_26 : decode prog_1_method_26_code 26 = .ok (.getfield 66, 3) := by decide +kernel
theorem d_L_addName_29 : decode prog_1_method_26_code 29 = .ok (.aload 4, 2) := by decide +kernel
theorem d_L_addName_31 : decode prog_1_method_26_code 31 = .ok (.aastore, 1) := by decide +kernel
theorem d_L_addName_32 : decode prog_1_method_26_code 32 = .ok (.aload_n 0, 1) := by decide +kernel
theorem d_L_addName_33 : decode prog_1_method_26_code 33 = .ok (.dup, 1) := by decide +kernel
theorem d_L_addName_34 : decode prog_1_method_26_code 34 = .ok (.getfield 66, 3) := by decide +kernel
theorem d_L_addName_37 : decode prog_1_method_26_code 37 = .ok (.iconst 1, 1) := by decide +kernel
theorem d_L_addName_38 : decode prog_1_method_26_code 38 = .ok (.iadd, 1) := by decide +kernel
theorem d_L_addName_39 : decode prog_1_method_26_code 39 = .ok (.putfield 66, 3) := by decide +kernel
theorem d_L_addName_42 : decode prog_1_method_26_code 42 = .ok (.aload 4, 2) := by decide +kernel
theorem d_L_addName_44 : decode prog_1_method_26_code 44 = .ok (.areturn, 1) := by decide +kernel
theorem d_Name_init_0 : decode prog_4_method_1_code 0 = .ok (.aload_n 0, 1) := by decide +kernel
theorem d_Name_init_1 : decode prog_4_method_1_code 1 = .ok (.invokespecial 1, 3) := by decide +kernel
theorem d_Name_init_4 : decode prog_4_method_1_code 4 = .ok (.aload_n 0, 1) := by decide +kernel
theorem d_Name_init_5 : decode prog_4_method_1_code 5 = .ok (.lload_n 1, 1) := by decide +kernel
theorem d_Name_init_6 : decode prog_4_method_1_code 6 = .ok (.putfield 7, 3) := by decide +kernel
theorem d_Name_init_9 : decode prog_4_method_1_code 9 = .ok (.aload_n 0, 1) := by decide +kernel
theorem d_Name_init_10 : decode prog_4_method_1_code 10 = .ok (.iload_n 3, 1) := by decide +kernel
theorem d_Name_init_11 : decode prog_4_method_1_code 11 = .ok (.putfield 13, 3) := by decide +kernel
theorem d_Name_init_14 : decode prog_4_method_1_code 14 = .ok (.aload_n 0, 1) := by decide +kernel
theorem d_Name_init_15 : decode prog_4_method_1_code 15 = .ok (.iconst 0, 1) := by decide +kernel
theorem d_Name_init_16 : decode prog_4_method_1_code 16 = .ok (.putfield 17, 3) := by decide +kernel
theorem d_Name_init_19 : decode prog_4_method_1_code 19 = .ok (.aload_n 0, 1) := by decide +kernel
theorem d_Name_init_20 : decode prog_4_method_1_code 20 = .ok (.iconst 0, 1) := by decide +kernel
theorem d_Name_init_21 : decode prog_4_method_1_code 21 = .ok (.putfield 21, 3) := by decide +kernel
theorem d_Name_init_24 : decode prog_4_method_1_code 24 = .ok (.aload_n 0, 1) := by decide +kernel
theorem d_Name_init_25 : decode prog_4_method_1_code 25 = .ok (.aconst_null, 1) := by decide +kernel
theorem d_Name_init_26 : decode prog_4_method_1_code 26 = .ok (.putfield 24, 3) := by decide +kernel
theorem d_Name_init_29 : decode prog_4_method_1_code 29 = .ok (.aload_n 0, 1) := by decide +kernel
theorem d_Name_init_30 : decode prog_4_method_1_code 30 = .ok (.aconst_null, 1) := by decide +kernel
theorem d_Name_init_31 : decode prog_4_method_1_code 31 = .ok (.putfield 28, 3) := by decide +kernel
theorem d_Name_init_34 : decode prog_4_method_1_code 34 = .ok (.return_, 1) := by decide +kernel
theorem d_Symbol_init_0 : decode prog_7_method_1_code 0 = .ok (.aload_n 0, 1) := by decide +kernel
theorem d_Symbol_init_1 : decode prog_7_method_1_code 1 = .ok (.invokespecial 3, 3) := by decide +kernel
theorem d_Symbol_init_4 : decode prog_7_method_1_code 4 = .ok (.aload_n 0, 1) := by decide +kernel
theorem d_Symbol_init_5 : decode prog_7_method_1_code 5 = .ok (.aload_n 1, 1) := by decide +kernel
theorem d_Symbol_init_6 : decode prog_7_method_1_code 6 = .ok (.putfield 9, 3) := by decide +kernel
theorem d_Symbol_init_9 : decode prog_7_method_1_code 9 = .ok (.aload_n 0, 1) := by decide +kernel
theorem d_Symbol_init_10 : decode prog_7_method_1_code 10 = .ok (.iload_n 2, 1) := by decide +kernel
theorem d_Symbol_init_11 : decode prog_7_method_1_code 11 = .ok (.iconst 2, 1) := by decide +kernel
theorem d_Symbol_init_12 : decode prog_7_method_1_code 12 = .ok (.iand, 1) := by decide +kernel
theorem d_Symbol_init_13 : decode prog_7_method_1_code 13 = .ok (.ifCond .eq 7, 3) := by decide +kernel
theorem d_Symbol_init_16 : decode prog_7_method_1_code 16 = .ok (.iconst 1, 1) := by decide +kernel
theorem d_Symbol_init_17 : decode prog_7_method_1_code 17 = .ok (.goto 4, 3) := by decide +kernel
theorem d_Symbol_init_20 : decode prog_7_method_1_code 20 = .ok (.iconst 0, 1) := by decide +kernel
theorem d_Symbol_init_21 : decode prog_7_method_1_code 21 = .ok (.putfield 15, 3) := by decide +kernel
theorem d_Symbol_init_24 : decode prog_7_method_1_code 24 = .ok (.aload_n 0, 1) := by decide +kernel
theorem d_Symbol_init_25 : decode prog_7_method_1_code 25 = .ok (.iload_n 2, 1) := by decide +kernel
theorem d_Symbol_init_26 : decode prog_7_method_1_code 26 = .ok (.iconst 1, 1) := by decide +kernel
theorem d_Symbol_init_27 : decode prog_7_method_1_code 27 = .ok (.iand, 1) := by decide +kernel
theorem d_Symbol_init_28 : decode prog_7_method_1_code 28 = .ok (.ifCond .eq 14, 3) := by decide +kernel
theorem d_Symbol_init_31 : decode prog_7_method_1_code 31 = .ok (.aload_n 0, 1) := by decide +kernel
theorem d_Symbol_init_32 : decode prog_7_method_1_code 32 = .ok (.getfield 15, 3) := by decide +kernel
theorem d_Symbol_init_35 : decode prog_7_method_1_code 35 = .ok (.ifCond .ne 7, 3) := by decide +kernel
theorem d_Symbol_init_38 : decode prog_7_method_1_code 38 = .ok (.iconst 1, 1) := by decide +kernel
theorem d_Symbol_init_39 : decode prog_7_method_1_code 39 = .ok (.goto 4, 3) := by decide +kernel
theorem d_Symbol_init_42 : decode prog_7_method_1_code 42 = .ok (.iconst 0, 1) := by decide +kernel
theorem d_Symbol_init_43 : decode prog_7_method_1_code 43 = .ok (.putfield 19, 3) := by decide +kernel
theorem d_Symbol_init_46 : decode prog_7_method_1_code 46 = .ok (.aload_n 0, 1) := by decide +kernel
theorem d_Symbol_init_47 : decode prog_7_method_1_code 47 = .ok (.aload_n 3, 1) := by decide +kernel
theorem d_Symbol_init_48 : decode prog_7_method_1_code 48 = .ok (.putfield 22, 3) := by decide +kernel
theorem d_Symbol_init_51 : decode prog_7_method_1_code 51 = .ok (.aload_n 0, 1) := by decide +kernel
theorem d_Symbol_init_52 : decode prog_7_method_1_code 52 = .ok (.iload 4, 2) := by decide +kernel
theorem d_Symbol_init_54 : decode prog_7_method_1_code 54 = .ok (.putfield 26, 3) := by decide +kernel
theorem d_Symbol_init_57 : decode prog_7_method_1_code 57 = .ok (.aload_n 0, 1) := by decide +kernel
theorem d_Symbol_init_58 : decode prog_7_method_1_code 58 = .ok (.iload 5, 2) := by decide +kernel
theorem d_Symbol_init_60 : decode prog_7_method_1_code 60 = .ok (.putfield 30, 3) := by decide +kernel
theorem d_Symbol_init_63 : decode prog_7_method_1_code 63 = .ok (.return_, 1) := by decide +kernel
theorem d_L_await_0 : decode prog_1_method_7_code 0 = .ok (.aload_n 0, 1) := by decide +kernel
theorem d_L_await_1 : decode prog_1_method_7_code 1 = .ok (.invokevirtual 126, 3) := by decide +kernel
theorem d_L_await_4 : decode prog_1_method_7_code 4 = .ok (.astore 9, 2) := by decide +kernel
theorem d_L_await_6 : decode prog_1_method_7_code 6 = .ok (.aload_n 0, 1) := by decide +kernel
theorem d_L_await_7 : decode prog_1_method_7_code 7 = .ok (.iload_n 1, 1) := by decide +kernel
theorem d_L_await_8 : decode prog_1_method_7_code 8 = .ok (.invokevirtual 107, 3) := by decide +kernel
theorem d_L_await_11 : decode prog_1_method_7_code 11 = .ok (.astore 10, 2) := by decide +kernel
theorem d_L_await_13 : decode prog_1_method_7_code 13 = .ok (.aload 9, 2) := by decide +kernel
theorem d_L_await_15 : decode prog_1_method_7_code 15 = .ok (.ifnull 23, 3) := by decide +kernel
theorem d_L_await_18 : decode prog_1_method_7_code 18 = .ok (.aload 10, 2) := by decide +kernel
theorem d_L_await_20 : decode prog_1_method_7_code 20 = .ok (.ifnull 18, 3) := by decide +kernel
theorem d_L_await_23 : decode prog_1_method_7_code 23 = .ok (.iload_n 1, 1) := by decide +kernel
theorem d_L_await_24 : decode prog_1_method_7_code 24 = .ok (.iconst 3, 1) := by decide +kernel
theorem d_L_await_25 : decode prog_1_method_7_code 25 = .ok (.if_icmp .eq 13, 3) := by decide +kernel
theorem d_L_await_28 : decode prog_1_method_7_code 28 = .ok (.aload_n 0, 1) := by decide +kernel
theorem d_L_await_29 : decode prog_1_method_7_code 29 = .ok (.getfield 72, 3) := by decide +kernel
theorem d_L_await_32 : decode prog_1_method_7_code 32 = .ok (.sipush 4096, 3) := by decide +kernel
theorem d_L_await_35 : decode prog_1_method_7_code 35 = .ok (.if_icmp .lt 5, 3) := by decide +kernel
theorem d_L_await_38 : decode prog_1_method_7_code 38 = .ok (.iconst 0, 1) := by decide +kernel
theorem d_L_await_39 : decode prog_1_method_7_code 39 = .ok (.ireturn, 1) := by decide +kernel
theorem d_L_await_40 : decode prog_1_method_7_code 40 = .ok (.iload_n 3, 1) := by decide +kernel
theorem d_L_await_41 : decode prog_1_method_7_code 41 = .ok (.iconst 4, 1) := by decide +kernel
theorem d_L_await_42 : decode prog_1_method_7_code 42 = .ok (.if_icmp .eq 9, 3) := by decide +kernel
theorem d_L_await_45 : decode prog_1_method_7_code 45 = .ok (.iload_n 3, 1) := by decide +kernel
theorem d_L_await_46 : decode prog_1_method_7_code 46 = .ok (.bipush 8, 2) := by decide +kernel
theorem d_L_await_48 : decode prog_1_method_7_code 48 = .ok (.if_icmp .ne 21, 3) := by decide +kernel
theorem d_L_await_51 : decode prog_1_method_7_code 51 = .ok (.aload 10, 2) := by decide +kernel
theorem d_L_await_53 : decode prog_1_method_7_code 53 = .ok (.iload_n 2, 1) := by decide +kernel
theorem d_L_await_54 : decode prog_1_method_7_code 54 = .ok (.iload_n 3, 1) := by decide +kernel
theorem d_L_await_55 : decode prog_1_method_7_code 55 = .ok (.invokevirtual 111, 3) := by decide +kernel
theorem d_L_await_58 : decode prog_1_method_7_code 58 = .ok (.ifCond .eq 11, 3) := by decide +kernel
theorem d_L_await_61 : decode prog_1_method_7_code 61 = .ok (.iload 8, 2) := by decide +kernel
theorem d_L_await_63 : decode prog_1_method_7_code 63 = .ok (.invokestatic 133, 3) := by decide +kernel
theorem d_L_await_66 : decode prog_1_method_7_code 66 = .ok (.ifCond .ne 5, 3) := by decide +kernel
theorem d_L_await_69 : decode prog_1_method_7_code 69 = .ok (.iconst 0, 1) := by decide +kernel
theorem d_L_await_70 : decode prog_1_method_7_code 70 = .ok (.ireturn, 1) := by decide +kernel
theorem d_L_await_71 : decode prog_1_method_7_code 71 = .ok (.iload 4, 2) := by decide +kernel
theorem d_L_await_73 : decode prog_1_method_7_code 73 = .ok (.iconst (-1), 1) := by decide +kernel
theorem d_L_await_74 : decode prog_1_method_7_code 74 = .ok (.if_icmp .eq 15, 3) := by decide +kernel
theorem d_L_await_77 : decode prog_1_method_7_code 77 = .ok (.aload 10, 2) := by decide +kernel
theorem d_L_await_79 : decode prog_1_method_7_code 79 = .ok (.iload 4, 2) := by decide +kernel
theorem d_L_await_81 : decode prog_1_method_7_code 81 = .ok (.invokevirtual 136, 3) := by decide +kernel
theorem d_L_await_84 : decode prog_1_method_7_code 84 = .ok (.ifCond .ne 5, 3) := by decide +kernel
theorem d_L_await_87 : decode prog_1_method_7_code 87 = .ok (.iconst 0, 1) := by decide +kernel
theorem d_L_await_88 : decode prog_1_method_7_code 88 = .ok (.ireturn, 1) := by decide +kernel
theorem d_L_await_89 : decode prog_1_method_7_code 89 = .ok (.aload 9, 2) := by decide +kernel
theorem d_L_await_91 : decode prog_1_method_7_code 91 = .ok (.iload 5, 2) := by decide +kernel
theorem d_L_await_93 : decode prog_1_method_7_code 93 = .ok (.invokevirtual 163, 3) := by decide +kernel
theorem d_L_await_96 : decode prog_1_method_7_code 96 = .ok (.astore 11, 2) := by decide +kernel
theorem d_L_await_98 : decode prog_1_method_7_code 98 = .ok (.iload 5, 2) := by decide +kernel
theorem d_L_await_100 : decode prog_1_method_7_code 100 = .ok (.iconst (-1), 1) := by decide +kernel
theorem d_L_await_101 : decode prog_1_method_7_code 101 = .ok (.if_icmp .ge 16, 3) := by decide +kernel
theorem d_L_await_104 : decode prog_1_method_7_code 104 = .ok (.aload 9, 2) := by decide +kernel
theorem d_L_await_106 : decode prog_1_method_7_code 106 = .ok (.bipush (-2), 2) := by decide +kernel
theorem d_L_await_108 : decode prog_1_method_7_code 108 = .ok (.iload 5, 2) := by decide +kernel
theorem d_L_await_110 : decode prog_1_method_7_code 110 = .ok (.isub, 1) := by decide +kernel
theorem d_L_await_111 : decode prog_1_method_7_code 111 = .ok (.invokevirtual 167, 3) := by decide +kernel
theorem d_L_await_114 : decode prog_1_method_7_code 114 = .ok (.goto 4, 3) := by decide +kernel
theorem d_L_await_117 : decode prog_1_method_7_code 117 = .ok (.aconst_null, 1) := by decide +kernel
theorem d_L_await_118 : decode prog_1_method_7_code 118 = .ok (.astore 12, 2) := by decide +kernel
theorem d_L_await_120 : decode prog_1_method_7_code 120 = .ok (.iload 5, 2) := by decide +kernel
theorem d_L_await_122 : decode prog_1_method_7_code 122 = .ok (.iconst (-1), 1) := by decide +kernel
theorem d_L_await_123 : decode prog_1_method_7_code 123 = .ok (.if_icmp .eq 15, 3) := by decide +kernel
theorem d_L_await_126 : decode prog_1_method_7_code 126 = .ok (.aload 11, 2) := by decide +kernel
theorem d_L_await_128 : decode prog_1_method_7_code 128 = .ok (.ifnonnull 10, 3) := by decide +kernel
theorem d_L_await_131 : decode prog_1_method_7_code 131 = .ok (.aload 12, 2) := by decide +kernel
theorem d_L_await_133 : decode prog_1_method_7_code 133 = .ok (.ifnonnull 5, 3) := by decide +kernel
theorem d_L_await_136 : decode prog_1_method_7_code 136 = .ok (.iconst 0, 1) := by decide +kernel
theorem d_L_await_137 : decode prog_1_method_7_code 137 = .ok (.ireturn, 1) := by decide +kernel
theorem d_L_await_138 : decode prog_1_method_7_code 138 = .ok (.new 27, 3) := by decide +kernel
theorem d_L_await_141 : decode prog_1_method_7_code 141 = .ok (.dup, 1) := by decide +kernel
theorem d_L_await_142 : decode prog_1_method_7_code 142 = .ok (.aload 10, 2) := by decide +kernel
theorem d_L_await_144 : decode prog_1_method_7_code 144 = .ok (.iload_n 2, 1) := by decide +kernel
theorem d_L_await_145 : decode prog_1_method_7_code 145 = .ok (.iload_n 3, 1) := by decide +kernel
theorem d_L_await_146 : decode prog_1_method_7_code 146 = .ok (.lload 6, 2) := by decide +kernel
theorem d_L_await_148 : decode prog_1_method_7_code 148 = .ok (.iload 8, 2) := by decide +kernel
theorem d_L_await_150 : decode prog_1_method_7_code 150 = .ok (.invokespecial 170, 3) := by decide +kernel
theorem d_L_await_153 : decode prog_1_method_7_code 153 = .ok (.astore 13, 2) := by decide +kernel
theorem d_L_await_155 : decode prog_1_method_7_code 155 = .ok (.aload 13, 2) := by decide +kernel
theorem d_L_await_157 : decode prog_1_method_7_code 157 = .ok (.iload 4, 2) := by decide +kernel
theorem d_L_await_159 : decode prog_1_method_7_code 159 = .ok (.putfield 173, 3) := by decide +kernel
theorem d_L_await_162 : decode prog_1_method_7_code 162 = .ok (.aload 13, 2) := by decide +kernel
theorem d_L_await_164 : decode prog_1_method_7_code 164 = .ok (.aload 11, 2) := by decide +kernel
theorem d_L_await_166 : decode prog_1_method_7_code 166 = .ok (.putfield 176, 3) := by decide +kernel
theorem d_L_await_169 : decode prog_1_method_7_code 169 = .ok (.aload 13, 2) := by decide +kernel
theorem d_L_await_171 : decode prog_1_method_7_code 171 = .ok (.aload 12, 2) := by decide +kernel
theorem d_L_await_173 : decode prog_1_method_7_code 173 = .ok (.putfield 180, 3) := by decide +kernel
theorem d_L_await_176 : decode prog_1_method_7_code 176 = .ok (.aload_n 0, 1) := by decide +kernel
theorem d_L_await_177 : decode prog_1_method_7_code 177 = .ok (.getfield 29, 3) := by decide +kernel
theorem d_L_await_180 : decode prog_1_method_7_code 180 = .ok (.aload_n 0, 1) := by decide +kernel
theorem d_L_await_181 : decode prog_1_method_7_code 181 = .ok (.getfield 72, 3) := by decide +kernel
theorem d_L_await_184 : decode prog_1_method_7_code 184 = .ok (.aload 13, 2) := by decide +kernel
theorem d_L_await_186 : decode prog_1_method_7_code 186 = .ok (.aastore, 1) := by decide +kernel
theorem d_L_await_187 : decode prog_1_method_7_code 187 = .ok (.aload_n 0, 1) := by decide +kernel
theorem d_L_await_188 : decode prog_1_method_7_code 188 = .ok (.dup, 1) := by decide +kernel
theorem d_L_await_189 : decode prog_1_method_7_code 189 = .ok (.getfield 72, 3) := by decide +kernel
theorem d_L_await_192 : decode prog_1_method_7_code 192 = .ok (.iconst 1, 1) := by decide +kernel
theorem d_L_await_193 : decode prog_1_method_7_code 193 = .ok (.iadd, 1) := by decide +kernel
theorem d_L_await_194 : decode prog_1_method_7_code 194 = .ok (.putfield 72, 3) := by decide +kernel
theorem d_L_await_197 : decode prog_1_method_7_code 197 = .ok (.iconst 1, 1) := by decide +kernel
theorem d_L_await_198 : decode prog_1_method_7_code 198 = .ok (.ireturn, 1) := by decide +kernel
theorem d_Unit_symbolNumbered_0 : decode prog_8_method_3_code 0 = .ok (.iload_n 1, 1) := by decide +kernel
theorem d_Unit_symbolNumbered_1 : decode prog_8_method_3_code 1 = .ok (.ifCond .lt 16, 3) := by decide +kernel
theorem d_Unit_symbolNumbered_4 : decode prog_8_method_3_code 4 = .ok (.iload_n 1, 1) := by decide +kernel
theorem d_Unit_symbolNumbered_5 : decode prog_8_method_3_code 5 = .ok (.aload_n 0, 1) := by decide +kernel
theorem d_Unit_symbolNumbered_6 : decode prog_8_method_3_code 6 = .ok (.getfield 32, 3) := by decide +kernel
theorem d_Unit_symbolNumbered_9 : decode prog_8_method_3_code 9 = .ok (.aload_n 0, 1) := by decide +kernel
theorem d_Unit_symbolNumbered_10 : decode prog_8_method_3_code 10 = .ok (.getfield 29, 3) := by decide +kernel
theorem d_Unit_symbolNumbered_13 : decode prog_8_method_3_code 13 = .ok (.isub, 1) := by decide +kernel
theorem d_Unit_symbolNumbered_14 : decode prog_8_method_3_code 14 = .ok (.if_icmp .lt 7, 3) := by decide +kernel
theorem d_Unit_symbolNumbered_17 : decode prog_8_method_3_code 17 = .ok (.aconst_null, 1) := by decide +kernel
theorem d_Unit_symbolNumbered_18 : decode prog_8_method_3_code 18 = .ok (.goto 14, 3) := by decide +kernel
theorem d_Unit_symbolNumbered_21 : decode prog_8_method_3_code 21 = .ok (.aload_n 0, 1) := by decide +kernel
theorem d_Unit_symbolNumbered_22 : decode prog_8_method_3_code 22 = .ok (.getfield 25, 3) := by decide +kernel
theorem d_Unit_symbolNumbered_25 : decode prog_8_method_3_code 25 = .ok (.aload_n 0, 1) := by decide +kernel
theorem d_Unit_symbolNumbered_26 : decode prog_8_method_3_code 26 = .ok (.getfield 29, 3) := by decide +kernel
theorem d_Unit_symbolNumbered_29 : decode prog_8_method_3_code 29 = .ok (.iload_n 1, 1) := by decide +kernel
theorem d_Unit_symbolNumbered_30 : decode prog_8_method_3_code 30 = .ok (.iadd, 1) := by decide +kernel
theorem d_Unit_symbolNumbered_31 : decode prog_8_method_3_code 31 = .ok (.aaload, 1) := by decide +kernel
theorem d_Unit_symbolNumbered_32 : decode prog_8_method_3_code 32 = .ok (.areturn, 1) := by decide +kernel
theorem d_Wait_init_0 : decode prog_9_method_1_code 0 = .ok (.aload_n 0, 1) := by decide +kernel
theorem d_Wait_init_1 : decode prog_9_method_1_code 1 = .ok (.invokespecial 3, 3) := by decide +kernel
theorem d_Wait_init_4 : decode prog_9_method_1_code 4 = .ok (.aload_n 0, 1) := by decide +kernel
theorem d_Wait_init_5 : decode prog_9_method_1_code 5 = .ok (.aload_n 1, 1) := by decide +kernel
theorem d_Wait_init_6 : decode prog_9_method_1_code 6 = .ok (.putfield 9, 3) := by decide +kernel
theorem d_Wait_init_9 : decode prog_9_method_1_code 9 = .ok (.aload_n 0, 1) := by decide +kernel
theorem d_Wait_init_10 : decode prog_9_method_1_code 10 = .ok (.iload_n 2, 1) := by decide +kernel
theorem d_Wait_init_11 : decode prog_9_method_1_code 11 = .ok (.putfield 15, 3) := by decide +kernel
theorem d_Wait_init_14 : decode prog_9_method_1_code 14 = .ok (.aload_n 0, 1) := by decide +kernel
theorem d_Wait_init_15 : decode prog_9_method_1_code 15 = .ok (.iload_n 3, 1) := by decide +kernel
theorem d_Wait_init_16 : decode prog_9_method_1_code 16 = .ok (.putfield 19, 3) := by decide +kernel
theorem d_Wait_init_19 : decode prog_9_method_1_code 19 = .ok (.aload_n 0, 1) := by decide +kernel
theorem d_Wait_init_20 : decode prog_9_method_1_code 20 = .ok (.lload 4, 2) := by decide +kernel
theorem d_Wait_init_22 : decode prog_9_method_1_code 22 = .ok (.putfield 22, 3) := by decide +kernel
theorem d_Wait_init_25 : decode prog_9_method_1_code 25 = .ok (.aload_n 0, 1) := by decide +kernel
theorem d_Wait_init_26 : decode prog_9_method_1_code 26 = .ok (.iload 6, 2) := by decide +kernel
theorem d_Wait_init_28 : decode prog_9_method_1_code 28 = .ok (.putfield 26, 3) := by decide +kernel
theorem d_Wait_init_31 : decode prog_9_method_1_code 31 = .ok (.aload_n 0, 1) := by decide +kernel
theorem d_Wait_init_32 : decode prog_9_method_1_code 32 = .ok (.iconst (-1), 1) := by decide +kernel
theorem d_Wait_init_33 : decode prog_9_method_1_code 33 = .ok (.putfield 29, 3) := by decide +kernel
theorem d_Wait_init_36 : decode prog_9_method_1_code 36 = .ok (.aload_n 0, 1) := by decide +kernel
theorem d_Wait_init_37 : decode prog_9_method_1_code 37 = .ok (.aconst_null, 1) := by decide +kernel
theorem d_Wait_init_38 : decode prog_9_method_1_code 38 = .ok (.putfield 32, 3) := by decide +kernel
theorem d_Wait_init_41 : decode prog_9_method_1_code 41 = .ok (.aload_n 0, 1) := by decide +kernel
theorem d_Wait_init_42 : decode prog_9_method_1_code 42 = .ok (.aconst_null, 1) := by decide +kernel
theorem d_Wait_init_43 : decode prog_9_method_1_code 43 = .ok (.putfield 36, 3) := by decide +kernel
theorem d_Wait_init_46 : decode prog_9_method_1_code 46 = .ok (.return_, 1) := by decide +kernel
theorem d_L_start_0 : decode prog_1_method_8_code 0 = .ok (.aload_n 0, 1) := by decide +kernel
theorem d_L_start_1 : decode prog_1_method_8_code 1 = .ok (.iconst 0, 1) := by decide +kernel
theorem d_L_start_2 : decode prog_1_method_8_code 2 = .ok (.invokevirtual 107, 3) := by decide +kernel
theorem d_L_start_5 : decode prog_1_method_8_code 5 = .ok (.astore_n 3, 1) := by decide +kernel
theorem d_L_start_6 : decode prog_1_method_8_code 6 = .ok (.aload_n 3, 1) := by decide +kernel
theorem d_L_start_7 : decode prog_1_method_8_code 7 = .ok (.ifnull 29, 3) := by decide +kernel
theorem d_L_start_10 : decode prog_1_method_8_code 10 = .ok (.aload_n 3, 1) := by decide +kernel
theorem d_L_start_11 : decode prog_1_method_8_code 11 = .ok (.iload_n 1, 1) := by decide +kernel
theorem d_L_start_12 : decode prog_1_method_8_code 12 = .ok (.iconst 1, 1) := by decide +kernel
theorem d_L_start_13 : decode prog_1_method_8_code 13 = .ok (.invokevirtual 111, 3) := by decide +kernel
theorem d_L_start_16 : decode prog_1_method_8_code 16 = .ok (.ifCond .eq 20, 3) := by decide +kernel
theorem d_L_start_19 : decode prog_1_method_8_code 19 = .ok (.iload_n 2, 1) := by decide +kernel
theorem d_L_start_20 : decode prog_1_method_8_code 20 = .ok (.invokestatic 133, 3) := by decide +kernel
theorem d_L_start_23 : decode prog_1_method_8_code 23 = .ok (.ifCond .eq 13, 3) := by decide +kernel
theorem d_L_start_26 : decode prog_1_method_8_code 26 = .ok (.aload_n 0, 1) := by decide +kernel
theorem d_L_start_27 : decode prog_1_method_8_code 27 = .ok (.getfield 75, 3) := by decide +kernel
theorem d_L_start_30 : decode prog_1_method_8_code 30 = .ok (.sipush 8192, 3) := by decide +kernel
theorem d_L_start_33 : decode prog_1_method_8_code 33 = .ok (.if_icmp .lt 5, 3) := by decide +kernel
theorem d_L_start_36 : decode prog_1_method_8_code 36 = .ok (.iconst 0, 1) := by decide +kernel
theorem d_L_start_37 : decode prog_1_method_8_code 37 = .ok (.ireturn, 1) := by decide +kernel
theorem d_L_start_38 : decode prog_1_method_8_code 38 = .ok (.aload_n 0, 1) := by decide +kernel
theorem d_L_start_39 : decode prog_1_method_8_code 39 = .ok (.getfield 35, 3) := by decide +kernel
theorem d_L_start_42 : decode prog_1_method_8_code 42 = .ok (.aload_n 0, 1) := by decide +kernel
theorem d_L_start_43 : decode prog_1_method_8_code 43 = .ok (.getfield 75, 3) := by decide +kernel
theorem d_L_start_46 : decode prog_1_method_8_code 46 = .ok (.new 33, 3) := by decide +kernel
theorem d_L_start_49 : decode prog_1_method_8_code 49 = .ok (.dup, 1) := by decide +kernel
theorem d_L_start_50 : decode prog_1_method_8_code 50 = .ok (.aload_n 3, 1) := by decide +kernel
theorem d_L_start_51 : decode prog_1_method_8_code 51 = .ok (.iload_n 1, 1) := by decide +kernel
theorem d_L_start_52 : decode prog_1_method_8_code 52 = .ok (.iload_n 2, 1) := by decide +kernel
theorem d_L_start_53 : decode prog_1_method_8_code 53 = .ok (.invokespecial 184, 3) := by decide +kernel
theorem d_L_start_56 : decode prog_1_method_8_code 56 = .ok (.aastore, 1) := by decide +kernel
theorem d_L_start_57 : decode prog_1_method_8_code 57 = .ok (.aload_n 0, 1) := by decide +kernel
theorem d_L_start_58 : decode prog_1_method_8_code 58 = .ok (.dup, 1) := by decide +kernel
theorem d_L_start_59 : decode prog_1_method_8_code 59 = .ok (.getfield 75, 3) := by decide +kernel
theorem d_L_start_62 : decode prog_1_method_8_code 62 = .ok (.iconst 1, 1) := by decide +kernel
theorem d_L_start_63 : decode prog_1_method_8_code 63 = .ok (.iadd, 1) := by decide +kernel
theorem d_L_start_64 : decode prog_1_method_8_code 64 = .ok (.putfield 75, 3) := by decide +kernel
theorem d_L_start_67 : decode prog_1_method_8_code 67 = .ok (.iconst 1, 1) := by decide +kernel
theorem d_L_start_68 : decode prog_1_method_8_code 68 = .ok (.ireturn, 1) := by decide +kernel
theorem d_Start_init_0 : decode prog_6_method_1_code 0 = .ok (.aload_n 0, 1) := by decide +kernel
theorem d_Start_init_1 : decode prog_6_method_1_code 1 = .ok (.invokespecial 1, 3) := by decide +kernel
theorem d_Start_init_4 : decode prog_6_method_1_code 4 = .ok (.aload_n 0, 1) := by decide +kernel
theorem d_Start_init_5 : decode prog_6_method_1_code 5 = .ok (.aload_n 1, 1) := by decide +kernel
theorem d_Start_init_6 : decode prog_6_method_1_code 6 = .ok (.putfield 7, 3) := by decide +kernel
theorem d_Start_init_9 : decode prog_6_method_1_code 9 = .ok (.aload_n 0, 1) := by decide +kernel
theorem d_Start_init_10 : decode prog_6_method_1_code 10 = .ok (.iload_n 2, 1) := by decide +kernel
theorem d_Start_init_11 : decode prog_6_method_1_code 11 = .ok (.putfield 13, 3) := by decide +kernel
theorem d_Start_init_14 : decode prog_6_method_1_code 14 = .ok (.aload_n 0, 1) := by decide +kernel
theorem d_Start_init_15 : decode prog_6_method_1_code 15 = .ok (.iload_n 3, 1) := by decide +kernel
theorem d_Start_init_16 : decode prog_6_method_1_code 16 = .ok (.putfield 17, 3) := by decide +kernel
theorem d_Start_init_19 : decode prog_6_method_1_code 19 = .ok (.return_, 1) := by decide +kernel
theorem d_L_fault_0 : decode prog_1_method_10_code 0 = .ok (.iload_n 1, 1) := by decide +kernel
theorem d_L_fault_1 : decode prog_1_method_10_code 1 = .ok (.tableswitch 51 0 2 #[27, 35, 43], 27) := by decide +kernel
theorem d_L_fault_28 : decode prog_1_method_10_code 28 = .ok (.aload_n 0, 1) := by decide +kernel
theorem d_L_fault_29 : decode prog_1_method_10_code 29 = .ok (.getfield 47, 3) := by decide +kernel
theorem d_L_fault_32 : decode prog_1_method_10_code 32 = .ok (.getfield 204, 3) := by decide +kernel
theorem d_L_fault_35 : decode prog_1_method_10_code 35 = .ok (.ireturn, 1) := by decide +kernel
theorem d_L_fault_36 : decode prog_1_method_10_code 36 = .ok (.aload_n 0, 1) := by decide +kernel
theorem d_L_fault_37 : decode prog_1_method_10_code 37 = .ok (.getfield 47, 3) := by decide +kernel
theorem d_L_fault_40 : decode prog_1_method_10_code 40 = .ok (.getfield 231, 3) := by decide +kernel
theorem d_L_fault_43 : decode prog_1_method_10_code 43 = .ok (.ireturn, 1) := by decide +kernel
theorem d_L_fault_44 : decode prog_1_method_10_code 44 = .ok (.aload_n 0, 1) := by decide +kernel
theorem d_L_fault_45 : decode prog_1_method_10_code 45 = .ok (.getfield 47, 3) := by decide +kernel
theorem d_L_fault_48 : decode prog_1_method_10_code 48 = .ok (.getfield 234, 3) := by decide +kernel
theorem d_L_fault_51 : decode prog_1_method_10_code 51 = .ok (.ireturn, 1) := by decide +kernel
theorem d_L_fault_52 : decode prog_1_method_10_code 52 = .ok (.iconst (-1), 1) := by decide +kernel
theorem d_L_fault_53 : decode prog_1_method_10_code 53 = .ok (.ireturn, 1) := by decide +kernel
theorem d_L_needed_0 : decode prog_1_method_11_code 0 = .ok (.iload_n 1, 1) := by decide +kernel
theorem d_L_needed_1 : decode prog_1_method_11_code 1 = .ok (.ifCond .lt 11, 3) := by decide +kernel
theorem d_L_needed_4 : decode prog_1_method_11_code 4 = .ok (.iload_n 1, 1) := by decide +kernel
theorem d_L_needed_5 : decode prog_1_method_11_code 5 = .ok (.aload_n 0, 1) := by decide +kernel
theorem d_L_needed_6 : decode prog_1_method_11_code 6 = .ok (.getfield 62, 3) := by decide +kernel
theorem d_L_needed_9 : decode prog_1_method_11_code 9 = .ok (.if_icmp .lt 5, 3) := by decide +kernel
theorem d_L_needed_12 : decode prog_1_method_11_code 12 = .ok (.iconst (-1), 1) := by decide +kernel
theorem d_L_needed_13 : decode prog_1_method_11_code 13 = .ok (.ireturn, 1) := by decide +kernel
theorem d_L_needed_14 : decode prog_1_method_11_code 14 = .ok (.aload_n 0, 1) := by decide +kernel
theorem d_L_needed_15 : decode prog_1_method_11_code 15 = .ok (.getfield 11, 3) := by decide +kernel
theorem d_L_needed_18 : decode prog_1_method_11_code 18 = .ok (.iload_n 1, 1) := by decide +kernel
theorem d_L_needed_19 : decode prog_1_method_11_code 19 = .ok (.aaload, 1) := by decide +kernel
theorem d_L_needed_20 : decode prog_1_method_11_code 20 = .ok (.iload_n 2, 1) := by decide +kernel
theorem d_L_needed_21 : decode prog_1_method_11_code 21 = .ok (.invokevirtual 167, 3) := by decide +kernel
theorem d_L_needed_24 : decode prog_1_method_11_code 24 = .ok (.astore_n 3, 1) := by decide +kernel
theorem d_L_needed_25 : decode prog_1_method_11_code 25 = .ok (.aload_n 3, 1) := by decide +kernel
theorem d_L_needed_26 : decode prog_1_method_11_code 26 = .ok (.ifnonnull 5, 3) := by decide +kernel
theorem d_L_needed_29 : decode prog_1_method_11_code 29 = .ok (.iconst (-1), 1) := by decide +kernel
theorem d_L_needed_30 : decode prog_1_method_11_code 30 = .ok (.ireturn, 1) := by decide +kernel
theorem d_L_needed_31 : decode prog_1_method_11_code 31 = .ok (.aload_n 3, 1) := by decide +kernel
theorem d_L_needed_32 : decode prog_1_method_11_code 32 = .ok (.getfield 237, 3) := by decide +kernel
theorem d_L_needed_35 : decode prog_1_method_11_code 35 = .ok (.ifCond .eq 7, 3) := by decide +kernel
theorem d_L_needed_38 : decode prog_1_method_11_code 38 = .ok (.iconst 1, 1) := by decide +kernel
theorem d_L_needed_39 : decode prog_1_method_11_code 39 = .ok (.goto 4, 3) := by decide +kernel
theorem d_L_needed_42 : decode prog_1_method_11_code 42 = .ok (.iconst 0, 1) := by decide +kernel
theorem d_L_needed_43 : decode prog_1_method_11_code 43 = .ok (.ireturn, 1) := by decide +kernel
theorem d_L_octet_0 : decode prog_1_method_12_code 0 = .ok (.iload_n 1, 1) := by decide +kernel
theorem d_L_octet_1 : decode prog_1_method_12_code 1 = .ok (.ifCond .lt 17, 3) := by decide +kernel
theorem d_L_octet_4 : decode prog_1_method_12_code 4 = .ok (.iload_n 1, 1) := by decide +kernel
theorem d_L_octet_5 : decode prog_1_method_12_code 5 = .ok (.aload_n 0, 1) := by decide +kernel
theorem d_L_octet_6 : decode prog_1_method_12_code 6 = .ok (.getfield 54, 3) := by decide +kernel
theorem d_L_octet_9 : decode prog_1_method_12_code 9 = .ok (.getfield 240, 3) := by decide +kernel
theorem d_L_octet_12 : decode prog_1_method_12_code 12 = .ok (.bipush 6, 2) := by decide +kernel
theorem d_L_octet_14 : decode prog_1_method_12_code 14 = .ok (.iaload, 1) := by decide +kernel
theorem d_L_octet_15 : decode prog_1_method_12_code 15 = .ok (.if_icmp .lt 5, 3) := by decide +kernel
theorem d_L_octet_18 : decode prog_1_method_12_code 18 = .ok (.iconst (-1), 1) := by decide +kernel
theorem d_L_octet_19 : decode prog_1_method_12_code 19 = .ok (.ireturn, 1) := by decide +kernel
theorem d_L_octet_20 : decode prog_1_method_12_code 20 = .ok (.aload_n 0, 1) := by decide +kernel
theorem d_L_octet_21 : decode prog_1_method_12_code 21 = .ok (.getfield 54, 3) := by decide +kernel
theorem d_L_octet_24 : decode prog_1_method_12_code 24 = .ok (.getfield 243, 3) := by decide +kernel
theorem d_L_octet_27 : decode prog_1_method_12_code 27 = .ok (.iload_n 1, 1) := by decide +kernel
theorem d_L_octet_28 : decode prog_1_method_12_code 28 = .ok (.baload, 1) := by decide +kernel
theorem d_L_octet_29 : decode prog_1_method_12_code 29 = .ok (.sipush 255, 3) := by decide +kernel
theorem d_L_octet_32 : decode prog_1_method_12_code 32 = .ok (.iand, 1) := by decide +kernel
theorem d_L_octet_33 : decode prog_1_method_12_code 33 = .ok (.ireturn, 1) := by decide +kernel
theorem d_L_line_0 : decode prog_1_method_14_code 0 = .ok (.aload_n 0, 1) := by decide +kernel
theorem d_L_line_1 : decode prog_1_method_14_code 1 = .ok (.getfield 54, 3) := by decide +kernel
theorem d_L_line_4 : decode prog_1_method_14_code 4 = .ok (.getfield 256, 3) := by decide +kernel
theorem d_L_line_7 : decode prog_1_method_14_code 7 = .ok (.iconst 1, 1) := by decide +kernel
theorem d_L_line_8 : decode prog_1_method_14_code 8 = .ok (.isub, 1) := by decide +kernel
theorem d_L_line_9 : decode prog_1_method_14_code 9 = .ok (.istore_n 2, 1) := by decide +kernel
theorem d_L_line_10 : decode prog_1_method_14_code 10 = .ok (.iload_n 2, 1) := by decide +kernel
theorem d_L_line_11 : decode prog_1_method_14_code 11 = .ok (.ifCond .lt 32, 3) := by decide +kernel
theorem d_L_line_14 : decode prog_1_method_14_code 14 = .ok (.aload_n 0, 1) := by decide +kernel
theorem d_L_line_15 : decode prog_1_method_14_code 15 = .ok (.getfield 54, 3) := by decide +kernel
theorem d_L_line_18 : decode prog_1_method_14_code 18 = .ok (.getfield 257, 3) := by decide +kernel
theorem d_L_line_21 : decode prog_1_method_14_code 21 = .ok (.iload_n 2, 1) := by decide +kernel
theorem d_L_line_22 : decode prog_1_method_14_code 22 = .ok (.iaload, 1) := by decide +kernel
theorem d_L_line_23 : decode prog_1_method_14_code 23 = .ok (.iload_n 1, 1) := by decide +kernel
theorem d_L_line_24 : decode prog_1_method_14_code 24 = .ok (.if_icmp .ne 13, 3) := by decide +kernel
theorem d_L_line_27 : decode prog_1_method_14_code 27 = .ok (.aload_n 0, 1) := by decide +kernel
theorem d_L_line_28 : decode prog_1_method_14_code 28 = .ok (.getfield 54, 3) := by decide +kernel
theorem d_L_line_31 : decode prog_1_method_14_code 31 = .ok (.getfield 260, 3) := by decide +kernel
theorem d_L_line_34 : decode prog_1_method_14_code 34 = .ok (.iload_n 2, 1) := by decide +kernel
theorem d_L_line_35 : decode prog_1_method_14_code 35 = .ok (.iaload, 1) := by decide +kernel
theorem d_L_line_36 : decode prog_1_method_14_code 36 = .ok (.ireturn, 1) := by decide +kernel
theorem d_L_line_37 : decode prog_1_method_14_code 37 = .ok (.iinc 2 (-1), 3) := by decide +kernel
theorem d_L_line_40 : decode prog_1_method_14_code 40 = .ok (.goto (-30), 3) := by decide +kernel
theorem d_L_line_43 : decode prog_1_method_14_code 43 = .ok (.iconst (-1), 1) := by decide +kernel
theorem d_L_line_44 : decode prog_1_method_14_code 44 = .ok (.ireturn, 1) := by decide +kernel
theorem d_L_part_0 : decode prog_1_method_15_code 0 = .ok (.iload_n 1, 1) := by decide +kernel
theorem d_L_part_1 : decode prog_1_method_15_code 1 = .ok (.ifCond .lt 9, 3) := by decide +kernel
theorem d_L_part_4 : decode prog_1_method_15_code 4 = .ok (.iload_n 1, 1) := by decide +kernel
theorem d_L_part_5 : decode prog_1_method_15_code 5 = .ok (.bipush 7, 2) := by decide +kernel
theorem d_L_part_7 : decode prog_1_method_15_code 7 = .ok (.if_icmp .lt 5, 3) := by decide +kernel
theorem d_L_part_10 : decode prog_1_method_15_code 10 = .ok (.iconst (-1), 1) := by decide +kernel
theorem d_L_part_11 : decode prog_1_method_15_code 11 = .ok (.ireturn, 1) := by decide +kernel
theorem d_L_part_12 : decode prog_1_method_15_code 12 = .ok (.aload_n 0, 1) := by decide +kernel
theorem d_L_part_13 : decode prog_1_method_15_code 13 = .ok (.getfield 54, 3) := by decide +kernel
theorem d_L_part_16 : decode prog_1_method_15_code 16 = .ok (.getfield 240, 3) := by decide +kernel
theorem d_L_part_19 : decode prog_1_method_15_code 19 = .ok (.iload_n 1, 1) := by decide +kernel
theorem d_L_part_20 : decode prog_1_method_15_code 20 = .ok (.iaload, 1) := by decide +kernel
theorem d_L_part_21 : decode prog_1_method_15_code 21 = .ok (.ireturn, 1) := by decide +kernel
theorem d_L_link_0 : decode prog_1_method_9_code 0 = .ok (.aload_n 0, 1) := by decide +kernel
theorem d_L_link_1 : decode prog_1_method_9_code 1 = .ok (.getfield 47, 3) := by decide +kernel
theorem d_L_link_4 : decode prog_1_method_9_code 4 = .ok (.iconst 0, 1) := by decide +kernel
theorem d_L_link_5 : decode prog_1_method_9_code 5 = .ok (.iconst 0, 1) := by decide +kernel
theorem d_L_link_6 : decode prog_1_method_9_code 6 = .ok (.iconst (-1), 1) := by decide +kernel
theorem d_L_link_7 : decode prog_1_method_9_code 7 = .ok (.invokevirtual 187, 3) := by decide +kernel
theorem d_L_link_10 : decode prog_1_method_9_code 10 = .ok (.aload_n 0, 1) := by decide +kernel
theorem d_L_link_11 : decode prog_1_method_9_code 11 = .ok (.invokevirtual 191, 3) := by decide +kernel
theorem d_L_link_14 : decode prog_1_method_9_code 14 = .ok (.aload_n 0, 1) := by decide +kernel
theorem d_L_link_15 : decode prog_1_method_9_code 15 = .ok (.invokevirtual 194, 3) := by decide +kernel
theorem d_L_link_18 : decode prog_1_method_9_code 18 = .ok (.aload_n 0, 1) := by decide +kernel
theorem d_L_link_19 : decode prog_1_method_9_code 19 = .ok (.invokevirtual 197, 3) := by decide +kernel
theorem d_L_link_22 : decode prog_1_method_9_code 22 = .ok (.astore_n 1, 1) := by decide +kernel
theorem d_L_link_23 : decode prog_1_method_9_code 23 = .ok (.aload_n 1, 1) := by decide +kernel
theorem d_L_link_24 : decode prog_1_method_9_code 24 = .ok (.ifnonnull 16, 3) := by decide +kernel
theorem d_L_link_27 : decode prog_1_method_9_code 27 = .ok (.aload_n 0, 1) := by decide +kernel
theorem d_L_link_28 : decode prog_1_method_9_code 28 = .ok (.getfield 47, 3) := by decide +kernel
theorem d_L_link_31 : decode prog_1_method_9_code 31 = .ok (.iconst 1, 1) := by decide +kernel
theorem d_L_link_32 : decode prog_1_method_9_code 32 = .ok (.iconst 0, 1) := by decide +kernel
theorem d_L_link_33 : decode prog_1_method_9_code 33 = .ok (.iconst (-1), 1) := by decide +kernel
theorem d_L_link_34 : decode prog_1_method_9_code 34 = .ok (.invokevirtual 187, 3) := by decide +kernel
theorem d_L_link_37 : decode prog_1_method_9_code 37 = .ok (.goto 7, 3) := by decide +kernel
theorem d_L_link_40 : decode prog_1_method_9_code 40 = .ok (.aload_n 0, 1) := by decide +kernel
theorem d_L_link_41 : decode prog_1_method_9_code 41 = .ok (.invokevirtual 201, 3) := by decide +kernel
theorem d_L_link_44 : decode prog_1_method_9_code 44 = .ok (.aload_n 1, 1) := by decide +kernel
theorem d_L_link_45 : decode prog_1_method_9_code 45 = .ok (.ifnull 30, 3) := by decide +kernel
theorem d_L_link_48 : decode prog_1_method_9_code 48 = .ok (.aload_n 0, 1) := by decide +kernel
theorem d_L_link_49 : decode prog_1_method_9_code 49 = .ok (.getfield 47, 3) := by decide +kernel
theorem d_L_link_52 : decode prog_1_method_9_code 52 = .ok (.getfield 204, 3) := by decide +kernel
theorem d_L_link_55 : decode prog_1_method_9_code 55 = .ok (.ifCond .ne 20, 3) := by decide +kernel
theorem d_L_link_58 : decode prog_1_method_9_code 58 = .ok (.aload_n 0, 1) := by decide +kernel
theorem d_L_link_59 : decode prog_1_method_9_code 59 = .ok (.aload_n 1, 1) := by decide +kernel
theorem d_L_link_60 : decode prog_1_method_9_code 60 = .ok (.getfield 207, 3) := by decide +kernel
theorem d_L_link_63 : decode prog_1_method_9_code 63 = .ok (.invokevirtual 210, 3) := by decide +kernel
theorem d_L_link_66 : decode prog_1_method_9_code 66 = .ok (.aload_n 0, 1) := by decide +kernel
theorem d_L_link_67 : decode prog_1_method_9_code 67 = .ok (.aload_n 1, 1) := by decide +kernel
theorem d_L_link_68 : decode prog_1_method_9_code 68 = .ok (.invokevirtual 214, 3) := by decide +kernel
theorem d_L_link_71 : decode prog_1_method_9_code 71 = .ok (.aload_n 0, 1) := by decide +kernel
theorem d_L_link_72 : decode prog_1_method_9_code 72 = .ok (.invokevirtual 218, 3) := by decide +kernel
theorem d_L_link_75 : decode prog_1_method_9_code 75 = .ok (.aload_n 0, 1) := by decide +kernel
theorem d_L_link_76 : decode prog_1_method_9_code 76 = .ok (.getfield 47, 3) := by decide +kernel
theorem d_L_link_79 : decode prog_1_method_9_code 79 = .ok (.getfield 204, 3) := by decide +kernel
theorem d_L_link_82 : decode prog_1_method_9_code 82 = .ok (.ifCond .ne 25, 3) := by decide +kernel
theorem d_L_link_85 : decode prog_1_method_9_code 85 = .ok (.aload_n 0, 1) := by decide +kernel
theorem d_L_link_86 : decode prog_1_method_9_code 86 = .ok (.getfield 58, 3) := by decide +kernel
theorem d_L_link_89 : decode prog_1_method_9_code 89 = .ok (.bipush 6, 2) := by decide +kernel
theorem d_L_link_91 : decode prog_1_method_9_code 91 = .ok (.iaload, 1) := by decide +kernel
theorem d_L_link_92 : decode prog_1_method_9_code 92 = .ok (.ldc 39, 2) := by decide +kernel
theorem d_L_link_94 : decode prog_1_method_9_code 94 = .ok (.if_icmp .le 13, 3) := by decide +kernel
theorem d_L_link_97 : decode prog_1_method_9_code 97 = .ok (.aload_n 0, 1) := by decide +kernel
theorem d_L_link_98 : decode prog_1_method_9_code 98 = .ok (.getfield 47, 3) := by decide +kernel
theorem d_L_link_101 : decode prog_1_method_9_code 101 = .ok (.iconst 5, 1) := by decide +kernel
theorem d_L_link_102 : decode prog_1_method_9_code 102 = .ok (.iconst 0, 1) := by decide +kernel
theorem d_L_link_103 : decode prog_1_method_9_code 103 = .ok (.iconst (-1), 1) := by decide +kernel
theorem d_L_link_104 : decode prog_1_method_9_code 104 = .ok (.invokevirtual 187, 3) := by decide +kernel
theorem d_L_link_107 : decode prog_1_method_9_code 107 = .ok (.aload_n 0, 1) := by decide +kernel
theorem d_L_link_108 : decode prog_1_method_9_code 108 = .ok (.getfield 47, 3) := by decide +kernel
theorem d_L_link_111 : decode prog_1_method_9_code 111 = .ok (.getfield 204, 3) := by decide +kernel
theorem d_L_link_114 : decode prog_1_method_9_code 114 = .ok (.ifCond .eq 13, 3) := by decide +kernel
theorem d_L_link_117 : decode prog_1_method_9_code 117 = .ok (.new 221, 3) := by decide +kernel
theorem d_L_link_120 : decode prog_1_method_9_code 120 = .ok (.dup, 1) := by decide +kernel
theorem d_L_link_121 : decode prog_1_method_9_code 121 = .ok (.ldc 223, 2) := by decide +kernel
theorem d_L_link_123 : decode prog_1_method_9_code 123 = .ok (.invokespecial 225, 3) := by decide +kernel
theorem d_L_link_126 : decode prog_1_method_9_code 126 = .ok (.athrow, 1) := by decide +kernel
theorem d_L_link_127 : decode prog_1_method_9_code 127 = .ok (.aload_n 0, 1) := by decide +kernel
theorem d_L_link_128 : decode prog_1_method_9_code 128 = .ok (.invokevirtual 228, 3) := by decide +kernel
theorem d_L_link_131 : decode prog_1_method_9_code 131 = .ok (.aload_n 0, 1) := by decide +kernel
theorem d_L_link_132 : decode prog_1_method_9_code 132 = .ok (.getfield 58, 3) := by decide +kernel
theorem d_L_link_135 : decode prog_1_method_9_code 135 = .ok (.bipush 6, 2) := by decide +kernel
theorem d_L_link_137 : decode prog_1_method_9_code 137 = .ok (.iaload, 1) := by decide +kernel
theorem d_L_link_138 : decode prog_1_method_9_code 138 = .ok (.ireturn, 1) := by decide +kernel
theorem d_Fault_tell_0 : decode prog_2_method_2_code 0 = .ok (.aload_n 0, 1) := by decide +kernel
theorem d_Fault_tell_1 : decode prog_2_method_2_code 1 = .ok (.iload_n 1, 1) := by decide +kernel
theorem d_Fault_tell_2 : decode prog_2_method_2_code 2 = .ok (.putfield 9, 3) := by decide +kernel
theorem d_Fault_tell_5 : decode prog_2_method_2_code 5 = .ok (.aload_n 0, 1) := by decide +kernel
theorem d_Fault_tell_6 : decode prog_2_method_2_code 6 = .ok (.iload_n 2, 1) := by decide +kernel
theorem d_Fault_tell_7 : decode prog_2_method_2_code 7 = .ok (.putfield 15, 3) := by decide +kernel
theorem d_Fault_tell_10 : decode prog_2_method_2_code 10 = .ok (.aload_n 0, 1) := by decide +kernel
theorem d_Fault_tell_11 : decode prog_2_method_2_code 11 = .ok (.iload_n 3, 1) := by decide +kernel
theorem d_Fault_tell_12 : decode prog_2_method_2_code 12 = .ok (.putfield 18, 3) := by decide +kernel
theorem d_Fault_tell_15 : decode prog_2_method_2_code 15 = .ok (.return_, 1) := by decide +kernel
theorem d_L_takeUnits_0 : decode prog_1_method_28_code 0 = .ok (.iconst 0, 1) := by decide +kernel
theorem d_L_takeUnits_1 : decode prog_1_method_28_code 1 = .ok (.istore_n 1, 1) := by decide +kernel
theorem d_L_takeUnits_2 : decode prog_1_method_28_code 2 = .ok (.iload_n 1, 1) := by decide +kernel
theorem d_L_takeUnits_3 : decode prog_1_method_28_code 3 = .ok (.aload_n 0, 1) := by decide +kernel
theorem d_L_takeUnits_4 : decode prog_1_method_28_code 4 = .ok (.getfield 66, 3) := by decide +kernel
theorem d_L_takeUnits_7 : decode prog_1_method_28_code 7 = .ok (.if_icmp .ge 18, 3) := by decide +kernel
theorem d_L_takeUnits_10 : decode prog_1_method_28_code 10 = .ok (.aload_n 0, 1) := by decide +kernel
theorem d_L_takeUnits_11 : decode prog_1_method_28_code 11 = .ok (.getfield 17, 3) := by decide +kernel
theorem d_L_takeUnits_14 : decode prog_1_method_28_code 14 = .ok (.iload_n 1, 1) := by decide +kernel
theorem d_L_takeUnits_15 : decode prog_1_method_28_code 15 = .ok (.aaload, 1) := by decide +kernel
theorem d_L_takeUnits_16 : decode prog_1_method_28_code 16 = .ok (.invokevirtual 286, 3) := by decide +kernel
theorem d_L_takeUnits_19 : decode prog_1_method_28_code 19 = .ok (.iinc 1 1, 3) := by decide +kernel
theorem d_L_takeUnits_22 : decode prog_1_method_28_code 22 = .ok (.goto (-20), 3) := by decide +kernel
theorem d_L_takeUnits_25 : decode prog_1_method_28_code 25 = .ok (.iconst 0, 1) := by decide +kernel
theorem d_L_takeUnits_26 : decode prog_1_method_28_code 26 = .ok (.istore_n 1, 1) := by decide +kernel
theorem d_L_takeUnits_27 : decode prog_1_method_28_code 27 = .ok (.iload_n 1, 1) := by decide +kernel
theorem d_L_takeUnits_28 : decode prog_1_method_28_code 28 = .ok (.aload_n 0, 1) := by decide +kernel
theorem d_L_takeUnits_29 : decode prog_1_method_28_code 29 = .ok (.getfield 62, 3) := by decide +kernel
theorem d_L_takeUnits_32 : decode prog_1_method_28_code 32 = .ok (.if_icmp .ge 32, 3) := by decide +kernel
theorem d_L_takeUnits_35 : decode prog_1_method_28_code 35 = .ok (.aload_n 0, 1) := by decide +kernel
theorem d_L_takeUnits_36 : decode prog_1_method_28_code 36 = .ok (.getfield 11, 3) := by decide +kernel
theorem d_L_takeUnits_39 : decode prog_1_method_28_code 39 = .ok (.iload_n 1, 1) := by decide +kernel
theorem d_L_takeUnits_40 : decode prog_1_method_28_code 40 = .ok (.aaload, 1) := by decide +kernel
theorem d_L_takeUnits_41 : decode prog_1_method_28_code 41 = .ok (.astore_n 2, 1) := by decide +kernel
theorem d_L_takeUnits_42 : decode prog_1_method_28_code 42 = .ok (.aload_n 2, 1) := by decide +kernel
theorem d_L_takeUnits_43 : decode prog_1_method_28_code 43 = .ok (.iconst 0, 1) := by decide +kernel
theorem d_L_takeUnits_44 : decode prog_1_method_28_code 44 = .ok (.putfield 289, 3) := by decide +kernel
theorem d_L_takeUnits_47 : decode prog_1_method_28_code 47 = .ok (.aload_n 2, 1) := by decide +kernel
theorem d_L_takeUnits_48 : decode prog_1_method_28_code 48 = .ok (.getfield 292, 3) := by decide +kernel
theorem d_L_takeUnits_51 : decode prog_1_method_28_code 51 = .ok (.ifCond .ne 7, 3) := by decide +kernel
theorem d_L_takeUnits_54 : decode prog_1_method_28_code 54 = .ok (.aload_n 2, 1) := by decide +kernel
theorem d_L_takeUnits_55 : decode prog_1_method_28_code 55 = .ok (.invokevirtual 295, 3) := by decide +kernel
theorem d_L_takeUnits_58 : decode prog_1_method_28_code 58 = .ok (.iinc 1 1, 3) := by decide +kernel
theorem d_L_takeUnits_61 : decode prog_1_method_28_code 61 = .ok (.goto (-34), 3) := by decide +kernel
theorem d_L_takeUnits_64 : decode prog_1_method_28_code 64 = .ok (.aload_n 0, 1) := by decide +kernel
theorem d_L_takeUnits_65 : decode prog_1_method_28_code 65 = .ok (.invokevirtual 298, 3) := by decide +kernel
theorem d_L_takeUnits_68 : decode prog_1_method_28_code 68 = .ok (.astore_n 1, 1) := by decide +kernel
theorem d_L_takeUnits_69 : decode prog_1_method_28_code 69 = .ok (.iconst 0, 1) := by decide +kernel
theorem d_L_takeUnits_70 : decode prog_1_method_28_code 70 = .ok (.istore_n 2, 1) := by decide +kernel
theorem d_L_takeUnits_71 : decode prog_1_method_28_code 71 = .ok (.iload_n 2, 1) := by decide +kernel
theorem d_L_takeUnits_72 : decode prog_1_method_28_code 72 = .ok (.bipush 32, 2) := by decide +kernel
theorem d_L_takeUnits_74 : decode prog_1_method_28_code 74 = .ok (.if_icmp .ge 22, 3) := by decide +kernel
theorem d_L_takeUnits_77 : decode prog_1_method_28_code 77 = .ok (.aload_n 1, 1) := by decide +kernel
theorem d_L_takeUnits_78 : decode prog_1_method_28_code 78 = .ok (.ifnull 18, 3) := by decide +kernel
theorem d_L_takeUnits_81 : decode prog_1_method_28_code 81 = .ok (.aload_n 1, 1) := by decide +kernel
theorem d_L_takeUnits_82 : decode prog_1_method_28_code 82 = .ok (.invokevirtual 295, 3) := by decide +kernel
theorem d_L_takeUnits_85 : decode prog_1_method_28_code 85 = .ok (.aload_n 0, 1) := by decide +kernel
theorem d_L_takeUnits_86 : decode prog_1_method_28_code 86 = .ok (.invokevirtual 298, 3) := by decide +kernel
theorem d_L_takeUnits_89 : decode prog_1_method_28_code 89 = .ok (.astore_n 1, 1) := by decide +kernel
theorem d_L_takeUnits_90 : decode prog_1_method_28_code 90 = .ok (.iinc 2 1, 3) := by decide +kernel
theorem d_L_takeUnits_93 : decode prog_1_method_28_code 93 = .ok (.goto (-22), 3) := by decide +kernel
theorem d_L_takeUnits_96 : decode prog_1_method_28_code 96 = .ok (.return_, 1) := by decide +kernel
theorem d_Name_forget_0 : decode prog_4_method_2_code 0 = .ok (.aload_n 0, 1) := by decide +kernel
theorem d_Name_forget_1 : decode prog_4_method_2_code 1 = .ok (.iconst 0, 1) := by decide +kernel
theorem d_Name_forget_2 : decode prog_4_method_2_code 2 = .ok (.putfield 17, 3) := by decide +kernel
theorem d_Name_forget_5 : decode prog_4_method_2_code 5 = .ok (.aload_n 0, 1) := by decide +kernel
theorem d_Name_forget_6 : decode prog_4_method_2_code 6 = .ok (.iconst 0, 1) := by decide +kernel
theorem d_Name_forget_7 : decode prog_4_method_2_code 7 = .ok (.putfield 21, 3) := by decide +kernel
theorem d_Name_forget_10 : decode prog_4_method_2_code 10 = .ok (.aload_n 0, 1) := by decide +kernel
theorem d_Name_forget_11 : decode prog_4_method_2_code 11 = .ok (.aconst_null, 1) := by decide +kernel
theorem d_Name_forget_12 : decode prog_4_method_2_code 12 = .ok (.putfield 24, 3) := by decide +kernel
theorem d_Name_forget_15 : decode prog_4_method_2_code 15 = .ok (.aload_n 0, 1) := by decide +kernel
theorem d_Name_forget_16 : decode prog_4_method_2_code 16 = .ok (.aconst_null, 1) := by decide +kernel
theorem d_Name_forget_17 : decode prog_4_method_2_code 17 = .ok (.putfield 28, 3) := by decide +kernel
theorem d_Name_forget_20 : decode prog_4_method_2_code 20 = .ok (.return_, 1) := by decide +kernel
theorem d_Unit_take_0 : decode prog_8_method_5_code 0 = .ok (.aload_n 0, 1) := by decide +kernel
theorem d_Unit_take_1 : decode prog_8_method_5_code 1 = .ok (.iconst 1, 1) := by decide +kernel
theorem d_Unit_take_2 : decode prog_8_method_5_code 2 = .ok (.putfield 35, 3) := by decide +kernel
theorem d_Unit_take_5 : decode prog_8_method_5_code 5 = .ok (.aload_n 0, 1) := by decide +kernel
theorem d_Unit_take_6 : decode prog_8_method_5_code 6 = .ok (.getfield 29, 3) := by decide +kernel
theorem d_Unit_take_9 : decode prog_8_method_5_code 9 = .ok (.istore_n 1, 1) := by decide +kernel
theorem d_Unit_take_10 : decode prog_8_method_5_code 10 = .ok (.iload_n 1, 1) := by decide +kernel
theorem d_Unit_take_11 : decode prog_8_method_5_code 11 = .ok (.aload_n 0, 1) := by decide +kernel
theorem d_Unit_take_12 : decode prog_8_method_5_code 12 = .ok (.getfield 32, 3) := by decide +kernel
theorem d_Unit_take_15 : decode prog_8_method_5_code 15 = .ok (.if_icmp .ge 49, 3) := by decide +kernel
theorem d_Unit_take_18 : decode prog_8_method_5_code 18 = .ok (.aload_n 0, 1) := by decide +kernel
theorem d_Unit_take_19 : decode prog_8_method_5_code 19 = .ok (.getfield 25, 3) := by decide +kernel
theorem d_Unit_take_22 : decode prog_8_method_5_code 22 = .ok (.iload_n 1, 1) := by decide +kernel
theorem d_Unit_take_23 : decode prog_8_method_5_code 23 = .ok (.aaload, 1) := by decide +kernel
theorem d_Unit_take_24 : decode prog_8_method_5_code 24 = .ok (.astore_n 2, 1) := by decide +kernel
theorem d_Unit_take_25 : decode prog_8_method_5_code 25 = .ok (.aload_n 2, 1) := by decide +kernel
theorem d_Unit_take_26 : decode prog_8_method_5_code 26 = .ok (.invokevirtual 44, 3) := by decide +kernel
theorem d_Unit_take_29 : decode prog_8_method_5_code 29 = .ok (.ifCond .eq 14, 3) := by decide +kernel
theorem d_Unit_take_32 : decode prog_8_method_5_code 32 = .ok (.aload_n 2, 1) := by decide +kernel
theorem d_Unit_take_33 : decode prog_8_method_5_code 33 = .ok (.getfield 38, 3) := by decide +kernel
theorem d_Unit_take_36 : decode prog_8_method_5_code 36 = .ok (.iconst 1, 1) := by decide +kernel
theorem d_Unit_take_37 : decode prog_8_method_5_code 37 = .ok (.putfield 48, 3) := by decide +kernel
theorem d_Unit_take_40 : decode prog_8_method_5_code 40 = .ok (.goto 18, 3) := by decide +kernel
theorem d_Unit_take_43 : decode prog_8_method_5_code 43 = .ok (.aload_n 2, 1) := by decide +kernel
theorem d_Unit_take_44 : decode prog_8_method_5_code 44 = .ok (.invokevirtual 53, 3) := by decide +kernel
theorem d_Unit_take_47 : decode prog_8_method_5_code 47 = .ok (.ifCond .eq 11, 3) := by decide +kernel
theorem d_Unit_take_50 : decode prog_8_method_5_code 50 = .ok (.aload_n 2, 1) := by decide +kernel
theorem d_Unit_take_51 : decode prog_8_method_5_code 51 = .ok (.getfield 38, 3) := by decide +kernel
theorem d_Unit_take_54 : decode prog_8_method_5_code 54 = .ok (.iconst 1, 1) := by decide +kernel
theorem d_Unit_take_55 : decode prog_8_method_5_code 55 = .ok (.putfield 56, 3) := by decide +kernel
theorem d_Unit_take_58 : decode prog_8_method_5_code 58 = .ok (.iinc 1 1, 3) := by decide +kernel
theorem d_Unit_take_61 : decode prog_8_method_5_code 61 = .ok (.goto (-51), 3) := by decide +kernel
theorem d_Unit_take_64 : decode prog_8_method_5_code 64 = .ok (.return_, 1) := by decide +kernel
theorem d_Symbol_isSharedLabel_0 : decode prog_7_method_3_code 0 = .ok (.aload_n 0, 1) := by decide +kernel
theorem d_Symbol_isSharedLabel_1 : decode prog_7_method_3_code 1 = .ok (.getfield 22, 3) := by decide +kernel
theorem d_Symbol_isSharedLabel_4 : decode prog_7_method_3_code 4 = .ok (.ifnull 21, 3) := by decide +kernel
theorem d_Symbol_isSharedLabel_7 : decode prog_7_method_3_code 7 = .ok (.aload_n 0, 1) := by decide +kernel
theorem d_Symbol_isSharedLabel_8 : decode prog_7_method_3_code 8 = .ok (.getfield 19, 3) := by decide +kernel
theorem d_Symbol_isSharedLabel_11 : decode prog_7_method_3_code 11 = .ok (.ifCond .ne 10, 3) := by decide +kernel
theorem d_Symbol_isSharedLabel_14 : decode prog_7_method_3_code 14 = .ok (.aload_n 0, 1) := by decide +kernel
theorem d_Symbol_isSharedLabel_15 : decode prog_7_method_3_code 15 = .ok (.getfield 15, 3) := by decide +kernel
theorem d_Symbol_isSharedLabel_18 : decode prog_7_method_3_code 18 = .ok (.ifCond .eq 7, 3) := by decide +kernel
theorem d_Symbol_isSharedLabel_21 : decode prog_7_method_3_code 21 = .ok (.iconst 1, 1) := by decide +kernel
theorem d_Symbol_isSharedLabel_22 : decode prog_7_method_3_code 22 = .ok (.goto 4, 3) := by decide +kernel
theorem d_Symbol_isSharedLabel_25 : decode prog_7_method_3_code 25 = .ok (.iconst 0, 1) := by decide +kernel
theorem d_Symbol_isSharedLabel_26 : decode prog_7_method_3_code 26 = .ok (.ireturn, 1) := by decide +kernel
theorem d_Symbol_isMissed_0 : decode prog_7_method_4_code 0 = .ok (.aload_n 0, 1) := by decide +kernel
theorem d_Symbol_isMissed_1 : decode prog_7_method_4_code 1 = .ok (.getfield 22, 3) := by decide +kernel
theorem d_Symbol_isMissed_4 : decode prog_7_method_4_code 4 = .ok (.ifnonnull 14, 3) := by decide +kernel
theorem d_Symbol_isMissed_7 : decode prog_7_method_4_code 7 = .ok (.aload_n 0, 1) := by decide +kernel
theorem d_Symbol_isMissed_8 : decode prog_7_method_4_code 8 = .ok (.getfield 15, 3) := by decide +kernel
theorem d_Symbol_isMissed_11 : decode prog_7_method_4_code 11 = .ok (.ifCond .ne 7, 3) := by decide +kernel
theorem d_Symbol_isMissed_14 : decode prog_7_method_4_code 14 = .ok (.iconst 1, 1) := by decide +kernel
theorem d_Symbol_isMissed_15 : decode prog_7_method_4_code 15 = .ok (.goto 4, 3) := by decide +kernel
theorem d_Symbol_isMissed_18 : decode prog_7_method_4_code 18 = .ok (.iconst 0, 1) := by decide +kernel
theorem d_Symbol_isMissed_19 : decode prog_7_method_4_code 19 = .ok (.ireturn, 1) := by decide +kernel
theorem d_L_firstWantedUnit_0 : decode prog_1_method_29_code 0 = .ok (.iconst 0, 1) := by decide +kernel
theorem d_L_firstWantedUnit_1 : decode prog_1_method_29_code 1 = .ok (.istore_n 1, 1) := by decide +kernel
theorem d_L_firstWantedUnit_2 : decode prog_1_method_29_code 2 = .ok (.iload_n 1, 1) := by decide +kernel
theorem d_L_firstWantedUnit_3 : decode prog_1_method_29_code 3 = .ok (.aload_n 0, 1) := by decide +kernel
theorem d_L_firstWantedUnit_4 : decode prog_1_method_29_code 4 = .ok (.getfield 62, 3) := by decide +kernel
theorem d_L_firstWantedUnit_7 : decode prog_1_method_29_code 7 = .ok (.if_icmp .ge 32, 3) := by decide +kernel
theorem d_L_firstWantedUnit_10 : decode prog_1_method_29_code 10 = .ok (.aload_n 0, 1) := by decide +kernel
theorem d_L_firstWantedUnit_11 : decode prog_1_method_29_code 11 = .ok (.getfield 11, 3) := by decide +kernel
theorem d_L_firstWantedUnit_14 : decode prog_1_method_29_code 14 = .ok (.iload_n 1, 1) := by decide +kernel
theorem d_L_firstWantedUnit_15 : decode prog_1_method_29_code 15 = .ok (.aaload, 1) := by decide +kernel
theorem d_L_firstWantedUnit_16 : decode prog_1_method_29_code 16 = .ok (.astore_n 2, 1) := by decide +kernel
theorem d_L_firstWantedUnit_17 : decode prog_1_method_29_code 17 = .ok (.aload_n 2, 1) := by decide +kernel
theorem d_L_firstWantedUnit_18 : decode prog_1_method_29_code 18 = .ok (.getfield 289, 3) := by decide +kernel
theorem d_L_firstWantedUnit_21 : decode prog_1_method_29_code 21 = .ok (.ifCond .ne 12, 3) := by decide +kernel
theorem d_L_firstWantedUnit_24 : decode prog_1_method_29_code 24 = .ok (.aload_n 2, 1) := by decide +kernel
theorem d_L_firstWantedUnit_25 : decode prog_1_method_29_code 25 = .ok (.invokevirtual 301, 3) := by decide +kernel
theorem d_L_firstWantedUnit_28 : decode prog_1_method_29_code 28 = .ok (.ifCond .eq 5, 3) := by decide +kernel
theorem d_L_firstWantedUnit_31 : decode prog_1_method_29_code 31 = .ok (.aload_n 2, 1) := by decide +kernel
theorem d_L_firstWantedUnit_32 : decode prog_1_method_29_code 32 = .ok (.areturn, 1) := by decide +kernel
theorem d_L_firstWantedUnit_33 : decode prog_1_method_29_code 33 = .ok (.iinc 1 1, 3) := by decide +kernel
theorem d_L_firstWantedUnit_36 : decode prog_1_method_29_code 36 = .ok (.goto (-34), 3) := by decide +kernel
theorem d_L_firstWantedUnit_39 : decode prog_1_method_29_code 39 = .ok (.aconst_null, 1) := by decide +kernel
theorem d_L_firstWantedUnit_40 : decode prog_1_method_29_code 40 = .ok (.areturn, 1) := by decide +kernel
theorem d_Unit_isWanted_0 : decode prog_8_method_6_code 0 = .ok (.aload_n 0, 1) := by decide +kernel
theorem d_Unit_isWanted_1 : decode prog_8_method_6_code 1 = .ok (.getfield 29, 3) := by decide +kernel
theorem d_Unit_isWanted_4 : decode prog_8_method_6_code 4 = .ok (.istore_n 1, 1) := by decide +kernel
theorem d_Unit_isWanted_5 : decode prog_8_method_6_code 5 = .ok (.iload_n 1, 1) := by decide +kernel
theorem d_Unit_isWanted_6 : decode prog_8_method_6_code 6 = .ok (.aload_n 0, 1) := by decide +kernel
theorem d_Unit_isWanted_7 : decode prog_8_method_6_code 7 = .ok (.getfield 32, 3) := by decide +kernel
theorem d_Unit_isWanted_10 : decode prog_8_method_6_code 10 = .ok (.if_icmp .ge 45, 3) := by decide +kernel
theorem d_Unit_isWanted_13 : decode prog_8_method_6_code 13 = .ok (.aload_n 0, 1) := by decide +kernel
theorem d_Unit_isWanted_14 : decode prog_8_method_6_code 14 = .ok (.getfield 25, 3) := by decide +kernel
theorem d_Unit_isWanted_17 : decode prog_8_method_6_code 17 = .ok (.iload_n 1, 1) := by decide +kernel
theorem d_Unit_isWanted_18 : decode prog_8_method_6_code 18 = .ok (.aaload, 1) := by decide +kernel
theorem d_Unit_isWanted_19 : decode prog_8_method_6_code 19 = .ok (.astore_n 2, 1) := by decide +kernel
theorem d_Unit_isWanted_20 : decode prog_8_method_6_code 20 = .ok (.aload_n 2, 1) := by decide +kernel
theorem d_Unit_isWanted_21 : decode prog_8_method_6_code 21 = .ok (.invokevirtual 44, 3) := by decide +kernel
theorem d_Unit_isWanted_24 : decode prog_8_method_6_code 24 = .ok (.ifCond .eq 25, 3) := by decide +kernel
theorem d_Unit_isWanted_27 : decode prog_8_method_6_code 27 = .ok (.aload_n 2, 1) := by decide +kernel
theorem d_Unit_isWanted_28 : decode prog_8_method_6_code 28 = .ok (.getfield 38, 3) := by decide +kernel
theorem d_Unit_isWanted_31 : decode prog_8_method_6_code 31 = .ok (.getfield 56, 3) := by decide +kernel
theorem d_Unit_isWanted_34 : decode prog_8_method_6_code 34 = .ok (.ifCond .eq 15, 3) := by decide +kernel
theorem d_Unit_isWanted_37 : decode prog_8_method_6_code 37 = .ok (.aload_n 2, 1) := by decide +kernel
theorem d_Unit_isWanted_38 : decode prog_8_method_6_code 38 = .ok (.getfield 38, 3) := by decide +kernel
theorem d_Unit_isWanted_41 : decode prog_8_method_6_code 41 = .ok (.getfield 48, 3) := by decide +kernel
theorem d_Unit_isWanted_44 : decode prog_8_method_6_code 44 = .ok (.ifCond .ne 5, 3) := by decide +kernel
theorem d_Unit_isWanted_47 : decode prog_8_method_6_code 47 = .ok (.iconst 1, 1) := by decide +kernel
theorem d_Unit_isWanted_48 : decode prog_8_method_6_code 48 = .ok (.ireturn, 1) := by decide +kernel
theorem d_Unit_isWanted_49 : decode prog_8_method_6_code 49 = .ok (.iinc 1 1, 3) := by decide +kernel
theorem d_Unit_isWanted_52 : decode prog_8_method_6_code 52 = .ok (.goto (-47), 3) := by decide +kernel
theorem d_Unit_isWanted_55 : decode prog_8_method_6_code 55 = .ok (.iconst 0, 1) := by decide +kernel
theorem d_Unit_isWanted_56 : decode prog_8_method_6_code 56 = .ok (.ireturn, 1) := by decide +kernel
theorem d_L_bindNames_0 : decode prog_1_method_30_code 0 = .ok (.iconst 0, 1) := by decide +kernel
theorem d_L_bindNames_1 : decode prog_1_method_30_code 1 = .ok (.istore_n 1, 1) := by decide +kernel
theorem d_L_bindNames_2 : decode prog_1_method_30_code 2 = .ok (.iload_n 1, 1) := by decide +kernel
theorem d_L_bindNames_3 : decode prog_1_method_30_code 3 = .ok (.aload_n 0, 1) := by decide +kernel
theorem d_L_bindNames_4 : decode prog_1_method_30_code 4 = .ok (.getfield 62, 3) := by decide +kernel
theorem d_L_bindNames_7 : decode prog_1_method_30_code 7 = .ok (.if_icmp .ge 27, 3) := by decide +kernel
theorem d_L_bindNames_10 : decode prog_1_method_30_code 10 = .ok (.aload_n 0, 1) := by decide +kernel
theorem d_L_bindNames_11 : decode prog_1_method_30_code 11 = .ok (.getfield 11, 3) := by decide +kernel
theorem d_L_bindNames_14 : decode prog_1_method_30_code 14 = .ok (.iload_n 1, 1) := by decide +kernel
theorem d_L_bindNames_15 : decode prog_1_method_30_code 15 = .ok (.aaload, 1) := by decide +kernel
theorem d_L_bindNames_16 : decode prog_1_method_30_code 16 = .ok (.astore_n 2, 1) := by decide +kernel
theorem d_L_bindNames_17 : decode prog_1_method_30_code 17 = .ok (.aload_n 2, 1) := by decide +kernel
theorem d_L_bindNames_18 : decode prog_1_method_30_code 18 = .ok (.getfield 289, 3) := by decide +kernel
theorem d_L_bindNames_21 : decode prog_1_method_30_code 21 = .ok (.ifCond .eq 7, 3) := by decide +kernel
theorem d_L_bindNames_24 : decode prog_1_method_30_code 24 = .ok (.aload_n 2, 1) := by decide +kernel
theorem d_L_bindNames_25 : decode prog_1_method_30_code 25 = .ok (.invokevirtual 305, 3) := by decide +kernel
theorem d_L_bindNames_28 : decode prog_1_method_30_code 28 = .ok (.iinc 1 1, 3) := by decide +kernel
theorem d_L_bindNames_31 : decode prog_1_method_30_code 31 = .ok (.goto (-29), 3) := by decide +kernel
theorem d_L_bindNames_34 : decode prog_1_method_30_code 34 = .ok (.return_, 1) := by decide +kernel
theorem d_Unit_bindLabels_0 : decode prog_8_method_7_code 0 = .ok (.aload_n 0, 1) := by decide +kernel
theorem d_Unit_bindLabels_1 : decode prog_8_method_7_code 1 = .ok (.getfield 29, 3) := by decide +kernel
theorem d_Unit_bindLabels_4 : decode prog_8_method_7_code 4 = .ok (.istore_n 1, 1) := by decide +kernel
theorem d_Unit_bindLabels_5 : decode prog_8_method_7_code 5 = .ok (.iload_n 1, 1) := by decide +kernel
theorem d_Unit_bindLabels_6 : decode prog_8_method_7_code 6 = .ok (.aload_n 0, 1) := by decide +kernel
theorem d_Unit_bindLabels_7 : decode prog_8_method_7_code 7 = .ok (.getfield 32, 3) := by decide +kernel
theorem d_Unit_bindLabels_10 : decode prog_8_method_7_code 10 = .ok (.if_icmp .ge 31, 3) := by decide +kernel
theorem d_Unit_bindLabels_13 : decode prog_8_method_7_code 13 = .ok (.aload_n 0, 1) := by decide +kernel
theorem d_Unit_bindLabels_14 : decode prog_8_method_7_code 14 = .ok (.getfield 25, 3) := by decide +kernel
theorem d_Unit_bindLabels_17 : decode prog_8_method_7_code 17 = .ok (.iload_n 1, 1) := by decide +kernel
theorem d_Unit_bindLabels_18 : decode prog_8_method_7_code 18 = .ok (.aaload, 1) := by decide +kernel
theorem d_Unit_bindLabels_19 : decode prog_8_method_7_code 19 = .ok (.astore_n 2, 1) := by decide +kernel
theorem d_Unit_bindLabels_20 : decode prog_8_method_7_code 20 = .ok (.aload_n 2, 1) := by decide +kernel
theorem d_Unit_bindLabels_21 : decode prog_8_method_7_code 21 = .ok (.invokevirtual 44, 3) := by decide +kernel
theorem d_Unit_bindLabels_24 : decode prog_8_method_7_code 24 = .ok (.ifCond .eq 11, 3) := by decide +kernel
theorem d_Unit_bindLabels_27 : decode prog_8_method_7_code 27 = .ok (.aload_n 2, 1) := by decide +kernel
theorem d_Unit_bindLabels_28 : decode prog_8_method_7_code 28 = .ok (.getfield 38, 3) := by decide +kernel
theorem d_Unit_bindLabels_31 : decode prog_8_method_7_code 31 = .ok (.aload_n 2, 1) := by decide +kernel
theorem d_Unit_bindLabels_32 : decode prog_8_method_7_code 32 = .ok (.invokevirtual 59, 3) := by decide +kernel
theorem d_Unit_bindLabels_35 : decode prog_8_method_7_code 35 = .ok (.iinc 1 1, 3) := by decide +kernel
theorem d_Unit_bindLabels_38 : decode prog_8_method_7_code 38 = .ok (.goto (-33), 3) := by decide +kernel
theorem d_Unit_bindLabels_41 : decode prog_8_method_7_code 41 = .ok (.return_, 1) := by decide +kernel
theorem d_Name_bind_0 : decode prog_4_method_3_code 0 = .ok (.aload_n 1, 1) := by decide +kernel
theorem d_Name_bind_1 : decode prog_4_method_3_code 1 = .ok (.getfield 31, 3) := by decide +kernel
theorem d_Name_bind_4 : decode prog_4_method_3_code 4 = .ok (.ifCond .eq 18, 3) := by decide +kernel
theorem d_Name_bind_7 : decode prog_4_method_3_code 7 = .ok (.aload_n 0, 1) := by decide +kernel
theorem d_Name_bind_8 : decode prog_4_method_3_code 8 = .ok (.getfield 28, 3) := by decide +kernel
theorem d_Name_bind_11 : decode prog_4_method_3_code 11 = .ok (.ifnonnull 11, 3) := by decide +kernel
theorem d_Name_bind_14 : decode prog_4_method_3_code 14 = .ok (.aload_n 0, 1) := by decide +kernel
theorem d_Name_bind_15 : decode prog_4_method_3_code 15 = .ok (.aload_n 1, 1) := by decide +kernel
theorem d_Name_bind_16 : decode prog_4_method_3_code 16 = .ok (.putfield 28, 3) := by decide +kernel
theorem d_Name_bind_19 : decode prog_4_method_3_code 19 = .ok (.goto 22, 3) := by decide +kernel
theorem d_Name_bind_22 : decode prog_4_method_3_code 22 = .ok (.aload_n 1, 1) := by decide +kernel
theorem d_Name_bind_23 : decode prog_4_method_3_code 23 = .ok (.getfield 31, 3) := by decide +kernel
theorem d_Name_bind_26 : decode prog_4_method_3_code 26 = .ok (.ifCond .ne 15, 3) := by decide +kernel
theorem d_Name_bind_29 : decode prog_4_method_3_code 29 = .ok (.aload_n 0, 1) := by decide +kernel
theorem d_Name_bind_30 : decode prog_4_method_3_code 30 = .ok (.getfield 24, 3) := by decide +kernel
theorem d_Name_bind_33 : decode prog_4_method_3_code 33 = .ok (.ifnonnull 8, 3) := by decide +kernel
theorem d_Name_bind_36 : decode prog_4_method_3_code 36 = .ok (.aload_n 0, 1) := by decide +kernel
theorem d_Name_bind_37 : decode prog_4_method_3_code 37 = .ok (.aload_n 1, 1) := by decide +kernel
theorem d_Name_bind_38 : decode prog_4_method_3_code 38 = .ok (.putfield 24, 3) := by decide +kernel
theorem d_Name_bind_41 : decode prog_4_method_3_code 41 = .ok (.return_, 1) := by decide +kernel
theorem d_L_entryLabel_0 : decode prog_1_method_27_code 0 = .ok (.aload_n 0, 1) := by decide +kernel
theorem d_L_entryLabel_1 : decode prog_1_method_27_code 1 = .ok (.ldc2_w 281, 3) := by decide +kernel
theorem d_L_entryLabel_4 : decode prog_1_method_27_code 4 = .ok (.iconst 5, 1) := by decide +kernel
theorem d_L_entryLabel_5 : decode prog_1_method_27_code 5 = .ok (.invokevirtual 139, 3) := by decide +kernel
theorem d_L_entryLabel_8 : decode prog_1_method_27_code 8 = .ok (.astore_n 1, 1) := by decide +kernel
theorem d_L_entryLabel_9 : decode prog_1_method_27_code 9 = .ok (.aload_n 1, 1) := by decide +kernel
theorem d_L_entryLabel_10 : decode prog_1_method_27_code 10 = .ok (.ifnonnull 7, 3) := by decide +kernel
theorem d_L_entryLabel_13 : decode prog_1_method_27_code 13 = .ok (.aconst_null, 1) := by decide +kernel
theorem d_L_entryLabel_14 : decode prog_1_method_27_code 14 = .ok (.goto 7, 3) := by decide +kernel
theorem d_L_entryLabel_17 : decode prog_1_method_27_code 17 = .ok (.aload_n 1, 1) := by decide +kernel
theorem d_L_entryLabel_18 : decode prog_1_method_27_code 18 = .ok (.getfield 283, 3) := by decide +kernel
theorem d_L_entryLabel_21 : decode prog_1_method_27_code 21 = .ok (.areturn, 1) := by decide +kernel
theorem d_L_findTwoGlobals_0 : decode prog_1_method_31_code 0 = .ok (.iconst 0, 1) := by decide +kernel
theorem d_L_findTwoGlobals_1 : decode prog_1_method_31_code 1 = .ok (.istore_n 1, 1) := by decide +kernel
theorem d_L_findTwoGlobals_2 : decode prog_1_method_31_code 2 = .ok (.iload_n 1, 1) := by decide +kernel
theorem d_L_findTwoGlobals_3 : decode prog_1_method_31_code 3 = .ok (.aload_n 0, 1) := by decide +kernel
theorem d_L_findTwoGlobals_4 : decode prog_1_method_31_code 4 = .ok (.getfield 62, 3) := by decide +kernel
theorem d_L_findTwoGlobals_7 : decode prog_1_method_31_code 7 = .ok (.if_icmp .ge 48, 3) := by decide +kernel
theorem d_L_findTwoGlobals_10 : decode prog_1_method_31_code 10 = .ok (.aload_n 0, 1) := by decide +kernel
theorem d_L_findTwoGlobals_11 : decode prog_1_method_31_code 11 = .ok (.getfield 11, 3) := by decide +kernel
theorem d_L_findTwoGlobals_14 : decode prog_1_method_31_code 14 = .ok (.iload_n 1, 1) := by decide +kernel
theorem d_L_findTwoGlobals_15 : decode prog_1_method_31_code 15 = .ok (.aaload, 1) := by decide +kernel
theorem d_L_findTwoGlobals_16 : decode prog_1_method_31_code 16 = .ok (.astore_n 2, 1) := by decide +kernel
theorem d_L_findTwoGlobals_17 : decode prog_1_method_31_code 17 = .ok (.aload_n 2, 1) := by decide +kernel
theorem d_L_findTwoGlobals_18 : decode prog_1_method_31_code 18 = .ok (.getfield 289, 3) := by decide +kernel
theorem d_L_findTwoGlobals_21 : decode prog_1_method_31_code 21 = .ok (.ifCond .eq 10, 3) := by decide +kernel
theorem d_L_findTwoGlobals_24 : decode prog_1_method_31_code 24 = .ok (.aload_n 2, 1) := by decide +kernel
theorem d_L_findTwoGlobals_25 : decode prog_1_method_31_code 25 = .ok (.invokevirtual 308, 3) := by decide +kernel
theorem d_L_findTwoGlobals_28 : decode prog_1_method_31_code 28 = .ok (.goto 4, 3) := by decide +kernel
theorem d_L_findTwoGlobals_31 : decode prog_1_method_31_code 31 = .ok (.iconst (-1), 1) := by decide +kernel
theorem d_L_findTwoGlobals_32 : decode prog_1_method_31_code 32 = .ok (.istore_n 3, 1) := by decide +kernel
theorem d_L_findTwoGlobals_33 : decode prog_1_method_31_code 33 = .ok (.iload_n 3, 1) := by decide +kernel
theorem d_L_findTwoGlobals_34 : decode prog_1_method_31_code 34 = .ok (.iconst (-1), 1) := by decide +kernel
theorem d_L_findTwoGlobals_35 : decode prog_1_method_31_code 35 = .ok (.if_icmp .eq 14, 3) := by decide +kernel
theorem d_L_findTwoGlobals_38 : decode prog_1_method_31_code 38 = .ok (.aload_n 0, 1) := by decide +kernel
theorem d_L_findTwoGlobals_39 : decode prog_1_method_31_code 39 = .ok (.getfield 47, 3) := by decide +kernel
theorem d_L_findTwoGlobals_42 : decode prog_1_method_31_code 42 = .ok (.iconst 2, 1) := by decide +kernel
theorem d_L_findTwoGlobals_43 : decode prog_1_method_31_code 43 = .ok (.iload_n 3, 1) := by decide +kernel
theorem d_L_findTwoGlobals_44 : decode prog_1_method_31_code 44 = .ok (.iload_n 1, 1) := by decide +kernel
theorem d_L_findTwoGlobals_45 : decode prog_1_method_31_code 45 = .ok (.invokevirtual 187, 3) := by decide +kernel
theorem d_L_findTwoGlobals_48 : decode prog_1_method_31_code 48 = .ok (.return_, 1) := by decide +kernel
theorem d_L_findTwoGlobals_49 : decode prog_1_method_31_code 49 = .ok (.iinc 1 1, 3) := by decide +kernel
theorem d_L_findTwoGlobals_52 : decode prog_1_method_31_code 52 = .ok (.goto (-50), 3) := by decide +kernel
theorem d_L_findTwoGlobals_55 : decode prog_1_method_31_code 55 = .ok (.return_, 1) := by decide +kernel
theorem d_Unit_leastLineOfSecondGlobals_0 : decode prog_8_method_8_code 0 = .ok (.iconst (-1), 1) := by decide +kernel
theorem d_Unit_leastLineOfSecondGlobals_1 : decode prog_8_method_8_code 1 = .ok (.istore_n 1, 1) := by decide +kernel
theorem d_Unit_leastLineOfSecondGlobals_2 : decode prog_8_method_8_code 2 = .ok (.aload_n 0, 1) := by decide +kernel
theorem d_Unit_leastLineOfSecondGlobals_3 : decode prog_8_method_8_code 3 = .ok (.getfield 29, 3) := by decide +kernel
theorem d_Unit_leastLineOfSecondGlobals_6 : decode prog_8_method_8_code 6 = .ok (.istore_n 2, 1) := by decide +kernel
theorem d_Unit_leastLineOfSecondGlobals_7 : decode prog_8_method_8_code 7 = .ok (.iload_n 2, 1) := by decide +kernel
theorem d_Unit_leastLineOfSecondGlobals_8 : decode prog_8_method_8_code 8 = .ok (.aload_n 0, 1) := by decide +kernel
theorem d_Unit_leastLineOfSecondGlobals_9 : decode prog_8_method_8_code 9 = .ok (.getfield 32, 3) := by decide +kernel
theorem d_Unit_leastLineOfSecondGlobals_12 : decode prog_8_method_8_code 12 = .ok (.if_icmp .ge 64, 3) := by decide +kernel
theorem d_Unit_leastLineOfSecondGlobals_15 : decode prog_8_method_8_code 15 = .ok (.aload_n 0, 1) := by decide +kernel
theorem d_Unit_leastLineOfSecondGlobals_16 : decode prog_8_method_8_code 16 = .ok (.getfield 25, 3) := by decide +kernel
theorem d_Unit_leastLineOfSecondGlobals_19 : decode prog_8_method_8_code 19 = .ok (.iload_n 2, 1) := by decide +kernel
theorem d_Unit_leastLineOfSecondGlobals_20 : decode prog_8_method_8_code 20 = .ok (.aaload, 1) := by decide +kernel
theorem d_Unit_leastLineOfSecondGlobals_21 : decode prog_8_method_8_code 21 = .ok (.astore_n 3, 1) := by decide +kernel
theorem d_Unit_leastLineOfSecondGlobals_22 : decode prog_8_method_8_code 22 = .ok (.aload_n 3, 1) := by decide +kernel
theorem d_Unit_leastLineOfSecondGlobals_23 : decode prog_8_method_8_code 23 = .ok (.invokevirtual 63, 3) := by decide +kernel
theorem d_Unit_leastLineOfSecondGlobals_26 : decode prog_8_method_8_code 26 = .ok (.ifCond .eq 18, 3) := by decide +kernel
theorem d_Unit_leastLineOfSecondGlobals_29 : decode prog_8_method_8_code 29 = .ok (.aload_n 3, 1) := by decide +kernel
theorem d_Unit_leastLineOfSecondGlobals_30 : decode prog_8_method_8_code 30 = .ok (.getfield 38, 3) := by decide +kernel
theorem d_Unit_leastLineOfSecondGlobals_33 : decode prog_8_method_8_code 33 = .ok (.getfield 66, 3) := by decide +kernel
theorem d_Unit_leastLineOfSecondGlobals_36 : decode prog_8_method_8_code 36 = .ok (.aload_n 3, 1) := by decide +kernel
theorem d_Unit_leastLineOfSecondGlobals_37 : decode prog_8_method_8_code 37 = .ok (.if_acmp .eq 7, 3) := by decide +kernel
theorem d_Unit_leastLineOfSecondGlobals_40 : decode prog_8_method_8_code 40 = .ok (.iconst 1, 1) := by decide +kernel
theorem d_Unit_leastLineOfSecondGlobals_41 : decode prog_8_method_8_code 41 = .ok (.goto 4, 3) := by decide +kernel
theorem d_Unit_leastLineOfSecondGlobals_44 : decode prog_8_method_8_code 44 = .ok (.iconst 0, 1) := by decide +kernel
theorem d_Unit_leastLineOfSecondGlobals_45 : decode prog_8_method_8_code 45 = .ok (.istore 4, 2) := by decide +kernel
theorem d_Unit_leastLineOfSecondGlobals_47 : decode prog_8_method_8_code 47 = .ok (.iload 4, 2) := by decide +kernel
theorem d_Unit_leastLineOfSecondGlobals_49 : decode prog_8_method_8_code 49 = .ok (.ifCond .eq 21, 3) := by decide +kernel
theorem d_Unit_leastLineOfSecondGlobals_52 : decode prog_8_method_8_code 52 = .ok (.iload_n 1, 1) := by decide +kernel
theorem d_Unit_leastLineOfSecondGlobals_53 : decode prog_8_method_8_code 53 = .ok (.iconst (-1), 1) := by decide +kernel
theorem d_Unit_leastLineOfSecondGlobals_54 : decode prog_8_method_8_code 54 = .ok (.if_icmp .eq 11, 3) := by decide +kernel
theorem d_Unit_leastLineOfSecondGlobals_57 : decode prog_8_method_8_code 57 = .ok (.aload_n 3, 1) := by decide +kernel
theorem d_Unit_leastLineOfSecondGlobals_58 : decode prog_8_method_8_code 58 = .ok (.getfield 70, 3) := by decide +kernel
theorem d_Unit_leastLineOfSecondGlobals_61 : decode prog_8_method_8_code 61 = .ok (.iload_n 1, 1) := by decide +kernel
theorem d_Unit_leastLineOfSecondGlobals_62 : decode prog_8_method_8_code 62 = .ok (.if_icmp .ge 8, 3) := by decide +kernel
theorem d_Unit_leastLineOfSecondGlobals_65 : decode prog_8_method_8_code 65 = .ok (.aload_n 3, 1) := by decide +kernel
theorem d_Unit_leastLineOfSecondGlobals_66 : decode prog_8_method_8_code 66 = .ok (.getfield 70, 3) := by decide +kernel
theorem d_Unit_leastLineOfSecondGlobals_69 : decode prog_8_method_8_code 69 = .ok (.istore_n 1, 1) := by decide +kernel
theorem d_Unit_leastLineOfSecondGlobals_70 : decode prog_8_method_8_code 70 = .ok (.iinc 2 1, 3) := by decide +kernel
theorem d_Unit_leastLineOfSecondGlobals_73 : decode prog_8_method_8_code 73 = .ok (.goto (-66), 3) := by decide +kernel
theorem d_Unit_leastLineOfSecondGlobals_76 : decode prog_8_method_8_code 76 = .ok (.iload_n 1, 1) := by decide +kernel
theorem d_Unit_leastLineOfSecondGlobals_77 : decode prog_8_method_8_code 77 = .ok (.ireturn, 1) := by decide +kernel
theorem d_Symbol_isGlobalLabel_0 : decode prog_7_method_2_code 0 = .ok (.aload_n 0, 1) := by decide +kernel
theorem d_Symbol_isGlobalLabel_1 : decode prog_7_method_2_code 1 = .ok (.getfield 22, 3) := by decide +kernel
theorem d_Symbol_isGlobalLabel_4 : decode prog_7_method_2_code 4 = .ok (.ifnull 14, 3) := by decide +kernel
theorem d_Symbol_isGlobalLabel_7 : decode prog_7_method_2_code 7 = .ok (.aload_n 0, 1) := by decide +kernel
theorem d_Symbol_isGlobalLabel_8 : decode prog_7_method_2_code 8 = .ok (.getfield 19, 3) := by decide +kernel
theorem d_Symbol_isGlobalLabel_11 : decode prog_7_method_2_code 11 = .ok (.ifCond .eq 7, 3) := by decide +kernel
theorem d_Symbol_isGlobalLabel_14 : decode prog_7_method_2_code 14 = .ok (.iconst 1, 1) := by decide +kernel
theorem d_Symbol_isGlobalLabel_15 : decode prog_7_method_2_code 15 = .ok (.goto 4, 3) := by decide +kernel
theorem d_Symbol_isGlobalLabel_18 : decode prog_7_method_2_code 18 = .ok (.iconst 0, 1) := by decide +kernel
theorem d_Symbol_isGlobalLabel_19 : decode prog_7_method_2_code 19 = .ok (.ireturn, 1) := by decide +kernel
theorem d_L_findNeeded_0 : decode prog_1_method_32_code 0 = .ok (.iconst 0, 1) := by decide +kernel
theorem d_L_findNeeded_1 : decode prog_1_method_32_code 1 = .ok (.istore_n 2, 1) := by decide +kernel
theorem d_L_findNeeded_2 : decode prog_1_method_32_code 2 = .ok (.iload_n 2, 1) := by decide +kernel
theorem d_L_findNeeded_3 : decode prog_1_method_32_code 3 = .ok (.aload_n 0, 1) := by decide +kernel
theorem d_L_findNeeded_4 : decode prog_1_method_32_code 4 = .ok (.getfield 62, 3) := by decide +kernel
theorem d_L_findNeeded_7 : decode prog_1_method_32_code 7 = .ok (.if_icmp .ge 18, 3) := by decide +kernel
theorem d_L_findNeeded_10 : decode prog_1_method_32_code 10 = .ok (.aload_n 0, 1) := by decide +kernel
theorem d_L_findNeeded_11 : decode prog_1_method_32_code 11 = .ok (.getfield 11, 3) := by decide +kernel
theorem d_L_findNeeded_14 : decode prog_1_method_32_code 14 = .ok (.iload_n 2, 1) := by decide +kernel
theorem d_L_findNeeded_15 : decode prog_1_method_32_code 15 = .ok (.aaload, 1) := by decide +kernel
theorem d_L_findNeeded_16 : decode prog_1_method_32_code 16 = .ok (.invokevirtual 312, 3) := by decide +kernel
theorem d_L_findNeeded_19 : decode prog_1_method_32_code 19 = .ok (.iinc 2 1, 3) := by decide +kernel
theorem d_L_findNeeded_22 : decode prog_1_method_32_code 22 = .ok (.goto (-20), 3) := by decide +kernel
theorem d_L_findNeeded_25 : decode prog_1_method_32_code 25 = .ok (.aload_n 1, 1) := by decide +kernel
theorem d_L_findNeeded_26 : decode prog_1_method_32_code 26 = .ok (.ifnull 8, 3) := by decide +kernel
theorem d_L_findNeeded_29 : decode prog_1_method_32_code 29 = .ok (.aload_n 1, 1) := by decide +kernel
theorem d_L_findNeeded_30 : decode prog_1_method_32_code 30 = .ok (.iconst 1, 1) := by decide +kernel
theorem d_L_findNeeded_31 : decode prog_1_method_32_code 31 = .ok (.putfield 237, 3) := by decide +kernel
theorem d_L_findNeeded_34 : decode prog_1_method_32_code 34 = .ok (.iconst 1, 1) := by decide +kernel
theorem d_L_findNeeded_35 : decode prog_1_method_32_code 35 = .ok (.istore_n 2, 1) := by decide +kernel
theorem d_L_findNeeded_36 : decode prog_1_method_32_code 36 = .ok (.iconst 0, 1) := by decide +kernel
theorem d_L_findNeeded_37 : decode prog_1_method_32_code 37 = .ok (.istore_n 3, 1) := by decide +kernel
theorem d_L_findNeeded_38 : decode prog_1_method_32_code 38 = .ok (.iload_n 3, 1) := by decide +kernel
theorem d_L_findNeeded_39 : decode prog_1_method_32_code 39 = .ok (.sipush 128, 3) := by decide +kernel
theorem d_L_findNeeded_42 : decode prog_1_method_32_code 42 = .ok (.if_icmp .gt 18, 3) := by decide +kernel
theorem d_L_findNeeded_45 : decode prog_1_method_32_code 45 = .ok (.iload_n 2, 1) := by decide +kernel
theorem d_L_findNeeded_46 : decode prog_1_method_32_code 46 = .ok (.ifCond .eq 14, 3) := by decide +kernel
theorem d_L_findNeeded_49 : decode prog_1_method_32_code 49 = .ok (.aload_n 0, 1) := by decide +kernel
theorem d_L_findNeeded_50 : decode prog_1_method_32_code 50 = .ok (.invokevirtual 315, 3) := by decide +kernel
theorem d_L_findNeeded_53 : decode prog_1_method_32_code 53 = .ok (.istore_n 2, 1) := by decide +kernel
theorem d_L_findNeeded_54 : decode prog_1_method_32_code 54 = .ok (.iinc 3 1, 3) := by decide +kernel
theorem d_L_findNeeded_57 : decode prog_1_method_32_code 57 = .ok (.goto (-19), 3) := by decide +kernel
theorem d_L_findNeeded_60 : decode prog_1_method_32_code 60 = .ok (.return_, 1) := by decide +kernel
theorem d_Unit_needKeptAlone_0 : decode prog_8_method_9_code 0 = .ok (.iconst 0, 1) := by decide +kernel
theorem d_Unit_needKeptAlone_1 : decode prog_8_method_9_code 1 = .ok (.istore_n 1, 1) := by decide +kernel
theorem d_Unit_needKeptAlone_2 : decode prog_8_method_9_code 2 = .ok (.iload_n 1, 1) := by decide +kernel
theorem d_Unit_needKeptAlone_3 : decode prog_8_method_9_code 3 = .ok (.aload_n 0, 1) := by decide +kernel
theorem d_Unit_needKeptAlone_4 : decode prog_8_method_9_code 4 = .ok (.getfield 21, 3) := by decide +kernel
theorem d_Unit_needKeptAlone_7 : decode prog_8_method_9_code 7 = .ok (.arraylength, 1) := by decide +kernel
theorem d_Unit_needKeptAlone_8 : decode prog_8_method_9_code 8 = .ok (.if_icmp .ge 43, 3) := by decide +kernel
theorem d_Unit_needKeptAlone_11 : decode prog_8_method_9_code 11 = .ok (.aload_n 0, 1) := by decide +kernel
theorem d_Unit_needKeptAlone_12 : decode prog_8_method_9_code 12 = .ok (.getfield 21, 3) := by decide +kernel
theorem d_Unit_needKeptAlone_15 : decode prog_8_method_9_code 15 = .ok (.iload_n 1, 1) := by decide +kernel
theorem d_Unit_needKeptAlone_16 : decode prog_8_method_9_code 16 = .ok (.aaload, 1) := by decide +kernel
theorem d_Unit_needKeptAlone_17 : decode prog_8_method_9_code 17 = .ok (.astore_n 2, 1) := by decide +kernel
theorem d_Unit_needKeptAlone_18 : decode prog_8_method_9_code 18 = .ok (.aload_n 2, 1) := by decide +kernel
theorem d_Unit_needKeptAlone_19 : decode prog_8_method_9_code 19 = .ok (.ifnull 26, 3) := by decide +kernel
theorem d_Unit_needKeptAlone_22 : decode prog_8_method_9_code 22 = .ok (.aload_n 2, 1) := by decide +kernel
theorem d_Unit_needKeptAlone_23 : decode prog_8_method_9_code 23 = .ok (.aload_n 0, 1) := by decide +kernel
theorem d_Unit_needKeptAlone_24 : decode prog_8_method_9_code 24 = .ok (.getfield 35, 3) := by decide +kernel
theorem d_Unit_needKeptAlone_27 : decode prog_8_method_9_code 27 = .ok (.ifCond .eq 14, 3) := by decide +kernel
theorem d_Unit_needKeptAlone_30 : decode prog_8_method_9_code 30 = .ok (.aload_n 2, 1) := by decide +kernel
theorem d_Unit_needKeptAlone_31 : decode prog_8_method_9_code 31 = .ok (.getfield 73, 3) := by decide +kernel
theorem d_Unit_needKeptAlone_34 : decode prog_8_method_9_code 34 = .ok (.ifCond .eq 7, 3) := by decide +kernel
theorem d_Unit_needKeptAlone_37 : decode prog_8_method_9_code 37 = .ok (.iconst 1, 1) := by decide +kernel
theorem d_Unit_needKeptAlone_38 : decode prog_8_method_9_code 38 = .ok (.goto 4, 3) := by decide +kernel
theorem d_Unit_needKeptAlone_41 : decode prog_8_method_9_code 41 = .ok (.iconst 0, 1) := by decide +kernel
theorem d_Unit_needKeptAlone_42 : decode prog_8_method_9_code 42 = .ok (.putfield 76, 3) := by decide +kernel
theorem d_Unit_needKeptAlone_45 : decode prog_8_method_9_code 45 = .ok (.iinc 1 1, 3) := by decide +kernel
theorem d_Unit_needKeptAlone_48 : decode prog_8_method_9_code 48 = .ok (.goto (-46), 3) := by decide +kernel
theorem d_Unit_needKeptAlone_51 : decode prog_8_method_9_code 51 = .ok (.return_, 1) := by decide +kernel
theorem d_L_needWhatNeededOnesAwait_0 : decode prog_1_method_33_code 0 = .ok (.iconst 0, 1) := by decide +kernel
theorem d_L_needWhatNeededOnesAwait_1 : decode prog_1_method_33_code 1 = .ok (.istore_n 1, 1) := by decide +kernel
theorem d_L_needWhatNeededOnesAwait_2 : decode prog_1_method_33_code 2 = .ok (.iconst 0, 1) := by decide +kernel
theorem d_L_needWhatNeededOnesAwait_3 : decode prog_1_method_33_code 3 = .ok (.istore_n 2, 1) := by decide +kernel
theorem d_L_needWhatNeededOnesAwait_4 : decode prog_1_method_33_code 4 = .ok (.iload_n 2, 1) := by decide +kernel
theorem d_L_needWhatNeededOnesAwait_5 : decode prog_1_method_33_code 5 = .ok (.aload_n 0, 1) := by decide +kernel
theorem d_L_needWhatNeededOnesAwait_6 : decode prog_1_method_33_code 6 = .ok (.getfield 72, 3) := by decide +kernel
theorem d_L_needWhatNeededOnesAwait_9 : decode prog_1_method_33_code 9 = .ok (.if_icmp .ge 57, 3) := by decide +kernel
theorem d_L_needWhatNeededOnesAwait_12 : decode prog_1_method_33_code 12 = .ok (.aload_n 0, 1) := by decide +kernel
theorem d_L_needWhatNeededOnesAwait_13 : decode prog_1_method_33_code 13 = .ok (.getfield 29, 3) := by decide +kernel
theorem d_L_needWhatNeededOnesAwait_16 : decode prog_1_method_33_code 16 = .ok (.iload_n 2, 1) := by decide +kernel
theorem d_L_needWhatNeededOnesAwait_17 : decode prog_1_method_33_code 17 = .ok (.aaload, 1) := by decide +kernel
theorem d_L_needWhatNeededOnesAwait_18 : decode prog_1_method_33_code 18 = .ok (.astore_n 3, 1) := by decide +kernel
theorem d_L_needWhatNeededOnesAwait_19 : decode prog_1_method_33_code 19 = .ok (.aload_n 3, 1) := by decide +kernel
theorem d_L_needWhatNeededOnesAwait_20 : decode prog_1_method_33_code 20 = .ok (.getfield 318, 3) := by decide +kernel
theorem d_L_needWhatNeededOnesAwait_23 : decode prog_1_method_33_code 23 = .ok (.getfield 237, 3) := by decide +kernel
theorem d_L_needWhatNeededOnesAwait_26 : decode prog_1_method_33_code 26 = .ok (.ifCond .eq 10, 3) := by decide +kernel
theorem d_L_needWhatNeededOnesAwait_29 : decode prog_1_method_33_code 29 = .ok (.aload_n 3, 1) := by decide +kernel
theorem d_L_needWhatNeededOnesAwait_30 : decode prog_1_method_33_code 30 = .ok (.invokevirtual 321, 3) := by decide +kernel
theorem d_L_needWhatNeededOnesAwait_33 : decode prog_1_method_33_code 33 = .ok (.goto 4, 3) := by decide +kernel
theorem d_L_needWhatNeededOnesAwait_36 : decode prog_1_method_33_code 36 = .ok (.aconst_null, 1) := by decide +kernel
theorem d_L_needWhatNeededOnesAwait_37 : decode prog_1_method_33_code 37 = .ok (.astore 4, 2) := by decide +kernel
theorem d_L_needWhatNeededOnesAwait_39 : decode prog_1_method_33_code 39 = .ok (.aload 4, 2) := by decide +kernel
theorem d_L_needWhatNeededOnesAwait_41 : decode prog_1_method_33_code 41 = .ok (.ifnull 19, 3) := by decide +kernel
theorem d_L_needWhatNeededOnesAwait_44 : decode prog_1_method_33_code 44 = .ok (.aload 4, 2) := by decide +kernel
theorem d_L_needWhatNeededOnesAwait_46 : decode prog_1_method_33_code 46 = .ok (.getfield 237, 3) := by decide +kernel
theorem d_L_needWhatNeededOnesAwait_49 : decode prog_1_method_33_code 49 = .ok (.ifCond .ne 11, 3) := by decide +kernel
theorem d_L_needWhatNeededOnesAwait_52 : decode prog_1_method_33_code 52 = .ok (.aload 4, 2) := by decide +kernel
theorem d_L_needWhatNeededOnesAwait_54 : decode prog_1_method_33_code 54 = .ok (.iconst 1, 1) := by decide +kernel
theorem d_L_needWhatNeededOnesAwait_55 : decode prog_1_method_33_code 55 = .ok (.putfield 237, 3) := by decide +kernel
theorem d_L_needWhatNeededOnesAwait_58 : decode prog_1_method_33_code 58 = .ok (.iconst 1, 1) := by decide +kernel
theorem d_L_needWhatNeededOnesAwait_59 : decode prog_1_method_33_code 59 = .ok (.istore_n 1, 1) := by decide +kernel
theorem d_L_needWhatNeededOnesAwait_60 : decode prog_1_method_33_code 60 = .ok (.iinc 2 1, 3) := by decide +kernel
theorem d_L_needWhatNeededOnesAwait_63 : decode prog_1_method_33_code 63 = .ok (.goto (-59), 3) := by decide +kernel
theorem d_L_needWhatNeededOnesAwait_66 : decode prog_1_method_33_code 66 = .ok (.iload_n 1, 1) := by decide +kernel
theorem d_L_needWhatNeededOnesAwait_67 : decode prog_1_method_33_code 67 = .ok (.ireturn, 1) := by decide +kernel
theorem d_Wait_target_0 : decode prog_9_method_2_code 0 = .ok (.aload_n 0, 1) := by decide +kernel
theorem d_Wait_target_1 : decode prog_9_method_2_code 1 = .ok (.getfield 32, 3) := by decide +kernel
theorem d_Wait_target_4 : decode prog_9_method_2_code 4 = .ok (.ifnonnull 8, 3) := by decide +kernel
theorem d_Wait_target_7 : decode prog_9_method_2_code 7 = .ok (.aload_n 0, 1) := by decide +kernel
theorem d_Wait_target_8 : decode prog_9_method_2_code 8 = .ok (.getfield 36, 3) := by decide +kernel
theorem d_Wait_target_11 : decode prog_9_method_2_code 11 = .ok (.areturn, 1) := by decide +kernel
theorem d_Wait_target_12 : decode prog_9_method_2_code 12 = .ok (.aload_n 0, 1) := by decide +kernel
theorem d_Wait_target_13 : decode prog_9_method_2_code 13 = .ok (.getfield 32, 3) := by decide +kernel
theorem d_Wait_target_16 : decode prog_9_method_2_code 16 = .ok (.invokevirtual 39, 3) := by decide +kernel
theorem d_Wait_target_19 : decode prog_9_method_2_code 19 = .ok (.astore_n 1, 1) := by decide +kernel
theorem d_Wait_target_20 : decode prog_9_method_2_code 20 = .ok (.aload_n 1, 1) := by decide +kernel
theorem d_Wait_target_21 : decode prog_9_method_2_code 21 = .ok (.ifnonnull 7, 3) := by decide +kernel
theorem d_Wait_target_24 : decode prog_9_method_2_code 24 = .ok (.aconst_null, 1) := by decide +kernel
theorem d_Wait_target_25 : decode prog_9_method_2_code 25 = .ok (.goto 7, 3) := by decide +kernel
theorem d_Wait_target_28 : decode prog_9_method_2_code 28 = .ok (.aload_n 1, 1) := by decide +kernel
theorem d_Wait_target_29 : decode prog_9_method_2_code 29 = .ok (.getfield 45, 3) := by decide +kernel
theorem d_Wait_target_32 : decode prog_9_method_2_code 32 = .ok (.areturn, 1) := by decide +kernel
theorem d_Symbol_standsFor_0 : decode prog_7_method_5_code 0 = .ok (.aload_n 0, 1) := by decide +kernel
theorem d_Symbol_standsFor_1 : decode prog_7_method_5_code 1 = .ok (.getfield 22, 3) := by decide +kernel
theorem d_Symbol_standsFor_4 : decode prog_7_method_5_code 4 = .ok (.ifnull 14, 3) := by decide +kernel
theorem d_Symbol_standsFor_7 : decode prog_7_method_5_code 7 = .ok (.aload_n 0, 1) := by decide +kernel
theorem d_Symbol_standsFor_8 : decode prog_7_method_5_code 8 = .ok (.getfield 15, 3) := by decide +kernel
theorem d_Symbol_standsFor_11 : decode prog_7_method_5_code 11 = .ok (.ifCond .ne 7, 3) := by decide +kernel
theorem d_Symbol_standsFor_14 : decode prog_7_method_5_code 14 = .ok (.aload_n 0, 1) := by decide +kernel
theorem d_Symbol_standsFor_15 : decode prog_7_method_5_code 15 = .ok (.goto 10, 3) := by decide +kernel
theorem d_Symbol_standsFor_18 : decode prog_7_method_5_code 18 = .ok (.aload_n 0, 1) := by decide +kernel
theorem d_Symbol_standsFor_19 : decode prog_7_method_5_code 19 = .ok (.getfield 9, 3) := by decide +kernel
theorem d_Symbol_standsFor_22 : decode prog_7_method_5_code 22 = .ok (.invokevirtual 33, 3) := by decide +kernel
theorem d_Symbol_standsFor_25 : decode prog_7_method_5_code 25 = .ok (.areturn, 1) := by decide +kernel
theorem d_Name_meaning_0 : decode prog_4_method_4_code 0 = .ok (.aload_n 0, 1) := by decide +kernel
theorem d_Name_meaning_1 : decode prog_4_method_4_code 1 = .ok (.getfield 24, 3) := by decide +kernel
theorem d_Name_meaning_4 : decode prog_4_method_4_code 4 = .ok (.ifnull 10, 3) := by decide +kernel
theorem d_Name_meaning_7 : decode prog_4_method_4_code 7 = .ok (.aload_n 0, 1) := by decide +kernel
theorem d_Name_meaning_8 : decode prog_4_method_4_code 8 = .ok (.getfield 24, 3) := by decide +kernel
theorem d_Name_meaning_11 : decode prog_4_method_4_code 11 = .ok (.goto 7, 3) := by decide +kernel
theorem d_Name_meaning_14 : decode prog_4_method_4_code 14 = .ok (.aload_n 0, 1) := by decide +kernel
theorem d_Name_meaning_15 : decode prog_4_method_4_code 15 = .ok (.getfield 28, 3) := by decide +kernel
theorem d_Name_meaning_18 : decode prog_4_method_4_code 18 = .ok (.areturn, 1) := by decide +kernel
theorem d_L_placeParts_0 : decode prog_1_method_34_code 0 = .ok (.aload_n 0, 1) := by decide +kernel
theorem d_L_placeParts_1 : decode prog_1_method_34_code 1 = .ok (.ldc 81, 2) := by decide +kernel
theorem d_L_placeParts_3 : decode prog_1_method_34_code 3 = .ok (.putfield 82, 3) := by decide +kernel
theorem d_L_placeParts_6 : decode prog_1_method_34_code 6 = .ok (.aload_n 0, 1) := by decide +kernel
theorem d_L_placeParts_7 : decode prog_1_method_34_code 7 = .ok (.getfield 58, 3) := by decide +kernel
theorem d_L_placeParts_10 : decode prog_1_method_34_code 10 = .ok (.iconst 0, 1) := by decide +kernel
theorem d_L_placeParts_11 : decode prog_1_method_34_code 11 = .ok (.aload_n 0, 1) := by decide +kernel
theorem d_L_placeParts_12 : decode prog_1_method_34_code 12 = .ok (.iconst 0, 1) := by decide +kernel
theorem d_L_placeParts_13 : decode prog_1_method_34_code 13 = .ok (.ldc 81, 2) := by decide +kernel
theorem d_L_placeParts_15 : decode prog_1_method_34_code 15 = .ok (.invokevirtual 325, 3) := by decide +kernel
theorem d_L_placeParts_18 : decode prog_1_method_34_code 18 = .ok (.iastore, 1) := by decide +kernel
theorem d_L_placeParts_19 : decode prog_1_method_34_code 19 = .ok (.aload_n 0, 1) := by decide +kernel
theorem d_L_placeParts_20 : decode prog_1_method_34_code 20 = .ok (.getfield 58, 3) := by decide +kernel
theorem d_L_placeParts_23 : decode prog_1_method_34_code 23 = .ok (.iconst 1, 1) := by decide +kernel
theorem d_L_placeParts_24 : decode prog_1_method_34_code 24 = .ok (.aload_n 0, 1) := by decide +kernel
theorem d_L_placeParts_25 : decode prog_1_method_34_code 25 = .ok (.getfield 58, 3) := by decide +kernel
theorem d_L_placeParts_28 : decode prog_1_method_34_code 28 = .ok (.iconst 0, 1) := by decide +kernel
theorem d_L_placeParts_29 : decode prog_1_method_34_code 29 = .ok (.iaload, 1) := by decide +kernel
theorem d_L_placeParts_30 : decode prog_1_method_34_code 30 = .ok (.sipush 4096, 3) := by decide +kernel
theorem d_L_placeParts_33 : decode prog_1_method_34_code 33 = .ok (.invokestatic 329, 3) := by decide +kernel
theorem d_L_placeParts_36 : decode prog_1_method_34_code 36 = .ok (.iastore, 1) := by decide +kernel
theorem d_L_placeParts_37 : decode prog_1_method_34_code 37 = .ok (.aload_n 0, 1) := by decide +kernel
theorem d_L_placeParts_38 : decode prog_1_method_34_code 38 = .ok (.getfield 58, 3) := by decide +kernel
theorem d_L_placeParts_41 : decode prog_1_method_34_code 41 = .ok (.iconst 2, 1) := by decide +kernel
theorem d_L_placeParts_42 : decode prog_1_method_34_code 42 = .ok (.aload_n 0, 1) := by decide +kernel
theorem d_L_placeParts_43 : decode prog_1_method_34_code 43 = .ok (.iconst 1, 1) := by decide +kernel
theorem d_L_placeParts_44 : decode prog_1_method_34_code 44 = .ok (.aload_n 0, 1) := by decide +kernel
theorem d_L_placeParts_45 : decode prog_1_method_34_code 45 = .ok (.getfield 58, 3) := by decide +kernel
theorem d_L_placeParts_48 : decode prog_1_method_34_code 48 = .ok (.iconst 1, 1) := by decide +kernel
theorem d_L_placeParts_49 : decode prog_1_method_34_code 49 = .ok (.iaload, 1) := by decide +kernel
theorem d_L_placeParts_50 : decode prog_1_method_34_code 50 = .ok (.invokevirtual 325, 3) := by decide +kernel
theorem d_L_placeParts_53 : decode prog_1_method_34_code 53 = .ok (.iastore, 1) := by decide +kernel
theorem d_L_placeParts_54 : decode prog_1_method_34_code 54 = .ok (.aload_n 0, 1) := by decide +kernel
theorem d_L_placeParts_55 : decode prog_1_method_34_code 55 = .ok (.getfield 58, 3) := by decide +kernel
theorem d_L_placeParts_58 : decode prog_1_method_34_code 58 = .ok (.iconst 3, 1) := by decide +kernel
theorem d_L_placeParts_59 : decode prog_1_method_34_code 59 = .ok (.aload_n 0, 1) := by decide +kernel
theorem d_L_placeParts_60 : decode prog_1_method_34_code 60 = .ok (.getfield 58, 3) := by decide +kernel
theorem d_L_placeParts_63 : decode prog_1_method_34_code 63 = .ok (.iconst 2, 1) := by decide +kernel
theorem d_L_placeParts_64 : decode prog_1_method_34_code 64 = .ok (.iaload, 1) := by decide +kernel
theorem d_L_placeParts_65 : decode prog_1_method_34_code 65 = .ok (.sipush 4096, 3) := by decide +kernel
theorem d_L_placeParts_68 : decode prog_1_method_34_code 68 = .ok (.invokestatic 329, 3) := by decide +kernel
theorem d_L_placeParts_71 : decode prog_1_method_34_code 71 = .ok (.iastore, 1) := by decide +kernel
theorem d_L_placeParts_72 : decode prog_1_method_34_code 72 = .ok (.aload_n 0, 1) := by decide +kernel
theorem d_L_placeParts_73 : decode prog_1_method_34_code 73 = .ok (.iconst 2, 1) := by decide +kernel
theorem d_L_placeParts_74 : decode prog_1_method_34_code 74 = .ok (.aload_n 0, 1) := by decide +kernel
theorem d_L_placeParts_75 : decode prog_1_method_34_code 75 = .ok (.getfield 58, 3) := by decide +kernel
theorem d_L_placeParts_78 : decode prog_1_method_34_code 78 = .ok (.iconst 3, 1) := by decide +kernel
theorem d_L_placeParts_79 : decode prog_1_method_34_code 79 = .ok (.iaload, 1) := by decide +kernel
theorem d_L_placeParts_80 : decode prog_1_method_34_code 80 = .ok (.invokevirtual 325, 3) := by decide +kernel
theorem d_L_placeParts_83 : decode prog_1_method_34_code 83 = .ok (.istore_n 2, 1) := by decide +kernel
theorem d_L_placeParts_84 : decode prog_1_method_34_code 84 = .ok (.aload_n 0, 1) := by decide +kernel
theorem d_L_placeParts_85 : decode prog_1_method_34_code 85 = .ok (.getfield 58, 3) := by decide +kernel
theorem d_L_placeParts_88 : decode prog_1_method_34_code 88 = .ok (.iconst 4, 1) := by decide +kernel
theorem d_L_placeParts_89 : decode prog_1_method_34_code 89 = .ok (.aload_n 0, 1) := by decide +kernel
theorem d_L_placeParts_90 : decode prog_1_method_34_code 90 = .ok (.iconst 3, 1) := by decide +kernel
theorem d_L_placeParts_91 : decode prog_1_method_34_code 91 = .ok (.iload_n 2, 1) := by decide +kernel
theorem d_L_placeParts_92 : decode prog_1_method_34_code 92 = .ok (.invokevirtual 325, 3) := by decide +kernel
theorem d_L_placeParts_95 : decode prog_1_method_34_code 95 = .ok (.iastore, 1) := by decide +kernel
theorem d_L_placeParts_96 : decode prog_1_method_34_code 96 = .ok (.aload_n 0, 1) := by decide +kernel
theorem d_L_placeParts_97 : decode prog_1_method_34_code 97 = .ok (.getfield 58, 3) := by decide +kernel
theorem d_L_placeParts_100 : decode prog_1_method_34_code 100 = .ok (.iconst 5, 1) := by decide +kernel
theorem d_L_placeParts_101 : decode prog_1_method_34_code 101 = .ok (.aload_n 1, 1) := by decide +kernel
theorem d_L_placeParts_102 : decode prog_1_method_34_code 102 = .ok (.invokevirtual 332, 3) := by decide +kernel
theorem d_L_placeParts_105 : decode prog_1_method_34_code 105 = .ok (.iastore, 1) := by decide +kernel
theorem d_L_placeParts_106 : decode prog_1_method_34_code 106 = .ok (.aload_n 0, 1) := by decide +kernel
theorem d_L_placeParts_107 : decode prog_1_method_34_code 107 = .ok (.getfield 58, 3) := by decide +kernel
theorem d_L_placeParts_110 : decode prog_1_method_34_code 110 = .ok (.bipush 6, 2) := by decide +kernel
theorem d_L_placeParts_112 : decode prog_1_method_34_code 112 = .ok (.aload_n 0, 1) := by decide +kernel
theorem d_L_placeParts_113 : decode prog_1_method_34_code 113 = .ok (.getfield 82, 3) := by decide +kernel
theorem d_L_placeParts_116 : decode prog_1_method_34_code 116 = .ok (.ldc 81, 2) := by decide +kernel
theorem d_L_placeParts_118 : decode prog_1_method_34_code 118 = .ok (.isub, 1) := by decide +kernel
theorem d_L_placeParts_119 : decode prog_1_method_34_code 119 = .ok (.iastore, 1) := by decide +kernel
theorem d_L_placeParts_120 : decode prog_1_method_34_code 120 = .ok (.return_, 1) := by decide +kernel
theorem d_L_placeSections_0 : decode prog_1_method_35_code 0 = .ok (.iload_n 2, 1) := by decide +kernel
theorem d_L_placeSections_1 : decode prog_1_method_35_code 1 = .ok (.istore_n 3, 1) := by decide +kernel
theorem d_L_placeSections_2 : decode prog_1_method_35_code 2 = .ok (.iconst 0, 1) := by decide +kernel
theorem d_L_placeSections_3 : decode prog_1_method_35_code 3 = .ok (.istore 4, 2) := by decide +kernel
theorem d_L_placeSections_5 : decode prog_1_method_35_code 5 = .ok (.iload 4, 2) := by decide +kernel
theorem d_L_placeSections_7 : decode prog_1_method_35_code 7 = .ok (.aload_n 0, 1) := by decide +kernel
theorem d_L_placeSections_8 : decode prog_1_method_35_code 8 = .ok (.getfield 62, 3) := by decide +kernel
theorem d_L_placeSections_11 : decode prog_1_method_35_code 11 = .ok (.if_icmp .ge 63, 3) := by decide +kernel
theorem d_L_placeSections_14 : decode prog_1_method_35_code 14 = .ok (.aload_n 0, 1) := by decide +kernel
theorem d_L_placeSections_15 : decode prog_1_method_35_code 15 = .ok (.getfield 11, 3) := by decide +kernel
theorem d_L_placeSections_18 : decode prog_1_method_35_code 18 = .ok (.iload 4, 2) := by decide +kernel
theorem d_L_placeSections_20 : decode prog_1_method_35_code 20 = .ok (.aaload, 1) := by decide +kernel
theorem d_L_placeSections_21 : decode prog_1_method_35_code 21 = .ok (.iload_n 1, 1) := by decide +kernel
theorem d_L_placeSections_22 : decode prog_1_method_35_code 22 = .ok (.invokevirtual 167, 3) := by decide +kernel
theorem d_L_placeSections_25 : decode prog_1_method_35_code 25 = .ok (.astore 5, 2) := by decide +kernel
theorem d_L_placeSections_27 : decode prog_1_method_35_code 27 = .ok (.aload 5, 2) := by decide +kernel
theorem d_L_placeSections_29 : decode prog_1_method_35_code 29 = .ok (.ifnull 39, 3) := by decide +kernel
theorem d_L_placeSections_32 : decode prog_1_method_35_code 32 = .ok (.aload 5, 2) := by decide +kernel
theorem d_L_placeSections_34 : decode prog_1_method_35_code 34 = .ok (.getfield 237, 3) := by decide +kernel
theorem d_L_placeSections_37 : decode prog_1_method_35_code 37 = .ok (.ifCond .eq 31, 3) := by decide +kernel
theorem d_L_placeSections_40 : decode prog_1_method_35_code 40 = .ok (.aload 5, 2) := by decide +kernel
theorem d_L_placeSections_42 : decode prog_1_method_35_code 42 = .ok (.iload_n 3, 1) := by decide +kernel
theorem d_L_placeSections_43 : decode prog_1_method_35_code 43 = .ok (.bipush 16, 2) := by decide +kernel
theorem d_L_placeSections_45 : decode prog_1_method_35_code 45 = .ok (.invokestatic 329, 3) := by decide +kernel
theorem d_L_placeSections_48 : decode prog_1_method_35_code 48 = .ok (.putfield 335, 3) := by decide +kernel
theorem d_L_placeSections_51 : decode prog_1_method_35_code 51 = .ok (.aload 5, 2) := by decide +kernel
theorem d_L_placeSections_53 : decode prog_1_method_35_code 53 = .ok (.getfield 335, 3) := by decide +kernel
theorem d_L_placeSections_56 : decode prog_1_method_35_code 56 = .ok (.aload 5, 2) := by decide +kernel
theorem d_L_placeSections_58 : decode prog_1_method_35_code 58 = .ok (.getfield 338, 3) := by decide +kernel
theorem d_L_placeSections_61 : decode prog_1_method_35_code 61 = .ok (.iadd, 1) := by decide +kernel
theorem d_L_placeSections_62 : decode prog_1_method_35_code 62 = .ok (.istore_n 3, 1) := by decide +kernel
theorem d_L_placeSections_63 : decode prog_1_method_35_code 63 = .ok (.aload_n 0, 1) := by decide +kernel
theorem d_L_placeSections_64 : decode prog_1_method_35_code 64 = .ok (.iload_n 3, 1) := by decide +kernel
theorem d_L_placeSections_65 : decode prog_1_method_35_code 65 = .ok (.putfield 82, 3) := by decide +kernel
theorem d_L_placeSections_68 : decode prog_1_method_35_code 68 = .ok (.iinc 4 1, 3) := by decide +kernel
theorem d_L_placeSections_71 : decode prog_1_method_35_code 71 = .ok (.goto (-66), 3) := by decide +kernel
theorem d_L_placeSections_74 : decode prog_1_method_35_code 74 = .ok (.iload_n 3, 1) := by decide +kernel
theorem d_L_placeSections_75 : decode prog_1_method_35_code 75 = .ok (.ireturn, 1) := by decide +kernel
theorem d_L_roundUp_0 : decode prog_1_method_20_code 0 = .ok (.iload_n 0, 1) := by decide +kernel
theorem d_L_roundUp_1 : decode prog_1_method_20_code 1 = .ok (.iload_n 1, 1) := by decide +kernel
theorem d_L_roundUp_2 : decode prog_1_method_20_code 2 = .ok (.iadd, 1) := by decide +kernel
theorem d_L_roundUp_3 : decode prog_1_method_20_code 3 = .ok (.iconst 1, 1) := by decide +kernel
theorem d_L_roundUp_4 : decode prog_1_method_20_code 4 = .ok (.isub, 1) := by decide +kernel
theorem d_L_roundUp_5 : decode prog_1_method_20_code 5 = .ok (.iload_n 1, 1) := by decide +kernel
theorem d_L_roundUp_6 : decode prog_1_method_20_code 6 = .ok (.ineg, 1) := by decide +kernel
theorem d_L_roundUp_7 : decode prog_1_method_20_code 7 = .ok (.iand, 1) := by decide +kernel
theorem d_L_roundUp_8 : decode prog_1_method_20_code 8 = .ok (.ireturn, 1) := by decide +kernel
theorem d_Symbol_placeInImage_0 : decode prog_7_method_6_code 0 = .ok (.aload_n 0, 1) := by decide +kernel
theorem d_Symbol_placeInImage_1 : decode prog_7_method_6_code 1 = .ok (.getfield 22, 3) := by decide +kernel
theorem d_Symbol_placeInImage_4 : decode prog_7_method_6_code 4 = .ok (.ifnonnull 7, 3) := by decide +kernel
theorem d_Symbol_placeInImage_7 : decode prog_7_method_6_code 7 = .ok (.iconst 0, 1) := by decide +kernel
theorem d_Symbol_placeInImage_8 : decode prog_7_method_6_code 8 = .ok (.goto 15, 3) := by decide +kernel
theorem d_Symbol_placeInImage_11 : decode prog_7_method_6_code 11 = .ok (.aload_n 0, 1) := by decide +kernel
theorem d_Symbol_placeInImage_12 : decode prog_7_method_6_code 12 = .ok (.getfield 22, 3) := by decide +kernel
theorem d_Symbol_placeInImage_15 : decode prog_7_method_6_code 15 = .ok (.getfield 39, 3) := by decide +kernel
theorem d_Symbol_placeInImage_18 : decode prog_7_method_6_code 18 = .ok (.aload_n 0, 1) := by decide +kernel
theorem d_Symbol_placeInImage_19 : decode prog_7_method_6_code 19 = .ok (.getfield 26, 3) := by decide +kernel
theorem d_Symbol_placeInImage_22 : decode prog_7_method_6_code 22 = .ok (.iadd, 1) := by decide +kernel
theorem d_Symbol_placeInImage_23 : decode prog_7_method_6_code 23 = .ok (.ireturn, 1) := by decide +kernel
theorem d_L_findWaitFault_0 : decode prog_1_method_36_code 0 = .ok (.aconst_null, 1) := by decide +kernel
theorem d_L_findWaitFault_1 : decode prog_1_method_36_code 1 = .ok (.astore_n 1, 1) := by decide +kernel
theorem d_L_findWaitFault_2 : decode prog_1_method_36_code 2 = .ok (.iconst 0, 1) := by decide +kernel
theorem d_L_findWaitFault_3 : decode prog_1_method_36_code 3 = .ok (.istore_n 2, 1) := by decide +kernel
theorem d_L_findWaitFault_4 : decode prog_1_method_36_code 4 = .ok (.iload_n 2, 1) := by decide +kernel
theorem d_L_findWaitFault_5 : decode prog_1_method_36_code 5 = .ok (.aload_n 0, 1) := by decide +kernel
theorem d_L_findWaitFault_6 : decode prog_1_method_36_code 6 = .ok (.getfield 72, 3) := by decide +kernel
theorem d_L_findWaitFault_9 : decode prog_1_method_36_code 9 = .ok (.if_icmp .ge 47, 3) := by decide +kernel
theorem d_L_findWaitFault_12 : decode prog_1_method_36_code 12 = .ok (.aload_n 0, 1) := by decide +kernel
theorem d_L_findWaitFault_13 : decode prog_1_method_36_code 13 = .ok (.getfield 29, 3) := by decide +kernel
theorem d_L_findWaitFault_16 : decode prog_1_method_36_code 16 = .ok (.iload_n 2, 1) := by decide +kernel
theorem d_L_findWaitFault_17 : decode prog_1_method_36_code 17 = .ok (.aaload, 1) := by decide +kernel
theorem d_L_findWaitFault_18 : decode prog_1_method_36_code 18 = .ok (.astore_n 3, 1) := by decide +kernel
theorem d_L_findWaitFault_19 : decode prog_1_method_36_code 19 = .ok (.aload_n 3, 1) := by decide +kernel
theorem d_L_findWaitFault_20 : decode prog_1_method_36_code 20 = .ok (.getfield 318, 3) := by decide +kernel
theorem d_L_findWaitFault_23 : decode prog_1_method_36_code 23 = .ok (.getfield 237, 3) := by decide +kernel
theorem d_L_findWaitFault_26 : decode prog_1_method_36_code 26 = .ok (.ifCond .eq 24, 3) := by decide +kernel
theorem d_L_findWaitFault_29 : decode prog_1_method_36_code 29 = .ok (.aload_n 3, 1) := by decide +kernel
theorem d_L_findWaitFault_30 : decode prog_1_method_36_code 30 = .ok (.invokevirtual 341, 3) := by decide +kernel
theorem d_L_findWaitFault_33 : decode prog_1_method_36_code 33 = .ok (.ifCond .eq 17, 3) := by decide +kernel
theorem d_L_findWaitFault_36 : decode prog_1_method_36_code 36 = .ok (.aload_n 1, 1) := by decide +kernel
theorem d_L_findWaitFault_37 : decode prog_1_method_36_code 37 = .ok (.ifnull 11, 3) := by decide +kernel
theorem d_L_findWaitFault_40 : decode prog_1_method_36_code 40 = .ok (.aload_n 3, 1) := by decide +kernel
theorem d_L_findWaitFault_41 : decode prog_1_method_36_code 41 = .ok (.aload_n 1, 1) := by decide +kernel
theorem d_L_findWaitFault_42 : decode prog_1_method_36_code 42 = .ok (.invokevirtual 344, 3) := by decide +kernel
theorem d_L_findWaitFault_45 : decode prog_1_method_36_code 45 = .ok (.ifCond .eq 5, 3) := by decide +kernel
theorem d_L_findWaitFault_48 : decode prog_1_method_36_code 48 = .ok (.aload_n 3, 1) := by decide +kernel
theorem d_L_findWaitFault_49 : decode prog_1_method_36_code 49 = .ok (.astore_n 1, 1) := by decide +kernel
theorem d_L_findWaitFault_50 : decode prog_1_method_36_code 50 = .ok (.iinc 2 1, 3) := by decide +kernel
theorem d_L_findWaitFault_53 : decode prog_1_method_36_code 53 = .ok (.goto (-49), 3) := by decide +kernel
theorem d_L_findWaitFault_56 : decode prog_1_method_36_code 56 = .ok (.aload_n 1, 1) := by decide +kernel
theorem d_L_findWaitFault_57 : decode prog_1_method_36_code 57 = .ok (.ifnull 28, 3) := by decide +kernel
theorem d_L_findWaitFault_60 : decode prog_1_method_36_code 60 = .ok (.aload_n 0, 1) := by decide +kernel
theorem d_L_findWaitFault_61 : decode prog_1_method_36_code 61 = .ok (.getfield 47, 3) := by decide +kernel
theorem d_L_findWaitFault_64 : decode prog_1_method_36_code 64 = .ok (.aload_n 1, 1) := by decide +kernel
theorem d_L_findWaitFault_65 : decode prog_1_method_36_code 65 = .ok (.invokevirtual 341, 3) := by decide +kernel
theorem d_L_findWaitFault_68 : decode prog_1_method_36_code 68 = .ok (.aload_n 1, 1) := by decide +kernel
theorem d_L_findWaitFault_69 : decode prog_1_method_36_code 69 = .ok (.getfield 348, 3) := by decide +kernel
theorem d_L_findWaitFault_72 : decode prog_1_method_36_code 72 = .ok (.aload_n 1, 1) := by decide +kernel
theorem d_L_findWaitFault_73 : decode prog_1_method_36_code 73 = .ok (.getfield 318, 3) := by decide +kernel
theorem d_L_findWaitFault_76 : decode prog_1_method_36_code 76 = .ok (.getfield 349, 3) := by decide +kernel
theorem d_L_findWaitFault_79 : decode prog_1_method_36_code 79 = .ok (.getfield 104, 3) := by decide +kernel
theorem d_L_findWaitFault_82 : decode prog_1_method_36_code 82 = .ok (.invokevirtual 187, 3) := by decide +kernel
theorem d_L_findWaitFault_85 : decode prog_1_method_36_code 85 = .ok (.return_, 1) := by decide +kernel
theorem d_Wait_faultKind_0 : decode prog_9_method_4_code 0 = .ok (.aload_n 0, 1) := by decide +kernel
theorem d_Wait_faultKind_1 : decode prog_9_method_4_code 1 = .ok (.getfield 32, 3) := by decide +kernel
theorem d_Wait_faultKind_4 : decode prog_9_method_4_code 4 = .ok (.ifnull 25, 3) := by decide +kernel
theorem d_Wait_faultKind_7 : decode prog_9_method_4_code 7 = .ok (.aload_n 0, 1) := by decide +kernel
theorem d_Wait_faultKind_8 : decode prog_9_method_4_code 8 = .ok (.getfield 32, 3) := by decide +kernel
theorem d_Wait_faultKind_11 : decode prog_9_method_4_code 11 = .ok (.invokevirtual 57, 3) := by decide +kernel
theorem d_Wait_faultKind_14 : decode prog_9_method_4_code 14 = .ok (.ifCond .eq 15, 3) := by decide +kernel
theorem d_Wait_faultKind_17 : decode prog_9_method_4_code 17 = .ok (.aload_n 0, 1) := by decide +kernel
theorem d_Wait_faultKind_18 : decode prog_9_method_4_code 18 = .ok (.getfield 32, 3) := by decide +kernel
theorem d_Wait_faultKind_21 : decode prog_9_method_4_code 21 = .ok (.invokevirtual 39, 3) := by decide +kernel
theorem d_Wait_faultKind_24 : decode prog_9_method_4_code 24 = .ok (.ifnonnull 5, 3) := by decide +kernel
theorem d_Wait_faultKind_27 : decode prog_9_method_4_code 27 = .ok (.iconst 3, 1) := by decide +kernel
theorem d_Wait_faultKind_28 : decode prog_9_method_4_code 28 = .ok (.ireturn, 1) := by decide +kernel
theorem d_Wait_faultKind_29 : decode prog_9_method_4_code 29 = .ok (.aload_n 0, 1) := by decide +kernel
theorem d_Wait_faultKind_30 : decode prog_9_method_4_code 30 = .ok (.invokevirtual 61, 3) := by decide +kernel
theorem d_Wait_faultKind_33 : decode prog_9_method_4_code 33 = .ok (.lstore_n 1, 1) := by decide +kernel
theorem d_Wait_faultKind_34 : decode prog_9_method_4_code 34 = .ok (.aload_n 0, 1) := by decide +kernel
theorem d_Wait_faultKind_35 : decode prog_9_method_4_code 35 = .ok (.getfield 19, 3) := by decide +kernel
theorem d_Wait_faultKind_38 : decode prog_9_method_4_code 38 = .ok (.iconst 4, 1) := by decide +kernel
theorem d_Wait_faultKind_39 : decode prog_9_method_4_code 39 = .ok (.if_icmp .ne 15, 3) := by decide +kernel
theorem d_Wait_faultKind_42 : decode prog_9_method_4_code 42 = .ok (.lload_n 1, 1) := by decide +kernel
theorem d_Wait_faultKind_43 : decode prog_9_method_4_code 43 = .ok (.lload_n 1, 1) := by decide +kernel
theorem d_Wait_faultKind_44 : decode prog_9_method_4_code 44 = .ok (.l2i, 1) := by decide +kernel
theorem d_Wait_faultKind_45 : decode prog_9_method_4_code 45 = .ok (.i2l, 1) := by decide +kernel
theorem d_Wait_faultKind_46 : decode prog_9_method_4_code 46 = .ok (.lcmp, 1) := by decide +kernel
theorem d_Wait_faultKind_47 : decode prog_9_method_4_code 47 = .ok (.ifCond .eq 7, 3) := by decide +kernel
theorem d_Wait_faultKind_50 : decode prog_9_method_4_code 50 = .ok (.iconst 4, 1) := by decide +kernel
theorem d_Wait_faultKind_51 : decode prog_9_method_4_code 51 = .ok (.goto 4, 3) := by decide +kernel
theorem d_Wait_faultKind_54 : decode prog_9_method_4_code 54 = .ok (.iconst 0, 1) := by decide +kernel
theorem d_Wait_faultKind_55 : decode prog_9_method_4_code 55 = .ok (.ireturn, 1) := by decide +kernel
theorem d_Wait_value_0 : decode prog_9_method_3_code 0 = .ok (.aload_n 0, 1) := by decide +kernel
theorem d_Wait_value_1 : decode prog_9_method_3_code 1 = .ok (.getfield 22, 3) := by decide +kernel
theorem d_Wait_value_4 : decode prog_9_method_3_code 4 = .ok (.lstore_n 1, 1) := by decide +kernel
theorem d_Wait_value_5 : decode prog_9_method_3_code 5 = .ok (.aload_n 0, 1) := by decide +kernel
theorem d_Wait_value_6 : decode prog_9_method_3_code 6 = .ok (.getfield 32, 3) := by decide +kernel
theorem d_Wait_value_9 : decode prog_9_method_3_code 9 = .ok (.ifnonnull 7, 3) := by decide +kernel
theorem d_Wait_value_12 : decode prog_9_method_3_code 12 = .ok (.aconst_null, 1) := by decide +kernel
theorem d_Wait_value_13 : decode prog_9_method_3_code 13 = .ok (.goto 10, 3) := by decide +kernel
theorem d_Wait_value_16 : decode prog_9_method_3_code 16 = .ok (.aload_n 0, 1) := by decide +kernel
theorem d_Wait_value_17 : decode prog_9_method_3_code 17 = .ok (.getfield 32, 3) := by decide +kernel
theorem d_Wait_value_20 : decode prog_9_method_3_code 20 = .ok (.invokevirtual 39, 3) := by decide +kernel
theorem d_Wait_value_23 : decode prog_9_method_3_code 23 = .ok (.astore_n 3, 1) := by decide +kernel
theorem d_Wait_value_24 : decode prog_9_method_3_code 24 = .ok (.aload_n 3, 1) := by decide +kernel
theorem d_Wait_value_25 : decode prog_9_method_3_code 25 = .ok (.ifnull 14, 3) := by decide +kernel
theorem d_Wait_value_28 : decode prog_9_method_3_code 28 = .ok (.lload_n 1, 1) := by decide +kernel
theorem d_Wait_value_29 : decode prog_9_method_3_code 29 = .ok (.aload_n 3, 1) := by decide +kernel
theorem d_Wait_value_30 : decode prog_9_method_3_code 30 = .ok (.invokevirtual 48, 3) := by decide +kernel
theorem d_Wait_value_33 : decode prog_9_method_3_code 33 = .ok (.i2l, 1) := by decide +kernel
theorem d_Wait_value_34 : decode prog_9_method_3_code 34 = .ok (.ladd, 1) := by decide +kernel
theorem d_Wait_value_35 : decode prog_9_method_3_code 35 = .ok (.lstore_n 1, 1) := by decide +kernel
theorem d_Wait_value_36 : decode prog_9_method_3_code 36 = .ok (.goto 21, 3) := by decide +kernel
theorem d_Wait_value_39 : decode prog_9_method_3_code 39 = .ok (.aload_n 0, 1) := by decide +kernel
theorem d_Wait_value_40 : decode prog_9_method_3_code 40 = .ok (.getfield 36, 3) := by decide +kernel
theorem d_Wait_value_43 : decode prog_9_method_3_code 43 = .ok (.ifnull 14, 3) := by decide +kernel
theorem d_Wait_value_46 : decode prog_9_method_3_code 46 = .ok (.lload_n 1, 1) := by decide +kernel
theorem d_Wait_value_47 : decode prog_9_method_3_code 47 = .ok (.aload_n 0, 1) := by decide +kernel
theorem d_Wait_value_48 : decode prog_9_method_3_code 48 = .ok (.getfield 36, 3) := by decide +kernel
theorem d_Wait_value_51 : decode prog_9_method_3_code 51 = .ok (.getfield 52, 3) := by decide +kernel
theorem d_Wait_value_54 : decode prog_9_method_3_code 54 = .ok (.i2l, 1) := by decide +kernel
theorem d_Wait_value_55 : decode prog_9_method_3_code 55 = .ok (.ladd, 1) := by decide +kernel
theorem d_Wait_value_56 : decode prog_9_method_3_code 56 = .ok (.lstore_n 1, 1) := by decide +kernel
theorem d_Wait_value_57 : decode prog_9_method_3_code 57 = .ok (.aload_n 0, 1) := by decide +kernel
theorem d_Wait_value_58 : decode prog_9_method_3_code 58 = .ok (.getfield 29, 3) := by decide +kernel
theorem d_Wait_value_61 : decode prog_9_method_3_code 61 = .ok (.iconst (-1), 1) := by decide +kernel
theorem d_Wait_value_62 : decode prog_9_method_3_code 62 = .ok (.if_icmp .ne 7, 3) := by decide +kernel
theorem d_Wait_value_65 : decode prog_9_method_3_code 65 = .ok (.lload_n 1, 1) := by decide +kernel
theorem d_Wait_value_66 : decode prog_9_method_3_code 66 = .ok (.goto 18, 3) := by decide +kernel
theorem d_Wait_value_69 : decode prog_9_method_3_code 69 = .ok (.lload_n 1, 1) := by decide +kernel
theorem d_Wait_value_70 : decode prog_9_method_3_code 70 = .ok (.aload_n 0, 1) := by decide +kernel
theorem d_Wait_value_71 : decode prog_9_method_3_code 71 = .ok (.getfield 9, 3) := by decide +kernel
theorem d_Wait_value_74 : decode prog_9_method_3_code 74 = .ok (.getfield 52, 3) := by decide +kernel
theorem d_Wait_value_77 : decode prog_9_method_3_code 77 = .ok (.aload_n 0, 1) := by decide +kernel
theorem d_Wait_value_78 : decode prog_9_method_3_code 78 = .ok (.getfield 29, 3) := by decide +kernel
theorem d_Wait_value_81 : decode prog_9_method_3_code 81 = .ok (.iadd, 1) := by decide +kernel
theorem d_Wait_value_82 : decode prog_9_method_3_code 82 = .ok (.i2l, 1) := by decide +kernel
theorem d_Wait_value_83 : decode prog_9_method_3_code 83 = .ok (.lsub, 1) := by decide +kernel
theorem d_Wait_value_84 : decode prog_9_method_3_code 84 = .ok (.lreturn, 1) := by decide +kernel
theorem d_Wait_isBefore_0 : decode prog_9_method_5_code 0 = .ok (.aload_n 0, 1) := by decide +kernel
theorem d_Wait_isBefore_1 : decode prog_9_method_5_code 1 = .ok (.getfield 9, 3) := by decide +kernel
theorem d_Wait_isBefore_4 : decode prog_9_method_5_code 4 = .ok (.getfield 65, 3) := by decide +kernel
theorem d_Wait_isBefore_7 : decode prog_9_method_5_code 7 = .ok (.getfield 69, 3) := by decide +kernel
theorem d_Wait_isBefore_10 : decode prog_9_method_5_code 10 = .ok (.aload_n 1, 1) := by decide +kernel
theorem d_Wait_isBefore_11 : decode prog_9_method_5_code 11 = .ok (.getfield 9, 3) := by decide +kernel
theorem d_Wait_isBefore_14 : decode prog_9_method_5_code 14 = .ok (.getfield 65, 3) := by decide +kernel
theorem d_Wait_isBefore_17 : decode prog_9_method_5_code 17 = .ok (.getfield 69, 3) := by decide +kernel
theorem d_Wait_isBefore_20 : decode prog_9_method_5_code 20 = .ok (.if_icmp .eq 32, 3) := by decide +kernel
theorem d_Wait_isBefore_23 : decode prog_9_method_5_code 23 = .ok (.aload_n 0, 1) := by decide +kernel
theorem d_Wait_isBefore_24 : decode prog_9_method_5_code 24 = .ok (.getfield 9, 3) := by decide +kernel
theorem d_Wait_isBefore_27 : decode prog_9_method_5_code 27 = .ok (.getfield 65, 3) := by decide +kernel
theorem d_Wait_isBefore_30 : decode prog_9_method_5_code 30 = .ok (.getfield 69, 3) := by decide +kernel
theorem d_Wait_isBefore_33 : decode prog_9_method_5_code 33 = .ok (.aload_n 1, 1) := by decide +kernel
theorem d_Wait_isBefore_34 : decode prog_9_method_5_code 34 = .ok (.getfield 9, 3) := by decide +kernel
theorem d_Wait_isBefore_37 : decode prog_9_method_5_code 37 = .ok (.getfield 65, 3) := by decide +kernel
theorem d_Wait_isBefore_40 : decode prog_9_method_5_code 40 = .ok (.getfield 69, 3) := by decide +kernel
theorem d_Wait_isBefore_43 : decode prog_9_method_5_code 43 = .ok (.if_icmp .ge 7, 3) := by decide +kernel
theorem d_Wait_isBefore_46 : decode prog_9_method_5_code 46 = .ok (.iconst 1, 1) := by decide +kernel
theorem d_Wait_isBefore_47 : decode prog_9_method_5_code 47 = .ok (.goto 4, 3) := by decide +kernel
theorem d_Wait_isBefore_50 : decode prog_9_method_5_code 50 = .ok (.iconst 0, 1) := by decide +kernel
theorem d_Wait_isBefore_51 : decode prog_9_method_5_code 51 = .ok (.ireturn, 1) := by decide +kernel
theorem d_Wait_isBefore_52 : decode prog_9_method_5_code 52 = .ok (.aload_n 0, 1) := by decide +kernel
theorem d_Wait_isBefore_53 : decode prog_9_method_5_code 53 = .ok (.getfield 26, 3) := by decide +kernel
theorem d_Wait_isBefore_56 : decode prog_9_method_5_code 56 = .ok (.aload_n 1, 1) := by decide +kernel
theorem d_Wait_isBefore_57 : decode prog_9_method_5_code 57 = .ok (.getfield 26, 3) := by decide +kernel
theorem d_Wait_isBefore_60 : decode prog_9_method_5_code 60 = .ok (.if_icmp .ge 7, 3) := by decide +kernel
theorem d_Wait_isBefore_63 : decode prog_9_method_5_code 63 = .ok (.iconst 1, 1) := by decide +kernel
theorem d_Wait_isBefore_64 : decode prog_9_method_5_code 64 = .ok (.goto 4, 3) := by decide +kernel
theorem d_Wait_isBefore_67 : decode prog_9_method_5_code 67 = .ok (.iconst 0, 1) := by decide +kernel
theorem d_Wait_isBefore_68 : decode prog_9_method_5_code 68 = .ok (.ireturn, 1) := by decide +kernel
theorem d_L_makeImage_0 : decode prog_1_method_37_code 0 = .ok (.aload_n 0, 1) := by decide +kernel
theorem d_L_makeImage_1 : decode prog_1_method_37_code 1 = .ok (.getfield 54, 3) := by decide +kernel
theorem d_L_makeImage_4 : decode prog_1_method_37_code 4 = .ok (.aload_n 0, 1) := by decide +kernel
theorem d_L_makeImage_5 : decode prog_1_method_37_code 5 = .ok (.getfield 58, 3) := by decide +kernel
theorem d_L_makeImage_8 : decode prog_1_method_37_code 8 = .ok (.invokevirtual 352, 3) := by decide +kernel
theorem d_L_makeImage_11 : decode prog_1_method_37_code 11 = .ok (.iconst 0, 1) := by decide +kernel
theorem d_L_makeImage_12 : decode prog_1_method_37_code 12 = .ok (.istore_n 1, 1) := by decide +kernel
theorem d_L_makeImage_13 : decode prog_1_method_37_code 13 = .ok (.iload_n 1, 1) := by decide +kernel
theorem d_L_makeImage_14 : decode prog_1_method_37_code 14 = .ok (.aload_n 0, 1) := by decide +kernel
theorem d_L_makeImage_15 : decode prog_1_method_37_code 15 = .ok (.getfield 62, 3) := by decide +kernel
theorem d_L_makeImage_18 : decode prog_1_method_37_code 18 = .ok (.if_icmp .ge 19, 3) := by decide +kernel
theorem d_L_makeImage_21 : decode prog_1_method_37_code 21 = .ok (.aload_n 0, 1) := by decide +kernel
theorem d_L_makeImage_22 : decode prog_1_method_37_code 22 = .ok (.aload_n 0, 1) := by decide +kernel
theorem d_L_makeImage_23 : decode prog_1_method_37_code 23 = .ok (.getfield 11, 3) := by decide +kernel
theorem d_L_makeImage_26 : decode prog_1_method_37_code 26 = .ok (.iload_n 1, 1) := by decide +kernel
theorem d_L_makeImage_27 : decode prog_1_method_37_code 27 = .ok (.aaload, 1) := by decide +kernel
theorem d_L_makeImage_28 : decode prog_1_method_37_code 28 = .ok (.invokevirtual 355, 3) := by decide +kernel
theorem d_L_makeImage_31 : decode prog_1_method_37_code 31 = .ok (.iinc 1 1, 3) := by decide +kernel
theorem d_L_makeImage_34 : decode prog_1_method_37_code 34 = .ok (.goto (-21), 3) := by decide +kernel
theorem d_L_makeImage_37 : decode prog_1_method_37_code 37 = .ok (.iconst 0, 1) := by decide +kernel
theorem d_L_makeImage_38 : decode prog_1_method_37_code 38 = .ok (.istore_n 1, 1) := by decide +kernel
theorem d_L_makeImage_39 : decode prog_1_method_37_code 39 = .ok (.iload_n 1, 1) := by decide +kernel
theorem d_L_makeImage_40 : decode prog_1_method_37_code 40 = .ok (.aload_n 0, 1) := by decide +kernel
theorem d_L_makeImage_41 : decode prog_1_method_37_code 41 = .ok (.getfield 72, 3) := by decide +kernel
theorem d_L_makeImage_44 : decode prog_1_method_37_code 44 = .ok (.if_icmp .ge 59, 3) := by decide +kernel
theorem d_L_makeImage_47 : decode prog_1_method_37_code 47 = .ok (.aload_n 0, 1) := by decide +kernel
theorem d_L_makeImage_48 : decode prog_1_method_37_code 48 = .ok (.getfield 29, 3) := by decide +kernel
theorem d_L_makeImage_51 : decode prog_1_method_37_code 51 = .ok (.iload_n 1, 1) := by decide +kernel
theorem d_L_makeImage_52 : decode prog_1_method_37_code 52 = .ok (.aaload, 1) := by decide +kernel
theorem d_L_makeImage_53 : decode prog_1_method_37_code 53 = .ok (.astore_n 2, 1) := by decide +kernel
theorem d_L_makeImage_54 : decode prog_1_method_37_code 54 = .ok (.aload_n 2, 1) := by decide +kernel
theorem d_L_makeImage_55 : decode prog_1_method_37_code 55 = .ok (.getfield 318, 3) := by decide +kernel
theorem d_L_makeImage_58 : decode prog_1_method_37_code 58 = .ok (.getfield 237, 3) := by decide +kernel
theorem d_L_makeImage_61 : decode prog_1_method_37_code 61 = .ok (.ifCond .eq 36, 3) := by decide +kernel
theorem d_L_makeImage_64 : decode prog_1_method_37_code 64 = .ok (.aload_n 0, 1) := by decide +kernel
theorem d_L_makeImage_65 : decode prog_1_method_37_code 65 = .ok (.getfield 54, 3) := by decide +kernel
theorem d_L_makeImage_68 : decode prog_1_method_37_code 68 = .ok (.getfield 243, 3) := by decide +kernel
theorem d_L_makeImage_71 : decode prog_1_method_37_code 71 = .ok (.aload_n 2, 1) := by decide +kernel
theorem d_L_makeImage_72 : decode prog_1_method_37_code 72 = .ok (.getfield 318, 3) := by decide +kernel
theorem d_L_makeImage_75 : decode prog_1_method_37_code 75 = .ok (.getfield 335, 3) := by decide +kernel
theorem d_L_makeImage_78 : decode prog_1_method_37_code 78 = .ok (.ldc 81, 2) := by decide +kernel
theorem d_L_makeImage_80 : decode prog_1_method_37_code 80 = .ok (.isub, 1) := by decide +kernel
theorem d_L_makeImage_81 : decode prog_1_method_37_code 81 = .ok (.aload_n 2, 1) := by decide +kernel
theorem d_L_makeImage_82 : decode prog_1_method_37_code 82 = .ok (.getfield 359, 3) := by decide +kernel
theorem d_L_makeImage_85 : decode prog_1_method_37_code 85 = .ok (.iadd, 1) := by decide +kernel
theorem d_L_makeImage_86 : decode prog_1_method_37_code 86 = .ok (.aload_n 2, 1) := by decide +kernel
theorem d_L_makeImage_87 : decode prog_1_method_37_code 87 = .ok (.invokevirtual 362, 3) := by decide +kernel
theorem d_L_makeImage_90 : decode prog_1_method_37_code 90 = .ok (.aload_n 2, 1) := by decide +kernel
theorem d_L_makeImage_91 : decode prog_1_method_37_code 91 = .ok (.getfield 366, 3) := by decide +kernel
theorem d_L_makeImage_94 : decode prog_1_method_37_code 94 = .ok (.invokestatic 118, 3) := by decide +kernel
theorem d_L_makeImage_97 : decode prog_1_method_37_code 97 = .ok (.iinc 1 1, 3) := by decide +kernel
theorem d_L_makeImage_100 : decode prog_1_method_37_code 100 = .ok (.goto (-61), 3) := by decide +kernel
theorem d_L_makeImage_103 : decode prog_1_method_37_code 103 = .ok (.iconst 0, 1) := by decide +kernel
theorem d_L_makeImage_104 : decode prog_1_method_37_code 104 = .ok (.istore_n 1, 1) := by decide +kernel
theorem d_L_makeImage_105 : decode prog_1_method_37_code 105 = .ok (.iload_n 1, 1) := by decide +kernel
theorem d_L_makeImage_106 : decode prog_1_method_37_code 106 = .ok (.aload_n 0, 1) := by decide +kernel
theorem d_L_makeImage_107 : decode prog_1_method_37_code 107 = .ok (.getfield 66, 3) := by decide +kernel
theorem d_L_makeImage_110 : decode prog_1_method_37_code 110 = .ok (.if_icmp .ge 54, 3) := by decide +kernel
theorem d_L_makeImage_113 : decode prog_1_method_37_code 113 = .ok (.aload_n 0, 1) := by decide +kernel
theorem d_L_makeImage_114 : decode prog_1_method_37_code 114 = .ok (.getfield 17, 3) := by decide +kernel
theorem d_L_makeImage_117 : decode prog_1_method_37_code 117 = .ok (.iload_n 1, 1) := by decide +kernel
theorem d_L_makeImage_118 : decode prog_1_method_37_code 118 = .ok (.aaload, 1) := by decide +kernel
theorem d_L_makeImage_119 : decode prog_1_method_37_code 119 = .ok (.astore_n 2, 1) := by decide +kernel
theorem d_L_makeImage_120 : decode prog_1_method_37_code 120 = .ok (.aload_n 2, 1) := by decide +kernel
theorem d_L_makeImage_121 : decode prog_1_method_37_code 121 = .ok (.invokevirtual 367, 3) := by decide +kernel
theorem d_L_makeImage_124 : decode prog_1_method_37_code 124 = .ok (.astore_n 3, 1) := by decide +kernel
theorem d_L_makeImage_125 : decode prog_1_method_37_code 125 = .ok (.aload_n 3, 1) := by decide +kernel
theorem d_L_makeImage_126 : decode prog_1_method_37_code 126 = .ok (.ifnull 32, 3) := by decide +kernel
theorem d_L_makeImage_129 : decode prog_1_method_37_code 129 = .ok (.aload_n 3, 1) := by decide +kernel
theorem d_L_makeImage_130 : decode prog_1_method_37_code 130 = .ok (.getfield 207, 3) := by decide +kernel
theorem d_L_makeImage_133 : decode prog_1_method_37_code 133 = .ok (.ifnull 25, 3) := by decide +kernel
theorem d_L_makeImage_136 : decode prog_1_method_37_code 136 = .ok (.aload_n 3, 1) := by decide +kernel
theorem d_L_makeImage_137 : decode prog_1_method_37_code 137 = .ok (.getfield 207, 3) := by decide +kernel
theorem d_L_makeImage_140 : decode prog_1_method_37_code 140 = .ok (.getfield 237, 3) := by decide +kernel
theorem d_L_makeImage_143 : decode prog_1_method_37_code 143 = .ok (.ifCond .eq 15, 3) := by decide +kernel
theorem d_L_makeImage_146 : decode prog_1_method_37_code 146 = .ok (.aload_n 0, 1) := by decide +kernel
theorem d_L_makeImage_147 : decode prog_1_method_37_code 147 = .ok (.getfield 54, 3) := by decide +kernel
theorem d_L_makeImage_150 : decode prog_1_method_37_code 150 = .ok (.aload_n 2, 1) := by decide +kernel
theorem d_L_makeImage_151 : decode prog_1_method_37_code 151 = .ok (.aload_n 3, 1) := by decide +kernel
theorem d_L_makeImage_152 : decode prog_1_method_37_code 152 = .ok (.invokevirtual 332, 3) := by decide +kernel
theorem d_L_makeImage_155 : decode prog_1_method_37_code 155 = .ok (.invokevirtual 370, 3) := by decide +kernel
theorem d_L_makeImage_158 : decode prog_1_method_37_code 158 = .ok (.iinc 1 1, 3) := by decide +kernel
theorem d_L_makeImage_161 : decode prog_1_method_37_code 161 = .ok (.goto (-56), 3) := by decide +kernel
theorem d_L_makeImage_164 : decode prog_1_method_37_code 164 = .ok (.iconst 0, 1) := by decide +kernel
theorem d_L_makeImage_165 : decode prog_1_method_37_code 165 = .ok (.istore_n 1, 1) := by decide +kernel
theorem d_L_makeImage_166 : decode prog_1_method_37_code 166 = .ok (.iload_n 1, 1) := by decide +kernel
theorem d_L_makeImage_167 : decode prog_1_method_37_code 167 = .ok (.aload_n 0, 1) := by decide +kernel
theorem d_L_makeImage_168 : decode prog_1_method_37_code 168 = .ok (.getfield 75, 3) := by decide +kernel
theorem d_L_makeImage_171 : decode prog_1_method_37_code 171 = .ok (.if_icmp .ge 34, 3) := by decide +kernel
theorem d_L_makeImage_174 : decode prog_1_method_37_code 174 = .ok (.aload_n 0, 1) := by decide +kernel
theorem d_L_makeImage_175 : decode prog_1_method_37_code 175 = .ok (.getfield 35, 3) := by decide +kernel
theorem d_L_makeImage_178 : decode prog_1_method_37_code 178 = .ok (.iload_n 1, 1) := by decide +kernel
theorem d_L_makeImage_179 : decode prog_1_method_37_code 179 = .ok (.aaload, 1) := by decide +kernel
theorem d_L_makeImage_180 : decode prog_1_method_37_code 180 = .ok (.astore_n 2, 1) := by decide +kernel
theorem d_L_makeImage_181 : decode prog_1_method_37_code 181 = .ok (.aload_n 2, 1) := by decide +kernel
theorem d_L_makeImage_182 : decode prog_1_method_37_code 182 = .ok (.getfield 373, 3) := by decide +kernel
theorem d_L_makeImage_185 : decode prog_1_method_37_code 185 = .ok (.getfield 237, 3) := by decide +kernel
theorem d_L_makeImage_188 : decode prog_1_method_37_code 188 = .ok (.ifCond .eq 11, 3) := by decide +kernel
theorem d_L_makeImage_191 : decode prog_1_method_37_code 191 = .ok (.aload_n 0, 1) := by decide +kernel
theorem d_L_makeImage_192 : decode prog_1_method_37_code 192 = .ok (.getfield 54, 3) := by decide +kernel
theorem d_L_makeImage_195 : decode prog_1_method_37_code 195 = .ok (.aload_n 2, 1) := by decide +kernel
theorem d_L_makeImage_196 : decode prog_1_method_37_code 196 = .ok (.invokevirtual 376, 3) := by decide +kernel
theorem d_L_makeImage_199 : decode prog_1_method_37_code 199 = .ok (.iinc 1 1, 3) := by decide +kernel
theorem d_L_makeImage_202 : decode prog_1_method_37_code 202 = .ok (.goto (-36), 3) := by decide +kernel
theorem d_L_makeImage_205 : decode prog_1_method_37_code 205 = .ok (.return_, 1) := by decide +kernel
theorem d_Image_begin_0 : decode prog_3_method_2_code 0 = .ok (.aload_n 1, 1) := by decide +kernel
theorem d_Image_begin_1 : decode prog_3_method_2_code 1 = .ok (.iconst 0, 1) := by decide +kernel
theorem d_Image_begin_2 : decode prog_3_method_2_code 2 = .ok (.aload_n 0, 1) := by decide +kernel
theorem d_Image_begin_3 : decode prog_3_method_2_code 3 = .ok (.getfield 9, 3) := by decide +kernel
theorem d_Image_begin_6 : decode prog_3_method_2_code 6 = .ok (.iconst 0, 1) := by decide +kernel
theorem d_Image_begin_7 : decode prog_3_method_2_code 7 = .ok (.bipush 7, 2) := by decide +kernel
theorem d_Image_begin_9 : decode prog_3_method_2_code 9 = .ok (.invokestatic 43, 3) := by decide +kernel
theorem d_Image_begin_12 : decode prog_3_method_2_code 12 = .ok (.aload_n 0, 1) := by decide +kernel
theorem d_Image_begin_13 : decode prog_3_method_2_code 13 = .ok (.getfield 16, 3) := by decide +kernel
theorem d_Image_begin_16 : decode prog_3_method_2_code 16 = .ok (.iconst 0, 1) := by decide +kernel
theorem d_Image_begin_17 : decode prog_3_method_2_code 17 = .ok (.aload_n 0, 1) := by decide +kernel
theorem d_Image_begin_18 : decode prog_3_method_2_code 18 = .ok (.getfield 9, 3) := by decide +kernel
theorem d_Image_begin_21 : decode prog_3_method_2_code 21 = .ok (.bipush 6, 2) := by decide +kernel
theorem d_Image_begin_23 : decode prog_3_method_2_code 23 = .ok (.iaload, 1) := by decide +kernel
theorem d_Image_begin_24 : decode prog_3_method_2_code 24 = .ok (.iconst 0, 1) := by decide +kernel
theorem d_Image_begin_25 : decode prog_3_method_2_code 25 = .ok (.invokestatic 49, 3) := by decide +kernel
theorem d_Image_begin_28 : decode prog_3_method_2_code 28 = .ok (.aload_n 0, 1) := by decide +kernel
theorem d_Image_begin_29 : decode prog_3_method_2_code 29 = .ok (.iconst 0, 1) := by decide +kernel
theorem d_Image_begin_30 : decode prog_3_method_2_code 30 = .ok (.putfield 36, 3) := by decide +kernel
theorem d_Image_begin_33 : decode prog_3_method_2_code 33 = .ok (.aload_n 0, 1) := by decide +kernel
theorem d_Image_begin_34 : decode prog_3_method_2_code 34 = .ok (.iconst 0, 1) := by decide +kernel
theorem d_Image_begin_35 : decode prog_3_method_2_code 35 = .ok (.putfield 40, 3) := by decide +kernel
theorem d_Image_begin_38 : decode prog_3_method_2_code 38 = .ok (.return_, 1) := by decide +kernel
theorem d_L_copySections_0 : decode prog_1_method_38_code 0 = .ok (.iconst 0, 1) := by decide +kernel
theorem d_L_copySections_1 : decode prog_1_method_38_code 1 = .ok (.istore_n 2, 1) := by decide +kernel
theorem d_L_copySections_2 : decode prog_1_method_38_code 2 = .ok (.iload_n 2, 1) := by decide +kernel
theorem d_L_copySections_3 : decode prog_1_method_38_code 3 = .ok (.iconst 3, 1) := by decide +kernel
theorem d_L_copySections_4 : decode prog_1_method_38_code 4 = .ok (.if_icmp .ge 55, 3) := by decide +kernel
theorem d_L_copySections_7 : decode prog_1_method_38_code 7 = .ok (.aload_n 1, 1) := by decide +kernel
theorem d_L_copySections_8 : decode prog_1_method_38_code 8 = .ok (.iload_n 2, 1) := by decide +kernel
theorem d_L_copySections_9 : decode prog_1_method_38_code 9 = .ok (.invokevirtual 167, 3) := by decide +kernel
theorem d_L_copySections_12 : decode prog_1_method_38_code 12 = .ok (.astore_n 3, 1) := by decide +kernel
theorem d_L_copySections_13 : decode prog_1_method_38_code 13 = .ok (.aload_n 3, 1) := by decide +kernel
theorem d_L_copySections_14 : decode prog_1_method_38_code 14 = .ok (.ifnull 39, 3) := by decide +kernel
theorem d_L_copySections_17 : decode prog_1_method_38_code 17 = .ok (.aload_n 3, 1) := by decide +kernel
theorem d_L_copySections_18 : decode prog_1_method_38_code 18 = .ok (.getfield 237, 3) := by decide +kernel
theorem d_L_copySections_21 : decode prog_1_method_38_code 21 = .ok (.ifCond .eq 32, 3) := by decide +kernel
theorem d_L_copySections_24 : decode prog_1_method_38_code 24 = .ok (.aload_n 0, 1) := by decide +kernel
theorem d_L_copySections_25 : decode prog_1_method_38_code 25 = .ok (.getfield 40, 3) := by decide +kernel
theorem d_L_copySections_28 : decode prog_1_method_38_code 28 = .ok (.aload_n 3, 1) := by decide +kernel
theorem d_L_copySections_29 : decode prog_1_method_38_code 29 = .ok (.getfield 115, 3) := by decide +kernel
theorem d_L_copySections_32 : decode prog_1_method_38_code 32 = .ok (.aload_n 0, 1) := by decide +kernel
theorem d_L_copySections_33 : decode prog_1_method_38_code 33 = .ok (.getfield 54, 3) := by decide +kernel
theorem d_L_copySections_36 : decode prog_1_method_38_code 36 = .ok (.getfield 243, 3) := by decide +kernel
theorem d_L_copySections_39 : decode prog_1_method_38_code 39 = .ok (.aload_n 3, 1) := by decide +kernel
theorem d_L_copySections_40 : decode prog_1_method_38_code 40 = .ok (.getfield 335, 3) := by decide +kernel
theorem d_L_copySections_43 : decode prog_1_method_38_code 43 = .ok (.ldc 81, 2) := by decide +kernel
theorem d_L_copySections_45 : decode prog_1_method_38_code 45 = .ok (.isub, 1) := by decide +kernel
theorem d_L_copySections_46 : decode prog_1_method_38_code 46 = .ok (.aload_n 3, 1) := by decide +kernel
theorem d_L_copySections_47 : decode prog_1_method_38_code 47 = .ok (.getfield 338, 3) := by decide +kernel
theorem d_L_copySections_50 : decode prog_1_method_38_code 50 = .ok (.invokestatic 380, 3) := by decide +kernel
theorem d_L_copySections_53 : decode prog_1_method_38_code 53 = .ok (.iinc 2 1, 3) := by decide +kernel
theorem d_L_copySections_56 : decode prog_1_method_38_code 56 = .ok (.goto (-54), 3) := by decide +kernel
theorem d_L_copySections_59 : decode prog_1_method_38_code 59 = .ok (.return_, 1) := by decide +kernel
theorem d_Image_addName_0 : decode prog_3_method_3_code 0 = .ok (.aload_n 0, 1) := by decide +kernel
theorem d_Image_addName_1 : decode prog_3_method_3_code 1 = .ok (.getfield 36, 3) := by decide +kernel
theorem d_Image_addName_4 : decode prog_3_method_3_code 4 = .ok (.sipush 2048, 3) := by decide +kernel
theorem d_Image_addName_7 : decode prog_3_method_3_code 7 = .ok (.if_icmp .lt 4, 3) := by decide +kernel
theorem d_Image_addName_10 : decode prog_3_method_3_code 10 = .ok (.return_, 1) := by decide +kernel
theorem d_Image_addName_11 : decode prog_3_method_3_code 11 = .ok (.aload_n 0, 1) := by decide +kernel
theorem d_Image_addName_12 : decode prog_3_method_3_code 12 = .ok (.getfield 20, 3) := by decide +kernel
theorem d_Image_addName_15 : decode prog_3_method_3_code 15 = .ok (.aload_n 0, 1) := by decide +kernel
theorem d_Image_addName_16 : decode prog_3_method_3_code 16 = .ok (.getfield 36, 3) := by decide +kernel
theorem d_Image_addName_19 : decode prog_3_method_3_code 19 = .ok (.aload_n 1, 1) := by decide +kernel
theorem d_Image_addName_20 : decode prog_3_method_3_code 20 = .ok (.getfield 55, 3) := by decide +kernel
theorem d_Image_addName_23 : decode prog_3_method_3_code 23 = .ok (.lastore, 1) := by decide +kernel
theorem d_Image_addName_24 : decode prog_3_method_3_code 24 = .ok (.aload_n 0, 1) := by decide +kernel
theorem d_Image_addName_25 : decode prog_3_method_3_code 25 = .ok (.getfield 24, 3) := by decide +kernel
theorem d_Image_addName_28 : decode prog_3_method_3_code 28 = .ok (.aload_n 0, 1) := by decide +kernel
theorem d_Image_addName_29 : decode prog_3_method_3_code 29 = .ok (.getfield 36, 3) := by decide +kernel
theorem d_Image_addName_32 : decode prog_3_method_3_code 32 = .ok (.aload_n 1, 1) := by decide +kernel
theorem d_Image_addName_33 : decode prog_3_method_3_code 33 = .ok (.getfield 61, 3) := by decide +kernel
theorem d_Image_addName_36 : decode prog_3_method_3_code 36 = .ok (.iastore, 1) := by decide +kernel
theorem d_Image_addName_37 : decode prog_3_method_3_code 37 = .ok (.aload_n 0, 1) := by decide +kernel
theorem d_Image_addName_38 : decode prog_3_method_3_code 38 = .ok (.getfield 27, 3) := by decide +kernel
theorem d_Image_addName_41 : decode prog_3_method_3_code 41 = .ok (.aload_n 0, 1) := by decide +kernel
theorem d_Image_addName_42 : decode prog_3_method_3_code 42 = .ok (.getfield 36, 3) := by decide +kernel
theorem d_Image_addName_45 : decode prog_3_method_3_code 45 = .ok (.iload_n 2, 1) := by decide +kernel
theorem d_Image_addName_46 : decode prog_3_method_3_code 46 = .ok (.iastore, 1) := by decide +kernel
theorem d_Image_addName_47 : decode prog_3_method_3_code 47 = .ok (.aload_n 0, 1) := by decide +kernel
theorem d_Image_addName_48 : decode prog_3_method_3_code 48 = .ok (.dup, 1) := by decide +kernel
theorem d_Image_addName_49 : decode prog_3_method_3_code 49 = .ok (.getfield 36, 3) := by decide +kernel
theorem d_Image_addName_52 : decode prog_3_method_3_code 52 = .ok (.iconst 1, 1) := by decide +kernel
theorem d_Image_addName_53 : decode prog_3_method_3_code 53 = .ok (.iadd, 1) := by decide +kernel
theorem d_Image_addName_54 : decode prog_3_method_3_code 54 = .ok (.putfield 36, 3) := by decide +kernel
theorem d_Image_addName_57 : decode prog_3_method_3_code 57 = .ok (.return_, 1) := by decide +kernel
theorem d_Image_addStart_0 : decode prog_3_method_5_code 0 = .ok (.aload_n 0, 1) := by decide +kernel
theorem d_Image_addStart_1 : decode prog_3_method_5_code 1 = .ok (.getfield 40, 3) := by decide +kernel
theorem d_Image_addStart_4 : decode prog_3_method_5_code 4 = .ok (.sipush 8192, 3) := by decide +kernel
theorem d_Image_addStart_7 : decode prog_3_method_5_code 7 = .ok (.if_icmp .lt 4, 3) := by decide +kernel
theorem d_Image_addStart_10 : decode prog_3_method_5_code 10 = .ok (.return_, 1) := by decide +kernel
theorem d_Image_addStart_11 : decode prog_3_method_5_code 11 = .ok (.aload_n 0, 1) := by decide +kernel
theorem d_Image_addStart_12 : decode prog_3_method_5_code 12 = .ok (.getfield 30, 3) := by decide +kernel
theorem d_Image_addStart_15 : decode prog_3_method_5_code 15 = .ok (.aload_n 0, 1) := by decide +kernel
theorem d_Image_addStart_16 : decode prog_3_method_5_code 16 = .ok (.getfield 40, 3) := by decide +kernel
theorem d_Image_addStart_19 : decode prog_3_method_5_code 19 = .ok (.aload_n 1, 1) := by decide +kernel
theorem d_Image_addStart_20 : decode prog_3_method_5_code 20 = .ok (.getfield 64, 3) := by decide +kernel
theorem d_Image_addStart_23 : decode prog_3_method_5_code 23 = .ok (.getfield 70, 3) := by decide +kernel
theorem d_Image_addStart_26 : decode prog_3_method_5_code 26 = .ok (.ldc 75, 2) := by decide +kernel
theorem d_Image_addStart_28 : decode prog_3_method_5_code 28 = .ok (.isub, 1) := by decide +kernel
theorem d_Image_addStart_29 : decode prog_3_method_5_code 29 = .ok (.aload_n 1, 1) := by decide +kernel
theorem d_Image_addStart_30 : decode prog_3_method_5_code 30 = .ok (.getfield 76, 3) := by decide +kernel
theorem d_Image_addStart_33 : decode prog_3_method_5_code 33 = .ok (.iadd, 1) := by decide +kernel
theorem d_Image_addStart_34 : decode prog_3_method_5_code 34 = .ok (.iastore, 1) := by decide +kernel
theorem d_Image_addStart_35 : decode prog_3_method_5_code 35 = .ok (.aload_n 0, 1) := by decide +kernel
theorem d_Image_addStart_36 : decode prog_3_method_5_code 36 = .ok (.getfield 33, 3) := by decide +kernel
theorem d_Image_addStart_39 : decode prog_3_method_5_code 39 = .ok (.aload_n 0, 1) := by decide +kernel
theorem d_Image_addStart_40 : decode prog_3_method_5_code 40 = .ok (.getfield 40, 3) := by decide +kernel
theorem d_Image_addStart_43 : decode prog_3_method_5_code 43 = .ok (.aload_n 1, 1) := by decide +kernel
theorem d_Image_addStart_44 : decode prog_3_method_5_code 44 = .ok (.getfield 64, 3) := by decide +kernel
theorem d_Image_addStart_47 : decode prog_3_method_5_code 47 = .ok (.getfield 79, 3) := by decide +kernel
theorem d_Image_addStart_50 : decode prog_3_method_5_code 50 = .ok (.getfield 83, 3) := by decide +kernel
theorem d_Image_addStart_53 : decode prog_3_method_5_code 53 = .ok (.bipush 16, 2) := by decide +kernel
theorem d_Image_addStart_55 : decode prog_3_method_5_code 55 = .ok (.ishl, 1) := by decide +kernel
theorem d_Image_addStart_56 : decode prog_3_method_5_code 56 = .ok (.aload_n 1, 1) := by decide +kernel
theorem d_Image_addStart_57 : decode prog_3_method_5_code 57 = .ok (.getfield 88, 3) := by decide +kernel
theorem d_Image_addStart_60 : decode prog_3_method_5_code 60 = .ok (.iadd, 1) := by decide +kernel
theorem d_Image_addStart_61 : decode prog_3_method_5_code 61 = .ok (.iastore, 1) := by decide +kernel
theorem d_Image_addStart_62 : decode prog_3_method_5_code 62 = .ok (.aload_n 0, 1) := by decide +kernel
theorem d_Image_addStart_63 : decode prog_3_method_5_code 63 = .ok (.dup, 1) := by decide +kernel
theorem d_Image_addStart_64 : decode prog_3_method_5_code 64 = .ok (.getfield 40, 3) := by decide +kernel
theorem d_Image_addStart_67 : decode prog_3_method_5_code 67 = .ok (.iconst 1, 1) := by decide +kernel
theorem d_Image_addStart_68 : decode prog_3_method_5_code 68 = .ok (.iadd, 1) := by decide +kernel
theorem d_Image_addStart_69 : decode prog_3_method_5_code 69 = .ok (.putfield 40, 3) := by decide +kernel
theorem d_Image_addStart_72 : decode prog_3_method_5_code 72 = .ok (.return_, 1) := by decide +kernel
theorem d_L_address_0 : decode prog_1_method_13_code 0 = .ok (.iload_n 3, 1) := by decide +kernel
theorem d_L_address_1 : decode prog_1_method_13_code 1 = .ok (.invokestatic 130, 3) := by decide +kernel
theorem d_L_address_4 : decode prog_1_method_13_code 4 = .ok (.ifCond .eq 19, 3) := by decide +kernel
theorem d_L_address_7 : decode prog_1_method_13_code 7 = .ok (.aload_n 0, 1) := by decide +kernel
theorem d_L_address_8 : decode prog_1_method_13_code 8 = .ok (.getfield 54, 3) := by decide +kernel
theorem d_L_address_11 : decode prog_1_method_13_code 11 = .ok (.lload_n 1, 1) := by decide +kernel
theorem d_L_address_12 : decode prog_1_method_13_code 12 = .ok (.iload_n 3, 1) := by decide +kernel
theorem d_L_address_13 : decode prog_1_method_13_code 13 = .ok (.invokestatic 147, 3) := by decide +kernel
theorem d_L_address_16 : decode prog_1_method_13_code 16 = .ok (.iload_n 3, 1) := by decide +kernel
theorem d_L_address_17 : decode prog_1_method_13_code 17 = .ok (.invokevirtual 244, 3) := by decide +kernel
theorem d_L_address_20 : decode prog_1_method_13_code 20 = .ok (.goto 4, 3) := by decide +kernel
theorem d_L_address_23 : decode prog_1_method_13_code 23 = .ok (.iconst (-1), 1) := by decide +kernel
theorem d_L_address_24 : decode prog_1_method_13_code 24 = .ok (.istore 4, 2) := by decide +kernel
theorem d_L_address_26 : decode prog_1_method_13_code 26 = .ok (.iload 4, 2) := by decide +kernel
theorem d_L_address_28 : decode prog_1_method_13_code 28 = .ok (.iconst (-1), 1) := by decide +kernel
theorem d_L_address_29 : decode prog_1_method_13_code 29 = .ok (.if_icmp .ne 13, 3) := by decide +kernel
theorem d_L_address_32 : decode prog_1_method_13_code 32 = .ok (.new 248, 3) := by decide +kernel
theorem d_L_address_35 : decode prog_1_method_13_code 35 = .ok (.dup, 1) := by decide +kernel
theorem d_L_address_36 : decode prog_1_method_13_code 36 = .ok (.ldc 250, 2) := by decide +kernel
theorem d_L_address_38 : decode prog_1_method_13_code 38 = .ok (.invokespecial 252, 3) := by decide +kernel
theorem d_L_address_41 : decode prog_1_method_13_code 41 = .ok (.athrow, 1) := by decide +kernel
theorem d_L_address_42 : decode prog_1_method_13_code 42 = .ok (.aload_n 0, 1) := by decide +kernel
theorem d_L_address_43 : decode prog_1_method_13_code 43 = .ok (.getfield 54, 3) := by decide +kernel
theorem d_L_address_46 : decode prog_1_method_13_code 46 = .ok (.getfield 253, 3) := by decide +kernel
theorem d_L_address_49 : decode prog_1_method_13_code 49 = .ok (.iload 4, 2) := by decide +kernel
theorem d_L_address_51 : decode prog_1_method_13_code 51 = .ok (.iaload, 1) := by decide +kernel
theorem d_L_address_52 : decode prog_1_method_13_code 52 = .ok (.ireturn, 1) := by decide +kernel
theorem d_Image_rowOfName_0 : decode prog_3_method_4_code 0 = .ok (.iconst 0, 1) := by decide +kernel
theorem d_Image_rowOfName_1 : decode prog_3_method_4_code 1 = .ok (.istore 4, 2) := by decide +kernel
theorem d_Image_rowOfName_3 : decode prog_3_method_4_code 3 = .ok (.iload 4, 2) := by decide +kernel
theorem d_Image_rowOfName_5 : decode prog_3_method_4_code 5 = .ok (.aload_n 0, 1) := by decide +kernel
theorem d_Image_rowOfName_6 : decode prog_3_method_4_code 6 = .ok (.getfield 36, 3) := by decide +kernel
theorem d_Image_rowOfName_9 : decode prog_3_method_4_code 9 = .ok (.if_icmp .ge 35, 3) := by decide +kernel
theorem d_Image_rowOfName_12 : decode prog_3_method_4_code 12 = .ok (.aload_n 0, 1) := by decide +kernel
theorem d_Image_rowOfName_13 : decode prog_3_method_4_code 13 = .ok (.getfield 20, 3) := by decide +kernel
theorem d_Image_rowOfName_16 : decode prog_3_method_4_code 16 = .ok (.iload 4, 2) := by decide +kernel
theorem d_Image_rowOfName_18 : decode prog_3_method_4_code 18 = .ok (.laload, 1) := by decide +kernel
theorem d_Image_rowOfName_19 : decode prog_3_method_4_code 19 = .ok (.lload_n 1, 1) := by decide +kernel
theorem d_Image_rowOfName_20 : decode prog_3_method_4_code 20 = .ok (.lcmp, 1) := by decide +kernel
theorem d_Image_rowOfName_21 : decode prog_3_method_4_code 21 = .ok (.ifCond .ne 17, 3) := by decide +kernel
theorem d_Image_rowOfName_24 : decode prog_3_method_4_code 24 = .ok (.aload_n 0, 1) := by decide +kernel
theorem d_Image_rowOfName_25 : decode prog_3_method_4_code 25 = .ok (.getfield 24, 3) := by decide +kernel
theorem d_Image_rowOfName_28 : decode prog_3_method_4_code 28 = .ok (.iload 4, 2) := by decide +kernel
theorem d_Image_rowOfName_30 : decode prog_3_method_4_code 30 = .ok (.iaload, 1) := by decide +kernel
theorem d_Image_rowOfName_31 : decode prog_3_method_4_code 31 = .ok (.iload_n 3, 1) := by decide +kernel
theorem d_Image_rowOfName_32 : decode prog_3_method_4_code 32 = .ok (.if_icmp .ne 6, 3) := by decide +kernel
theorem d_Image_rowOfName_35 : decode prog_3_method_4_code 35 = .ok (.iload 4, 2) := by decide +kernel
theorem d_Image_rowOfName_37 : decode prog_3_method_4_code 37 = .ok (.ireturn, 1) := by decide +kernel
theorem d_Image_rowOfName_38 : decode prog_3_method_4_code 38 = .ok (.iinc 4 1, 3) := by decide +kernel
theorem d_Image_rowOfName_41 : decode prog_3_method_4_code 41 = .ok (.goto (-38), 3) := by decide +kernel
theorem d_Image_rowOfName_44 : decode prog_3_method_4_code 44 = .ok (.iconst (-1), 1) := by decide +kernel
theorem d_Image_rowOfName_45 : decode prog_3_method_4_code 45 = .ok (.ireturn, 1) := by decide +kernel
