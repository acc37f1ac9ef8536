theorem d_Ho_init_0 : decode prog_1_method_1_code 0 = .ok (.aload_n 0, 1) := by decide +kernel
theorem d_Ho_init_1 : decode prog_1_method_1_code 1 = .ok (.invokespecial 1, 3) := by decide +kernel
theorem d_Ho_init_4 : decode prog_1_method_1_code 4 = .ok (.aload_n 0, 1) := by decide +kernel
theorem d_Ho_init_5 : decode prog_1_method_1_code 5 = .ok (.bipush 7, 2) := by decide +kernel
theorem d_Ho_init_7 : decode prog_1_method_1_code 7 = .ok (.anewarray 9, 3) := by decide +kernel
theorem d_Ho_init_10 : decode prog_1_method_1_code 10 = .ok (.putfield 11, 3) := by decide +kernel
theorem d_Ho_init_13 : decode prog_1_method_1_code 13 = .ok (.iconst 0, 1) := by decide +kernel
theorem d_Ho_init_14 : decode prog_1_method_1_code 14 = .ok (.istore_n 1, 1) := by decide +kernel
theorem d_Ho_init_15 : decode prog_1_method_1_code 15 = .ok (.iload_n 1, 1) := by decide +kernel
theorem d_Ho_init_16 : decode prog_1_method_1_code 16 = .ok (.bipush 7, 2) := by decide +kernel
theorem d_Ho_init_18 : decode prog_1_method_1_code 18 = .ok (.if_icmp .ge 22, 3) := by decide +kernel
theorem d_Ho_init_21 : decode prog_1_method_1_code 21 = .ok (.aload_n 0, 1) := by decide +kernel
theorem d_Ho_init_22 : decode prog_1_method_1_code 22 = .ok (.getfield 11, 3) := by decide +kernel
theorem d_Ho_init_25 : decode prog_1_method_1_code 25 = .ok (.iload_n 1, 1) := by decide +kernel
theorem d_Ho_init_26 : decode prog_1_method_1_code 26 = .ok (.new 9, 3) := by decide +kernel
theorem d_Ho_init_29 : decode prog_1_method_1_code 29 = .ok (.dup, 1) := by decide +kernel
theorem d_Ho_init_30 : decode prog_1_method_1_code 30 = .ok (.invokespecial 15, 3) := by decide +kernel
theorem d_Ho_init_33 : decode prog_1_method_1_code 33 = .ok (.aastore, 1) := by decide +kernel
theorem d_Ho_init_34 : decode prog_1_method_1_code 34 = .ok (.iinc 1 1, 3) := by decide +kernel
theorem d_Ho_init_37 : decode prog_1_method_1_code 37 = .ok (.goto (-22), 3) := by decide +kernel
theorem d_Ho_init_40 : decode prog_1_method_1_code 40 = .ok (.aload_n 0, 1) := by decide +kernel
theorem d_Ho_init_41 : decode prog_1_method_1_code 41 = .ok (.iconst 2, 1) := by decide +kernel
theorem d_Ho_init_42 : decode prog_1_method_1_code 42 = .ok (.anewarray 16, 3) := by decide +kernel
theorem d_Ho_init_45 : decode prog_1_method_1_code 45 = .ok (.putfield 18, 3) := by decide +kernel
theorem d_Ho_init_48 : decode prog_1_method_1_code 48 = .ok (.iconst 0, 1) := by decide +kernel
theorem d_Ho_init_49 : decode prog_1_method_1_code 49 = .ok (.istore_n 1, 1) := by decide +kernel
theorem d_Ho_init_50 : decode prog_1_method_1_code 50 = .ok (.iload_n 1, 1) := by decide +kernel
theorem d_Ho_init_51 : decode prog_1_method_1_code 51 = .ok (.iconst 2, 1) := by decide +kernel
theorem d_Ho_init_52 : decode prog_1_method_1_code 52 = .ok (.if_icmp .ge 23, 3) := by decide +kernel
theorem d_Ho_init_55 : decode prog_1_method_1_code 55 = .ok (.aload_n 0, 1) := by decide +kernel
theorem d_Ho_init_56 : decode prog_1_method_1_code 56 = .ok (.getfield 18, 3) := by decide +kernel
theorem d_Ho_init_59 : decode prog_1_method_1_code 59 = .ok (.iload_n 1, 1) := by decide +kernel
theorem d_Ho_init_60 : decode prog_1_method_1_code 60 = .ok (.new 16, 3) := by decide +kernel
theorem d_Ho_init_63 : decode prog_1_method_1_code 63 = .ok (.dup, 1) := by decide +kernel
theorem d_Ho_init_64 : decode prog_1_method_1_code 64 = .ok (.iload_n 1, 1) := by decide +kernel
theorem d_Ho_init_65 : decode prog_1_method_1_code 65 = .ok (.invokespecial 22, 3) := by decide +kernel
theorem d_Ho_init_68 : decode prog_1_method_1_code 68 = .ok (.aastore, 1) := by decide +kernel
theorem d_Ho_init_69 : decode prog_1_method_1_code 69 = .ok (.iinc 1 1, 3) := by decide +kernel
theorem d_Ho_init_72 : decode prog_1_method_1_code 72 = .ok (.goto (-22), 3) := by decide +kernel
theorem d_Ho_init_75 : decode prog_1_method_1_code 75 = .ok (.aload_n 0, 1) := by decide +kernel
theorem d_Ho_init_76 : decode prog_1_method_1_code 76 = .ok (.new 25, 3) := by decide +kernel
theorem d_Ho_init_79 : decode prog_1_method_1_code 79 = .ok (.dup, 1) := by decide +kernel
theorem d_Ho_init_80 : decode prog_1_method_1_code 80 = .ok (.invokespecial 27, 3) := by decide +kernel
theorem d_Ho_init_83 : decode prog_1_method_1_code 83 = .ok (.putfield 28, 3) := by decide +kernel
theorem d_Ho_init_86 : decode prog_1_method_1_code 86 = .ok (.aload_n 0, 1) := by decide +kernel
theorem d_Ho_init_87 : decode prog_1_method_1_code 87 = .ok (.new 32, 3) := by decide +kernel
theorem d_Ho_init_90 : decode prog_1_method_1_code 90 = .ok (.dup, 1) := by decide +kernel
theorem d_Ho_init_91 : decode prog_1_method_1_code 91 = .ok (.invokespecial 34, 3) := by decide +kernel
theorem d_Ho_init_94 : decode prog_1_method_1_code 94 = .ok (.putfield 35, 3) := by decide +kernel
theorem d_Ho_init_97 : decode prog_1_method_1_code 97 = .ok (.aload_n 0, 1) := by decide +kernel
theorem d_Ho_init_98 : decode prog_1_method_1_code 98 = .ok (.new 39, 3) := by decide +kernel
theorem d_Ho_init_101 : decode prog_1_method_1_code 101 = .ok (.dup, 1) := by decide +kernel
theorem d_Ho_init_102 : decode prog_1_method_1_code 102 = .ok (.invokespecial 41, 3) := by decide +kernel
theorem d_Ho_init_105 : decode prog_1_method_1_code 105 = .ok (.putfield 42, 3) := by decide +kernel
theorem d_Ho_init_108 : decode prog_1_method_1_code 108 = .ok (.aload_n 0, 1) := by decide +kernel
theorem d_Ho_init_109 : decode prog_1_method_1_code 109 = .ok (.new 39, 3) := by decide +kernel
theorem d_Ho_init_112 : decode prog_1_method_1_code 112 = .ok (.dup, 1) := by decide +kernel
theorem d_Ho_init_113 : decode prog_1_method_1_code 113 = .ok (.invokespecial 41, 3) := by decide +kernel
theorem d_Ho_init_116 : decode prog_1_method_1_code 116 = .ok (.putfield 46, 3) := by decide +kernel
theorem d_Ho_init_119 : decode prog_1_method_1_code 119 = .ok (.return_, 1) := by decide +kernel
theorem d_St_init_0 : decode prog_10_method_1_code 0 = .ok (.aload_n 0, 1) := by decide +kernel
theorem d_St_init_1 : decode prog_10_method_1_code 1 = .ok (.invokespecial 1, 3) := by decide +kernel
theorem d_St_init_4 : decode prog_10_method_1_code 4 = .ok (.aload_n 0, 1) := by decide +kernel
theorem d_St_init_5 : decode prog_10_method_1_code 5 = .ok (.iconst 1, 1) := by decide +kernel
theorem d_St_init_6 : decode prog_10_method_1_code 6 = .ok (.putfield 7, 3) := by decide +kernel
theorem d_St_init_9 : decode prog_10_method_1_code 9 = .ok (.aload_n 0, 1) := by decide +kernel
theorem d_St_init_10 : decode prog_10_method_1_code 10 = .ok (.new 13, 3) := by decide +kernel
theorem d_St_init_13 : decode prog_10_method_1_code 13 = .ok (.dup, 1) := by decide +kernel
theorem d_St_init_14 : decode prog_10_method_1_code 14 = .ok (.invokespecial 15, 3) := by decide +kernel
theorem d_St_init_17 : decode prog_10_method_1_code 17 = .ok (.putfield 16, 3) := by decide +kernel
theorem d_St_init_20 : decode prog_10_method_1_code 20 = .ok (.return_, 1) := by decide +kernel
theorem d_Sh_init_0 : decode prog_8_method_1_code 0 = .ok (.aload_n 0, 1) := by decide +kernel
theorem d_Sh_init_1 : decode prog_8_method_1_code 1 = .ok (.invokespecial 3, 3) := by decide +kernel
theorem d_Sh_init_4 : decode prog_8_method_1_code 4 = .ok (.aload_n 0, 1) := by decide +kernel
theorem d_Sh_init_5 : decode prog_8_method_1_code 5 = .ok (.bipush 8, 2) := by decide +kernel
theorem d_Sh_init_7 : decode prog_8_method_1_code 7 = .ok (.newarray .int, 2) := by decide +kernel
theorem d_Sh_init_9 : decode prog_8_method_1_code 9 = .ok (.putfield 9, 3) := by decide +kernel
theorem d_Sh_init_12 : decode prog_8_method_1_code 12 = .ok (.aload_n 0, 1) := by decide +kernel
theorem d_Sh_init_13 : decode prog_8_method_1_code 13 = .ok (.bipush 8, 2) := by decide +kernel
theorem d_Sh_init_15 : decode prog_8_method_1_code 15 = .ok (.newarray .int, 2) := by decide +kernel
theorem d_Sh_init_17 : decode prog_8_method_1_code 17 = .ok (.putfield 15, 3) := by decide +kernel
theorem d_Sh_init_20 : decode prog_8_method_1_code 20 = .ok (.aload_n 0, 1) := by decide +kernel
theorem d_Sh_init_21 : decode prog_8_method_1_code 21 = .ok (.bipush 8, 2) := by decide +kernel
theorem d_Sh_init_23 : decode prog_8_method_1_code 23 = .ok (.newarray .int, 2) := by decide +kernel
theorem d_Sh_init_25 : decode prog_8_method_1_code 25 = .ok (.putfield 18, 3) := by decide +kernel
theorem d_Sh_init_28 : decode prog_8_method_1_code 28 = .ok (.aload_n 0, 1) := by decide +kernel
theorem d_Sh_init_29 : decode prog_8_method_1_code 29 = .ok (.bipush 8, 2) := by decide +kernel
theorem d_Sh_init_31 : decode prog_8_method_1_code 31 = .ok (.newarray .long, 2) := by decide +kernel
theorem d_Sh_init_33 : decode prog_8_method_1_code 33 = .ok (.putfield 21, 3) := by decide +kernel
theorem d_Sh_init_36 : decode prog_8_method_1_code 36 = .ok (.return_, 1) := by decide +kernel
theorem d_Pr_init_0 : decode prog_5_method_1_code 0 = .ok (.aload_n 0, 1) := by decide +kernel
theorem d_Pr_init_1 : decode prog_5_method_1_code 1 = .ok (.invokespecial 3, 3) := by decide +kernel
theorem d_Pr_init_4 : decode prog_5_method_1_code 4 = .ok (.aload_n 0, 1) := by decide +kernel
theorem d_Pr_init_5 : decode prog_5_method_1_code 5 = .ok (.iconst 0, 1) := by decide +kernel
theorem d_Pr_init_6 : decode prog_5_method_1_code 6 = .ok (.putfield 9, 3) := by decide +kernel
theorem d_Pr_init_9 : decode prog_5_method_1_code 9 = .ok (.aload_n 0, 1) := by decide +kernel
theorem d_Pr_init_10 : decode prog_5_method_1_code 10 = .ok (.bipush 24, 2) := by decide +kernel
theorem d_Pr_init_12 : decode prog_5_method_1_code 12 = .ok (.newarray .byte, 2) := by decide +kernel
theorem d_Pr_init_14 : decode prog_5_method_1_code 14 = .ok (.putfield 15, 3) := by decide +kernel
theorem d_Pr_init_17 : decode prog_5_method_1_code 17 = .ok (.aload_n 0, 1) := by decide +kernel
theorem d_Pr_init_18 : decode prog_5_method_1_code 18 = .ok (.bipush 7, 2) := by decide +kernel
theorem d_Pr_init_20 : decode prog_5_method_1_code 20 = .ok (.anewarray 19, 3) := by decide +kernel
theorem d_Pr_init_23 : decode prog_5_method_1_code 23 = .ok (.putfield 21, 3) := by decide +kernel
theorem d_Pr_init_26 : decode prog_5_method_1_code 26 = .ok (.aload_n 0, 1) := by decide +kernel
theorem d_Pr_init_27 : decode prog_5_method_1_code 27 = .ok (.bipush 8, 2) := by decide +kernel
theorem d_Pr_init_29 : decode prog_5_method_1_code 29 = .ok (.anewarray 25, 3) := by decide +kernel
theorem d_Pr_init_32 : decode prog_5_method_1_code 32 = .ok (.putfield 27, 3) := by decide +kernel
theorem d_Pr_init_35 : decode prog_5_method_1_code 35 = .ok (.aload_n 0, 1) := by decide +kernel
theorem d_Pr_init_36 : decode prog_5_method_1_code 36 = .ok (.iload_n 1, 1) := by decide +kernel
theorem d_Pr_init_37 : decode prog_5_method_1_code 37 = .ok (.putfield 31, 3) := by decide +kernel
theorem d_Pr_init_40 : decode prog_5_method_1_code 40 = .ok (.iconst 0, 1) := by decide +kernel
theorem d_Pr_init_41 : decode prog_5_method_1_code 41 = .ok (.istore_n 2, 1) := by decide +kernel
theorem d_Pr_init_42 : decode prog_5_method_1_code 42 = .ok (.iload_n 2, 1) := by decide +kernel
theorem d_Pr_init_43 : decode prog_5_method_1_code 43 = .ok (.bipush 7, 2) := by decide +kernel
theorem d_Pr_init_45 : decode prog_5_method_1_code 45 = .ok (.if_icmp .ge 22, 3) := by decide +kernel
theorem d_Pr_init_48 : decode prog_5_method_1_code 48 = .ok (.aload_n 0, 1) := by decide +kernel
theorem d_Pr_init_49 : decode prog_5_method_1_code 49 = .ok (.getfield 21, 3) := by decide +kernel
theorem d_Pr_init_52 : decode prog_5_method_1_code 52 = .ok (.iload_n 2, 1) := by decide +kernel
theorem d_Pr_init_53 : decode prog_5_method_1_code 53 = .ok (.new 19, 3) := by decide +kernel
theorem d_Pr_init_56 : decode prog_5_method_1_code 56 = .ok (.dup, 1) := by decide +kernel
theorem d_Pr_init_57 : decode prog_5_method_1_code 57 = .ok (.invokespecial 34, 3) := by decide +kernel
theorem d_Pr_init_60 : decode prog_5_method_1_code 60 = .ok (.aastore, 1) := by decide +kernel
theorem d_Pr_init_61 : decode prog_5_method_1_code 61 = .ok (.iinc 2 1, 3) := by decide +kernel
theorem d_Pr_init_64 : decode prog_5_method_1_code 64 = .ok (.goto (-22), 3) := by decide +kernel
theorem d_Pr_init_67 : decode prog_5_method_1_code 67 = .ok (.iconst 0, 1) := by decide +kernel
theorem d_Pr_init_68 : decode prog_5_method_1_code 68 = .ok (.istore_n 2, 1) := by decide +kernel
theorem d_Pr_init_69 : decode prog_5_method_1_code 69 = .ok (.iload_n 2, 1) := by decide +kernel
theorem d_Pr_init_70 : decode prog_5_method_1_code 70 = .ok (.bipush 8, 2) := by decide +kernel
theorem d_Pr_init_72 : decode prog_5_method_1_code 72 = .ok (.if_icmp .ge 22, 3) := by decide +kernel
theorem d_Pr_init_75 : decode prog_5_method_1_code 75 = .ok (.aload_n 0, 1) := by decide +kernel
theorem d_Pr_init_76 : decode prog_5_method_1_code 76 = .ok (.getfield 27, 3) := by decide +kernel
theorem d_Pr_init_79 : decode prog_5_method_1_code 79 = .ok (.iload_n 2, 1) := by decide +kernel
theorem d_Pr_init_80 : decode prog_5_method_1_code 80 = .ok (.new 25, 3) := by decide +kernel
theorem d_Pr_init_83 : decode prog_5_method_1_code 83 = .ok (.dup, 1) := by decide +kernel
theorem d_Pr_init_84 : decode prog_5_method_1_code 84 = .ok (.invokespecial 35, 3) := by decide +kernel
theorem d_Pr_init_87 : decode prog_5_method_1_code 87 = .ok (.aastore, 1) := by decide +kernel
theorem d_Pr_init_88 : decode prog_5_method_1_code 88 = .ok (.iinc 2 1, 3) := by decide +kernel
theorem d_Pr_init_91 : decode prog_5_method_1_code 91 = .ok (.goto (-22), 3) := by decide +kernel
theorem d_Pr_init_94 : decode prog_5_method_1_code 94 = .ok (.return_, 1) := by decide +kernel
theorem d_Sp_init_0 : decode prog_9_method_1_code 0 = .ok (.aload_n 0, 1) := by decide +kernel
theorem d_Sp_init_1 : decode prog_9_method_1_code 1 = .ok (.invokespecial 3, 3) := by decide +kernel
theorem d_Sp_init_4 : decode prog_9_method_1_code 4 = .ok (.aload_n 0, 1) := by decide +kernel
theorem d_Sp_init_5 : decode prog_9_method_1_code 5 = .ok (.new 9, 3) := by decide +kernel
theorem d_Sp_init_8 : decode prog_9_method_1_code 8 = .ok (.dup, 1) := by decide +kernel
theorem d_Sp_init_9 : decode prog_9_method_1_code 9 = .ok (.invokespecial 11, 3) := by decide +kernel
theorem d_Sp_init_12 : decode prog_9_method_1_code 12 = .ok (.putfield 12, 3) := by decide +kernel
theorem d_Sp_init_15 : decode prog_9_method_1_code 15 = .ok (.return_, 1) := by decide +kernel
theorem d_Re_init_0 : decode prog_6_method_1_code 0 = .ok (.aload_n 0, 1) := by decide +kernel
theorem d_Re_init_1 : decode prog_6_method_1_code 1 = .ok (.invokespecial 3, 3) := by decide +kernel
theorem d_Re_init_4 : decode prog_6_method_1_code 4 = .ok (.aload_n 0, 1) := by decide +kernel
theorem d_Re_init_5 : decode prog_6_method_1_code 5 = .ok (.iconst 3, 1) := by decide +kernel
theorem d_Re_init_6 : decode prog_6_method_1_code 6 = .ok (.newarray .long, 2) := by decide +kernel
theorem d_Re_init_8 : decode prog_6_method_1_code 8 = .ok (.putfield 9, 3) := by decide +kernel
theorem d_Re_init_11 : decode prog_6_method_1_code 11 = .ok (.return_, 1) := by decide +kernel
theorem d_Ro_init_0 : decode prog_7_method_1_code 0 = .ok (.aload_n 0, 1) := by decide +kernel
theorem d_Ro_init_1 : decode prog_7_method_1_code 1 = .ok (.invokespecial 3, 3) := by decide +kernel
theorem d_Ro_init_4 : decode prog_7_method_1_code 4 = .ok (.aload_n 0, 1) := by decide +kernel
theorem d_Ro_init_5 : decode prog_7_method_1_code 5 = .ok (.bipush 61, 2) := by decide +kernel
theorem d_Ro_init_7 : decode prog_7_method_1_code 7 = .ok (.anewarray 9, 3) := by decide +kernel
theorem d_Ro_init_10 : decode prog_7_method_1_code 10 = .ok (.putfield 11, 3) := by decide +kernel
theorem d_Ro_init_13 : decode prog_7_method_1_code 13 = .ok (.iconst 0, 1) := by decide +kernel
theorem d_Ro_init_14 : decode prog_7_method_1_code 14 = .ok (.istore_n 1, 1) := by decide +kernel
theorem d_Ro_init_15 : decode prog_7_method_1_code 15 = .ok (.iload_n 1, 1) := by decide +kernel
theorem d_Ro_init_16 : decode prog_7_method_1_code 16 = .ok (.bipush 60, 2) := by decide +kernel
theorem d_Ro_init_18 : decode prog_7_method_1_code 18 = .ok (.if_icmp .gt 22, 3) := by decide +kernel
theorem d_Ro_init_21 : decode prog_7_method_1_code 21 = .ok (.aload_n 0, 1) := by decide +kernel
theorem d_Ro_init_22 : decode prog_7_method_1_code 22 = .ok (.getfield 11, 3) := by decide +kernel
theorem d_Ro_init_25 : decode prog_7_method_1_code 25 = .ok (.iload_n 1, 1) := by decide +kernel
theorem d_Ro_init_26 : decode prog_7_method_1_code 26 = .ok (.new 9, 3) := by decide +kernel
theorem d_Ro_init_29 : decode prog_7_method_1_code 29 = .ok (.dup, 1) := by decide +kernel
theorem d_Ro_init_30 : decode prog_7_method_1_code 30 = .ok (.invokespecial 17, 3) := by decide +kernel
theorem d_Ro_init_33 : decode prog_7_method_1_code 33 = .ok (.aastore, 1) := by decide +kernel
theorem d_Ro_init_34 : decode prog_7_method_1_code 34 = .ok (.iinc 1 1, 3) := by decide +kernel
theorem d_Ro_init_37 : decode prog_7_method_1_code 37 = .ok (.goto (-22), 3) := by decide +kernel
theorem d_Ro_init_40 : decode prog_7_method_1_code 40 = .ok (.return_, 1) := by decide +kernel
theorem d_Le_init_0 : decode prog_4_method_1_code 0 = .ok (.aload_n 0, 1) := by decide +kernel
theorem d_Le_init_1 : decode prog_4_method_1_code 1 = .ok (.invokespecial 3, 3) := by decide +kernel
theorem d_Le_init_4 : decode prog_4_method_1_code 4 = .ok (.aload_n 0, 1) := by decide +kernel
theorem d_Le_init_5 : decode prog_4_method_1_code 5 = .ok (.new 9, 3) := by decide +kernel
theorem d_Le_init_8 : decode prog_4_method_1_code 8 = .ok (.dup, 1) := by decide +kernel
theorem d_Le_init_9 : decode prog_4_method_1_code 9 = .ok (.invokespecial 11, 3) := by decide +kernel
theorem d_Le_init_12 : decode prog_4_method_1_code 12 = .ok (.putfield 12, 3) := by decide +kernel
theorem d_Le_init_15 : decode prog_4_method_1_code 15 = .ok (.return_, 1) := by decide +kernel
theorem d_Ga_init_0 : decode prog_3_method_1_code 0 = .ok (.aload_n 0, 1) := by decide +kernel
theorem d_Ga_init_1 : decode prog_3_method_1_code 1 = .ok (.invokespecial 3, 3) := by decide +kernel
theorem d_Ga_init_4 : decode prog_3_method_1_code 4 = .ok (.aload_n 0, 1) := by decide +kernel
theorem d_Ga_init_5 : decode prog_3_method_1_code 5 = .ok (.iconst 3, 1) := by decide +kernel
theorem d_Ga_init_6 : decode prog_3_method_1_code 6 = .ok (.newarray .int, 2) := by decide +kernel
theorem d_Ga_init_8 : decode prog_3_method_1_code 8 = .ok (.putfield 9, 3) := by decide +kernel
theorem d_Ga_init_11 : decode prog_3_method_1_code 11 = .ok (.aload_n 0, 1) := by decide +kernel
theorem d_Ga_init_12 : decode prog_3_method_1_code 12 = .ok (.iconst 3, 1) := by decide +kernel
theorem d_Ga_init_13 : decode prog_3_method_1_code 13 = .ok (.newarray .long, 2) := by decide +kernel
theorem d_Ga_init_15 : decode prog_3_method_1_code 15 = .ok (.putfield 15, 3) := by decide +kernel
theorem d_Ga_init_18 : decode prog_3_method_1_code 18 = .ok (.return_, 1) := by decide +kernel
theorem d_Ho_byteIn_0 : decode prog_1_method_2_code 0 = .ok (.iload_n 1, 1) := by decide +kernel
theorem d_Ho_byteIn_1 : decode prog_1_method_2_code 1 = .ok (.invokestatic 49, 3) := by decide +kernel
theorem d_Ho_byteIn_4 : decode prog_1_method_2_code 4 = .ok (.ifCond .eq 13, 3) := by decide +kernel
theorem d_Ho_byteIn_7 : decode prog_1_method_2_code 7 = .ok (.iload_n 3, 1) := by decide +kernel
theorem d_Ho_byteIn_8 : decode prog_1_method_2_code 8 = .ok (.iconst 1, 1) := by decide +kernel
theorem d_Ho_byteIn_9 : decode prog_1_method_2_code 9 = .ok (.if_icmp .lt 8, 3) := by decide +kernel
theorem d_Ho_byteIn_12 : decode prog_1_method_2_code 12 = .ok (.iload_n 3, 1) := by decide +kernel
theorem d_Ho_byteIn_13 : decode prog_1_method_2_code 13 = .ok (.iconst 4, 1) := by decide +kernel
theorem d_Ho_byteIn_14 : decode prog_1_method_2_code 14 = .ok (.if_icmp .le 5, 3) := by decide +kernel
theorem d_Ho_byteIn_17 : decode prog_1_method_2_code 17 = .ok (.iconst 0, 1) := by decide +kernel
theorem d_Ho_byteIn_18 : decode prog_1_method_2_code 18 = .ok (.ireturn, 1) := by decide +kernel
theorem d_Ho_byteIn_19 : decode prog_1_method_2_code 19 = .ok (.aload_n 0, 1) := by decide +kernel
theorem d_Ho_byteIn_20 : decode prog_1_method_2_code 20 = .ok (.getfield 18, 3) := by decide +kernel
theorem d_Ho_byteIn_23 : decode prog_1_method_2_code 23 = .ok (.iload_n 1, 1) := by decide +kernel
theorem d_Ho_byteIn_24 : decode prog_1_method_2_code 24 = .ok (.aaload, 1) := by decide +kernel
theorem d_Ho_byteIn_25 : decode prog_1_method_2_code 25 = .ok (.iload_n 2, 1) := by decide +kernel
theorem d_Ho_byteIn_26 : decode prog_1_method_2_code 26 = .ok (.iload_n 3, 1) := by decide +kernel
theorem d_Ho_byteIn_27 : decode prog_1_method_2_code 27 = .ok (.invokevirtual 53, 3) := by decide +kernel
theorem d_Ho_byteIn_30 : decode prog_1_method_2_code 30 = .ok (.ireturn, 1) := by decide +kernel
theorem d_Ho_isProposer_0 : decode prog_1_method_20_code 0 = .ok (.iload_n 0, 1) := by decide +kernel
theorem d_Ho_isProposer_1 : decode prog_1_method_20_code 1 = .ok (.ifCond .lt 12, 3) := by decide +kernel
theorem d_Ho_isProposer_4 : decode prog_1_method_20_code 4 = .ok (.iload_n 0, 1) := by decide +kernel
theorem d_Ho_isProposer_5 : decode prog_1_method_20_code 5 = .ok (.iconst 2, 1) := by decide +kernel
theorem d_Ho_isProposer_6 : decode prog_1_method_20_code 6 = .ok (.if_icmp .ge 7, 3) := by decide +kernel
theorem d_Ho_isProposer_9 : decode prog_1_method_20_code 9 = .ok (.iconst 1, 1) := by decide +kernel
theorem d_Ho_isProposer_10 : decode prog_1_method_20_code 10 = .ok (.goto 4, 3) := by decide +kernel
theorem d_Ho_isProposer_13 : decode prog_1_method_20_code 13 = .ok (.iconst 0, 1) := by decide +kernel
theorem d_Ho_isProposer_14 : decode prog_1_method_20_code 14 = .ok (.ireturn, 1) := by decide +kernel
theorem d_Pr_write_0 : decode prog_5_method_2_code 0 = .ok (.aload_n 0, 1) := by decide +kernel
theorem d_Pr_write_1 : decode prog_5_method_2_code 1 = .ok (.getfield 36, 3) := by decide +kernel
theorem d_Pr_write_4 : decode prog_5_method_2_code 4 = .ok (.iload_n 2, 1) := by decide +kernel
theorem d_Pr_write_5 : decode prog_5_method_2_code 5 = .ok (.iadd, 1) := by decide +kernel
theorem d_Pr_write_6 : decode prog_5_method_2_code 6 = .ok (.bipush 24, 2) := by decide +kernel
theorem d_Pr_write_8 : decode prog_5_method_2_code 8 = .ok (.if_icmp .le 5, 3) := by decide +kernel
theorem d_Pr_write_11 : decode prog_5_method_2_code 11 = .ok (.iconst 0, 1) := by decide +kernel
theorem d_Pr_write_12 : decode prog_5_method_2_code 12 = .ok (.ireturn, 1) := by decide +kernel
theorem d_Pr_write_13 : decode prog_5_method_2_code 13 = .ok (.iload_n 2, 1) := by decide +kernel
theorem d_Pr_write_14 : decode prog_5_method_2_code 14 = .ok (.iconst 1, 1) := by decide +kernel
theorem d_Pr_write_15 : decode prog_5_method_2_code 15 = .ok (.isub, 1) := by decide +kernel
theorem d_Pr_write_16 : decode prog_5_method_2_code 16 = .ok (.istore_n 3, 1) := by decide +kernel
theorem d_Pr_write_17 : decode prog_5_method_2_code 17 = .ok (.iload_n 3, 1) := by decide +kernel
theorem d_Pr_write_18 : decode prog_5_method_2_code 18 = .ok (.ifCond .lt 35, 3) := by decide +kernel
theorem d_Pr_write_21 : decode prog_5_method_2_code 21 = .ok (.aload_n 0, 1) := by decide +kernel
theorem d_Pr_write_22 : decode prog_5_method_2_code 22 = .ok (.getfield 15, 3) := by decide +kernel
theorem d_Pr_write_25 : decode prog_5_method_2_code 25 = .ok (.aload_n 0, 1) := by decide +kernel
theorem d_Pr_write_26 : decode prog_5_method_2_code 26 = .ok (.getfield 36, 3) := by decide +kernel
theorem d_Pr_write_29 : decode prog_5_method_2_code 29 = .ok (.iload_n 1, 1) := by decide +kernel
theorem d_Pr_write_30 : decode prog_5_method_2_code 30 = .ok (.bipush 8, 2) := by decide +kernel
theorem d_Pr_write_32 : decode prog_5_method_2_code 32 = .ok (.iload_n 3, 1) := by decide +kernel
theorem d_Pr_write_33 : decode prog_5_method_2_code 33 = .ok (.imul, 1) := by decide +kernel
theorem d_Pr_write_34 : decode prog_5_method_2_code 34 = .ok (.iushr, 1) := by decide +kernel
theorem d_Pr_write_35 : decode prog_5_method_2_code 35 = .ok (.i2b, 1) := by decide +kernel
theorem d_Pr_write_36 : decode prog_5_method_2_code 36 = .ok (.bastore, 1) := by decide +kernel
theorem d_Pr_write_37 : decode prog_5_method_2_code 37 = .ok (.aload_n 0, 1) := by decide +kernel
theorem d_Pr_write_38 : decode prog_5_method_2_code 38 = .ok (.dup, 1) := by decide +kernel
theorem d_Pr_write_39 : decode prog_5_method_2_code 39 = .ok (.getfield 36, 3) := by decide +kernel
theorem d_Pr_write_42 : decode prog_5_method_2_code 42 = .ok (.iconst 1, 1) := by decide +kernel
theorem d_Pr_write_43 : decode prog_5_method_2_code 43 = .ok (.iadd, 1) := by decide +kernel
theorem d_Pr_write_44 : decode prog_5_method_2_code 44 = .ok (.putfield 36, 3) := by decide +kernel
theorem d_Pr_write_47 : decode prog_5_method_2_code 47 = .ok (.iinc 3 (-1), 3) := by decide +kernel
theorem d_Pr_write_50 : decode prog_5_method_2_code 50 = .ok (.goto (-33), 3) := by decide +kernel
theorem d_Pr_write_53 : decode prog_5_method_2_code 53 = .ok (.iconst 1, 1) := by decide +kernel
theorem d_Pr_write_54 : decode prog_5_method_2_code 54 = .ok (.ireturn, 1) := by decide +kernel
theorem d_Ho_letters_0 : decode prog_1_method_9_code 0 = .ok (.aload_n 0, 1) := by decide +kernel
theorem d_Ho_letters_1 : decode prog_1_method_9_code 1 = .ok (.getfield 28, 3) := by decide +kernel
theorem d_Ho_letters_4 : decode prog_1_method_9_code 4 = .ok (.getfield 91, 3) := by decide +kernel
theorem d_Ho_letters_7 : decode prog_1_method_9_code 7 = .ok (.ireturn, 1) := by decide +kernel
theorem d_Ho_campaign_0 : decode prog_1_method_3_code 0 = .ok (.iload_n 1, 1) := by decide +kernel
theorem d_Ho_campaign_1 : decode prog_1_method_3_code 1 = .ok (.invokestatic 57, 3) := by decide +kernel
theorem d_Ho_campaign_4 : decode prog_1_method_3_code 4 = .ok (.aload_n 0, 1) := by decide +kernel
theorem d_Ho_campaign_5 : decode prog_1_method_3_code 5 = .ok (.getfield 18, 3) := by decide +kernel
theorem d_Ho_campaign_8 : decode prog_1_method_3_code 8 = .ok (.iload_n 1, 1) := by decide +kernel
theorem d_Ho_campaign_9 : decode prog_1_method_3_code 9 = .ok (.aaload, 1) := by decide +kernel
theorem d_Ho_campaign_10 : decode prog_1_method_3_code 10 = .ok (.astore_n 2, 1) := by decide +kernel
theorem d_Ho_campaign_11 : decode prog_1_method_3_code 11 = .ok (.aload_n 2, 1) := by decide +kernel
theorem d_Ho_campaign_12 : decode prog_1_method_3_code 12 = .ok (.aload_n 0, 1) := by decide +kernel
theorem d_Ho_campaign_13 : decode prog_1_method_3_code 13 = .ok (.invokevirtual 60, 3) := by decide +kernel
theorem d_Ho_campaign_16 : decode prog_1_method_3_code 16 = .ok (.invokevirtual 64, 3) := by decide +kernel
theorem d_Ho_campaign_19 : decode prog_1_method_3_code 19 = .ok (.aload_n 0, 1) := by decide +kernel
theorem d_Ho_campaign_20 : decode prog_1_method_3_code 20 = .ok (.aload_n 2, 1) := by decide +kernel
theorem d_Ho_campaign_21 : decode prog_1_method_3_code 21 = .ok (.invokevirtual 67, 3) := by decide +kernel
theorem d_Ho_campaign_24 : decode prog_1_method_3_code 24 = .ok (.aload_n 2, 1) := by decide +kernel
theorem d_Ho_campaign_25 : decode prog_1_method_3_code 25 = .ok (.getfield 71, 3) := by decide +kernel
theorem d_Ho_campaign_28 : decode prog_1_method_3_code 28 = .ok (.ireturn, 1) := by decide +kernel
theorem d_Ho_checkProposer_0 : decode prog_1_method_21_code 0 = .ok (.iload_n 0, 1) := by decide +kernel
theorem d_Ho_checkProposer_1 : decode prog_1_method_21_code 1 = .ok (.invokestatic 49, 3) := by decide +kernel
theorem d_Ho_checkProposer_4 : decode prog_1_method_21_code 4 = .ok (.ifCond .ne 11, 3) := by decide +kernel
theorem d_Ho_checkProposer_7 : decode prog_1_method_21_code 7 = .ok (.new 149, 3) := by decide +kernel
theorem d_Ho_checkProposer_10 : decode prog_1_method_21_code 10 = .ok (.dup, 1) := by decide +kernel
theorem d_Ho_checkProposer_11 : decode prog_1_method_21_code 11 = .ok (.invokespecial 151, 3) := by decide +kernel
theorem d_Ho_checkProposer_14 : decode prog_1_method_21_code 14 = .ok (.athrow, 1) := by decide +kernel
theorem d_Ho_checkProposer_15 : decode prog_1_method_21_code 15 = .ok (.return_, 1) := by decide +kernel
theorem d_Ho_highestPromised_0 : decode prog_1_method_25_code 0 = .ok (.iconst 0, 1) := by decide +kernel
theorem d_Ho_highestPromised_1 : decode prog_1_method_25_code 1 = .ok (.istore_n 1, 1) := by decide +kernel
theorem d_Ho_highestPromised_2 : decode prog_1_method_25_code 2 = .ok (.iconst 0, 1) := by decide +kernel
theorem d_Ho_highestPromised_3 : decode prog_1_method_25_code 3 = .ok (.istore_n 2, 1) := by decide +kernel
theorem d_Ho_highestPromised_4 : decode prog_1_method_25_code 4 = .ok (.iload_n 2, 1) := by decide +kernel
theorem d_Ho_highestPromised_5 : decode prog_1_method_25_code 5 = .ok (.bipush 7, 2) := by decide +kernel
theorem d_Ho_highestPromised_7 : decode prog_1_method_25_code 7 = .ok (.if_icmp .ge 23, 3) := by decide +kernel
theorem d_Ho_highestPromised_10 : decode prog_1_method_25_code 10 = .ok (.iload_n 1, 1) := by decide +kernel
theorem d_Ho_highestPromised_11 : decode prog_1_method_25_code 11 = .ok (.aload_n 0, 1) := by decide +kernel
theorem d_Ho_highestPromised_12 : decode prog_1_method_25_code 12 = .ok (.getfield 11, 3) := by decide +kernel
theorem d_Ho_highestPromised_15 : decode prog_1_method_25_code 15 = .ok (.iload_n 2, 1) := by decide +kernel
theorem d_Ho_highestPromised_16 : decode prog_1_method_25_code 16 = .ok (.aaload, 1) := by decide +kernel
theorem d_Ho_highestPromised_17 : decode prog_1_method_25_code 17 = .ok (.getfield 222, 3) := by decide +kernel
theorem d_Ho_highestPromised_20 : decode prog_1_method_25_code 20 = .ok (.invokestatic 242, 3) := by decide +kernel
theorem d_Ho_highestPromised_23 : decode prog_1_method_25_code 23 = .ok (.istore_n 1, 1) := by decide +kernel
theorem d_Ho_highestPromised_24 : decode prog_1_method_25_code 24 = .ok (.iinc 2 1, 3) := by decide +kernel
theorem d_Ho_highestPromised_27 : decode prog_1_method_25_code 27 = .ok (.goto (-23), 3) := by decide +kernel
theorem d_Ho_highestPromised_30 : decode prog_1_method_25_code 30 = .ok (.iload_n 1, 1) := by decide +kernel
theorem d_Ho_highestPromised_31 : decode prog_1_method_25_code 31 = .ok (.ireturn, 1) := by decide +kernel
theorem d_Ma_max_0 : decode prog_18_method_65_code 0 = .ok (.iload_n 0, 1) := by decide +kernel
theorem d_Ma_max_1 : decode prog_18_method_65_code 1 = .ok (.iload_n 1, 1) := by decide +kernel
theorem d_Ma_max_2 : decode prog_18_method_65_code 2 = .ok (.if_icmp .lt 7, 3) := by decide +kernel
theorem d_Ma_max_5 : decode prog_18_method_65_code 5 = .ok (.iload_n 0, 1) := by decide +kernel
theorem d_Ma_max_6 : decode prog_18_method_65_code 6 = .ok (.goto 4, 3) := by decide +kernel
theorem d_Ma_max_9 : decode prog_18_method_65_code 9 = .ok (.iload_n 1, 1) := by decide +kernel
theorem d_Ma_max_10 : decode prog_18_method_65_code 10 = .ok (.ireturn, 1) := by decide +kernel
theorem d_Pr_begin_0 : decode prog_5_method_3_code 0 = .ok (.aload_n 0, 1) := by decide +kernel
theorem d_Pr_begin_1 : decode prog_5_method_3_code 1 = .ok (.getfield 39, 3) := by decide +kernel
theorem d_Pr_begin_4 : decode prog_5_method_3_code 4 = .ok (.iload_n 1, 1) := by decide +kernel
theorem d_Pr_begin_5 : decode prog_5_method_3_code 5 = .ok (.invokestatic 42, 3) := by decide +kernel
theorem d_Pr_begin_8 : decode prog_5_method_3_code 8 = .ok (.istore_n 2, 1) := by decide +kernel
theorem d_Pr_begin_9 : decode prog_5_method_3_code 9 = .ok (.iconst 1, 1) := by decide +kernel
theorem d_Pr_begin_10 : decode prog_5_method_3_code 10 = .ok (.iload_n 2, 1) := by decide +kernel
theorem d_Pr_begin_11 : decode prog_5_method_3_code 11 = .ok (.aload_n 0, 1) := by decide +kernel
theorem d_Pr_begin_12 : decode prog_5_method_3_code 12 = .ok (.getfield 31, 3) := by decide +kernel
theorem d_Pr_begin_15 : decode prog_5_method_3_code 15 = .ok (.isub, 1) := by decide +kernel
theorem d_Pr_begin_16 : decode prog_5_method_3_code 16 = .ok (.iconst 2, 1) := by decide +kernel
theorem d_Pr_begin_17 : decode prog_5_method_3_code 17 = .ok (.iadd, 1) := by decide +kernel
theorem d_Pr_begin_18 : decode prog_5_method_3_code 18 = .ok (.iconst 2, 1) := by decide +kernel
theorem d_Pr_begin_19 : decode prog_5_method_3_code 19 = .ok (.idiv, 1) := by decide +kernel
theorem d_Pr_begin_20 : decode prog_5_method_3_code 20 = .ok (.invokestatic 42, 3) := by decide +kernel
theorem d_Pr_begin_23 : decode prog_5_method_3_code 23 = .ok (.istore_n 3, 1) := by decide +kernel
theorem d_Pr_begin_24 : decode prog_5_method_3_code 24 = .ok (.aload_n 0, 1) := by decide +kernel
theorem d_Pr_begin_25 : decode prog_5_method_3_code 25 = .ok (.iconst 2, 1) := by decide +kernel
theorem d_Pr_begin_26 : decode prog_5_method_3_code 26 = .ok (.iload_n 3, 1) := by decide +kernel
theorem d_Pr_begin_27 : decode prog_5_method_3_code 27 = .ok (.imul, 1) := by decide +kernel
theorem d_Pr_begin_28 : decode prog_5_method_3_code 28 = .ok (.aload_n 0, 1) := by decide +kernel
theorem d_Pr_begin_29 : decode prog_5_method_3_code 29 = .ok (.getfield 31, 3) := by decide +kernel
theorem d_Pr_begin_32 : decode prog_5_method_3_code 32 = .ok (.iadd, 1) := by decide +kernel
theorem d_Pr_begin_33 : decode prog_5_method_3_code 33 = .ok (.putfield 39, 3) := by decide +kernel
theorem d_Pr_begin_36 : decode prog_5_method_3_code 36 = .ok (.aload_n 0, 1) := by decide +kernel
theorem d_Pr_begin_37 : decode prog_5_method_3_code 37 = .ok (.iconst 1, 1) := by decide +kernel
theorem d_Pr_begin_38 : decode prog_5_method_3_code 38 = .ok (.putfield 9, 3) := by decide +kernel
theorem d_Pr_begin_41 : decode prog_5_method_3_code 41 = .ok (.aload_n 0, 1) := by decide +kernel
theorem d_Pr_begin_42 : decode prog_5_method_3_code 42 = .ok (.iconst 0, 1) := by decide +kernel
theorem d_Pr_begin_43 : decode prog_5_method_3_code 43 = .ok (.putfield 48, 3) := by decide +kernel
theorem d_Pr_begin_46 : decode prog_5_method_3_code 46 = .ok (.iconst 0, 1) := by decide +kernel
theorem d_Pr_begin_47 : decode prog_5_method_3_code 47 = .ok (.istore 4, 2) := by decide +kernel
theorem d_Pr_begin_49 : decode prog_5_method_3_code 49 = .ok (.iload 4, 2) := by decide +kernel
theorem d_Pr_begin_51 : decode prog_5_method_3_code 51 = .ok (.bipush 8, 2) := by decide +kernel
theorem d_Pr_begin_53 : decode prog_5_method_3_code 53 = .ok (.if_icmp .ge 19, 3) := by decide +kernel
theorem d_Pr_begin_56 : decode prog_5_method_3_code 56 = .ok (.aload_n 0, 1) := by decide +kernel
theorem d_Pr_begin_57 : decode prog_5_method_3_code 57 = .ok (.getfield 27, 3) := by decide +kernel
theorem d_Pr_begin_60 : decode prog_5_method_3_code 60 = .ok (.iload 4, 2) := by decide +kernel
theorem d_Pr_begin_62 : decode prog_5_method_3_code 62 = .ok (.aaload, 1) := by decide +kernel
theorem d_Pr_begin_63 : decode prog_5_method_3_code 63 = .ok (.invokevirtual 51, 3) := by decide +kernel
theorem d_Pr_begin_66 : decode prog_5_method_3_code 66 = .ok (.iinc 4 1, 3) := by decide +kernel
theorem d_Pr_begin_69 : decode prog_5_method_3_code 69 = .ok (.goto (-20), 3) := by decide +kernel
theorem d_Pr_begin_72 : decode prog_5_method_3_code 72 = .ok (.return_, 1) := by decide +kernel
theorem d_Sp_forget_0 : decode prog_9_method_6_code 0 = .ok (.aload_n 0, 1) := by decide +kernel
theorem d_Sp_forget_1 : decode prog_9_method_6_code 1 = .ok (.iconst 0, 1) := by decide +kernel
theorem d_Sp_forget_2 : decode prog_9_method_6_code 2 = .ok (.invokevirtual 28, 3) := by decide +kernel
theorem d_Sp_forget_5 : decode prog_9_method_6_code 5 = .ok (.return_, 1) := by decide +kernel
theorem d_Sp_proposeAs_0 : decode prog_9_method_5_code 0 = .ok (.aload_n 0, 1) := by decide +kernel
theorem d_Sp_proposeAs_1 : decode prog_9_method_5_code 1 = .ok (.iload_n 1, 1) := by decide +kernel
theorem d_Sp_proposeAs_2 : decode prog_9_method_5_code 2 = .ok (.putfield 22, 3) := by decide +kernel
theorem d_Sp_proposeAs_5 : decode prog_9_method_5_code 5 = .ok (.aload_n 0, 1) := by decide +kernel
theorem d_Sp_proposeAs_6 : decode prog_9_method_5_code 6 = .ok (.iconst 0, 1) := by decide +kernel
theorem d_Sp_proposeAs_7 : decode prog_9_method_5_code 7 = .ok (.putfield 25, 3) := by decide +kernel
theorem d_Sp_proposeAs_10 : decode prog_9_method_5_code 10 = .ok (.return_, 1) := by decide +kernel
theorem d_Ho_sendPrepares_0 : decode prog_1_method_26_code 0 = .ok (.iconst 0, 1) := by decide +kernel
theorem d_Ho_sendPrepares_1 : decode prog_1_method_26_code 1 = .ok (.istore_n 2, 1) := by decide +kernel
theorem d_Ho_sendPrepares_2 : decode prog_1_method_26_code 2 = .ok (.iload_n 2, 1) := by decide +kernel
theorem d_Ho_sendPrepares_3 : decode prog_1_method_26_code 3 = .ok (.bipush 7, 2) := by decide +kernel
theorem d_Ho_sendPrepares_5 : decode prog_1_method_26_code 5 = .ok (.if_icmp .ge 35, 3) := by decide +kernel
theorem d_Ho_sendPrepares_8 : decode prog_1_method_26_code 8 = .ok (.aload_n 1, 1) := by decide +kernel
theorem d_Ho_sendPrepares_9 : decode prog_1_method_26_code 9 = .ok (.iload_n 2, 1) := by decide +kernel
theorem d_Ho_sendPrepares_10 : decode prog_1_method_26_code 10 = .ok (.invokevirtual 247, 3) := by decide +kernel
theorem d_Ho_sendPrepares_13 : decode prog_1_method_26_code 13 = .ok (.ifCond .ne 21, 3) := by decide +kernel
theorem d_Ho_sendPrepares_16 : decode prog_1_method_26_code 16 = .ok (.aload_n 0, 1) := by decide +kernel
theorem d_Ho_sendPrepares_17 : decode prog_1_method_26_code 17 = .ok (.getfield 28, 3) := by decide +kernel
theorem d_Ho_sendPrepares_20 : decode prog_1_method_26_code 20 = .ok (.iconst 0, 1) := by decide +kernel
theorem d_Ho_sendPrepares_21 : decode prog_1_method_26_code 21 = .ok (.iload_n 2, 1) := by decide +kernel
theorem d_Ho_sendPrepares_22 : decode prog_1_method_26_code 22 = .ok (.aload_n 1, 1) := by decide +kernel
theorem d_Ho_sendPrepares_23 : decode prog_1_method_26_code 23 = .ok (.getfield 250, 3) := by decide +kernel
theorem d_Ho_sendPrepares_26 : decode prog_1_method_26_code 26 = .ok (.aload_n 1, 1) := by decide +kernel
theorem d_Ho_sendPrepares_27 : decode prog_1_method_26_code 27 = .ok (.getfield 71, 3) := by decide +kernel
theorem d_Ho_sendPrepares_30 : decode prog_1_method_26_code 30 = .ok (.invokevirtual 253, 3) := by decide +kernel
theorem d_Ho_sendPrepares_33 : decode prog_1_method_26_code 33 = .ok (.pop, 1) := by decide +kernel
theorem d_Ho_sendPrepares_34 : decode prog_1_method_26_code 34 = .ok (.iinc 2 1, 3) := by decide +kernel
theorem d_Ho_sendPrepares_37 : decode prog_1_method_26_code 37 = .ok (.goto (-35), 3) := by decide +kernel
theorem d_Ho_sendPrepares_40 : decode prog_1_method_26_code 40 = .ok (.return_, 1) := by decide +kernel
theorem d_Pr_hasPromiseOf_0 : decode prog_5_method_6_code 0 = .ok (.aload_n 0, 1) := by decide +kernel
theorem d_Pr_hasPromiseOf_1 : decode prog_5_method_6_code 1 = .ok (.getfield 48, 3) := by decide +kernel
theorem d_Pr_hasPromiseOf_4 : decode prog_5_method_6_code 4 = .ok (.iload_n 1, 1) := by decide +kernel
theorem d_Pr_hasPromiseOf_5 : decode prog_5_method_6_code 5 = .ok (.iushr, 1) := by decide +kernel
theorem d_Pr_hasPromiseOf_6 : decode prog_5_method_6_code 6 = .ok (.iconst 1, 1) := by decide +kernel
theorem d_Pr_hasPromiseOf_7 : decode prog_5_method_6_code 7 = .ok (.iand, 1) := by decide +kernel
theorem d_Pr_hasPromiseOf_8 : decode prog_5_method_6_code 8 = .ok (.iconst 1, 1) := by decide +kernel
theorem d_Pr_hasPromiseOf_9 : decode prog_5_method_6_code 9 = .ok (.if_icmp .ne 7, 3) := by decide +kernel
theorem d_Pr_hasPromiseOf_12 : decode prog_5_method_6_code 12 = .ok (.iconst 1, 1) := by decide +kernel
theorem d_Pr_hasPromiseOf_13 : decode prog_5_method_6_code 13 = .ok (.goto 4, 3) := by decide +kernel
theorem d_Pr_hasPromiseOf_16 : decode prog_5_method_6_code 16 = .ok (.iconst 0, 1) := by decide +kernel
theorem d_Pr_hasPromiseOf_17 : decode prog_5_method_6_code 17 = .ok (.ireturn, 1) := by decide +kernel
theorem d_Ro_post_0 : decode prog_7_method_4_code 0 = .ok (.aload_n 0, 1) := by decide +kernel
theorem d_Ro_post_1 : decode prog_7_method_4_code 1 = .ok (.invokevirtual 22, 3) := by decide +kernel
theorem d_Ro_post_4 : decode prog_7_method_4_code 4 = .ok (.astore 5, 2) := by decide +kernel
theorem d_Ro_post_6 : decode prog_7_method_4_code 6 = .ok (.aload 5, 2) := by decide +kernel
theorem d_Ro_post_8 : decode prog_7_method_4_code 8 = .ok (.ifnull 13, 3) := by decide +kernel
theorem d_Ro_post_11 : decode prog_7_method_4_code 11 = .ok (.aload 5, 2) := by decide +kernel
theorem d_Ro_post_13 : decode prog_7_method_4_code 13 = .ok (.iload_n 1, 1) := by decide +kernel
theorem d_Ro_post_14 : decode prog_7_method_4_code 14 = .ok (.iload_n 2, 1) := by decide +kernel
theorem d_Ro_post_15 : decode prog_7_method_4_code 15 = .ok (.iload_n 3, 1) := by decide +kernel
theorem d_Ro_post_16 : decode prog_7_method_4_code 16 = .ok (.iload 4, 2) := by decide +kernel
theorem d_Ro_post_18 : decode prog_7_method_4_code 18 = .ok (.invokevirtual 26, 3) := by decide +kernel
theorem d_Ro_post_21 : decode prog_7_method_4_code 21 = .ok (.aload 5, 2) := by decide +kernel
theorem d_Ro_post_23 : decode prog_7_method_4_code 23 = .ok (.areturn, 1) := by decide +kernel
theorem d_Ro_append_0 : decode prog_7_method_3_code 0 = .ok (.aload_n 0, 1) := by decide +kernel
theorem d_Ro_append_1 : decode prog_7_method_3_code 1 = .ok (.getfield 18, 3) := by decide +kernel
theorem d_Ro_append_4 : decode prog_7_method_3_code 4 = .ok (.bipush 60, 2) := by decide +kernel
theorem d_Ro_append_6 : decode prog_7_method_3_code 6 = .ok (.if_icmp .lt 5, 3) := by decide +kernel
theorem d_Ro_append_9 : decode prog_7_method_3_code 9 = .ok (.aconst_null, 1) := by decide +kernel
theorem d_Ro_append_10 : decode prog_7_method_3_code 10 = .ok (.areturn, 1) := by decide +kernel
theorem d_Ro_append_11 : decode prog_7_method_3_code 11 = .ok (.aload_n 0, 1) := by decide +kernel
theorem d_Ro_append_12 : decode prog_7_method_3_code 12 = .ok (.getfield 11, 3) := by decide +kernel
theorem d_Ro_append_15 : decode prog_7_method_3_code 15 = .ok (.aload_n 0, 1) := by decide +kernel
theorem d_Ro_append_16 : decode prog_7_method_3_code 16 = .ok (.getfield 18, 3) := by decide +kernel
theorem d_Ro_append_19 : decode prog_7_method_3_code 19 = .ok (.aaload, 1) := by decide +kernel
theorem d_Ro_append_20 : decode prog_7_method_3_code 20 = .ok (.astore_n 1, 1) := by decide +kernel
theorem d_Ro_append_21 : decode prog_7_method_3_code 21 = .ok (.aload_n 0, 1) := by decide +kernel
theorem d_Ro_append_22 : decode prog_7_method_3_code 22 = .ok (.dup, 1) := by decide +kernel
theorem d_Ro_append_23 : decode prog_7_method_3_code 23 = .ok (.getfield 18, 3) := by decide +kernel
theorem d_Ro_append_26 : decode prog_7_method_3_code 26 = .ok (.iconst 1, 1) := by decide +kernel
theorem d_Ro_append_27 : decode prog_7_method_3_code 27 = .ok (.iadd, 1) := by decide +kernel
theorem d_Ro_append_28 : decode prog_7_method_3_code 28 = .ok (.putfield 18, 3) := by decide +kernel
theorem d_Ro_append_31 : decode prog_7_method_3_code 31 = .ok (.aload_n 1, 1) := by decide +kernel
theorem d_Ro_append_32 : decode prog_7_method_3_code 32 = .ok (.areturn, 1) := by decide +kernel
theorem d_Le_address_0 : decode prog_4_method_2_code 0 = .ok (.aload_n 0, 1) := by decide +kernel
theorem d_Le_address_1 : decode prog_4_method_2_code 1 = .ok (.iload_n 1, 1) := by decide +kernel
theorem d_Le_address_2 : decode prog_4_method_2_code 2 = .ok (.putfield 18, 3) := by decide +kernel
theorem d_Le_address_5 : decode prog_4_method_2_code 5 = .ok (.aload_n 0, 1) := by decide +kernel
theorem d_Le_address_6 : decode prog_4_method_2_code 6 = .ok (.iload_n 2, 1) := by decide +kernel
theorem d_Le_address_7 : decode prog_4_method_2_code 7 = .ok (.putfield 22, 3) := by decide +kernel
theorem d_Le_address_10 : decode prog_4_method_2_code 10 = .ok (.aload_n 0, 1) := by decide +kernel
theorem d_Le_address_11 : decode prog_4_method_2_code 11 = .ok (.iload_n 3, 1) := by decide +kernel
theorem d_Le_address_12 : decode prog_4_method_2_code 12 = .ok (.putfield 25, 3) := by decide +kernel
theorem d_Le_address_15 : decode prog_4_method_2_code 15 = .ok (.aload_n 0, 1) := by decide +kernel
theorem d_Le_address_16 : decode prog_4_method_2_code 16 = .ok (.iload 4, 2) := by decide +kernel
theorem d_Le_address_18 : decode prog_4_method_2_code 18 = .ok (.putfield 28, 3) := by decide +kernel
theorem d_Le_address_21 : decode prog_4_method_2_code 21 = .ok (.aload_n 0, 1) := by decide +kernel
theorem d_Le_address_22 : decode prog_4_method_2_code 22 = .ok (.iconst (-1), 1) := by decide +kernel
theorem d_Le_address_23 : decode prog_4_method_2_code 23 = .ok (.putfield 31, 3) := by decide +kernel
theorem d_Le_address_26 : decode prog_4_method_2_code 26 = .ok (.aload_n 0, 1) := by decide +kernel
theorem d_Le_address_27 : decode prog_4_method_2_code 27 = .ok (.iconst (-1), 1) := by decide +kernel
theorem d_Le_address_28 : decode prog_4_method_2_code 28 = .ok (.putfield 34, 3) := by decide +kernel
theorem d_Le_address_31 : decode prog_4_method_2_code 31 = .ok (.return_, 1) := by decide +kernel
theorem d_Ho_propose_0 : decode prog_1_method_4_code 0 = .ok (.iload_n 1, 1) := by decide +kernel
theorem d_Ho_propose_1 : decode prog_1_method_4_code 1 = .ok (.invokestatic 57, 3) := by decide +kernel
theorem d_Ho_propose_4 : decode prog_1_method_4_code 4 = .ok (.aload_n 0, 1) := by decide +kernel
theorem d_Ho_propose_5 : decode prog_1_method_4_code 5 = .ok (.getfield 18, 3) := by decide +kernel
theorem d_Ho_propose_8 : decode prog_1_method_4_code 8 = .ok (.iload_n 1, 1) := by decide +kernel
theorem d_Ho_propose_9 : decode prog_1_method_4_code 9 = .ok (.aaload, 1) := by decide +kernel
theorem d_Ho_propose_10 : decode prog_1_method_4_code 10 = .ok (.astore_n 2, 1) := by decide +kernel
theorem d_Ho_propose_11 : decode prog_1_method_4_code 11 = .ok (.aload_n 2, 1) := by decide +kernel
theorem d_Ho_propose_12 : decode prog_1_method_4_code 12 = .ok (.invokevirtual 75, 3) := by decide +kernel
theorem d_Ho_propose_15 : decode prog_1_method_4_code 15 = .ok (.istore_n 3, 1) := by decide +kernel
theorem d_Ho_propose_16 : decode prog_1_method_4_code 16 = .ok (.iload_n 3, 1) := by decide +kernel
theorem d_Ho_propose_17 : decode prog_1_method_4_code 17 = .ok (.iconst (-1), 1) := by decide +kernel
theorem d_Ho_propose_18 : decode prog_1_method_4_code 18 = .ok (.if_icmp .eq 10, 3) := by decide +kernel
theorem d_Ho_propose_21 : decode prog_1_method_4_code 21 = .ok (.aload_n 2, 1) := by decide +kernel
theorem d_Ho_propose_22 : decode prog_1_method_4_code 22 = .ok (.getfield 78, 3) := by decide +kernel
theorem d_Ho_propose_25 : decode prog_1_method_4_code 25 = .ok (.ifCond .ne 11, 3) := by decide +kernel
theorem d_Ho_propose_28 : decode prog_1_method_4_code 28 = .ok (.new 81, 3) := by decide +kernel
theorem d_Ho_propose_31 : decode prog_1_method_4_code 31 = .ok (.dup, 1) := by decide +kernel
theorem d_Ho_propose_32 : decode prog_1_method_4_code 32 = .ok (.invokespecial 83, 3) := by decide +kernel
theorem d_Ho_propose_35 : decode prog_1_method_4_code 35 = .ok (.athrow, 1) := by decide +kernel
theorem d_Ho_propose_36 : decode prog_1_method_4_code 36 = .ok (.aload_n 2, 1) := by decide +kernel
theorem d_Ho_propose_37 : decode prog_1_method_4_code 37 = .ok (.iload_n 3, 1) := by decide +kernel
theorem d_Ho_propose_38 : decode prog_1_method_4_code 38 = .ok (.invokevirtual 84, 3) := by decide +kernel
theorem d_Ho_propose_41 : decode prog_1_method_4_code 41 = .ok (.aload_n 0, 1) := by decide +kernel
theorem d_Ho_propose_42 : decode prog_1_method_4_code 42 = .ok (.aload_n 2, 1) := by decide +kernel
theorem d_Ho_propose_43 : decode prog_1_method_4_code 43 = .ok (.iload_n 3, 1) := by decide +kernel
theorem d_Ho_propose_44 : decode prog_1_method_4_code 44 = .ok (.invokevirtual 87, 3) := by decide +kernel
theorem d_Ho_propose_47 : decode prog_1_method_4_code 47 = .ok (.iload_n 3, 1) := by decide +kernel
theorem d_Ho_propose_48 : decode prog_1_method_4_code 48 = .ok (.ireturn, 1) := by decide +kernel
theorem d_Pr_firstFree_0 : decode prog_5_method_4_code 0 = .ok (.aload_n 0, 1) := by decide +kernel
theorem d_Pr_firstFree_1 : decode prog_5_method_4_code 1 = .ok (.getfield 9, 3) := by decide +kernel
theorem d_Pr_firstFree_4 : decode prog_5_method_4_code 4 = .ok (.iconst 2, 1) := by decide +kernel
theorem d_Pr_firstFree_5 : decode prog_5_method_4_code 5 = .ok (.if_icmp .eq 5, 3) := by decide +kernel
theorem d_Pr_firstFree_8 : decode prog_5_method_4_code 8 = .ok (.iconst (-1), 1) := by decide +kernel
theorem d_Pr_firstFree_9 : decode prog_5_method_4_code 9 = .ok (.ireturn, 1) := by decide +kernel
theorem d_Pr_firstFree_10 : decode prog_5_method_4_code 10 = .ok (.iconst 0, 1) := by decide +kernel
theorem d_Pr_firstFree_11 : decode prog_5_method_4_code 11 = .ok (.istore_n 1, 1) := by decide +kernel
theorem d_Pr_firstFree_12 : decode prog_5_method_4_code 12 = .ok (.iload_n 1, 1) := by decide +kernel
theorem d_Pr_firstFree_13 : decode prog_5_method_4_code 13 = .ok (.bipush 8, 2) := by decide +kernel
theorem d_Pr_firstFree_15 : decode prog_5_method_4_code 15 = .ok (.if_icmp .ge 23, 3) := by decide +kernel
theorem d_Pr_firstFree_18 : decode prog_5_method_4_code 18 = .ok (.aload_n 0, 1) := by decide +kernel
theorem d_Pr_firstFree_19 : decode prog_5_method_4_code 19 = .ok (.getfield 27, 3) := by decide +kernel
theorem d_Pr_firstFree_22 : decode prog_5_method_4_code 22 = .ok (.iload_n 1, 1) := by decide +kernel
theorem d_Pr_firstFree_23 : decode prog_5_method_4_code 23 = .ok (.aaload, 1) := by decide +kernel
theorem d_Pr_firstFree_24 : decode prog_5_method_4_code 24 = .ok (.invokevirtual 54, 3) := by decide +kernel
theorem d_Pr_firstFree_27 : decode prog_5_method_4_code 27 = .ok (.ifCond .eq 5, 3) := by decide +kernel
theorem d_Pr_firstFree_30 : decode prog_5_method_4_code 30 = .ok (.iload_n 1, 1) := by decide +kernel
theorem d_Pr_firstFree_31 : decode prog_5_method_4_code 31 = .ok (.ireturn, 1) := by decide +kernel
theorem d_Pr_firstFree_32 : decode prog_5_method_4_code 32 = .ok (.iinc 1 1, 3) := by decide +kernel
theorem d_Pr_firstFree_35 : decode prog_5_method_4_code 35 = .ok (.goto (-23), 3) := by decide +kernel
theorem d_Pr_firstFree_38 : decode prog_5_method_4_code 38 = .ok (.iconst (-1), 1) := by decide +kernel
theorem d_Pr_firstFree_39 : decode prog_5_method_4_code 39 = .ok (.ireturn, 1) := by decide +kernel
theorem d_Sp_isOpen_0 : decode prog_9_method_2_code 0 = .ok (.aload_n 0, 1) := by decide +kernel
theorem d_Sp_isOpen_1 : decode prog_9_method_2_code 1 = .ok (.getfield 18, 3) := by decide +kernel
theorem d_Sp_isOpen_4 : decode prog_9_method_2_code 4 = .ok (.ifCond .ne 14, 3) := by decide +kernel
theorem d_Sp_isOpen_7 : decode prog_9_method_2_code 7 = .ok (.aload_n 0, 1) := by decide +kernel
theorem d_Sp_isOpen_8 : decode prog_9_method_2_code 8 = .ok (.getfield 22, 3) := by decide +kernel
theorem d_Sp_isOpen_11 : decode prog_9_method_2_code 11 = .ok (.ifCond .ne 7, 3) := by decide +kernel
theorem d_Sp_isOpen_14 : decode prog_9_method_2_code 14 = .ok (.iconst 1, 1) := by decide +kernel
theorem d_Sp_isOpen_15 : decode prog_9_method_2_code 15 = .ok (.goto 4, 3) := by decide +kernel
theorem d_Sp_isOpen_18 : decode prog_9_method_2_code 18 = .ok (.iconst 0, 1) := by decide +kernel
theorem d_Sp_isOpen_19 : decode prog_9_method_2_code 19 = .ok (.ireturn, 1) := by decide +kernel
theorem d_Pr_proposeDraft_0 : decode prog_5_method_5_code 0 = .ok (.aload_n 0, 1) := by decide +kernel
theorem d_Pr_proposeDraft_1 : decode prog_5_method_5_code 1 = .ok (.getfield 27, 3) := by decide +kernel
theorem d_Pr_proposeDraft_4 : decode prog_5_method_5_code 4 = .ok (.iload_n 1, 1) := by decide +kernel
theorem d_Pr_proposeDraft_5 : decode prog_5_method_5_code 5 = .ok (.aaload, 1) := by decide +kernel
theorem d_Pr_proposeDraft_6 : decode prog_5_method_5_code 6 = .ok (.aload_n 0, 1) := by decide +kernel
theorem d_Pr_proposeDraft_7 : decode prog_5_method_5_code 7 = .ok (.getfield 39, 3) := by decide +kernel
theorem d_Pr_proposeDraft_10 : decode prog_5_method_5_code 10 = .ok (.invokevirtual 58, 3) := by decide +kernel
theorem d_Pr_proposeDraft_13 : decode prog_5_method_5_code 13 = .ok (.aload_n 0, 1) := by decide +kernel
theorem d_Pr_proposeDraft_14 : decode prog_5_method_5_code 14 = .ok (.getfield 27, 3) := by decide +kernel
theorem d_Pr_proposeDraft_17 : decode prog_5_method_5_code 17 = .ok (.iload_n 1, 1) := by decide +kernel
theorem d_Pr_proposeDraft_18 : decode prog_5_method_5_code 18 = .ok (.aaload, 1) := by decide +kernel
theorem d_Pr_proposeDraft_19 : decode prog_5_method_5_code 19 = .ok (.getfield 62, 3) := by decide +kernel
theorem d_Pr_proposeDraft_22 : decode prog_5_method_5_code 22 = .ok (.aload_n 0, 1) := by decide +kernel
theorem d_Pr_proposeDraft_23 : decode prog_5_method_5_code 23 = .ok (.getfield 15, 3) := by decide +kernel
theorem d_Pr_proposeDraft_26 : decode prog_5_method_5_code 26 = .ok (.aload_n 0, 1) := by decide +kernel
theorem d_Pr_proposeDraft_27 : decode prog_5_method_5_code 27 = .ok (.getfield 36, 3) := by decide +kernel
theorem d_Pr_proposeDraft_30 : decode prog_5_method_5_code 30 = .ok (.invokevirtual 66, 3) := by decide +kernel
theorem d_Pr_proposeDraft_33 : decode prog_5_method_5_code 33 = .ok (.aload_n 0, 1) := by decide +kernel
theorem d_Pr_proposeDraft_34 : decode prog_5_method_5_code 34 = .ok (.iconst 0, 1) := by decide +kernel
theorem d_Pr_proposeDraft_35 : decode prog_5_method_5_code 35 = .ok (.putfield 36, 3) := by decide +kernel
theorem d_Pr_proposeDraft_38 : decode prog_5_method_5_code 38 = .ok (.return_, 1) := by decide +kernel
theorem d_Re_cut_0 : decode prog_6_method_4_code 0 = .ok (.aload_n 0, 1) := by decide +kernel
theorem d_Re_cut_1 : decode prog_6_method_4_code 1 = .ok (.iload_n 2, 1) := by decide +kernel
theorem d_Re_cut_2 : decode prog_6_method_4_code 2 = .ok (.putfield 15, 3) := by decide +kernel
theorem d_Re_cut_5 : decode prog_6_method_4_code 5 = .ok (.aload_n 0, 1) := by decide +kernel
theorem d_Re_cut_6 : decode prog_6_method_4_code 6 = .ok (.invokevirtual 19, 3) := by decide +kernel
theorem d_Re_cut_9 : decode prog_6_method_4_code 9 = .ok (.iconst 1, 1) := by decide +kernel
theorem d_Re_cut_10 : decode prog_6_method_4_code 10 = .ok (.iload_n 2, 1) := by decide +kernel
theorem d_Re_cut_11 : decode prog_6_method_4_code 11 = .ok (.invokestatic 22, 3) := by decide +kernel
theorem d_Re_cut_14 : decode prog_6_method_4_code 14 = .ok (.invokestatic 26, 3) := by decide +kernel
theorem d_Re_cut_17 : decode prog_6_method_4_code 17 = .ok (.istore_n 3, 1) := by decide +kernel
theorem d_Re_cut_18 : decode prog_6_method_4_code 18 = .ok (.iconst 0, 1) := by decide +kernel
theorem d_Re_cut_19 : decode prog_6_method_4_code 19 = .ok (.istore 4, 2) := by decide +kernel
theorem d_Re_cut_21 : decode prog_6_method_4_code 21 = .ok (.iload 4, 2) := by decide +kernel
theorem d_Re_cut_23 : decode prog_6_method_4_code 23 = .ok (.iload_n 2, 1) := by decide +kernel
theorem d_Re_cut_24 : decode prog_6_method_4_code 24 = .ok (.if_icmp .ge 38, 3) := by decide +kernel
theorem d_Re_cut_27 : decode prog_6_method_4_code 27 = .ok (.aload_n 0, 1) := by decide +kernel
theorem d_Re_cut_28 : decode prog_6_method_4_code 28 = .ok (.getfield 9, 3) := by decide +kernel
theorem d_Re_cut_31 : decode prog_6_method_4_code 31 = .ok (.iload 4, 2) := by decide +kernel
theorem d_Re_cut_33 : decode prog_6_method_4_code 33 = .ok (.iload_n 3, 1) := by decide +kernel
theorem d_Re_cut_34 : decode prog_6_method_4_code 34 = .ok (.idiv, 1) := by decide +kernel
theorem d_Re_cut_35 : decode prog_6_method_4_code 35 = .ok (.dup2, 1) := by decide +kernel
theorem d_Re_cut_36 : decode prog_6_method_4_code 36 = .ok (.laload, 1) := by decide +kernel
theorem d_Re_cut_37 : decode prog_6_method_4_code 37 = .ok (.aload_n 1, 1) := by decide +kernel
theorem d_Re_cut_38 : decode prog_6_method_4_code 38 = .ok (.iload 4, 2) := by decide +kernel
theorem d_Re_cut_40 : decode prog_6_method_4_code 40 = .ok (.baload, 1) := by decide +kernel
theorem d_Re_cut_41 : decode prog_6_method_4_code 41 = .ok (.i2l, 1) := by decide +kernel
theorem d_Re_cut_42 : decode prog_6_method_4_code 42 = .ok (.ldc2_w 32, 3) := by decide +kernel
theorem d_Re_cut_45 : decode prog_6_method_4_code 45 = .ok (.land, 1) := by decide +kernel
theorem d_Re_cut_46 : decode prog_6_method_4_code 46 = .ok (.bipush 8, 2) := by decide +kernel
theorem d_Re_cut_48 : decode prog_6_method_4_code 48 = .ok (.iload 4, 2) := by decide +kernel
theorem d_Re_cut_50 : decode prog_6_method_4_code 50 = .ok (.iload_n 3, 1) := by decide +kernel
theorem d_Re_cut_51 : decode prog_6_method_4_code 51 = .ok (.irem, 1) := by decide +kernel
theorem d_Re_cut_52 : decode prog_6_method_4_code 52 = .ok (.imul, 1) := by decide +kernel
theorem d_Re_cut_53 : decode prog_6_method_4_code 53 = .ok (.lshl, 1) := by decide +kernel
theorem d_Re_cut_54 : decode prog_6_method_4_code 54 = .ok (.lor, 1) := by decide +kernel
theorem d_Re_cut_55 : decode prog_6_method_4_code 55 = .ok (.lastore, 1) := by decide +kernel
theorem d_Re_cut_56 : decode prog_6_method_4_code 56 = .ok (.iinc 4 1, 3) := by decide +kernel
theorem d_Re_cut_59 : decode prog_6_method_4_code 59 = .ok (.goto (-38), 3) := by decide +kernel
theorem d_Re_cut_62 : decode prog_6_method_4_code 62 = .ok (.return_, 1) := by decide +kernel
theorem d_Re_clearPieces_0 : decode prog_6_method_5_code 0 = .ok (.iconst 0, 1) := by decide +kernel
theorem d_Re_clearPieces_1 : decode prog_6_method_5_code 1 = .ok (.istore_n 1, 1) := by decide +kernel
theorem d_Re_clearPieces_2 : decode prog_6_method_5_code 2 = .ok (.iload_n 1, 1) := by decide +kernel
theorem d_Re_clearPieces_3 : decode prog_6_method_5_code 3 = .ok (.iconst 3, 1) := by decide +kernel
theorem d_Re_clearPieces_4 : decode prog_6_method_5_code 4 = .ok (.if_icmp .ge 16, 3) := by decide +kernel
theorem d_Re_clearPieces_7 : decode prog_6_method_5_code 7 = .ok (.aload_n 0, 1) := by decide +kernel
theorem d_Re_clearPieces_8 : decode prog_6_method_5_code 8 = .ok (.getfield 9, 3) := by decide +kernel
theorem d_Re_clearPieces_11 : decode prog_6_method_5_code 11 = .ok (.iload_n 1, 1) := by decide +kernel
theorem d_Re_clearPieces_12 : decode prog_6_method_5_code 12 = .ok (.lconst 0, 1) := by decide +kernel
theorem d_Re_clearPieces_13 : decode prog_6_method_5_code 13 = .ok (.lastore, 1) := by decide +kernel
theorem d_Re_clearPieces_14 : decode prog_6_method_5_code 14 = .ok (.iinc 1 1, 3) := by decide +kernel
theorem d_Re_clearPieces_17 : decode prog_6_method_5_code 17 = .ok (.goto (-15), 3) := by decide +kernel
theorem d_Re_clearPieces_20 : decode prog_6_method_5_code 20 = .ok (.return_, 1) := by decide +kernel
theorem d_Re_third_0 : decode prog_6_method_2_code 0 = .ok (.iload_n 0, 1) := by decide +kernel
theorem d_Re_third_1 : decode prog_6_method_2_code 1 = .ok (.iconst 3, 1) := by decide +kernel
theorem d_Re_third_2 : decode prog_6_method_2_code 2 = .ok (.iadd, 1) := by decide +kernel
theorem d_Re_third_3 : decode prog_6_method_2_code 3 = .ok (.iconst 1, 1) := by decide +kernel
theorem d_Re_third_4 : decode prog_6_method_2_code 4 = .ok (.isub, 1) := by decide +kernel
theorem d_Re_third_5 : decode prog_6_method_2_code 5 = .ok (.iconst 3, 1) := by decide +kernel
theorem d_Re_third_6 : decode prog_6_method_2_code 6 = .ok (.idiv, 1) := by decide +kernel
theorem d_Re_third_7 : decode prog_6_method_2_code 7 = .ok (.ireturn, 1) := by decide +kernel
theorem d_Ho_sendAccepts_0 : decode prog_1_method_28_code 0 = .ok (.aload_n 1, 1) := by decide +kernel
theorem d_Ho_sendAccepts_1 : decode prog_1_method_28_code 1 = .ok (.getfield 165, 3) := by decide +kernel
theorem d_Ho_sendAccepts_4 : decode prog_1_method_28_code 4 = .ok (.iload_n 2, 1) := by decide +kernel
theorem d_Ho_sendAccepts_5 : decode prog_1_method_28_code 5 = .ok (.aaload, 1) := by decide +kernel
theorem d_Ho_sendAccepts_6 : decode prog_1_method_28_code 6 = .ok (.astore_n 3, 1) := by decide +kernel
theorem d_Ho_sendAccepts_7 : decode prog_1_method_28_code 7 = .ok (.iconst 0, 1) := by decide +kernel
theorem d_Ho_sendAccepts_8 : decode prog_1_method_28_code 8 = .ok (.istore 4, 2) := by decide +kernel
theorem d_Ho_sendAccepts_10 : decode prog_1_method_28_code 10 = .ok (.iload 4, 2) := by decide +kernel
theorem d_Ho_sendAccepts_12 : decode prog_1_method_28_code 12 = .ok (.bipush 7, 2) := by decide +kernel
theorem d_Ho_sendAccepts_14 : decode prog_1_method_28_code 14 = .ok (.if_icmp .ge 79, 3) := by decide +kernel
theorem d_Ho_sendAccepts_17 : decode prog_1_method_28_code 17 = .ok (.aload_n 3, 1) := by decide +kernel
theorem d_Ho_sendAccepts_18 : decode prog_1_method_28_code 18 = .ok (.iload 4, 2) := by decide +kernel
theorem d_Ho_sendAccepts_20 : decode prog_1_method_28_code 20 = .ok (.invokevirtual 261, 3) := by decide +kernel
theorem d_Ho_sendAccepts_23 : decode prog_1_method_28_code 23 = .ok (.ifCond .ne 64, 3) := by decide +kernel
theorem d_Ho_sendAccepts_26 : decode prog_1_method_28_code 26 = .ok (.aload_n 0, 1) := by decide +kernel
theorem d_Ho_sendAccepts_27 : decode prog_1_method_28_code 27 = .ok (.getfield 28, 3) := by decide +kernel
theorem d_Ho_sendAccepts_30 : decode prog_1_method_28_code 30 = .ok (.iconst 2, 1) := by decide +kernel
theorem d_Ho_sendAccepts_31 : decode prog_1_method_28_code 31 = .ok (.iload 4, 2) := by decide +kernel
theorem d_Ho_sendAccepts_33 : decode prog_1_method_28_code 33 = .ok (.aload_n 1, 1) := by decide +kernel
theorem d_Ho_sendAccepts_34 : decode prog_1_method_28_code 34 = .ok (.getfield 250, 3) := by decide +kernel
theorem d_Ho_sendAccepts_37 : decode prog_1_method_28_code 37 = .ok (.aload_n 1, 1) := by decide +kernel
theorem d_Ho_sendAccepts_38 : decode prog_1_method_28_code 38 = .ok (.getfield 71, 3) := by decide +kernel
theorem d_Ho_sendAccepts_41 : decode prog_1_method_28_code 41 = .ok (.invokevirtual 253, 3) := by decide +kernel
theorem d_Ho_sendAccepts_44 : decode prog_1_method_28_code 44 = .ok (.astore 5, 2) := by decide +kernel
theorem d_Ho_sendAccepts_46 : decode prog_1_method_28_code 46 = .ok (.aload 5, 2) := by decide +kernel
theorem d_Ho_sendAccepts_48 : decode prog_1_method_28_code 48 = .ok (.ifnull 39, 3) := by decide +kernel
theorem d_Ho_sendAccepts_51 : decode prog_1_method_28_code 51 = .ok (.aload 5, 2) := by decide +kernel
theorem d_Ho_sendAccepts_53 : decode prog_1_method_28_code 53 = .ok (.iload_n 2, 1) := by decide +kernel
theorem d_Ho_sendAccepts_54 : decode prog_1_method_28_code 54 = .ok (.aload_n 3, 1) := by decide +kernel
theorem d_Ho_sendAccepts_55 : decode prog_1_method_28_code 55 = .ok (.getfield 264, 3) := by decide +kernel
theorem d_Ho_sendAccepts_58 : decode prog_1_method_28_code 58 = .ok (.invokevirtual 267, 3) := by decide +kernel
theorem d_Ho_sendAccepts_61 : decode prog_1_method_28_code 61 = .ok (.aload 5, 2) := by decide +kernel
theorem d_Ho_sendAccepts_63 : decode prog_1_method_28_code 63 = .ok (.aload_n 3, 1) := by decide +kernel
theorem d_Ho_sendAccepts_64 : decode prog_1_method_28_code 64 = .ok (.getfield 271, 3) := by decide +kernel
theorem d_Ho_sendAccepts_67 : decode prog_1_method_28_code 67 = .ok (.getfield 190, 3) := by decide +kernel
theorem d_Ho_sendAccepts_70 : decode prog_1_method_28_code 70 = .ok (.putfield 274, 3) := by decide +kernel
theorem d_Ho_sendAccepts_73 : decode prog_1_method_28_code 73 = .ok (.aload 5, 2) := by decide +kernel
theorem d_Ho_sendAccepts_75 : decode prog_1_method_28_code 75 = .ok (.aload_n 3, 1) := by decide +kernel
theorem d_Ho_sendAccepts_76 : decode prog_1_method_28_code 76 = .ok (.getfield 271, 3) := by decide +kernel
theorem d_Ho_sendAccepts_79 : decode prog_1_method_28_code 79 = .ok (.iload 4, 2) := by decide +kernel
theorem d_Ho_sendAccepts_81 : decode prog_1_method_28_code 81 = .ok (.invokevirtual 193, 3) := by decide +kernel
theorem d_Ho_sendAccepts_84 : decode prog_1_method_28_code 84 = .ok (.putfield 275, 3) := by decide +kernel
theorem d_Ho_sendAccepts_87 : decode prog_1_method_28_code 87 = .ok (.iinc 4 1, 3) := by decide +kernel
theorem d_Ho_sendAccepts_90 : decode prog_1_method_28_code 90 = .ok (.goto (-80), 3) := by decide +kernel
theorem d_Ho_sendAccepts_93 : decode prog_1_method_28_code 93 = .ok (.return_, 1) := by decide +kernel
theorem d_Sp_hasAnswerOf_0 : decode prog_9_method_4_code 0 = .ok (.aload_n 0, 1) := by decide +kernel
theorem d_Sp_hasAnswerOf_1 : decode prog_9_method_4_code 1 = .ok (.getfield 25, 3) := by decide +kernel
theorem d_Sp_hasAnswerOf_4 : decode prog_9_method_4_code 4 = .ok (.iload_n 1, 1) := by decide +kernel
theorem d_Sp_hasAnswerOf_5 : decode prog_9_method_4_code 5 = .ok (.iushr, 1) := by decide +kernel
theorem d_Sp_hasAnswerOf_6 : decode prog_9_method_4_code 6 = .ok (.iconst 1, 1) := by decide +kernel
theorem d_Sp_hasAnswerOf_7 : decode prog_9_method_4_code 7 = .ok (.iand, 1) := by decide +kernel
theorem d_Sp_hasAnswerOf_8 : decode prog_9_method_4_code 8 = .ok (.iconst 1, 1) := by decide +kernel
theorem d_Sp_hasAnswerOf_9 : decode prog_9_method_4_code 9 = .ok (.if_icmp .ne 7, 3) := by decide +kernel
theorem d_Sp_hasAnswerOf_12 : decode prog_9_method_4_code 12 = .ok (.iconst 1, 1) := by decide +kernel
theorem d_Sp_hasAnswerOf_13 : decode prog_9_method_4_code 13 = .ok (.goto 4, 3) := by decide +kernel
theorem d_Sp_hasAnswerOf_16 : decode prog_9_method_4_code 16 = .ok (.iconst 0, 1) := by decide +kernel
theorem d_Sp_hasAnswerOf_17 : decode prog_9_method_4_code 17 = .ok (.ireturn, 1) := by decide +kernel
theorem d_Le_aboutPlace_0 : decode prog_4_method_3_code 0 = .ok (.aload_n 0, 1) := by decide +kernel
theorem d_Le_aboutPlace_1 : decode prog_4_method_3_code 1 = .ok (.iload_n 1, 1) := by decide +kernel
theorem d_Le_aboutPlace_2 : decode prog_4_method_3_code 2 = .ok (.putfield 31, 3) := by decide +kernel
theorem d_Le_aboutPlace_5 : decode prog_4_method_3_code 5 = .ok (.aload_n 0, 1) := by decide +kernel
theorem d_Le_aboutPlace_6 : decode prog_4_method_3_code 6 = .ok (.iload_n 2, 1) := by decide +kernel
theorem d_Le_aboutPlace_7 : decode prog_4_method_3_code 7 = .ok (.putfield 34, 3) := by decide +kernel
theorem d_Le_aboutPlace_10 : decode prog_4_method_3_code 10 = .ok (.return_, 1) := by decide +kernel
theorem d_Re_shareOf_0 : decode prog_6_method_7_code 0 = .ok (.iload_n 1, 1) := by decide +kernel
theorem d_Re_shareOf_1 : decode prog_6_method_7_code 1 = .ok (.invokestatic 34, 3) := by decide +kernel
theorem d_Re_shareOf_4 : decode prog_6_method_7_code 4 = .ok (.istore_n 2, 1) := by decide +kernel
theorem d_Re_shareOf_5 : decode prog_6_method_7_code 5 = .ok (.lconst 0, 1) := by decide +kernel
theorem d_Re_shareOf_6 : decode prog_6_method_7_code 6 = .ok (.lstore_n 3, 1) := by decide +kernel
theorem d_Re_shareOf_7 : decode prog_6_method_7_code 7 = .ok (.iconst 2, 1) := by decide +kernel
theorem d_Re_shareOf_8 : decode prog_6_method_7_code 8 = .ok (.istore 5, 2) := by decide +kernel
theorem d_Re_shareOf_10 : decode prog_6_method_7_code 10 = .ok (.iload 5, 2) := by decide +kernel
theorem d_Re_shareOf_12 : decode prog_6_method_7_code 12 = .ok (.ifCond .lt 23, 3) := by decide +kernel
theorem d_Re_shareOf_15 : decode prog_6_method_7_code 15 = .ok (.lload_n 3, 1) := by decide +kernel
theorem d_Re_shareOf_16 : decode prog_6_method_7_code 16 = .ok (.iload_n 2, 1) := by decide +kernel
theorem d_Re_shareOf_17 : decode prog_6_method_7_code 17 = .ok (.invokestatic 37, 3) := by decide +kernel
theorem d_Re_shareOf_20 : decode prog_6_method_7_code 20 = .ok (.aload_n 0, 1) := by decide +kernel
theorem d_Re_shareOf_21 : decode prog_6_method_7_code 21 = .ok (.getfield 9, 3) := by decide +kernel
theorem d_Re_shareOf_24 : decode prog_6_method_7_code 24 = .ok (.iload 5, 2) := by decide +kernel
theorem d_Re_shareOf_26 : decode prog_6_method_7_code 26 = .ok (.laload, 1) := by decide +kernel
theorem d_Re_shareOf_27 : decode prog_6_method_7_code 27 = .ok (.lxor, 1) := by decide +kernel
theorem d_Re_shareOf_28 : decode prog_6_method_7_code 28 = .ok (.lstore_n 3, 1) := by decide +kernel
theorem d_Re_shareOf_29 : decode prog_6_method_7_code 29 = .ok (.iinc 5 (-1), 3) := by decide +kernel
theorem d_Re_shareOf_32 : decode prog_6_method_7_code 32 = .ok (.goto (-22), 3) := by decide +kernel
theorem d_Re_shareOf_35 : decode prog_6_method_7_code 35 = .ok (.lload_n 3, 1) := by decide +kernel
theorem d_Re_shareOf_36 : decode prog_6_method_7_code 36 = .ok (.lreturn, 1) := by decide +kernel
theorem d_Re_pointOf_0 : decode prog_6_method_3_code 0 = .ok (.iload_n 0, 1) := by decide +kernel
theorem d_Re_pointOf_1 : decode prog_6_method_3_code 1 = .ok (.iconst 1, 1) := by decide +kernel
theorem d_Re_pointOf_2 : decode prog_6_method_3_code 2 = .ok (.iadd, 1) := by decide +kernel
theorem d_Re_pointOf_3 : decode prog_6_method_3_code 3 = .ok (.ireturn, 1) := by decide +kernel
theorem d_Fi_times_0 : decode prog_2_method_2_code 0 = .ok (.lconst 0, 1) := by decide +kernel
theorem d_Fi_times_1 : decode prog_2_method_2_code 1 = .ok (.lstore_n 3, 1) := by decide +kernel
theorem d_Fi_times_2 : decode prog_2_method_2_code 2 = .ok (.lload_n 0, 1) := by decide +kernel
theorem d_Fi_times_3 : decode prog_2_method_2_code 3 = .ok (.lstore 5, 2) := by decide +kernel
theorem d_Fi_times_5 : decode prog_2_method_2_code 5 = .ok (.iconst 0, 1) := by decide +kernel
theorem d_Fi_times_6 : decode prog_2_method_2_code 6 = .ok (.istore 7, 2) := by decide +kernel
theorem d_Fi_times_8 : decode prog_2_method_2_code 8 = .ok (.iload 7, 2) := by decide +kernel
theorem d_Fi_times_10 : decode prog_2_method_2_code 10 = .ok (.bipush 8, 2) := by decide +kernel
theorem d_Fi_times_12 : decode prog_2_method_2_code 12 = .ok (.if_icmp .ge 48, 3) := by decide +kernel
theorem d_Fi_times_15 : decode prog_2_method_2_code 15 = .ok (.iload_n 2, 1) := by decide +kernel
theorem d_Fi_times_16 : decode prog_2_method_2_code 16 = .ok (.iload 7, 2) := by decide +kernel
theorem d_Fi_times_18 : decode prog_2_method_2_code 18 = .ok (.iushr, 1) := by decide +kernel
theorem d_Fi_times_19 : decode prog_2_method_2_code 19 = .ok (.iconst 1, 1) := by decide +kernel
theorem d_Fi_times_20 : decode prog_2_method_2_code 20 = .ok (.iand, 1) := by decide +kernel
theorem d_Fi_times_21 : decode prog_2_method_2_code 21 = .ok (.iconst 1, 1) := by decide +kernel
theorem d_Fi_times_22 : decode prog_2_method_2_code 22 = .ok (.if_icmp .ne 8, 3) := by decide +kernel
theorem d_Fi_times_25 : decode prog_2_method_2_code 25 = .ok (.lload_n 3, 1) := by decide +kernel
theorem d_Fi_times_26 : decode prog_2_method_2_code 26 = .ok (.lload 5, 2) := by decide +kernel
theorem d_Fi_times_28 : decode prog_2_method_2_code 28 = .ok (.lxor, 1) := by decide +kernel
theorem d_Fi_times_29 : decode prog_2_method_2_code 29 = .ok (.lstore_n 3, 1) := by decide +kernel
theorem d_Fi_times_30 : decode prog_2_method_2_code 30 = .ok (.lload 5, 2) := by decide +kernel
theorem d_Fi_times_32 : decode prog_2_method_2_code 32 = .ok (.ldc2_w 9, 3) := by decide +kernel
theorem d_Fi_times_35 : decode prog_2_method_2_code 35 = .ok (.land, 1) := by decide +kernel
theorem d_Fi_times_36 : decode prog_2_method_2_code 36 = .ok (.iconst 1, 1) := by decide +kernel
theorem d_Fi_times_37 : decode prog_2_method_2_code 37 = .ok (.lshl, 1) := by decide +kernel
theorem d_Fi_times_38 : decode prog_2_method_2_code 38 = .ok (.lload 5, 2) := by decide +kernel
theorem d_Fi_times_40 : decode prog_2_method_2_code 40 = .ok (.bipush 7, 2) := by decide +kernel
theorem d_Fi_times_42 : decode prog_2_method_2_code 42 = .ok (.lushr, 1) := by decide +kernel
theorem d_Fi_times_43 : decode prog_2_method_2_code 43 = .ok (.ldc2_w 11, 3) := by decide +kernel
theorem d_Fi_times_46 : decode prog_2_method_2_code 46 = .ok (.land, 1) := by decide +kernel
theorem d_Fi_times_47 : decode prog_2_method_2_code 47 = .ok (.ldc2_w 13, 3) := by decide +kernel
theorem d_Fi_times_50 : decode prog_2_method_2_code 50 = .ok (.lmul, 1) := by decide +kernel
theorem d_Fi_times_51 : decode prog_2_method_2_code 51 = .ok (.lxor, 1) := by decide +kernel
theorem d_Fi_times_52 : decode prog_2_method_2_code 52 = .ok (.lstore 5, 2) := by decide +kernel
theorem d_Fi_times_54 : decode prog_2_method_2_code 54 = .ok (.iinc 7 1, 3) := by decide +kernel
theorem d_Fi_times_57 : decode prog_2_method_2_code 57 = .ok (.goto (-49), 3) := by decide +kernel
theorem d_Fi_times_60 : decode prog_2_method_2_code 60 = .ok (.lload_n 3, 1) := by decide +kernel
theorem d_Fi_times_61 : decode prog_2_method_2_code 61 = .ok (.lreturn, 1) := by decide +kernel
theorem d_Ho_resend_0 : decode prog_1_method_5_code 0 = .ok (.iload_n 1, 1) := by decide +kernel
theorem d_Ho_resend_1 : decode prog_1_method_5_code 1 = .ok (.invokestatic 57, 3) := by decide +kernel
theorem d_Ho_resend_4 : decode prog_1_method_5_code 4 = .ok (.aload_n 0, 1) := by decide +kernel
theorem d_Ho_resend_5 : decode prog_1_method_5_code 5 = .ok (.getfield 18, 3) := by decide +kernel
theorem d_Ho_resend_8 : decode prog_1_method_5_code 8 = .ok (.iload_n 1, 1) := by decide +kernel
theorem d_Ho_resend_9 : decode prog_1_method_5_code 9 = .ok (.aaload, 1) := by decide +kernel
theorem d_Ho_resend_10 : decode prog_1_method_5_code 10 = .ok (.astore_n 2, 1) := by decide +kernel
theorem d_Ho_resend_11 : decode prog_1_method_5_code 11 = .ok (.aload_n 0, 1) := by decide +kernel
theorem d_Ho_resend_12 : decode prog_1_method_5_code 12 = .ok (.getfield 28, 3) := by decide +kernel
theorem d_Ho_resend_15 : decode prog_1_method_5_code 15 = .ok (.getfield 91, 3) := by decide +kernel
theorem d_Ho_resend_18 : decode prog_1_method_5_code 18 = .ok (.istore_n 3, 1) := by decide +kernel
theorem d_Ho_resend_19 : decode prog_1_method_5_code 19 = .ok (.aload_n 2, 1) := by decide +kernel
theorem d_Ho_resend_20 : decode prog_1_method_5_code 20 = .ok (.getfield 94, 3) := by decide +kernel
theorem d_Ho_resend_23 : decode prog_1_method_5_code 23 = .ok (.iconst 1, 1) := by decide +kernel
theorem d_Ho_resend_24 : decode prog_1_method_5_code 24 = .ok (.if_icmp .ne 11, 3) := by decide +kernel
theorem d_Ho_resend_27 : decode prog_1_method_5_code 27 = .ok (.aload_n 0, 1) := by decide +kernel
theorem d_Ho_resend_28 : decode prog_1_method_5_code 28 = .ok (.aload_n 2, 1) := by decide +kernel
theorem d_Ho_resend_29 : decode prog_1_method_5_code 29 = .ok (.invokevirtual 67, 3) := by decide +kernel
theorem d_Ho_resend_32 : decode prog_1_method_5_code 32 = .ok (.goto 16, 3) := by decide +kernel
theorem d_Ho_resend_35 : decode prog_1_method_5_code 35 = .ok (.aload_n 2, 1) := by decide +kernel
theorem d_Ho_resend_36 : decode prog_1_method_5_code 36 = .ok (.getfield 94, 3) := by decide +kernel
theorem d_Ho_resend_39 : decode prog_1_method_5_code 39 = .ok (.iconst 2, 1) := by decide +kernel
theorem d_Ho_resend_40 : decode prog_1_method_5_code 40 = .ok (.if_icmp .ne 8, 3) := by decide +kernel
theorem d_Ho_resend_43 : decode prog_1_method_5_code 43 = .ok (.aload_n 0, 1) := by decide +kernel
theorem d_Ho_resend_44 : decode prog_1_method_5_code 44 = .ok (.aload_n 2, 1) := by decide +kernel
theorem d_Ho_resend_45 : decode prog_1_method_5_code 45 = .ok (.invokevirtual 97, 3) := by decide +kernel
theorem d_Ho_resend_48 : decode prog_1_method_5_code 48 = .ok (.aload_n 0, 1) := by decide +kernel
theorem d_Ho_resend_49 : decode prog_1_method_5_code 49 = .ok (.getfield 28, 3) := by decide +kernel
theorem d_Ho_resend_52 : decode prog_1_method_5_code 52 = .ok (.getfield 91, 3) := by decide +kernel
theorem d_Ho_resend_55 : decode prog_1_method_5_code 55 = .ok (.iload_n 3, 1) := by decide +kernel
theorem d_Ho_resend_56 : decode prog_1_method_5_code 56 = .ok (.isub, 1) := by decide +kernel
theorem d_Ho_resend_57 : decode prog_1_method_5_code 57 = .ok (.ireturn, 1) := by decide +kernel
theorem d_Ho_sendAllAccepts_0 : decode prog_1_method_27_code 0 = .ok (.iconst 0, 1) := by decide +kernel
theorem d_Ho_sendAllAccepts_1 : decode prog_1_method_27_code 1 = .ok (.istore_n 2, 1) := by decide +kernel
theorem d_Ho_sendAllAccepts_2 : decode prog_1_method_27_code 2 = .ok (.iload_n 2, 1) := by decide +kernel
theorem d_Ho_sendAllAccepts_3 : decode prog_1_method_27_code 3 = .ok (.bipush 8, 2) := by decide +kernel
theorem d_Ho_sendAllAccepts_5 : decode prog_1_method_27_code 5 = .ok (.if_icmp .ge 27, 3) := by decide +kernel
theorem d_Ho_sendAllAccepts_8 : decode prog_1_method_27_code 8 = .ok (.aload_n 1, 1) := by decide +kernel
theorem d_Ho_sendAllAccepts_9 : decode prog_1_method_27_code 9 = .ok (.getfield 165, 3) := by decide +kernel
theorem d_Ho_sendAllAccepts_12 : decode prog_1_method_27_code 12 = .ok (.iload_n 2, 1) := by decide +kernel
theorem d_Ho_sendAllAccepts_13 : decode prog_1_method_27_code 13 = .ok (.aaload, 1) := by decide +kernel
theorem d_Ho_sendAllAccepts_14 : decode prog_1_method_27_code 14 = .ok (.invokevirtual 257, 3) := by decide +kernel
theorem d_Ho_sendAllAccepts_17 : decode prog_1_method_27_code 17 = .ok (.ifCond .eq 9, 3) := by decide +kernel
theorem d_Ho_sendAllAccepts_20 : decode prog_1_method_27_code 20 = .ok (.aload_n 0, 1) := by decide +kernel
theorem d_Ho_sendAllAccepts_21 : decode prog_1_method_27_code 21 = .ok (.aload_n 1, 1) := by decide +kernel
theorem d_Ho_sendAllAccepts_22 : decode prog_1_method_27_code 22 = .ok (.iload_n 2, 1) := by decide +kernel
theorem d_Ho_sendAllAccepts_23 : decode prog_1_method_27_code 23 = .ok (.invokevirtual 87, 3) := by decide +kernel
theorem d_Ho_sendAllAccepts_26 : decode prog_1_method_27_code 26 = .ok (.iinc 2 1, 3) := by decide +kernel
theorem d_Ho_sendAllAccepts_29 : decode prog_1_method_27_code 29 = .ok (.goto (-27), 3) := by decide +kernel
theorem d_Ho_sendAllAccepts_32 : decode prog_1_method_27_code 32 = .ok (.return_, 1) := by decide +kernel
theorem d_Sp_isWaiting_0 : decode prog_9_method_3_code 0 = .ok (.aload_n 0, 1) := by decide +kernel
theorem d_Sp_isWaiting_1 : decode prog_9_method_3_code 1 = .ok (.getfield 22, 3) := by decide +kernel
theorem d_Sp_isWaiting_4 : decode prog_9_method_3_code 4 = .ok (.ifCond .eq 7, 3) := by decide +kernel
theorem d_Sp_isWaiting_7 : decode prog_9_method_3_code 7 = .ok (.iconst 1, 1) := by decide +kernel
theorem d_Sp_isWaiting_8 : decode prog_9_method_3_code 8 = .ok (.goto 4, 3) := by decide +kernel
theorem d_Sp_isWaiting_11 : decode prog_9_method_3_code 11 = .ok (.iconst 0, 1) := by decide +kernel
theorem d_Sp_isWaiting_12 : decode prog_9_method_3_code 12 = .ok (.ireturn, 1) := by decide +kernel
theorem d_Ho_deliver_0 : decode prog_1_method_6_code 0 = .ok (.aload_n 0, 1) := by decide +kernel
theorem d_Ho_deliver_1 : decode prog_1_method_6_code 1 = .ok (.iload_n 1, 1) := by decide +kernel
theorem d_Ho_deliver_2 : decode prog_1_method_6_code 2 = .ok (.invokevirtual 100, 3) := by decide +kernel
theorem d_Ho_deliver_5 : decode prog_1_method_6_code 5 = .ok (.aload_n 0, 1) := by decide +kernel
theorem d_Ho_deliver_6 : decode prog_1_method_6_code 6 = .ok (.getfield 28, 3) := by decide +kernel
theorem d_Ho_deliver_9 : decode prog_1_method_6_code 9 = .ok (.iload_n 1, 1) := by decide +kernel
theorem d_Ho_deliver_10 : decode prog_1_method_6_code 10 = .ok (.invokevirtual 103, 3) := by decide +kernel
theorem d_Ho_deliver_13 : decode prog_1_method_6_code 13 = .ok (.astore_n 2, 1) := by decide +kernel
theorem d_Ho_deliver_14 : decode prog_1_method_6_code 14 = .ok (.aload_n 0, 1) := by decide +kernel
theorem d_Ho_deliver_15 : decode prog_1_method_6_code 15 = .ok (.getfield 28, 3) := by decide +kernel
theorem d_Ho_deliver_18 : decode prog_1_method_6_code 18 = .ok (.getfield 91, 3) := by decide +kernel
theorem d_Ho_deliver_21 : decode prog_1_method_6_code 21 = .ok (.istore_n 3, 1) := by decide +kernel
theorem d_Ho_deliver_22 : decode prog_1_method_6_code 22 = .ok (.aload_n 2, 1) := by decide +kernel
theorem d_Ho_deliver_23 : decode prog_1_method_6_code 23 = .ok (.getfield 107, 3) := by decide +kernel
theorem d_Ho_deliver_26 : decode prog_1_method_6_code 26 = .ok (.tableswitch 50 0 2 #[26, 34, 42], 26) := by decide +kernel
theorem d_Ho_deliver_52 : decode prog_1_method_6_code 52 = .ok (.aload_n 0, 1) := by decide +kernel
theorem d_Ho_deliver_53 : decode prog_1_method_6_code 53 = .ok (.aload_n 2, 1) := by decide +kernel
theorem d_Ho_deliver_54 : decode prog_1_method_6_code 54 = .ok (.invokevirtual 112, 3) := by decide +kernel
theorem d_Ho_deliver_57 : decode prog_1_method_6_code 57 = .ok (.goto 32, 3) := by decide +kernel
theorem d_Ho_deliver_60 : decode prog_1_method_6_code 60 = .ok (.aload_n 0, 1) := by decide +kernel
theorem d_Ho_deliver_61 : decode prog_1_method_6_code 61 = .ok (.aload_n 2, 1) := by decide +kernel
theorem d_Ho_deliver_62 : decode prog_1_method_6_code 62 = .ok (.invokevirtual 116, 3) := by decide +kernel
theorem d_Ho_deliver_65 : decode prog_1_method_6_code 65 = .ok (.goto 24, 3) := by decide +kernel
theorem d_Ho_deliver_68 : decode prog_1_method_6_code 68 = .ok (.aload_n 0, 1) := by decide +kernel
theorem d_Ho_deliver_69 : decode prog_1_method_6_code 69 = .ok (.aload_n 2, 1) := by decide +kernel
theorem d_Ho_deliver_70 : decode prog_1_method_6_code 70 = .ok (.invokevirtual 119, 3) := by decide +kernel
theorem d_Ho_deliver_73 : decode prog_1_method_6_code 73 = .ok (.goto 16, 3) := by decide +kernel
theorem d_Ho_deliver_76 : decode prog_1_method_6_code 76 = .ok (.aload_n 0, 1) := by decide +kernel
theorem d_Ho_deliver_77 : decode prog_1_method_6_code 77 = .ok (.getfield 18, 3) := by decide +kernel
theorem d_Ho_deliver_80 : decode prog_1_method_6_code 80 = .ok (.aload_n 2, 1) := by decide +kernel
theorem d_Ho_deliver_81 : decode prog_1_method_6_code 81 = .ok (.getfield 122, 3) := by decide +kernel
theorem d_Ho_deliver_84 : decode prog_1_method_6_code 84 = .ok (.aaload, 1) := by decide +kernel
theorem d_Ho_deliver_85 : decode prog_1_method_6_code 85 = .ok (.aload_n 2, 1) := by decide +kernel
theorem d_Ho_deliver_86 : decode prog_1_method_6_code 86 = .ok (.invokevirtual 125, 3) := by decide +kernel
theorem d_Ho_deliver_89 : decode prog_1_method_6_code 89 = .ok (.aload_n 0, 1) := by decide +kernel
theorem d_Ho_deliver_90 : decode prog_1_method_6_code 90 = .ok (.getfield 28, 3) := by decide +kernel
theorem d_Ho_deliver_93 : decode prog_1_method_6_code 93 = .ok (.getfield 91, 3) := by decide +kernel
theorem d_Ho_deliver_96 : decode prog_1_method_6_code 96 = .ok (.iload_n 3, 1) := by decide +kernel
theorem d_Ho_deliver_97 : decode prog_1_method_6_code 97 = .ok (.isub, 1) := by decide +kernel
theorem d_Ho_deliver_98 : decode prog_1_method_6_code 98 = .ok (.ireturn, 1) := by decide +kernel
theorem d_Ho_checkLetter_0 : decode prog_1_method_24_code 0 = .ok (.iload_n 1, 1) := by decide +kernel
theorem d_Ho_checkLetter_1 : decode prog_1_method_24_code 1 = .ok (.ifCond .lt 14, 3) := by decide +kernel
theorem d_Ho_checkLetter_4 : decode prog_1_method_24_code 4 = .ok (.iload_n 1, 1) := by decide +kernel
theorem d_Ho_checkLetter_5 : decode prog_1_method_24_code 5 = .ok (.aload_n 0, 1) := by decide +kernel
theorem d_Ho_checkLetter_6 : decode prog_1_method_24_code 6 = .ok (.getfield 28, 3) := by decide +kernel
theorem d_Ho_checkLetter_9 : decode prog_1_method_24_code 9 = .ok (.getfield 91, 3) := by decide +kernel
theorem d_Ho_checkLetter_12 : decode prog_1_method_24_code 12 = .ok (.if_icmp .lt 11, 3) := by decide +kernel
theorem d_Ho_checkLetter_15 : decode prog_1_method_24_code 15 = .ok (.new 207, 3) := by decide +kernel
theorem d_Ho_checkLetter_18 : decode prog_1_method_24_code 18 = .ok (.dup, 1) := by decide +kernel
theorem d_Ho_checkLetter_19 : decode prog_1_method_24_code 19 = .ok (.invokespecial 209, 3) := by decide +kernel
theorem d_Ho_checkLetter_22 : decode prog_1_method_24_code 22 = .ok (.athrow, 1) := by decide +kernel
theorem d_Ho_checkLetter_23 : decode prog_1_method_24_code 23 = .ok (.return_, 1) := by decide +kernel
theorem d_Ro_take_0 : decode prog_7_method_2_code 0 = .ok (.aload_n 0, 1) := by decide +kernel
theorem d_Ro_take_1 : decode prog_7_method_2_code 1 = .ok (.getfield 11, 3) := by decide +kernel
theorem d_Ro_take_4 : decode prog_7_method_2_code 4 = .ok (.iload_n 1, 1) := by decide +kernel
theorem d_Ro_take_5 : decode prog_7_method_2_code 5 = .ok (.aaload, 1) := by decide +kernel
theorem d_Ro_take_6 : decode prog_7_method_2_code 6 = .ok (.astore_n 2, 1) := by decide +kernel
theorem d_Ro_take_7 : decode prog_7_method_2_code 7 = .ok (.aload_n 0, 1) := by decide +kernel
theorem d_Ro_take_8 : decode prog_7_method_2_code 8 = .ok (.dup, 1) := by decide +kernel
theorem d_Ro_take_9 : decode prog_7_method_2_code 9 = .ok (.getfield 18, 3) := by decide +kernel
theorem d_Ro_take_12 : decode prog_7_method_2_code 12 = .ok (.iconst 1, 1) := by decide +kernel
theorem d_Ro_take_13 : decode prog_7_method_2_code 13 = .ok (.isub, 1) := by decide +kernel
theorem d_Ro_take_14 : decode prog_7_method_2_code 14 = .ok (.putfield 18, 3) := by decide +kernel
theorem d_Ro_take_17 : decode prog_7_method_2_code 17 = .ok (.iload_n 1, 1) := by decide +kernel
theorem d_Ro_take_18 : decode prog_7_method_2_code 18 = .ok (.istore_n 3, 1) := by decide +kernel
theorem d_Ro_take_19 : decode prog_7_method_2_code 19 = .ok (.iload_n 3, 1) := by decide +kernel
theorem d_Ro_take_20 : decode prog_7_method_2_code 20 = .ok (.aload_n 0, 1) := by decide +kernel
theorem d_Ro_take_21 : decode prog_7_method_2_code 21 = .ok (.getfield 18, 3) := by decide +kernel
theorem d_Ro_take_24 : decode prog_7_method_2_code 24 = .ok (.if_icmp .ge 23, 3) := by decide +kernel
theorem d_Ro_take_27 : decode prog_7_method_2_code 27 = .ok (.aload_n 0, 1) := by decide +kernel
theorem d_Ro_take_28 : decode prog_7_method_2_code 28 = .ok (.getfield 11, 3) := by decide +kernel
theorem d_Ro_take_31 : decode prog_7_method_2_code 31 = .ok (.iload_n 3, 1) := by decide +kernel
theorem d_Ro_take_32 : decode prog_7_method_2_code 32 = .ok (.aload_n 0, 1) := by decide +kernel
theorem d_Ro_take_33 : decode prog_7_method_2_code 33 = .ok (.getfield 11, 3) := by decide +kernel
theorem d_Ro_take_36 : decode prog_7_method_2_code 36 = .ok (.iload_n 3, 1) := by decide +kernel
theorem d_Ro_take_37 : decode prog_7_method_2_code 37 = .ok (.iconst 1, 1) := by decide +kernel
theorem d_Ro_take_38 : decode prog_7_method_2_code 38 = .ok (.iadd, 1) := by decide +kernel
theorem d_Ro_take_39 : decode prog_7_method_2_code 39 = .ok (.aaload, 1) := by decide +kernel
theorem d_Ro_take_40 : decode prog_7_method_2_code 40 = .ok (.aastore, 1) := by decide +kernel
theorem d_Ro_take_41 : decode prog_7_method_2_code 41 = .ok (.iinc 3 1, 3) := by decide +kernel
theorem d_Ro_take_44 : decode prog_7_method_2_code 44 = .ok (.goto (-25), 3) := by decide +kernel
theorem d_Ro_take_47 : decode prog_7_method_2_code 47 = .ok (.aload_n 0, 1) := by decide +kernel
theorem d_Ro_take_48 : decode prog_7_method_2_code 48 = .ok (.getfield 11, 3) := by decide +kernel
theorem d_Ro_take_51 : decode prog_7_method_2_code 51 = .ok (.aload_n 0, 1) := by decide +kernel
theorem d_Ro_take_52 : decode prog_7_method_2_code 52 = .ok (.getfield 18, 3) := by decide +kernel
theorem d_Ro_take_55 : decode prog_7_method_2_code 55 = .ok (.aload_n 0, 1) := by decide +kernel
theorem d_Ro_take_56 : decode prog_7_method_2_code 56 = .ok (.getfield 11, 3) := by decide +kernel
theorem d_Ro_take_59 : decode prog_7_method_2_code 59 = .ok (.bipush 60, 2) := by decide +kernel
theorem d_Ro_take_61 : decode prog_7_method_2_code 61 = .ok (.aaload, 1) := by decide +kernel
theorem d_Ro_take_62 : decode prog_7_method_2_code 62 = .ok (.aastore, 1) := by decide +kernel
theorem d_Ro_take_63 : decode prog_7_method_2_code 63 = .ok (.aload_n 0, 1) := by decide +kernel
theorem d_Ro_take_64 : decode prog_7_method_2_code 64 = .ok (.getfield 11, 3) := by decide +kernel
theorem d_Ro_take_67 : decode prog_7_method_2_code 67 = .ok (.bipush 60, 2) := by decide +kernel
theorem d_Ro_take_69 : decode prog_7_method_2_code 69 = .ok (.aload_n 2, 1) := by decide +kernel
theorem d_Ro_take_70 : decode prog_7_method_2_code 70 = .ok (.aastore, 1) := by decide +kernel
theorem d_Ro_take_71 : decode prog_7_method_2_code 71 = .ok (.aload_n 2, 1) := by decide +kernel
theorem d_Ro_take_72 : decode prog_7_method_2_code 72 = .ok (.areturn, 1) := by decide +kernel
theorem d_Ho_bringPrepare_0 : decode prog_1_method_29_code 0 = .ok (.aload_n 0, 1) := by decide +kernel
theorem d_Ho_bringPrepare_1 : decode prog_1_method_29_code 1 = .ok (.getfield 11, 3) := by decide +kernel
theorem d_Ho_bringPrepare_4 : decode prog_1_method_29_code 4 = .ok (.aload_n 1, 1) := by decide +kernel
theorem d_Ho_bringPrepare_5 : decode prog_1_method_29_code 5 = .ok (.getfield 139, 3) := by decide +kernel
theorem d_Ho_bringPrepare_8 : decode prog_1_method_29_code 8 = .ok (.aaload, 1) := by decide +kernel
theorem d_Ho_bringPrepare_9 : decode prog_1_method_29_code 9 = .ok (.astore_n 2, 1) := by decide +kernel
theorem d_Ho_bringPrepare_10 : decode prog_1_method_29_code 10 = .ok (.aload_n 2, 1) := by decide +kernel
theorem d_Ho_bringPrepare_11 : decode prog_1_method_29_code 11 = .ok (.aload_n 1, 1) := by decide +kernel
theorem d_Ho_bringPrepare_12 : decode prog_1_method_29_code 12 = .ok (.getfield 142, 3) := by decide +kernel
theorem d_Ho_bringPrepare_15 : decode prog_1_method_29_code 15 = .ok (.invokevirtual 279, 3) := by decide +kernel
theorem d_Ho_bringPrepare_18 : decode prog_1_method_29_code 18 = .ok (.ifCond .eq 47, 3) := by decide +kernel
theorem d_Ho_bringPrepare_21 : decode prog_1_method_29_code 21 = .ok (.aload_n 2, 1) := by decide +kernel
theorem d_Ho_bringPrepare_22 : decode prog_1_method_29_code 22 = .ok (.aload_n 1, 1) := by decide +kernel
theorem d_Ho_bringPrepare_23 : decode prog_1_method_29_code 23 = .ok (.getfield 142, 3) := by decide +kernel
theorem d_Ho_bringPrepare_26 : decode prog_1_method_29_code 26 = .ok (.putfield 222, 3) := by decide +kernel
theorem d_Ho_bringPrepare_29 : decode prog_1_method_29_code 29 = .ok (.aload_n 0, 1) := by decide +kernel
theorem d_Ho_bringPrepare_30 : decode prog_1_method_29_code 30 = .ok (.getfield 28, 3) := by decide +kernel
theorem d_Ho_bringPrepare_33 : decode prog_1_method_29_code 33 = .ok (.iconst 1, 1) := by decide +kernel
theorem d_Ho_bringPrepare_34 : decode prog_1_method_29_code 34 = .ok (.aload_n 1, 1) := by decide +kernel
theorem d_Ho_bringPrepare_35 : decode prog_1_method_29_code 35 = .ok (.getfield 139, 3) := by decide +kernel
theorem d_Ho_bringPrepare_38 : decode prog_1_method_29_code 38 = .ok (.aload_n 1, 1) := by decide +kernel
theorem d_Ho_bringPrepare_39 : decode prog_1_method_29_code 39 = .ok (.getfield 122, 3) := by decide +kernel
theorem d_Ho_bringPrepare_42 : decode prog_1_method_29_code 42 = .ok (.aload_n 1, 1) := by decide +kernel
theorem d_Ho_bringPrepare_43 : decode prog_1_method_29_code 43 = .ok (.getfield 142, 3) := by decide +kernel
theorem d_Ho_bringPrepare_46 : decode prog_1_method_29_code 46 = .ok (.invokevirtual 253, 3) := by decide +kernel
theorem d_Ho_bringPrepare_49 : decode prog_1_method_29_code 49 = .ok (.astore_n 3, 1) := by decide +kernel
theorem d_Ho_bringPrepare_50 : decode prog_1_method_29_code 50 = .ok (.aload_n 3, 1) := by decide +kernel
theorem d_Ho_bringPrepare_51 : decode prog_1_method_29_code 51 = .ok (.ifnull 14, 3) := by decide +kernel
theorem d_Ho_bringPrepare_54 : decode prog_1_method_29_code 54 = .ok (.aload_n 3, 1) := by decide +kernel
theorem d_Ho_bringPrepare_55 : decode prog_1_method_29_code 55 = .ok (.getfield 282, 3) := by decide +kernel
theorem d_Ho_bringPrepare_58 : decode prog_1_method_29_code 58 = .ok (.aload_n 2, 1) := by decide +kernel
theorem d_Ho_bringPrepare_59 : decode prog_1_method_29_code 59 = .ok (.getfield 174, 3) := by decide +kernel
theorem d_Ho_bringPrepare_62 : decode prog_1_method_29_code 62 = .ok (.invokevirtual 283, 3) := by decide +kernel
theorem d_Ho_bringPrepare_65 : decode prog_1_method_29_code 65 = .ok (.return_, 1) := by decide +kernel
theorem d_St_heeds_0 : decode prog_10_method_2_code 0 = .ok (.aload_n 0, 1) := by decide +kernel
theorem d_St_heeds_1 : decode prog_10_method_2_code 1 = .ok (.getfield 7, 3) := by decide +kernel
theorem d_St_heeds_4 : decode prog_10_method_2_code 4 = .ok (.ifCond .eq 22, 3) := by decide +kernel
theorem d_St_heeds_7 : decode prog_10_method_2_code 7 = .ok (.aload_n 0, 1) := by decide +kernel
theorem d_St_heeds_8 : decode prog_10_method_2_code 8 = .ok (.getfield 20, 3) := by decide +kernel
theorem d_St_heeds_11 : decode prog_10_method_2_code 11 = .ok (.ifCond .ne 15, 3) := by decide +kernel
theorem d_St_heeds_14 : decode prog_10_method_2_code 14 = .ok (.iload_n 1, 1) := by decide +kernel
theorem d_St_heeds_15 : decode prog_10_method_2_code 15 = .ok (.aload_n 0, 1) := by decide +kernel
theorem d_St_heeds_16 : decode prog_10_method_2_code 16 = .ok (.getfield 23, 3) := by decide +kernel
theorem d_St_heeds_19 : decode prog_10_method_2_code 19 = .ok (.if_icmp .lt 7, 3) := by decide +kernel
theorem d_St_heeds_22 : decode prog_10_method_2_code 22 = .ok (.iconst 1, 1) := by decide +kernel
theorem d_St_heeds_23 : decode prog_10_method_2_code 23 = .ok (.goto 4, 3) := by decide +kernel
theorem d_St_heeds_26 : decode prog_10_method_2_code 26 = .ok (.iconst 0, 1) := by decide +kernel
theorem d_St_heeds_27 : decode prog_10_method_2_code 27 = .ok (.ireturn, 1) := by decide +kernel
theorem d_Sh_copyFrom_0 : decode prog_8_method_5_code 0 = .ok (.iconst 0, 1) := by decide +kernel
theorem d_Sh_copyFrom_1 : decode prog_8_method_5_code 1 = .ok (.istore_n 2, 1) := by decide +kernel
theorem d_Sh_copyFrom_2 : decode prog_8_method_5_code 2 = .ok (.iload_n 2, 1) := by decide +kernel
theorem d_Sh_copyFrom_3 : decode prog_8_method_5_code 3 = .ok (.bipush 8, 2) := by decide +kernel
theorem d_Sh_copyFrom_5 : decode prog_8_method_5_code 5 = .ok (.if_icmp .ge 38, 3) := by decide +kernel
theorem d_Sh_copyFrom_8 : decode prog_8_method_5_code 8 = .ok (.aload_n 0, 1) := by decide +kernel
theorem d_Sh_copyFrom_9 : decode prog_8_method_5_code 9 = .ok (.iload_n 2, 1) := by decide +kernel
theorem d_Sh_copyFrom_10 : decode prog_8_method_5_code 10 = .ok (.aload_n 1, 1) := by decide +kernel
theorem d_Sh_copyFrom_11 : decode prog_8_method_5_code 11 = .ok (.getfield 9, 3) := by decide +kernel
theorem d_Sh_copyFrom_14 : decode prog_8_method_5_code 14 = .ok (.iload_n 2, 1) := by decide +kernel
theorem d_Sh_copyFrom_15 : decode prog_8_method_5_code 15 = .ok (.iaload, 1) := by decide +kernel
theorem d_Sh_copyFrom_16 : decode prog_8_method_5_code 16 = .ok (.aload_n 1, 1) := by decide +kernel
theorem d_Sh_copyFrom_17 : decode prog_8_method_5_code 17 = .ok (.getfield 15, 3) := by decide +kernel
theorem d_Sh_copyFrom_20 : decode prog_8_method_5_code 20 = .ok (.iload_n 2, 1) := by decide +kernel
theorem d_Sh_copyFrom_21 : decode prog_8_method_5_code 21 = .ok (.iaload, 1) := by decide +kernel
theorem d_Sh_copyFrom_22 : decode prog_8_method_5_code 22 = .ok (.aload_n 1, 1) := by decide +kernel
theorem d_Sh_copyFrom_23 : decode prog_8_method_5_code 23 = .ok (.getfield 18, 3) := by decide +kernel
theorem d_Sh_copyFrom_26 : decode prog_8_method_5_code 26 = .ok (.iload_n 2, 1) := by decide +kernel
theorem d_Sh_copyFrom_27 : decode prog_8_method_5_code 27 = .ok (.iaload, 1) := by decide +kernel
theorem d_Sh_copyFrom_28 : decode prog_8_method_5_code 28 = .ok (.aload_n 1, 1) := by decide +kernel
theorem d_Sh_copyFrom_29 : decode prog_8_method_5_code 29 = .ok (.getfield 21, 3) := by decide +kernel
theorem d_Sh_copyFrom_32 : decode prog_8_method_5_code 32 = .ok (.iload_n 2, 1) := by decide +kernel
theorem d_Sh_copyFrom_33 : decode prog_8_method_5_code 33 = .ok (.laload, 1) := by decide +kernel
theorem d_Sh_copyFrom_34 : decode prog_8_method_5_code 34 = .ok (.invokevirtual 25, 3) := by decide +kernel
theorem d_Sh_copyFrom_37 : decode prog_8_method_5_code 37 = .ok (.iinc 2 1, 3) := by decide +kernel
theorem d_Sh_copyFrom_40 : decode prog_8_method_5_code 40 = .ok (.goto (-38), 3) := by decide +kernel
theorem d_Sh_copyFrom_43 : decode prog_8_method_5_code 43 = .ok (.return_, 1) := by decide +kernel
theorem d_Sh_put_0 : decode prog_8_method_3_code 0 = .ok (.aload_n 0, 1) := by decide +kernel
theorem d_Sh_put_1 : decode prog_8_method_3_code 1 = .ok (.getfield 9, 3) := by decide +kernel
theorem d_Sh_put_4 : decode prog_8_method_3_code 4 = .ok (.iload_n 1, 1) := by decide +kernel
theorem d_Sh_put_5 : decode prog_8_method_3_code 5 = .ok (.iload_n 2, 1) := by decide +kernel
theorem d_Sh_put_6 : decode prog_8_method_3_code 6 = .ok (.iastore, 1) := by decide +kernel
theorem d_Sh_put_7 : decode prog_8_method_3_code 7 = .ok (.aload_n 0, 1) := by decide +kernel
theorem d_Sh_put_8 : decode prog_8_method_3_code 8 = .ok (.getfield 15, 3) := by decide +kernel
theorem d_Sh_put_11 : decode prog_8_method_3_code 11 = .ok (.iload_n 1, 1) := by decide +kernel
theorem d_Sh_put_12 : decode prog_8_method_3_code 12 = .ok (.iload_n 3, 1) := by decide +kernel
theorem d_Sh_put_13 : decode prog_8_method_3_code 13 = .ok (.iastore, 1) := by decide +kernel
theorem d_Sh_put_14 : decode prog_8_method_3_code 14 = .ok (.aload_n 0, 1) := by decide +kernel
theorem d_Sh_put_15 : decode prog_8_method_3_code 15 = .ok (.getfield 18, 3) := by decide +kernel
theorem d_Sh_put_18 : decode prog_8_method_3_code 18 = .ok (.iload_n 1, 1) := by decide +kernel
theorem d_Sh_put_19 : decode prog_8_method_3_code 19 = .ok (.iload 4, 2) := by decide +kernel
theorem d_Sh_put_21 : decode prog_8_method_3_code 21 = .ok (.iastore, 1) := by decide +kernel
theorem d_Sh_put_22 : decode prog_8_method_3_code 22 = .ok (.aload_n 0, 1) := by decide +kernel
theorem d_Sh_put_23 : decode prog_8_method_3_code 23 = .ok (.getfield 21, 3) := by decide +kernel
theorem d_Sh_put_26 : decode prog_8_method_3_code 26 = .ok (.iload_n 1, 1) := by decide +kernel
theorem d_Sh_put_27 : decode prog_8_method_3_code 27 = .ok (.lload 5, 2) := by decide +kernel
theorem d_Sh_put_29 : decode prog_8_method_3_code 29 = .ok (.lastore, 1) := by decide +kernel
theorem d_Sh_put_30 : decode prog_8_method_3_code 30 = .ok (.return_, 1) := by decide +kernel
theorem d_Ho_bringPromise_0 : decode prog_1_method_30_code 0 = .ok (.aload_n 0, 1) := by decide +kernel
theorem d_Ho_bringPromise_1 : decode prog_1_method_30_code 1 = .ok (.getfield 18, 3) := by decide +kernel
theorem d_Ho_bringPromise_4 : decode prog_1_method_30_code 4 = .ok (.aload_n 1, 1) := by decide +kernel
theorem d_Ho_bringPromise_5 : decode prog_1_method_30_code 5 = .ok (.getfield 122, 3) := by decide +kernel
theorem d_Ho_bringPromise_8 : decode prog_1_method_30_code 8 = .ok (.aaload, 1) := by decide +kernel
theorem d_Ho_bringPromise_9 : decode prog_1_method_30_code 9 = .ok (.astore_n 2, 1) := by decide +kernel
theorem d_Ho_bringPromise_10 : decode prog_1_method_30_code 10 = .ok (.aload_n 2, 1) := by decide +kernel
theorem d_Ho_bringPromise_11 : decode prog_1_method_30_code 11 = .ok (.aload_n 1, 1) := by decide +kernel
theorem d_Ho_bringPromise_12 : decode prog_1_method_30_code 12 = .ok (.invokevirtual 286, 3) := by decide +kernel
theorem d_Ho_bringPromise_15 : decode prog_1_method_30_code 15 = .ok (.aload_n 2, 1) := by decide +kernel
theorem d_Ho_bringPromise_16 : decode prog_1_method_30_code 16 = .ok (.getfield 94, 3) := by decide +kernel
theorem d_Ho_bringPromise_19 : decode prog_1_method_30_code 19 = .ok (.iconst 1, 1) := by decide +kernel
theorem d_Ho_bringPromise_20 : decode prog_1_method_30_code 20 = .ok (.if_icmp .ne 19, 3) := by decide +kernel
theorem d_Ho_bringPromise_23 : decode prog_1_method_30_code 23 = .ok (.aload_n 2, 1) := by decide +kernel
theorem d_Ho_bringPromise_24 : decode prog_1_method_30_code 24 = .ok (.getfield 214, 3) := by decide +kernel
theorem d_Ho_bringPromise_27 : decode prog_1_method_30_code 27 = .ok (.invokestatic 217, 3) := by decide +kernel
theorem d_Ho_bringPromise_30 : decode prog_1_method_30_code 30 = .ok (.iconst 5, 1) := by decide +kernel
theorem d_Ho_bringPromise_31 : decode prog_1_method_30_code 31 = .ok (.if_icmp .lt 8, 3) := by decide +kernel
theorem d_Ho_bringPromise_34 : decode prog_1_method_30_code 34 = .ok (.aload_n 0, 1) := by decide +kernel
theorem d_Ho_bringPromise_35 : decode prog_1_method_30_code 35 = .ok (.aload_n 2, 1) := by decide +kernel
theorem d_Ho_bringPromise_36 : decode prog_1_method_30_code 36 = .ok (.invokevirtual 289, 3) := by decide +kernel
theorem d_Ho_bringPromise_39 : decode prog_1_method_30_code 39 = .ok (.return_, 1) := by decide +kernel
theorem d_Pr_hearPromise_0 : decode prog_5_method_7_code 0 = .ok (.aload_n 0, 1) := by decide +kernel
theorem d_Pr_hearPromise_1 : decode prog_5_method_7_code 1 = .ok (.getfield 9, 3) := by decide +kernel
theorem d_Pr_hearPromise_4 : decode prog_5_method_7_code 4 = .ok (.iconst 1, 1) := by decide +kernel
theorem d_Pr_hearPromise_5 : decode prog_5_method_7_code 5 = .ok (.if_icmp .ne 56, 3) := by decide +kernel
theorem d_Pr_hearPromise_8 : decode prog_5_method_7_code 8 = .ok (.aload_n 1, 1) := by decide +kernel
theorem d_Pr_hearPromise_9 : decode prog_5_method_7_code 9 = .ok (.getfield 72, 3) := by decide +kernel
theorem d_Pr_hearPromise_12 : decode prog_5_method_7_code 12 = .ok (.aload_n 0, 1) := by decide +kernel
theorem d_Pr_hearPromise_13 : decode prog_5_method_7_code 13 = .ok (.getfield 39, 3) := by decide +kernel
theorem d_Pr_hearPromise_16 : decode prog_5_method_7_code 16 = .ok (.if_icmp .ne 45, 3) := by decide +kernel
theorem d_Pr_hearPromise_19 : decode prog_5_method_7_code 19 = .ok (.aload_n 0, 1) := by decide +kernel
theorem d_Pr_hearPromise_20 : decode prog_5_method_7_code 20 = .ok (.aload_n 1, 1) := by decide +kernel
theorem d_Pr_hearPromise_21 : decode prog_5_method_7_code 21 = .ok (.getfield 75, 3) := by decide +kernel
theorem d_Pr_hearPromise_24 : decode prog_5_method_7_code 24 = .ok (.invokevirtual 78, 3) := by decide +kernel
theorem d_Pr_hearPromise_27 : decode prog_5_method_7_code 27 = .ok (.ifCond .ne 34, 3) := by decide +kernel
theorem d_Pr_hearPromise_30 : decode prog_5_method_7_code 30 = .ok (.aload_n 0, 1) := by decide +kernel
theorem d_Pr_hearPromise_31 : decode prog_5_method_7_code 31 = .ok (.getfield 21, 3) := by decide +kernel
theorem d_Pr_hearPromise_34 : decode prog_5_method_7_code 34 = .ok (.aload_n 1, 1) := by decide +kernel
theorem d_Pr_hearPromise_35 : decode prog_5_method_7_code 35 = .ok (.getfield 75, 3) := by decide +kernel
theorem d_Pr_hearPromise_38 : decode prog_5_method_7_code 38 = .ok (.aaload, 1) := by decide +kernel
theorem d_Pr_hearPromise_39 : decode prog_5_method_7_code 39 = .ok (.aload_n 1, 1) := by decide +kernel
theorem d_Pr_hearPromise_40 : decode prog_5_method_7_code 40 = .ok (.getfield 82, 3) := by decide +kernel
theorem d_Pr_hearPromise_43 : decode prog_5_method_7_code 43 = .ok (.invokevirtual 86, 3) := by decide +kernel
theorem d_Pr_hearPromise_46 : decode prog_5_method_7_code 46 = .ok (.aload_n 0, 1) := by decide +kernel
theorem d_Pr_hearPromise_47 : decode prog_5_method_7_code 47 = .ok (.dup, 1) := by decide +kernel
theorem d_Pr_hearPromise_48 : decode prog_5_method_7_code 48 = .ok (.getfield 48, 3) := by decide +kernel
theorem d_Pr_hearPromise_51 : decode prog_5_method_7_code 51 = .ok (.iconst 1, 1) := by decide +kernel
theorem d_Pr_hearPromise_52 : decode prog_5_method_7_code 52 = .ok (.aload_n 1, 1) := by decide +kernel
theorem d_Pr_hearPromise_53 : decode prog_5_method_7_code 53 = .ok (.getfield 75, 3) := by decide +kernel
theorem d_Pr_hearPromise_56 : decode prog_5_method_7_code 56 = .ok (.ishl, 1) := by decide +kernel
theorem d_Pr_hearPromise_57 : decode prog_5_method_7_code 57 = .ok (.ior, 1) := by decide +kernel
theorem d_Pr_hearPromise_58 : decode prog_5_method_7_code 58 = .ok (.putfield 48, 3) := by decide +kernel
theorem d_Pr_hearPromise_61 : decode prog_5_method_7_code 61 = .ok (.return_, 1) := by decide +kernel
theorem d_In_bitCount_0 : decode prog_17_method_49_code 0 = .ok (.iload_n 0, 1) := by decide +kernel
theorem d_In_bitCount_1 : decode prog_17_method_49_code 1 = .ok (.iload_n 0, 1) := by decide +kernel
theorem d_In_bitCount_2 : decode prog_17_method_49_code 2 = .ok (.iconst 1, 1) := by decide +kernel
theorem d_In_bitCount_3 : decode prog_17_method_49_code 3 = .ok (.iushr, 1) := by decide +kernel
theorem d_In_bitCount_4 : decode prog_17_method_49_code 4 = .ok (.ldc_w 265, 3) := by decide +kernel
theorem d_In_bitCount_7 : decode prog_17_method_49_code 7 = .ok (.iand, 1) := by decide +kernel
theorem d_In_bitCount_8 : decode prog_17_method_49_code 8 = .ok (.isub, 1) := by decide +kernel
theorem d_In_bitCount_9 : decode prog_17_method_49_code 9 = .ok (.istore_n 0, 1) := by decide +kernel
theorem d_In_bitCount_10 : decode prog_17_method_49_code 10 = .ok (.iload_n 0, 1) := by decide +kernel
theorem d_In_bitCount_11 : decode prog_17_method_49_code 11 = .ok (.ldc_w 266, 3) := by decide +kernel
theorem d_In_bitCount_14 : decode prog_17_method_49_code 14 = .ok (.iand, 1) := by decide +kernel
theorem d_In_bitCount_15 : decode prog_17_method_49_code 15 = .ok (.iload_n 0, 1) := by decide +kernel
theorem d_In_bitCount_16 : decode prog_17_method_49_code 16 = .ok (.iconst 2, 1) := by decide +kernel
theorem d_In_bitCount_17 : decode prog_17_method_49_code 17 = .ok (.iushr, 1) := by decide +kernel
theorem d_In_bitCount_18 : decode prog_17_method_49_code 18 = .ok (.ldc_w 266, 3) := by decide +kernel
theorem d_In_bitCount_21 : decode prog_17_method_49_code 21 = .ok (.iand, 1) := by decide +kernel
theorem d_In_bitCount_22 : decode prog_17_method_49_code 22 = .ok (.iadd, 1) := by decide +kernel
theorem d_In_bitCount_23 : decode prog_17_method_49_code 23 = .ok (.istore_n 0, 1) := by decide +kernel
theorem d_In_bitCount_24 : decode prog_17_method_49_code 24 = .ok (.iload_n 0, 1) := by decide +kernel
theorem d_In_bitCount_25 : decode prog_17_method_49_code 25 = .ok (.iload_n 0, 1) := by decide +kernel
theorem d_In_bitCount_26 : decode prog_17_method_49_code 26 = .ok (.iconst 4, 1) := by decide +kernel
theorem d_In_bitCount_27 : decode prog_17_method_49_code 27 = .ok (.iushr, 1) := by decide +kernel
theorem d_In_bitCount_28 : decode prog_17_method_49_code 28 = .ok (.iadd, 1) := by decide +kernel
theorem d_In_bitCount_29 : decode prog_17_method_49_code 29 = .ok (.ldc_w 267, 3) := by decide +kernel
theorem d_In_bitCount_32 : decode prog_17_method_49_code 32 = .ok (.iand, 1) := by decide +kernel
theorem d_In_bitCount_33 : decode prog_17_method_49_code 33 = .ok (.istore_n 0, 1) := by decide +kernel
theorem d_In_bitCount_34 : decode prog_17_method_49_code 34 = .ok (.iload_n 0, 1) := by decide +kernel
theorem d_In_bitCount_35 : decode prog_17_method_49_code 35 = .ok (.iload_n 0, 1) := by decide +kernel
theorem d_In_bitCount_36 : decode prog_17_method_49_code 36 = .ok (.bipush 8, 2) := by decide +kernel
theorem d_In_bitCount_38 : decode prog_17_method_49_code 38 = .ok (.iushr, 1) := by decide +kernel
theorem d_In_bitCount_39 : decode prog_17_method_49_code 39 = .ok (.iadd, 1) := by decide +kernel
theorem d_In_bitCount_40 : decode prog_17_method_49_code 40 = .ok (.istore_n 0, 1) := by decide +kernel
theorem d_In_bitCount_41 : decode prog_17_method_49_code 41 = .ok (.iload_n 0, 1) := by decide +kernel
theorem d_In_bitCount_42 : decode prog_17_method_49_code 42 = .ok (.iload_n 0, 1) := by decide +kernel
theorem d_In_bitCount_43 : decode prog_17_method_49_code 43 = .ok (.bipush 16, 2) := by decide +kernel
theorem d_In_bitCount_45 : decode prog_17_method_49_code 45 = .ok (.iushr, 1) := by decide +kernel
theorem d_In_bitCount_46 : decode prog_17_method_49_code 46 = .ok (.iadd, 1) := by decide +kernel
theorem d_In_bitCount_47 : decode prog_17_method_49_code 47 = .ok (.istore_n 0, 1) := by decide +kernel
theorem d_In_bitCount_48 : decode prog_17_method_49_code 48 = .ok (.iload_n 0, 1) := by decide +kernel
theorem d_In_bitCount_49 : decode prog_17_method_49_code 49 = .ok (.bipush 63, 2) := by decide +kernel
theorem d_In_bitCount_51 : decode prog_17_method_49_code 51 = .ok (.iand, 1) := by decide +kernel
theorem d_In_bitCount_52 : decode prog_17_method_49_code 52 = .ok (.ireturn, 1) := by decide +kernel
theorem d_Ho_lead_0 : decode prog_1_method_31_code 0 = .ok (.aload_n 1, 1) := by decide +kernel
theorem d_Ho_lead_1 : decode prog_1_method_31_code 1 = .ok (.iconst 2, 1) := by decide +kernel
theorem d_Ho_lead_2 : decode prog_1_method_31_code 2 = .ok (.putfield 94, 3) := by decide +kernel
theorem d_Ho_lead_5 : decode prog_1_method_31_code 5 = .ok (.iconst 0, 1) := by decide +kernel
theorem d_Ho_lead_6 : decode prog_1_method_31_code 6 = .ok (.istore_n 2, 1) := by decide +kernel
theorem d_Ho_lead_7 : decode prog_1_method_31_code 7 = .ok (.iload_n 2, 1) := by decide +kernel
theorem d_Ho_lead_8 : decode prog_1_method_31_code 8 = .ok (.bipush 8, 2) := by decide +kernel
theorem d_Ho_lead_10 : decode prog_1_method_31_code 10 = .ok (.if_icmp .ge 57, 3) := by decide +kernel
theorem d_Ho_lead_13 : decode prog_1_method_31_code 13 = .ok (.aload_n 1, 1) := by decide +kernel
theorem d_Ho_lead_14 : decode prog_1_method_31_code 14 = .ok (.getfield 165, 3) := by decide +kernel
theorem d_Ho_lead_17 : decode prog_1_method_31_code 17 = .ok (.iload_n 2, 1) := by decide +kernel
theorem d_Ho_lead_18 : decode prog_1_method_31_code 18 = .ok (.aaload, 1) := by decide +kernel
theorem d_Ho_lead_19 : decode prog_1_method_31_code 19 = .ok (.astore_n 3, 1) := by decide +kernel
theorem d_Ho_lead_20 : decode prog_1_method_31_code 20 = .ok (.aload_n 3, 1) := by decide +kernel
theorem d_Ho_lead_21 : decode prog_1_method_31_code 21 = .ok (.invokevirtual 292, 3) := by decide +kernel
theorem d_Ho_lead_24 : decode prog_1_method_31_code 24 = .ok (.ifCond .eq 37, 3) := by decide +kernel
theorem d_Ho_lead_27 : decode prog_1_method_31_code 27 = .ok (.aload_n 1, 1) := by decide +kernel
theorem d_Ho_lead_28 : decode prog_1_method_31_code 28 = .ok (.iload_n 2, 1) := by decide +kernel
theorem d_Ho_lead_29 : decode prog_1_method_31_code 29 = .ok (.aload_n 0, 1) := by decide +kernel
theorem d_Ho_lead_30 : decode prog_1_method_31_code 30 = .ok (.getfield 35, 3) := by decide +kernel
theorem d_Ho_lead_33 : decode prog_1_method_31_code 33 = .ok (.invokevirtual 295, 3) := by decide +kernel
theorem d_Ho_lead_36 : decode prog_1_method_31_code 36 = .ok (.ifCond .eq 25, 3) := by decide +kernel
theorem d_Ho_lead_39 : decode prog_1_method_31_code 39 = .ok (.aload_n 3, 1) := by decide +kernel
theorem d_Ho_lead_40 : decode prog_1_method_31_code 40 = .ok (.aload_n 0, 1) := by decide +kernel
theorem d_Ho_lead_41 : decode prog_1_method_31_code 41 = .ok (.getfield 35, 3) := by decide +kernel
theorem d_Ho_lead_44 : decode prog_1_method_31_code 44 = .ok (.getfield 299, 3) := by decide +kernel
theorem d_Ho_lead_47 : decode prog_1_method_31_code 47 = .ok (.invokevirtual 300, 3) := by decide +kernel
theorem d_Ho_lead_50 : decode prog_1_method_31_code 50 = .ok (.aload_n 0, 1) := by decide +kernel
theorem d_Ho_lead_51 : decode prog_1_method_31_code 51 = .ok (.getfield 35, 3) := by decide +kernel
theorem d_Ho_lead_54 : decode prog_1_method_31_code 54 = .ok (.aload_n 3, 1) := by decide +kernel
theorem d_Ho_lead_55 : decode prog_1_method_31_code 55 = .ok (.getfield 271, 3) := by decide +kernel
theorem d_Ho_lead_58 : decode prog_1_method_31_code 58 = .ok (.invokevirtual 186, 3) := by decide +kernel
theorem d_Ho_lead_61 : decode prog_1_method_31_code 61 = .ok (.iinc 2 1, 3) := by decide +kernel
theorem d_Ho_lead_64 : decode prog_1_method_31_code 64 = .ok (.goto (-57), 3) := by decide +kernel
theorem d_Ho_lead_67 : decode prog_1_method_31_code 67 = .ok (.aload_n 0, 1) := by decide +kernel
theorem d_Ho_lead_68 : decode prog_1_method_31_code 68 = .ok (.aload_n 1, 1) := by decide +kernel
theorem d_Ho_lead_69 : decode prog_1_method_31_code 69 = .ok (.invokevirtual 97, 3) := by decide +kernel
theorem d_Ho_lead_72 : decode prog_1_method_31_code 72 = .ok (.return_, 1) := by decide +kernel
theorem d_Pr_gatherFromPromises_0 : decode prog_5_method_9_code 0 = .ok (.iconst 0, 1) := by decide +kernel
theorem d_Pr_gatherFromPromises_1 : decode prog_5_method_9_code 1 = .ok (.istore_n 3, 1) := by decide +kernel
theorem d_Pr_gatherFromPromises_2 : decode prog_5_method_9_code 2 = .ok (.iload_n 3, 1) := by decide +kernel
theorem d_Pr_gatherFromPromises_3 : decode prog_5_method_9_code 3 = .ok (.bipush 7, 2) := by decide +kernel
theorem d_Pr_gatherFromPromises_5 : decode prog_5_method_9_code 5 = .ok (.if_icmp .ge 60, 3) := by decide +kernel
theorem d_Pr_gatherFromPromises_8 : decode prog_5_method_9_code 8 = .ok (.aload_n 0, 1) := by decide +kernel
theorem d_Pr_gatherFromPromises_9 : decode prog_5_method_9_code 9 = .ok (.iload_n 3, 1) := by decide +kernel
theorem d_Pr_gatherFromPromises_10 : decode prog_5_method_9_code 10 = .ok (.invokevirtual 78, 3) := by decide +kernel
theorem d_Pr_gatherFromPromises_13 : decode prog_5_method_9_code 13 = .ok (.ifCond .eq 46, 3) := by decide +kernel
theorem d_Pr_gatherFromPromises_16 : decode prog_5_method_9_code 16 = .ok (.aload_n 0, 1) := by decide +kernel
theorem d_Pr_gatherFromPromises_17 : decode prog_5_method_9_code 17 = .ok (.getfield 21, 3) := by decide +kernel
theorem d_Pr_gatherFromPromises_20 : decode prog_5_method_9_code 20 = .ok (.iload_n 3, 1) := by decide +kernel
theorem d_Pr_gatherFromPromises_21 : decode prog_5_method_9_code 21 = .ok (.aaload, 1) := by decide +kernel
theorem d_Pr_gatherFromPromises_22 : decode prog_5_method_9_code 22 = .ok (.iload_n 1, 1) := by decide +kernel
theorem d_Pr_gatherFromPromises_23 : decode prog_5_method_9_code 23 = .ok (.invokevirtual 100, 3) := by decide +kernel
theorem d_Pr_gatherFromPromises_26 : decode prog_5_method_9_code 26 = .ok (.ifCond .eq 33, 3) := by decide +kernel
theorem d_Pr_gatherFromPromises_29 : decode prog_5_method_9_code 29 = .ok (.aload_n 2, 1) := by decide +kernel
theorem d_Pr_gatherFromPromises_30 : decode prog_5_method_9_code 30 = .ok (.aload_n 0, 1) := by decide +kernel
theorem d_Pr_gatherFromPromises_31 : decode prog_5_method_9_code 31 = .ok (.getfield 21, 3) := by decide +kernel
theorem d_Pr_gatherFromPromises_34 : decode prog_5_method_9_code 34 = .ok (.iload_n 3, 1) := by decide +kernel
theorem d_Pr_gatherFromPromises_35 : decode prog_5_method_9_code 35 = .ok (.aaload, 1) := by decide +kernel
theorem d_Pr_gatherFromPromises_36 : decode prog_5_method_9_code 36 = .ok (.getfield 103, 3) := by decide +kernel
theorem d_Pr_gatherFromPromises_39 : decode prog_5_method_9_code 39 = .ok (.iload_n 1, 1) := by decide +kernel
theorem d_Pr_gatherFromPromises_40 : decode prog_5_method_9_code 40 = .ok (.iaload, 1) := by decide +kernel
theorem d_Pr_gatherFromPromises_41 : decode prog_5_method_9_code 41 = .ok (.invokevirtual 107, 3) := by decide +kernel
theorem d_Pr_gatherFromPromises_44 : decode prog_5_method_9_code 44 = .ok (.aload_n 0, 1) := by decide +kernel
theorem d_Pr_gatherFromPromises_45 : decode prog_5_method_9_code 45 = .ok (.iload_n 1, 1) := by decide +kernel
theorem d_Pr_gatherFromPromises_46 : decode prog_5_method_9_code 46 = .ok (.aload_n 2, 1) := by decide +kernel
theorem d_Pr_gatherFromPromises_47 : decode prog_5_method_9_code 47 = .ok (.invokevirtual 112, 3) := by decide +kernel
theorem d_Pr_gatherFromPromises_50 : decode prog_5_method_9_code 50 = .ok (.aload_n 2, 1) := by decide +kernel
theorem d_Pr_gatherFromPromises_51 : decode prog_5_method_9_code 51 = .ok (.invokevirtual 116, 3) := by decide +kernel
theorem d_Pr_gatherFromPromises_54 : decode prog_5_method_9_code 54 = .ok (.ifCond .eq 5, 3) := by decide +kernel
theorem d_Pr_gatherFromPromises_57 : decode prog_5_method_9_code 57 = .ok (.iconst 1, 1) := by decide +kernel
theorem d_Pr_gatherFromPromises_58 : decode prog_5_method_9_code 58 = .ok (.ireturn, 1) := by decide +kernel
theorem d_Pr_gatherFromPromises_59 : decode prog_5_method_9_code 59 = .ok (.iinc 3 1, 3) := by decide +kernel
theorem d_Pr_gatherFromPromises_62 : decode prog_5_method_9_code 62 = .ok (.goto (-60), 3) := by decide +kernel
theorem d_Pr_gatherFromPromises_65 : decode prog_5_method_9_code 65 = .ok (.iconst 0, 1) := by decide +kernel
theorem d_Pr_gatherFromPromises_66 : decode prog_5_method_9_code 66 = .ok (.ireturn, 1) := by decide +kernel
theorem d_Sh_has_0 : decode prog_8_method_2_code 0 = .ok (.aload_n 0, 1) := by decide +kernel
theorem d_Sh_has_1 : decode prog_8_method_2_code 1 = .ok (.getfield 15, 3) := by decide +kernel
theorem d_Sh_has_4 : decode prog_8_method_2_code 4 = .ok (.iload_n 1, 1) := by decide +kernel
theorem d_Sh_has_5 : decode prog_8_method_2_code 5 = .ok (.iaload, 1) := by decide +kernel
theorem d_Sh_has_6 : decode prog_8_method_2_code 6 = .ok (.ifCond .eq 7, 3) := by decide +kernel
theorem d_Sh_has_9 : decode prog_8_method_2_code 9 = .ok (.iconst 1, 1) := by decide +kernel
theorem d_Sh_has_10 : decode prog_8_method_2_code 10 = .ok (.goto 4, 3) := by decide +kernel
theorem d_Sh_has_13 : decode prog_8_method_2_code 13 = .ok (.iconst 0, 1) := by decide +kernel
theorem d_Sh_has_14 : decode prog_8_method_2_code 14 = .ok (.ireturn, 1) := by decide +kernel
theorem d_Ga_start_0 : decode prog_3_method_2_code 0 = .ok (.aload_n 0, 1) := by decide +kernel
theorem d_Ga_start_1 : decode prog_3_method_2_code 1 = .ok (.iload_n 1, 1) := by decide +kernel
theorem d_Ga_start_2 : decode prog_3_method_2_code 2 = .ok (.putfield 19, 3) := by decide +kernel
theorem d_Ga_start_5 : decode prog_3_method_2_code 5 = .ok (.aload_n 0, 1) := by decide +kernel
theorem d_Ga_start_6 : decode prog_3_method_2_code 6 = .ok (.iconst 0, 1) := by decide +kernel
theorem d_Ga_start_7 : decode prog_3_method_2_code 7 = .ok (.putfield 23, 3) := by decide +kernel
theorem d_Ga_start_10 : decode prog_3_method_2_code 10 = .ok (.aload_n 0, 1) := by decide +kernel
theorem d_Ga_start_11 : decode prog_3_method_2_code 11 = .ok (.iconst 0, 1) := by decide +kernel
theorem d_Ga_start_12 : decode prog_3_method_2_code 12 = .ok (.putfield 26, 3) := by decide +kernel
theorem d_Ga_start_15 : decode prog_3_method_2_code 15 = .ok (.return_, 1) := by decide +kernel
theorem d_Pr_addPromises_0 : decode prog_5_method_10_code 0 = .ok (.iconst 0, 1) := by decide +kernel
theorem d_Pr_addPromises_1 : decode prog_5_method_10_code 1 = .ok (.istore_n 3, 1) := by decide +kernel
theorem d_Pr_addPromises_2 : decode prog_5_method_10_code 2 = .ok (.iload_n 3, 1) := by decide +kernel
theorem d_Pr_addPromises_3 : decode prog_5_method_10_code 3 = .ok (.bipush 7, 2) := by decide +kernel
theorem d_Pr_addPromises_5 : decode prog_5_method_10_code 5 = .ok (.if_icmp .ge 29, 3) := by decide +kernel
theorem d_Pr_addPromises_8 : decode prog_5_method_10_code 8 = .ok (.aload_n 0, 1) := by decide +kernel
theorem d_Pr_addPromises_9 : decode prog_5_method_10_code 9 = .ok (.iload_n 3, 1) := by decide +kernel
theorem d_Pr_addPromises_10 : decode prog_5_method_10_code 10 = .ok (.invokevirtual 78, 3) := by decide +kernel
theorem d_Pr_addPromises_13 : decode prog_5_method_10_code 13 = .ok (.ifCond .eq 15, 3) := by decide +kernel
theorem d_Pr_addPromises_16 : decode prog_5_method_10_code 16 = .ok (.aload_n 2, 1) := by decide +kernel
theorem d_Pr_addPromises_17 : decode prog_5_method_10_code 17 = .ok (.iload_n 3, 1) := by decide +kernel
theorem d_Pr_addPromises_18 : decode prog_5_method_10_code 18 = .ok (.aload_n 0, 1) := by decide +kernel
theorem d_Pr_addPromises_19 : decode prog_5_method_10_code 19 = .ok (.getfield 21, 3) := by decide +kernel
theorem d_Pr_addPromises_22 : decode prog_5_method_10_code 22 = .ok (.iload_n 3, 1) := by decide +kernel
theorem d_Pr_addPromises_23 : decode prog_5_method_10_code 23 = .ok (.aaload, 1) := by decide +kernel
theorem d_Pr_addPromises_24 : decode prog_5_method_10_code 24 = .ok (.iload_n 1, 1) := by decide +kernel
theorem d_Pr_addPromises_25 : decode prog_5_method_10_code 25 = .ok (.invokevirtual 119, 3) := by decide +kernel
theorem d_Pr_addPromises_28 : decode prog_5_method_10_code 28 = .ok (.iinc 3 1, 3) := by decide +kernel
theorem d_Pr_addPromises_31 : decode prog_5_method_10_code 31 = .ok (.goto (-29), 3) := by decide +kernel
theorem d_Pr_addPromises_34 : decode prog_5_method_10_code 34 = .ok (.return_, 1) := by decide +kernel
theorem d_Ga_addIfOfIt_0 : decode prog_3_method_3_code 0 = .ok (.aload_n 0, 1) := by decide +kernel
theorem d_Ga_addIfOfIt_1 : decode prog_3_method_3_code 1 = .ok (.getfield 26, 3) := by decide +kernel
theorem d_Ga_addIfOfIt_4 : decode prog_3_method_3_code 4 = .ok (.iconst 3, 1) := by decide +kernel
theorem d_Ga_addIfOfIt_5 : decode prog_3_method_3_code 5 = .ok (.if_icmp .ge 72, 3) := by decide +kernel
theorem d_Ga_addIfOfIt_8 : decode prog_3_method_3_code 8 = .ok (.aload_n 2, 1) := by decide +kernel
theorem d_Ga_addIfOfIt_9 : decode prog_3_method_3_code 9 = .ok (.iload_n 3, 1) := by decide +kernel
theorem d_Ga_addIfOfIt_10 : decode prog_3_method_3_code 10 = .ok (.invokevirtual 29, 3) := by decide +kernel
theorem d_Ga_addIfOfIt_13 : decode prog_3_method_3_code 13 = .ok (.ifCond .eq 64, 3) := by decide +kernel
theorem d_Ga_addIfOfIt_16 : decode prog_3_method_3_code 16 = .ok (.aload_n 2, 1) := by decide +kernel
theorem d_Ga_addIfOfIt_17 : decode prog_3_method_3_code 17 = .ok (.getfield 35, 3) := by decide +kernel
theorem d_Ga_addIfOfIt_20 : decode prog_3_method_3_code 20 = .ok (.iload_n 3, 1) := by decide +kernel
theorem d_Ga_addIfOfIt_21 : decode prog_3_method_3_code 21 = .ok (.iaload, 1) := by decide +kernel
theorem d_Ga_addIfOfIt_22 : decode prog_3_method_3_code 22 = .ok (.aload_n 0, 1) := by decide +kernel
theorem d_Ga_addIfOfIt_23 : decode prog_3_method_3_code 23 = .ok (.getfield 19, 3) := by decide +kernel
theorem d_Ga_addIfOfIt_26 : decode prog_3_method_3_code 26 = .ok (.if_icmp .ne 51, 3) := by decide +kernel
theorem d_Ga_addIfOfIt_29 : decode prog_3_method_3_code 29 = .ok (.aload_n 0, 1) := by decide +kernel
theorem d_Ga_addIfOfIt_30 : decode prog_3_method_3_code 30 = .ok (.aload_n 2, 1) := by decide +kernel
theorem d_Ga_addIfOfIt_31 : decode prog_3_method_3_code 31 = .ok (.getfield 38, 3) := by decide +kernel
theorem d_Ga_addIfOfIt_34 : decode prog_3_method_3_code 34 = .ok (.iload_n 3, 1) := by decide +kernel
theorem d_Ga_addIfOfIt_35 : decode prog_3_method_3_code 35 = .ok (.iaload, 1) := by decide +kernel
theorem d_Ga_addIfOfIt_36 : decode prog_3_method_3_code 36 = .ok (.putfield 23, 3) := by decide +kernel
theorem d_Ga_addIfOfIt_39 : decode prog_3_method_3_code 39 = .ok (.aload_n 0, 1) := by decide +kernel
theorem d_Ga_addIfOfIt_40 : decode prog_3_method_3_code 40 = .ok (.getfield 9, 3) := by decide +kernel
theorem d_Ga_addIfOfIt_43 : decode prog_3_method_3_code 43 = .ok (.aload_n 0, 1) := by decide +kernel
theorem d_Ga_addIfOfIt_44 : decode prog_3_method_3_code 44 = .ok (.getfield 26, 3) := by decide +kernel
theorem d_Ga_addIfOfIt_47 : decode prog_3_method_3_code 47 = .ok (.iload_n 1, 1) := by decide +kernel
theorem d_Ga_addIfOfIt_48 : decode prog_3_method_3_code 48 = .ok (.invokestatic 41, 3) := by decide +kernel
theorem d_Ga_addIfOfIt_51 : decode prog_3_method_3_code 51 = .ok (.iastore, 1) := by decide +kernel
theorem d_Ga_addIfOfIt_52 : decode prog_3_method_3_code 52 = .ok (.aload_n 0, 1) := by decide +kernel
theorem d_Ga_addIfOfIt_53 : decode prog_3_method_3_code 53 = .ok (.getfield 15, 3) := by decide +kernel
theorem d_Ga_addIfOfIt_56 : decode prog_3_method_3_code 56 = .ok (.aload_n 0, 1) := by decide +kernel
theorem d_Ga_addIfOfIt_57 : decode prog_3_method_3_code 57 = .ok (.getfield 26, 3) := by decide +kernel
theorem d_Ga_addIfOfIt_60 : decode prog_3_method_3_code 60 = .ok (.aload_n 2, 1) := by decide +kernel
theorem d_Ga_addIfOfIt_61 : decode prog_3_method_3_code 61 = .ok (.getfield 47, 3) := by decide +kernel
theorem d_Ga_addIfOfIt_64 : decode prog_3_method_3_code 64 = .ok (.iload_n 3, 1) := by decide +kernel
theorem d_Ga_addIfOfIt_65 : decode prog_3_method_3_code 65 = .ok (.laload, 1) := by decide +kernel
theorem d_Ga_addIfOfIt_66 : decode prog_3_method_3_code 66 = .ok (.lastore, 1) := by decide +kernel
theorem d_Ga_addIfOfIt_67 : decode prog_3_method_3_code 67 = .ok (.aload_n 0, 1) := by decide +kernel
theorem d_Ga_addIfOfIt_68 : decode prog_3_method_3_code 68 = .ok (.dup, 1) := by decide +kernel
theorem d_Ga_addIfOfIt_69 : decode prog_3_method_3_code 69 = .ok (.getfield 26, 3) := by decide +kernel
theorem d_Ga_addIfOfIt_72 : decode prog_3_method_3_code 72 = .ok (.iconst 1, 1) := by decide +kernel
theorem d_Ga_addIfOfIt_73 : decode prog_3_method_3_code 73 = .ok (.iadd, 1) := by decide +kernel
theorem d_Ga_addIfOfIt_74 : decode prog_3_method_3_code 74 = .ok (.putfield 26, 3) := by decide +kernel
theorem d_Ga_addIfOfIt_77 : decode prog_3_method_3_code 77 = .ok (.return_, 1) := by decide +kernel
theorem d_Ga_isEnough_0 : decode prog_3_method_4_code 0 = .ok (.aload_n 0, 1) := by decide +kernel
theorem d_Ga_isEnough_1 : decode prog_3_method_4_code 1 = .ok (.getfield 26, 3) := by decide +kernel
theorem d_Ga_isEnough_4 : decode prog_3_method_4_code 4 = .ok (.iconst 3, 1) := by decide +kernel
theorem d_Ga_isEnough_5 : decode prog_3_method_4_code 5 = .ok (.if_icmp .ne 7, 3) := by decide +kernel
theorem d_Ga_isEnough_8 : decode prog_3_method_4_code 8 = .ok (.iconst 1, 1) := by decide +kernel
theorem d_Ga_isEnough_9 : decode prog_3_method_4_code 9 = .ok (.goto 4, 3) := by decide +kernel
theorem d_Ga_isEnough_12 : decode prog_3_method_4_code 12 = .ok (.iconst 0, 1) := by decide +kernel
theorem d_Ga_isEnough_13 : decode prog_3_method_4_code 13 = .ok (.ireturn, 1) := by decide +kernel
theorem d_Ga_putTogether_0 : decode prog_3_method_5_code 0 = .ok (.aload_n 1, 1) := by decide +kernel
theorem d_Ga_putTogether_1 : decode prog_3_method_5_code 1 = .ok (.aload_n 0, 1) := by decide +kernel
theorem d_Ga_putTogether_2 : decode prog_3_method_5_code 2 = .ok (.getfield 23, 3) := by decide +kernel
theorem d_Ga_putTogether_5 : decode prog_3_method_5_code 5 = .ok (.putfield 48, 3) := by decide +kernel
theorem d_Ga_putTogether_8 : decode prog_3_method_5_code 8 = .ok (.aload_n 1, 1) := by decide +kernel
theorem d_Ga_putTogether_9 : decode prog_3_method_5_code 9 = .ok (.invokevirtual 49, 3) := by decide +kernel
theorem d_Ga_putTogether_12 : decode prog_3_method_5_code 12 = .ok (.iconst 0, 1) := by decide +kernel
theorem d_Ga_putTogether_13 : decode prog_3_method_5_code 13 = .ok (.istore_n 2, 1) := by decide +kernel
theorem d_Ga_putTogether_14 : decode prog_3_method_5_code 14 = .ok (.iload_n 2, 1) := by decide +kernel
theorem d_Ga_putTogether_15 : decode prog_3_method_5_code 15 = .ok (.iconst 3, 1) := by decide +kernel
theorem d_Ga_putTogether_16 : decode prog_3_method_5_code 16 = .ok (.if_icmp .ge 45, 3) := by decide +kernel
theorem d_Ga_putTogether_19 : decode prog_3_method_5_code 19 = .ok (.aload_n 1, 1) := by decide +kernel
theorem d_Ga_putTogether_20 : decode prog_3_method_5_code 20 = .ok (.aload_n 0, 1) := by decide +kernel
theorem d_Ga_putTogether_21 : decode prog_3_method_5_code 21 = .ok (.getfield 15, 3) := by decide +kernel
theorem d_Ga_putTogether_24 : decode prog_3_method_5_code 24 = .ok (.iload_n 2, 1) := by decide +kernel
theorem d_Ga_putTogether_25 : decode prog_3_method_5_code 25 = .ok (.laload, 1) := by decide +kernel
theorem d_Ga_putTogether_26 : decode prog_3_method_5_code 26 = .ok (.aload_n 0, 1) := by decide +kernel
theorem d_Ga_putTogether_27 : decode prog_3_method_5_code 27 = .ok (.getfield 9, 3) := by decide +kernel
theorem d_Ga_putTogether_30 : decode prog_3_method_5_code 30 = .ok (.iload_n 2, 1) := by decide +kernel
theorem d_Ga_putTogether_31 : decode prog_3_method_5_code 31 = .ok (.iaload, 1) := by decide +kernel
theorem d_Ga_putTogether_32 : decode prog_3_method_5_code 32 = .ok (.aload_n 0, 1) := by decide +kernel
theorem d_Ga_putTogether_33 : decode prog_3_method_5_code 33 = .ok (.getfield 9, 3) := by decide +kernel
theorem d_Ga_putTogether_36 : decode prog_3_method_5_code 36 = .ok (.iload_n 2, 1) := by decide +kernel
theorem d_Ga_putTogether_37 : decode prog_3_method_5_code 37 = .ok (.iconst 1, 1) := by decide +kernel
theorem d_Ga_putTogether_38 : decode prog_3_method_5_code 38 = .ok (.iadd, 1) := by decide +kernel
theorem d_Ga_putTogether_39 : decode prog_3_method_5_code 39 = .ok (.iconst 3, 1) := by decide +kernel
theorem d_Ga_putTogether_40 : decode prog_3_method_5_code 40 = .ok (.irem, 1) := by decide +kernel
theorem d_Ga_putTogether_41 : decode prog_3_method_5_code 41 = .ok (.iaload, 1) := by decide +kernel
theorem d_Ga_putTogether_42 : decode prog_3_method_5_code 42 = .ok (.aload_n 0, 1) := by decide +kernel
theorem d_Ga_putTogether_43 : decode prog_3_method_5_code 43 = .ok (.getfield 9, 3) := by decide +kernel
theorem d_Ga_putTogether_46 : decode prog_3_method_5_code 46 = .ok (.iload_n 2, 1) := by decide +kernel
theorem d_Ga_putTogether_47 : decode prog_3_method_5_code 47 = .ok (.iconst 2, 1) := by decide +kernel
theorem d_Ga_putTogether_48 : decode prog_3_method_5_code 48 = .ok (.iadd, 1) := by decide +kernel
theorem d_Ga_putTogether_49 : decode prog_3_method_5_code 49 = .ok (.iconst 3, 1) := by decide +kernel
theorem d_Ga_putTogether_50 : decode prog_3_method_5_code 50 = .ok (.irem, 1) := by decide +kernel
theorem d_Ga_putTogether_51 : decode prog_3_method_5_code 51 = .ok (.iaload, 1) := by decide +kernel
theorem d_Ga_putTogether_52 : decode prog_3_method_5_code 52 = .ok (.invokevirtual 52, 3) := by decide +kernel
theorem d_Ga_putTogether_55 : decode prog_3_method_5_code 55 = .ok (.iinc 2 1, 3) := by decide +kernel
theorem d_Ga_putTogether_58 : decode prog_3_method_5_code 58 = .ok (.goto (-44), 3) := by decide +kernel
theorem d_Ga_putTogether_61 : decode prog_3_method_5_code 61 = .ok (.return_, 1) := by decide +kernel
theorem d_Re_addShare_0 : decode prog_6_method_8_code 0 = .ok (.lload_n 1, 1) := by decide +kernel
theorem d_Re_addShare_1 : decode prog_6_method_8_code 1 = .ok (.iload_n 3, 1) := by decide +kernel
theorem d_Re_addShare_2 : decode prog_6_method_8_code 2 = .ok (.iload 4, 2) := by decide +kernel
theorem d_Re_addShare_4 : decode prog_6_method_8_code 4 = .ok (.invokestatic 43, 3) := by decide +kernel
theorem d_Re_addShare_7 : decode prog_6_method_8_code 7 = .ok (.iload_n 3, 1) := by decide +kernel
theorem d_Re_addShare_8 : decode prog_6_method_8_code 8 = .ok (.iload 5, 2) := by decide +kernel
theorem d_Re_addShare_10 : decode prog_6_method_8_code 10 = .ok (.invokestatic 43, 3) := by decide +kernel
theorem d_Re_addShare_13 : decode prog_6_method_8_code 13 = .ok (.lstore 6, 2) := by decide +kernel
theorem d_Re_addShare_15 : decode prog_6_method_8_code 15 = .ok (.aload_n 0, 1) := by decide +kernel
theorem d_Re_addShare_16 : decode prog_6_method_8_code 16 = .ok (.getfield 9, 3) := by decide +kernel
theorem d_Re_addShare_19 : decode prog_6_method_8_code 19 = .ok (.iconst 0, 1) := by decide +kernel
theorem d_Re_addShare_20 : decode prog_6_method_8_code 20 = .ok (.dup2, 1) := by decide +kernel
theorem d_Re_addShare_21 : decode prog_6_method_8_code 21 = .ok (.laload, 1) := by decide +kernel
theorem d_Re_addShare_22 : decode prog_6_method_8_code 22 = .ok (.lload 6, 2) := by decide +kernel
theorem d_Re_addShare_24 : decode prog_6_method_8_code 24 = .ok (.iload 4, 2) := by decide +kernel
theorem d_Re_addShare_26 : decode prog_6_method_8_code 26 = .ok (.invokestatic 37, 3) := by decide +kernel
theorem d_Re_addShare_29 : decode prog_6_method_8_code 29 = .ok (.iload 5, 2) := by decide +kernel
theorem d_Re_addShare_31 : decode prog_6_method_8_code 31 = .ok (.invokestatic 37, 3) := by decide +kernel
theorem d_Re_addShare_34 : decode prog_6_method_8_code 34 = .ok (.lxor, 1) := by decide +kernel
theorem d_Re_addShare_35 : decode prog_6_method_8_code 35 = .ok (.lastore, 1) := by decide +kernel
theorem d_Re_addShare_36 : decode prog_6_method_8_code 36 = .ok (.aload_n 0, 1) := by decide +kernel
theorem d_Re_addShare_37 : decode prog_6_method_8_code 37 = .ok (.getfield 9, 3) := by decide +kernel
theorem d_Re_addShare_40 : decode prog_6_method_8_code 40 = .ok (.iconst 1, 1) := by decide +kernel
theorem d_Re_addShare_41 : decode prog_6_method_8_code 41 = .ok (.dup2, 1) := by decide +kernel
theorem d_Re_addShare_42 : decode prog_6_method_8_code 42 = .ok (.laload, 1) := by decide +kernel
theorem d_Re_addShare_43 : decode prog_6_method_8_code 43 = .ok (.lload 6, 2) := by decide +kernel
theorem d_Re_addShare_45 : decode prog_6_method_8_code 45 = .ok (.iload 4, 2) := by decide +kernel
theorem d_Re_addShare_47 : decode prog_6_method_8_code 47 = .ok (.iload 5, 2) := by decide +kernel
theorem d_Re_addShare_49 : decode prog_6_method_8_code 49 = .ok (.ixor, 1) := by decide +kernel
theorem d_Re_addShare_50 : decode prog_6_method_8_code 50 = .ok (.invokestatic 37, 3) := by decide +kernel
theorem d_Re_addShare_53 : decode prog_6_method_8_code 53 = .ok (.lxor, 1) := by decide +kernel
theorem d_Re_addShare_54 : decode prog_6_method_8_code 54 = .ok (.lastore, 1) := by decide +kernel
theorem d_Re_addShare_55 : decode prog_6_method_8_code 55 = .ok (.aload_n 0, 1) := by decide +kernel
theorem d_Re_addShare_56 : decode prog_6_method_8_code 56 = .ok (.getfield 9, 3) := by decide +kernel
theorem d_Re_addShare_59 : decode prog_6_method_8_code 59 = .ok (.iconst 2, 1) := by decide +kernel
theorem d_Re_addShare_60 : decode prog_6_method_8_code 60 = .ok (.dup2, 1) := by decide +kernel
theorem d_Re_addShare_61 : decode prog_6_method_8_code 61 = .ok (.laload, 1) := by decide +kernel
theorem d_Re_addShare_62 : decode prog_6_method_8_code 62 = .ok (.lload 6, 2) := by decide +kernel
theorem d_Re_addShare_64 : decode prog_6_method_8_code 64 = .ok (.lxor, 1) := by decide +kernel
theorem d_Re_addShare_65 : decode prog_6_method_8_code 65 = .ok (.lastore, 1) := by decide +kernel
theorem d_Re_addShare_66 : decode prog_6_method_8_code 66 = .ok (.return_, 1) := by decide +kernel
theorem d_Fi_overSum_0 : decode prog_2_method_3_code 0 = .ok (.lload_n 0, 1) := by decide +kernel
theorem d_Fi_overSum_1 : decode prog_2_method_3_code 1 = .ok (.getstatic 15, 3) := by decide +kernel
theorem d_Fi_overSum_4 : decode prog_2_method_3_code 4 = .ok (.iload_n 2, 1) := by decide +kernel
theorem d_Fi_overSum_5 : decode prog_2_method_3_code 5 = .ok (.iload_n 3, 1) := by decide +kernel
theorem d_Fi_overSum_6 : decode prog_2_method_3_code 6 = .ok (.ixor, 1) := by decide +kernel
theorem d_Fi_overSum_7 : decode prog_2_method_3_code 7 = .ok (.bipush 7, 2) := by decide +kernel
theorem d_Fi_overSum_9 : decode prog_2_method_3_code 9 = .ok (.iand, 1) := by decide +kernel
theorem d_Fi_overSum_10 : decode prog_2_method_3_code 10 = .ok (.iaload, 1) := by decide +kernel
theorem d_Fi_overSum_11 : decode prog_2_method_3_code 11 = .ok (.invokestatic 19, 3) := by decide +kernel
theorem d_Fi_overSum_14 : decode prog_2_method_3_code 14 = .ok (.lreturn, 1) := by decide +kernel
theorem d_Ho_bringAccept_0 : decode prog_1_method_32_code 0 = .ok (.aload_n 0, 1) := by decide +kernel
theorem d_Ho_bringAccept_1 : decode prog_1_method_32_code 1 = .ok (.getfield 11, 3) := by decide +kernel
theorem d_Ho_bringAccept_4 : decode prog_1_method_32_code 4 = .ok (.aload_n 1, 1) := by decide +kernel
theorem d_Ho_bringAccept_5 : decode prog_1_method_32_code 5 = .ok (.getfield 139, 3) := by decide +kernel
theorem d_Ho_bringAccept_8 : decode prog_1_method_32_code 8 = .ok (.aaload, 1) := by decide +kernel
theorem d_Ho_bringAccept_9 : decode prog_1_method_32_code 9 = .ok (.astore_n 2, 1) := by decide +kernel
theorem d_Ho_bringAccept_10 : decode prog_1_method_32_code 10 = .ok (.aload_n 2, 1) := by decide +kernel
theorem d_Ho_bringAccept_11 : decode prog_1_method_32_code 11 = .ok (.aload_n 1, 1) := by decide +kernel
theorem d_Ho_bringAccept_12 : decode prog_1_method_32_code 12 = .ok (.getfield 142, 3) := by decide +kernel
theorem d_Ho_bringAccept_15 : decode prog_1_method_32_code 15 = .ok (.invokevirtual 279, 3) := by decide +kernel
theorem d_Ho_bringAccept_18 : decode prog_1_method_32_code 18 = .ok (.ifCond .eq 75, 3) := by decide +kernel
theorem d_Ho_bringAccept_21 : decode prog_1_method_32_code 21 = .ok (.aload_n 2, 1) := by decide +kernel
theorem d_Ho_bringAccept_22 : decode prog_1_method_32_code 22 = .ok (.aload_n 1, 1) := by decide +kernel
theorem d_Ho_bringAccept_23 : decode prog_1_method_32_code 23 = .ok (.getfield 142, 3) := by decide +kernel
theorem d_Ho_bringAccept_26 : decode prog_1_method_32_code 26 = .ok (.putfield 222, 3) := by decide +kernel
theorem d_Ho_bringAccept_29 : decode prog_1_method_32_code 29 = .ok (.aload_n 2, 1) := by decide +kernel
theorem d_Ho_bringAccept_30 : decode prog_1_method_32_code 30 = .ok (.getfield 174, 3) := by decide +kernel
theorem d_Ho_bringAccept_33 : decode prog_1_method_32_code 33 = .ok (.aload_n 1, 1) := by decide +kernel
theorem d_Ho_bringAccept_34 : decode prog_1_method_32_code 34 = .ok (.getfield 143, 3) := by decide +kernel
theorem d_Ho_bringAccept_37 : decode prog_1_method_32_code 37 = .ok (.aload_n 1, 1) := by decide +kernel
theorem d_Ho_bringAccept_38 : decode prog_1_method_32_code 38 = .ok (.getfield 142, 3) := by decide +kernel
theorem d_Ho_bringAccept_41 : decode prog_1_method_32_code 41 = .ok (.aload_n 1, 1) := by decide +kernel
theorem d_Ho_bringAccept_42 : decode prog_1_method_32_code 42 = .ok (.getfield 146, 3) := by decide +kernel
theorem d_Ho_bringAccept_45 : decode prog_1_method_32_code 45 = .ok (.aload_n 1, 1) := by decide +kernel
theorem d_Ho_bringAccept_46 : decode prog_1_method_32_code 46 = .ok (.getfield 274, 3) := by decide +kernel
theorem d_Ho_bringAccept_49 : decode prog_1_method_32_code 49 = .ok (.aload_n 1, 1) := by decide +kernel
theorem d_Ho_bringAccept_50 : decode prog_1_method_32_code 50 = .ok (.getfield 275, 3) := by decide +kernel
theorem d_Ho_bringAccept_53 : decode prog_1_method_32_code 53 = .ok (.invokevirtual 197, 3) := by decide +kernel
theorem d_Ho_bringAccept_56 : decode prog_1_method_32_code 56 = .ok (.aload_n 0, 1) := by decide +kernel
theorem d_Ho_bringAccept_57 : decode prog_1_method_32_code 57 = .ok (.getfield 28, 3) := by decide +kernel
theorem d_Ho_bringAccept_60 : decode prog_1_method_32_code 60 = .ok (.iconst 3, 1) := by decide +kernel
theorem d_Ho_bringAccept_61 : decode prog_1_method_32_code 61 = .ok (.aload_n 1, 1) := by decide +kernel
theorem d_Ho_bringAccept_62 : decode prog_1_method_32_code 62 = .ok (.getfield 139, 3) := by decide +kernel
theorem d_Ho_bringAccept_65 : decode prog_1_method_32_code 65 = .ok (.aload_n 1, 1) := by decide +kernel
theorem d_Ho_bringAccept_66 : decode prog_1_method_32_code 66 = .ok (.getfield 122, 3) := by decide +kernel
theorem d_Ho_bringAccept_69 : decode prog_1_method_32_code 69 = .ok (.aload_n 1, 1) := by decide +kernel
theorem d_Ho_bringAccept_70 : decode prog_1_method_32_code 70 = .ok (.getfield 142, 3) := by decide +kernel
theorem d_Ho_bringAccept_73 : decode prog_1_method_32_code 73 = .ok (.invokevirtual 253, 3) := by decide +kernel
theorem d_Ho_bringAccept_76 : decode prog_1_method_32_code 76 = .ok (.astore_n 3, 1) := by decide +kernel
theorem d_Ho_bringAccept_77 : decode prog_1_method_32_code 77 = .ok (.aload_n 3, 1) := by decide +kernel
theorem d_Ho_bringAccept_78 : decode prog_1_method_32_code 78 = .ok (.ifnull 15, 3) := by decide +kernel
theorem d_Ho_bringAccept_81 : decode prog_1_method_32_code 81 = .ok (.aload_n 3, 1) := by decide +kernel
theorem d_Ho_bringAccept_82 : decode prog_1_method_32_code 82 = .ok (.aload_n 1, 1) := by decide +kernel
theorem d_Ho_bringAccept_83 : decode prog_1_method_32_code 83 = .ok (.getfield 143, 3) := by decide +kernel
theorem d_Ho_bringAccept_86 : decode prog_1_method_32_code 86 = .ok (.aload_n 1, 1) := by decide +kernel
theorem d_Ho_bringAccept_87 : decode prog_1_method_32_code 87 = .ok (.getfield 146, 3) := by decide +kernel
theorem d_Ho_bringAccept_90 : decode prog_1_method_32_code 90 = .ok (.invokevirtual 267, 3) := by decide +kernel
theorem d_Ho_bringAccept_93 : decode prog_1_method_32_code 93 = .ok (.return_, 1) := by decide +kernel
theorem d_Pr_hearAccepted_0 : decode prog_5_method_8_code 0 = .ok (.aload_n 0, 1) := by decide +kernel
theorem d_Pr_hearAccepted_1 : decode prog_5_method_8_code 1 = .ok (.getfield 9, 3) := by decide +kernel
theorem d_Pr_hearAccepted_4 : decode prog_5_method_8_code 4 = .ok (.iconst 2, 1) := by decide +kernel
theorem d_Pr_hearAccepted_5 : decode prog_5_method_8_code 5 = .ok (.if_icmp .ne 34, 3) := by decide +kernel
theorem d_Pr_hearAccepted_8 : decode prog_5_method_8_code 8 = .ok (.aload_n 1, 1) := by decide +kernel
theorem d_Pr_hearAccepted_9 : decode prog_5_method_8_code 9 = .ok (.getfield 72, 3) := by decide +kernel
theorem d_Pr_hearAccepted_12 : decode prog_5_method_8_code 12 = .ok (.aload_n 0, 1) := by decide +kernel
theorem d_Pr_hearAccepted_13 : decode prog_5_method_8_code 13 = .ok (.getfield 39, 3) := by decide +kernel
theorem d_Pr_hearAccepted_16 : decode prog_5_method_8_code 16 = .ok (.if_icmp .ne 23, 3) := by decide +kernel
theorem d_Pr_hearAccepted_19 : decode prog_5_method_8_code 19 = .ok (.aload_n 0, 1) := by decide +kernel
theorem d_Pr_hearAccepted_20 : decode prog_5_method_8_code 20 = .ok (.getfield 27, 3) := by decide +kernel
theorem d_Pr_hearAccepted_23 : decode prog_5_method_8_code 23 = .ok (.aload_n 1, 1) := by decide +kernel
theorem d_Pr_hearAccepted_24 : decode prog_5_method_8_code 24 = .ok (.getfield 90, 3) := by decide +kernel
theorem d_Pr_hearAccepted_27 : decode prog_5_method_8_code 27 = .ok (.aaload, 1) := by decide +kernel
theorem d_Pr_hearAccepted_28 : decode prog_5_method_8_code 28 = .ok (.aload_n 1, 1) := by decide +kernel
theorem d_Pr_hearAccepted_29 : decode prog_5_method_8_code 29 = .ok (.getfield 75, 3) := by decide +kernel
theorem d_Pr_hearAccepted_32 : decode prog_5_method_8_code 32 = .ok (.aload_n 1, 1) := by decide +kernel
theorem d_Pr_hearAccepted_33 : decode prog_5_method_8_code 33 = .ok (.getfield 93, 3) := by decide +kernel
theorem d_Pr_hearAccepted_36 : decode prog_5_method_8_code 36 = .ok (.invokevirtual 96, 3) := by decide +kernel
theorem d_Pr_hearAccepted_39 : decode prog_5_method_8_code 39 = .ok (.return_, 1) := by decide +kernel
theorem d_Sp_hearAnswer_0 : decode prog_9_method_7_code 0 = .ok (.aload_n 0, 1) := by decide +kernel
theorem d_Sp_hearAnswer_1 : decode prog_9_method_7_code 1 = .ok (.invokevirtual 32, 3) := by decide +kernel
theorem d_Sp_hearAnswer_4 : decode prog_9_method_7_code 4 = .ok (.ifCond .eq 11, 3) := by decide +kernel
theorem d_Sp_hearAnswer_7 : decode prog_9_method_7_code 7 = .ok (.iload_n 2, 1) := by decide +kernel
theorem d_Sp_hearAnswer_8 : decode prog_9_method_7_code 8 = .ok (.aload_n 0, 1) := by decide +kernel
theorem d_Sp_hearAnswer_9 : decode prog_9_method_7_code 9 = .ok (.getfield 22, 3) := by decide +kernel
theorem d_Sp_hearAnswer_12 : decode prog_9_method_7_code 12 = .ok (.if_icmp .eq 4, 3) := by decide +kernel
theorem d_Sp_hearAnswer_15 : decode prog_9_method_7_code 15 = .ok (.return_, 1) := by decide +kernel
theorem d_Sp_hearAnswer_16 : decode prog_9_method_7_code 16 = .ok (.aload_n 0, 1) := by decide +kernel
theorem d_Sp_hearAnswer_17 : decode prog_9_method_7_code 17 = .ok (.dup, 1) := by decide +kernel
theorem d_Sp_hearAnswer_18 : decode prog_9_method_7_code 18 = .ok (.getfield 25, 3) := by decide +kernel
theorem d_Sp_hearAnswer_21 : decode prog_9_method_7_code 21 = .ok (.iconst 1, 1) := by decide +kernel
theorem d_Sp_hearAnswer_22 : decode prog_9_method_7_code 22 = .ok (.iload_n 1, 1) := by decide +kernel
theorem d_Sp_hearAnswer_23 : decode prog_9_method_7_code 23 = .ok (.ishl, 1) := by decide +kernel
theorem d_Sp_hearAnswer_24 : decode prog_9_method_7_code 24 = .ok (.ior, 1) := by decide +kernel
theorem d_Sp_hearAnswer_25 : decode prog_9_method_7_code 25 = .ok (.putfield 25, 3) := by decide +kernel
theorem d_Sp_hearAnswer_28 : decode prog_9_method_7_code 28 = .ok (.aload_n 0, 1) := by decide +kernel
theorem d_Sp_hearAnswer_29 : decode prog_9_method_7_code 29 = .ok (.getfield 25, 3) := by decide +kernel
theorem d_Sp_hearAnswer_32 : decode prog_9_method_7_code 32 = .ok (.invokestatic 36, 3) := by decide +kernel
theorem d_Sp_hearAnswer_35 : decode prog_9_method_7_code 35 = .ok (.iconst 5, 1) := by decide +kernel
theorem d_Sp_hearAnswer_36 : decode prog_9_method_7_code 36 = .ok (.if_icmp .lt 15, 3) := by decide +kernel
theorem d_Sp_hearAnswer_39 : decode prog_9_method_7_code 39 = .ok (.aload_n 0, 1) := by decide +kernel
theorem d_Sp_hearAnswer_40 : decode prog_9_method_7_code 40 = .ok (.aload_n 0, 1) := by decide +kernel
theorem d_Sp_hearAnswer_41 : decode prog_9_method_7_code 41 = .ok (.getfield 22, 3) := by decide +kernel
theorem d_Sp_hearAnswer_44 : decode prog_9_method_7_code 44 = .ok (.putfield 18, 3) := by decide +kernel
theorem d_Sp_hearAnswer_47 : decode prog_9_method_7_code 47 = .ok (.aload_n 0, 1) := by decide +kernel
theorem d_Sp_hearAnswer_48 : decode prog_9_method_7_code 48 = .ok (.invokevirtual 42, 3) := by decide +kernel
theorem d_Sp_hearAnswer_51 : decode prog_9_method_7_code 51 = .ok (.return_, 1) := by decide +kernel
theorem d_Ho_drop_0 : decode prog_1_method_7_code 0 = .ok (.aload_n 0, 1) := by decide +kernel
theorem d_Ho_drop_1 : decode prog_1_method_7_code 1 = .ok (.iload_n 1, 1) := by decide +kernel
theorem d_Ho_drop_2 : decode prog_1_method_7_code 2 = .ok (.invokevirtual 100, 3) := by decide +kernel
theorem d_Ho_drop_5 : decode prog_1_method_7_code 5 = .ok (.aload_n 0, 1) := by decide +kernel
theorem d_Ho_drop_6 : decode prog_1_method_7_code 6 = .ok (.getfield 28, 3) := by decide +kernel
theorem d_Ho_drop_9 : decode prog_1_method_7_code 9 = .ok (.iload_n 1, 1) := by decide +kernel
theorem d_Ho_drop_10 : decode prog_1_method_7_code 10 = .ok (.invokevirtual 103, 3) := by decide +kernel
theorem d_Ho_drop_13 : decode prog_1_method_7_code 13 = .ok (.pop, 1) := by decide +kernel
theorem d_Ho_drop_14 : decode prog_1_method_7_code 14 = .ok (.return_, 1) := by decide +kernel
theorem d_Ho_twin_0 : decode prog_1_method_8_code 0 = .ok (.aload_n 0, 1) := by decide +kernel
theorem d_Ho_twin_1 : decode prog_1_method_8_code 1 = .ok (.iload_n 1, 1) := by decide +kernel
theorem d_Ho_twin_2 : decode prog_1_method_8_code 2 = .ok (.invokevirtual 100, 3) := by decide +kernel
theorem d_Ho_twin_5 : decode prog_1_method_8_code 5 = .ok (.aload_n 0, 1) := by decide +kernel
theorem d_Ho_twin_6 : decode prog_1_method_8_code 6 = .ok (.getfield 28, 3) := by decide +kernel
theorem d_Ho_twin_9 : decode prog_1_method_8_code 9 = .ok (.invokevirtual 128, 3) := by decide +kernel
theorem d_Ho_twin_12 : decode prog_1_method_8_code 12 = .ok (.astore_n 2, 1) := by decide +kernel
theorem d_Ho_twin_13 : decode prog_1_method_8_code 13 = .ok (.aload_n 2, 1) := by decide +kernel
theorem d_Ho_twin_14 : decode prog_1_method_8_code 14 = .ok (.ifnonnull 11, 3) := by decide +kernel
theorem d_Ho_twin_17 : decode prog_1_method_8_code 17 = .ok (.new 81, 3) := by decide +kernel
theorem d_Ho_twin_20 : decode prog_1_method_8_code 20 = .ok (.dup, 1) := by decide +kernel
theorem d_Ho_twin_21 : decode prog_1_method_8_code 21 = .ok (.invokespecial 83, 3) := by decide +kernel
theorem d_Ho_twin_24 : decode prog_1_method_8_code 24 = .ok (.athrow, 1) := by decide +kernel
theorem d_Ho_twin_25 : decode prog_1_method_8_code 25 = .ok (.aload_n 2, 1) := by decide +kernel
theorem d_Ho_twin_26 : decode prog_1_method_8_code 26 = .ok (.aload_n 0, 1) := by decide +kernel
theorem d_Ho_twin_27 : decode prog_1_method_8_code 27 = .ok (.getfield 28, 3) := by decide +kernel
theorem d_Ho_twin_30 : decode prog_1_method_8_code 30 = .ok (.getfield 132, 3) := by decide +kernel
theorem d_Ho_twin_33 : decode prog_1_method_8_code 33 = .ok (.iload_n 1, 1) := by decide +kernel
theorem d_Ho_twin_34 : decode prog_1_method_8_code 34 = .ok (.aaload, 1) := by decide +kernel
theorem d_Ho_twin_35 : decode prog_1_method_8_code 35 = .ok (.invokevirtual 136, 3) := by decide +kernel
theorem d_Ho_twin_38 : decode prog_1_method_8_code 38 = .ok (.return_, 1) := by decide +kernel
theorem d_Le_copyFrom_0 : decode prog_4_method_4_code 0 = .ok (.aload_n 0, 1) := by decide +kernel
theorem d_Le_copyFrom_1 : decode prog_4_method_4_code 1 = .ok (.aload_n 1, 1) := by decide +kernel
theorem d_Le_copyFrom_2 : decode prog_4_method_4_code 2 = .ok (.getfield 18, 3) := by decide +kernel
theorem d_Le_copyFrom_5 : decode prog_4_method_4_code 5 = .ok (.aload_n 1, 1) := by decide +kernel
theorem d_Le_copyFrom_6 : decode prog_4_method_4_code 6 = .ok (.getfield 22, 3) := by decide +kernel
theorem d_Le_copyFrom_9 : decode prog_4_method_4_code 9 = .ok (.aload_n 1, 1) := by decide +kernel
theorem d_Le_copyFrom_10 : decode prog_4_method_4_code 10 = .ok (.getfield 25, 3) := by decide +kernel
theorem d_Le_copyFrom_13 : decode prog_4_method_4_code 13 = .ok (.aload_n 1, 1) := by decide +kernel
theorem d_Le_copyFrom_14 : decode prog_4_method_4_code 14 = .ok (.getfield 28, 3) := by decide +kernel
theorem d_Le_copyFrom_17 : decode prog_4_method_4_code 17 = .ok (.invokevirtual 37, 3) := by decide +kernel
theorem d_Le_copyFrom_20 : decode prog_4_method_4_code 20 = .ok (.aload_n 0, 1) := by decide +kernel
theorem d_Le_copyFrom_21 : decode prog_4_method_4_code 21 = .ok (.aload_n 1, 1) := by decide +kernel
theorem d_Le_copyFrom_22 : decode prog_4_method_4_code 22 = .ok (.getfield 31, 3) := by decide +kernel
theorem d_Le_copyFrom_25 : decode prog_4_method_4_code 25 = .ok (.aload_n 1, 1) := by decide +kernel
theorem d_Le_copyFrom_26 : decode prog_4_method_4_code 26 = .ok (.getfield 34, 3) := by decide +kernel
theorem d_Le_copyFrom_29 : decode prog_4_method_4_code 29 = .ok (.invokevirtual 41, 3) := by decide +kernel
theorem d_Le_copyFrom_32 : decode prog_4_method_4_code 32 = .ok (.aload_n 0, 1) := by decide +kernel
theorem d_Le_copyFrom_33 : decode prog_4_method_4_code 33 = .ok (.aload_n 1, 1) := by decide +kernel
theorem d_Le_copyFrom_34 : decode prog_4_method_4_code 34 = .ok (.getfield 45, 3) := by decide +kernel
theorem d_Le_copyFrom_37 : decode prog_4_method_4_code 37 = .ok (.putfield 45, 3) := by decide +kernel
theorem d_Le_copyFrom_40 : decode prog_4_method_4_code 40 = .ok (.aload_n 0, 1) := by decide +kernel
theorem d_Le_copyFrom_41 : decode prog_4_method_4_code 41 = .ok (.aload_n 1, 1) := by decide +kernel
theorem d_Le_copyFrom_42 : decode prog_4_method_4_code 42 = .ok (.getfield 48, 3) := by decide +kernel
theorem d_Le_copyFrom_45 : decode prog_4_method_4_code 45 = .ok (.putfield 48, 3) := by decide +kernel
theorem d_Le_copyFrom_48 : decode prog_4_method_4_code 48 = .ok (.aload_n 0, 1) := by decide +kernel
theorem d_Le_copyFrom_49 : decode prog_4_method_4_code 49 = .ok (.getfield 12, 3) := by decide +kernel
theorem d_Le_copyFrom_52 : decode prog_4_method_4_code 52 = .ok (.aload_n 1, 1) := by decide +kernel
theorem d_Le_copyFrom_53 : decode prog_4_method_4_code 53 = .ok (.getfield 12, 3) := by decide +kernel
theorem d_Le_copyFrom_56 : decode prog_4_method_4_code 56 = .ok (.invokevirtual 52, 3) := by decide +kernel
theorem d_Le_copyFrom_59 : decode prog_4_method_4_code 59 = .ok (.return_, 1) := by decide +kernel
theorem d_Ho_letter_0 : decode prog_1_method_10_code 0 = .ok (.aload_n 0, 1) := by decide +kernel
theorem d_Ho_letter_1 : decode prog_1_method_10_code 1 = .ok (.iload_n 1, 1) := by decide +kernel
theorem d_Ho_letter_2 : decode prog_1_method_10_code 2 = .ok (.invokevirtual 100, 3) := by decide +kernel
theorem d_Ho_letter_5 : decode prog_1_method_10_code 5 = .ok (.aload_n 0, 1) := by decide +kernel
theorem d_Ho_letter_6 : decode prog_1_method_10_code 6 = .ok (.getfield 28, 3) := by decide +kernel
theorem d_Ho_letter_9 : decode prog_1_method_10_code 9 = .ok (.getfield 132, 3) := by decide +kernel
theorem d_Ho_letter_12 : decode prog_1_method_10_code 12 = .ok (.iload_n 1, 1) := by decide +kernel
theorem d_Ho_letter_13 : decode prog_1_method_10_code 13 = .ok (.aaload, 1) := by decide +kernel
theorem d_Ho_letter_14 : decode prog_1_method_10_code 14 = .ok (.astore_n 3, 1) := by decide +kernel
theorem d_Ho_letter_15 : decode prog_1_method_10_code 15 = .ok (.iload_n 2, 1) := by decide +kernel
theorem d_Ho_letter_16 : decode prog_1_method_10_code 16 = .ok (.tableswitch 70 0 5 #[40, 45, 50, 55, 60, 65], 40) := by decide +kernel
theorem d_Ho_letter_56 : decode prog_1_method_10_code 56 = .ok (.aload_n 3, 1) := by decide +kernel
theorem d_Ho_letter_57 : decode prog_1_method_10_code 57 = .ok (.getfield 107, 3) := by decide +kernel
theorem d_Ho_letter_60 : decode prog_1_method_10_code 60 = .ok (.ireturn, 1) := by decide +kernel
theorem d_Ho_letter_61 : decode prog_1_method_10_code 61 = .ok (.aload_n 3, 1) := by decide +kernel
theorem d_Ho_letter_62 : decode prog_1_method_10_code 62 = .ok (.getfield 139, 3) := by decide +kernel
theorem d_Ho_letter_65 : decode prog_1_method_10_code 65 = .ok (.ireturn, 1) := by decide +kernel
theorem d_Ho_letter_66 : decode prog_1_method_10_code 66 = .ok (.aload_n 3, 1) := by decide +kernel
theorem d_Ho_letter_67 : decode prog_1_method_10_code 67 = .ok (.getfield 122, 3) := by decide +kernel
theorem d_Ho_letter_70 : decode prog_1_method_10_code 70 = .ok (.ireturn, 1) := by decide +kernel
theorem d_Ho_letter_71 : decode prog_1_method_10_code 71 = .ok (.aload_n 3, 1) := by decide +kernel
theorem d_Ho_letter_72 : decode prog_1_method_10_code 72 = .ok (.getfield 142, 3) := by decide +kernel
theorem d_Ho_letter_75 : decode prog_1_method_10_code 75 = .ok (.ireturn, 1) := by decide +kernel
theorem d_Ho_letter_76 : decode prog_1_method_10_code 76 = .ok (.aload_n 3, 1) := by decide +kernel
theorem d_Ho_letter_77 : decode prog_1_method_10_code 77 = .ok (.getfield 143, 3) := by decide +kernel
theorem d_Ho_letter_80 : decode prog_1_method_10_code 80 = .ok (.ireturn, 1) := by decide +kernel
theorem d_Ho_letter_81 : decode prog_1_method_10_code 81 = .ok (.aload_n 3, 1) := by decide +kernel
theorem d_Ho_letter_82 : decode prog_1_method_10_code 82 = .ok (.getfield 146, 3) := by decide +kernel
theorem d_Ho_letter_85 : decode prog_1_method_10_code 85 = .ok (.ireturn, 1) := by decide +kernel
theorem d_Ho_letter_86 : decode prog_1_method_10_code 86 = .ok (.new 149, 3) := by decide +kernel
theorem d_Ho_letter_89 : decode prog_1_method_10_code 89 = .ok (.dup, 1) := by decide +kernel
theorem d_Ho_letter_90 : decode prog_1_method_10_code 90 = .ok (.invokespecial 151, 3) := by decide +kernel
theorem d_Ho_letter_93 : decode prog_1_method_10_code 93 = .ok (.athrow, 1) := by decide +kernel
theorem d_Ho_up_0 : decode prog_1_method_11_code 0 = .ok (.iload_n 1, 1) := by decide +kernel
theorem d_Ho_up_1 : decode prog_1_method_11_code 1 = .ok (.invokestatic 152, 3) := by decide +kernel
theorem d_Ho_up_4 : decode prog_1_method_11_code 4 = .ok (.aload_n 0, 1) := by decide +kernel
theorem d_Ho_up_5 : decode prog_1_method_11_code 5 = .ok (.getfield 11, 3) := by decide +kernel
theorem d_Ho_up_8 : decode prog_1_method_11_code 8 = .ok (.iload_n 1, 1) := by decide +kernel
theorem d_Ho_up_9 : decode prog_1_method_11_code 9 = .ok (.aaload, 1) := by decide +kernel
theorem d_Ho_up_10 : decode prog_1_method_11_code 10 = .ok (.getfield 155, 3) := by decide +kernel
theorem d_Ho_up_13 : decode prog_1_method_11_code 13 = .ok (.iload_n 2, 1) := by decide +kernel
theorem d_Ho_up_14 : decode prog_1_method_11_code 14 = .ok (.if_icmp .eq 7, 3) := by decide +kernel
theorem d_Ho_up_17 : decode prog_1_method_11_code 17 = .ok (.iconst 1, 1) := by decide +kernel
theorem d_Ho_up_18 : decode prog_1_method_11_code 18 = .ok (.goto 4, 3) := by decide +kernel
theorem d_Ho_up_21 : decode prog_1_method_11_code 21 = .ok (.iconst 0, 1) := by decide +kernel
theorem d_Ho_up_22 : decode prog_1_method_11_code 22 = .ok (.istore_n 3, 1) := by decide +kernel
theorem d_Ho_up_23 : decode prog_1_method_11_code 23 = .ok (.aload_n 0, 1) := by decide +kernel
theorem d_Ho_up_24 : decode prog_1_method_11_code 24 = .ok (.getfield 11, 3) := by decide +kernel
theorem d_Ho_up_27 : decode prog_1_method_11_code 27 = .ok (.iload_n 1, 1) := by decide +kernel
theorem d_Ho_up_28 : decode prog_1_method_11_code 28 = .ok (.aaload, 1) := by decide +kernel
theorem d_Ho_up_29 : decode prog_1_method_11_code 29 = .ok (.iload_n 2, 1) := by decide +kernel
theorem d_Ho_up_30 : decode prog_1_method_11_code 30 = .ok (.putfield 155, 3) := by decide +kernel
theorem d_Ho_up_33 : decode prog_1_method_11_code 33 = .ok (.iload_n 3, 1) := by decide +kernel
theorem d_Ho_up_34 : decode prog_1_method_11_code 34 = .ok (.ireturn, 1) := by decide +kernel
theorem d_Ho_checkStation_0 : decode prog_1_method_22_code 0 = .ok (.iload_n 0, 1) := by decide +kernel
theorem d_Ho_checkStation_1 : decode prog_1_method_22_code 1 = .ok (.ifCond .lt 9, 3) := by decide +kernel
theorem d_Ho_checkStation_4 : decode prog_1_method_22_code 4 = .ok (.iload_n 0, 1) := by decide +kernel
theorem d_Ho_checkStation_5 : decode prog_1_method_22_code 5 = .ok (.bipush 7, 2) := by decide +kernel
theorem d_Ho_checkStation_7 : decode prog_1_method_22_code 7 = .ok (.if_icmp .lt 11, 3) := by decide +kernel
theorem d_Ho_checkStation_10 : decode prog_1_method_22_code 10 = .ok (.new 149, 3) := by decide +kernel
theorem d_Ho_checkStation_13 : decode prog_1_method_22_code 13 = .ok (.dup, 1) := by decide +kernel
theorem d_Ho_checkStation_14 : decode prog_1_method_22_code 14 = .ok (.invokespecial 151, 3) := by decide +kernel
theorem d_Ho_checkStation_17 : decode prog_1_method_22_code 17 = .ok (.athrow, 1) := by decide +kernel
theorem d_Ho_checkStation_18 : decode prog_1_method_22_code 18 = .ok (.return_, 1) := by decide +kernel
theorem d_Ho_wipe_0 : decode prog_1_method_12_code 0 = .ok (.iload_n 1, 1) := by decide +kernel
theorem d_Ho_wipe_1 : decode prog_1_method_12_code 1 = .ok (.invokestatic 152, 3) := by decide +kernel
theorem d_Ho_wipe_4 : decode prog_1_method_12_code 4 = .ok (.aload_n 0, 1) := by decide +kernel
theorem d_Ho_wipe_5 : decode prog_1_method_12_code 5 = .ok (.getfield 11, 3) := by decide +kernel
theorem d_Ho_wipe_8 : decode prog_1_method_12_code 8 = .ok (.iload_n 1, 1) := by decide +kernel
theorem d_Ho_wipe_9 : decode prog_1_method_12_code 9 = .ok (.aaload, 1) := by decide +kernel
theorem d_Ho_wipe_10 : decode prog_1_method_12_code 10 = .ok (.invokevirtual 159, 3) := by decide +kernel
theorem d_Ho_wipe_13 : decode prog_1_method_12_code 13 = .ok (.return_, 1) := by decide +kernel
theorem d_St_loseAll_0 : decode prog_10_method_3_code 0 = .ok (.aload_n 0, 1) := by decide +kernel
theorem d_St_loseAll_1 : decode prog_10_method_3_code 1 = .ok (.iconst 0, 1) := by decide +kernel
theorem d_St_loseAll_2 : decode prog_10_method_3_code 2 = .ok (.putfield 23, 3) := by decide +kernel
theorem d_St_loseAll_5 : decode prog_10_method_3_code 5 = .ok (.aload_n 0, 1) := by decide +kernel
theorem d_St_loseAll_6 : decode prog_10_method_3_code 6 = .ok (.getfield 16, 3) := by decide +kernel
theorem d_St_loseAll_9 : decode prog_10_method_3_code 9 = .ok (.invokevirtual 27, 3) := by decide +kernel
theorem d_St_loseAll_12 : decode prog_10_method_3_code 12 = .ok (.aload_n 0, 1) := by decide +kernel
theorem d_St_loseAll_13 : decode prog_10_method_3_code 13 = .ok (.iconst 1, 1) := by decide +kernel
theorem d_St_loseAll_14 : decode prog_10_method_3_code 14 = .ok (.putfield 20, 3) := by decide +kernel
theorem d_St_loseAll_17 : decode prog_10_method_3_code 17 = .ok (.return_, 1) := by decide +kernel
theorem d_Sh_clear_0 : decode prog_8_method_4_code 0 = .ok (.iconst 0, 1) := by decide +kernel
theorem d_Sh_clear_1 : decode prog_8_method_4_code 1 = .ok (.istore_n 1, 1) := by decide +kernel
theorem d_Sh_clear_2 : decode prog_8_method_4_code 2 = .ok (.iload_n 1, 1) := by decide +kernel
theorem d_Sh_clear_3 : decode prog_8_method_4_code 3 = .ok (.bipush 8, 2) := by decide +kernel
theorem d_Sh_clear_5 : decode prog_8_method_4_code 5 = .ok (.if_icmp .ge 18, 3) := by decide +kernel
theorem d_Sh_clear_8 : decode prog_8_method_4_code 8 = .ok (.aload_n 0, 1) := by decide +kernel
theorem d_Sh_clear_9 : decode prog_8_method_4_code 9 = .ok (.iload_n 1, 1) := by decide +kernel
theorem d_Sh_clear_10 : decode prog_8_method_4_code 10 = .ok (.iconst 0, 1) := by decide +kernel
theorem d_Sh_clear_11 : decode prog_8_method_4_code 11 = .ok (.iconst 0, 1) := by decide +kernel
theorem d_Sh_clear_12 : decode prog_8_method_4_code 12 = .ok (.iconst 0, 1) := by decide +kernel
theorem d_Sh_clear_13 : decode prog_8_method_4_code 13 = .ok (.lconst 0, 1) := by decide +kernel
theorem d_Sh_clear_14 : decode prog_8_method_4_code 14 = .ok (.invokevirtual 25, 3) := by decide +kernel
theorem d_Sh_clear_17 : decode prog_8_method_4_code 17 = .ok (.iinc 1 1, 3) := by decide +kernel
theorem d_Sh_clear_20 : decode prog_8_method_4_code 20 = .ok (.goto (-18), 3) := by decide +kernel
theorem d_Sh_clear_23 : decode prog_8_method_4_code 23 = .ok (.return_, 1) := by decide +kernel
theorem d_Ho_catchUp_0 : decode prog_1_method_13_code 0 = .ok (.iload_n 1, 1) := by decide +kernel
theorem d_Ho_catchUp_1 : decode prog_1_method_13_code 1 = .ok (.invokestatic 152, 3) := by decide +kernel
theorem d_Ho_catchUp_4 : decode prog_1_method_13_code 4 = .ok (.iload_n 2, 1) := by decide +kernel
theorem d_Ho_catchUp_5 : decode prog_1_method_13_code 5 = .ok (.invokestatic 57, 3) := by decide +kernel
theorem d_Ho_catchUp_8 : decode prog_1_method_13_code 8 = .ok (.aload_n 0, 1) := by decide +kernel
theorem d_Ho_catchUp_9 : decode prog_1_method_13_code 9 = .ok (.getfield 11, 3) := by decide +kernel
theorem d_Ho_catchUp_12 : decode prog_1_method_13_code 12 = .ok (.iload_n 1, 1) := by decide +kernel
theorem d_Ho_catchUp_13 : decode prog_1_method_13_code 13 = .ok (.aaload, 1) := by decide +kernel
theorem d_Ho_catchUp_14 : decode prog_1_method_13_code 14 = .ok (.astore_n 3, 1) := by decide +kernel
theorem d_Ho_catchUp_15 : decode prog_1_method_13_code 15 = .ok (.aload_n 3, 1) := by decide +kernel
theorem d_Ho_catchUp_16 : decode prog_1_method_13_code 16 = .ok (.getfield 162, 3) := by decide +kernel
theorem d_Ho_catchUp_19 : decode prog_1_method_13_code 19 = .ok (.ifCond .eq 10, 3) := by decide +kernel
theorem d_Ho_catchUp_22 : decode prog_1_method_13_code 22 = .ok (.aload_n 3, 1) := by decide +kernel
theorem d_Ho_catchUp_23 : decode prog_1_method_13_code 23 = .ok (.getfield 155, 3) := by decide +kernel
theorem d_Ho_catchUp_26 : decode prog_1_method_13_code 26 = .ok (.ifCond .ne 11, 3) := by decide +kernel
theorem d_Ho_catchUp_29 : decode prog_1_method_13_code 29 = .ok (.new 81, 3) := by decide +kernel
theorem d_Ho_catchUp_32 : decode prog_1_method_13_code 32 = .ok (.dup, 1) := by decide +kernel
theorem d_Ho_catchUp_33 : decode prog_1_method_13_code 33 = .ok (.invokespecial 83, 3) := by decide +kernel
theorem d_Ho_catchUp_36 : decode prog_1_method_13_code 36 = .ok (.athrow, 1) := by decide +kernel
theorem d_Ho_catchUp_37 : decode prog_1_method_13_code 37 = .ok (.iconst 0, 1) := by decide +kernel
theorem d_Ho_catchUp_38 : decode prog_1_method_13_code 38 = .ok (.istore 4, 2) := by decide +kernel
theorem d_Ho_catchUp_40 : decode prog_1_method_13_code 40 = .ok (.iconst 0, 1) := by decide +kernel
theorem d_Ho_catchUp_41 : decode prog_1_method_13_code 41 = .ok (.istore 5, 2) := by decide +kernel
theorem d_Ho_catchUp_43 : decode prog_1_method_13_code 43 = .ok (.iload 5, 2) := by decide +kernel
theorem d_Ho_catchUp_45 : decode prog_1_method_13_code 45 = .ok (.bipush 8, 2) := by decide +kernel
theorem d_Ho_catchUp_47 : decode prog_1_method_13_code 47 = .ok (.if_icmp .ge 95, 3) := by decide +kernel
theorem d_Ho_catchUp_50 : decode prog_1_method_13_code 50 = .ok (.aload_n 0, 1) := by decide +kernel
theorem d_Ho_catchUp_51 : decode prog_1_method_13_code 51 = .ok (.getfield 18, 3) := by decide +kernel
theorem d_Ho_catchUp_54 : decode prog_1_method_13_code 54 = .ok (.iload_n 2, 1) := by decide +kernel
theorem d_Ho_catchUp_55 : decode prog_1_method_13_code 55 = .ok (.aaload, 1) := by decide +kernel
theorem d_Ho_catchUp_56 : decode prog_1_method_13_code 56 = .ok (.getfield 165, 3) := by decide +kernel
theorem d_Ho_catchUp_59 : decode prog_1_method_13_code 59 = .ok (.iload 5, 2) := by decide +kernel
theorem d_Ho_catchUp_61 : decode prog_1_method_13_code 61 = .ok (.aaload, 1) := by decide +kernel
theorem d_Ho_catchUp_62 : decode prog_1_method_13_code 62 = .ok (.getfield 169, 3) := by decide +kernel
theorem d_Ho_catchUp_65 : decode prog_1_method_13_code 65 = .ok (.istore 6, 2) := by decide +kernel
theorem d_Ho_catchUp_67 : decode prog_1_method_13_code 67 = .ok (.iload 6, 2) := by decide +kernel
theorem d_Ho_catchUp_69 : decode prog_1_method_13_code 69 = .ok (.ifCond .eq 67, 3) := by decide +kernel
theorem d_Ho_catchUp_72 : decode prog_1_method_13_code 72 = .ok (.aload_n 3, 1) := by decide +kernel
theorem d_Ho_catchUp_73 : decode prog_1_method_13_code 73 = .ok (.getfield 174, 3) := by decide +kernel
theorem d_Ho_catchUp_76 : decode prog_1_method_13_code 76 = .ok (.iload 5, 2) := by decide +kernel
theorem d_Ho_catchUp_78 : decode prog_1_method_13_code 78 = .ok (.invokevirtual 178, 3) := by decide +kernel
theorem d_Ho_catchUp_81 : decode prog_1_method_13_code 81 = .ok (.ifCond .ne 55, 3) := by decide +kernel
theorem d_Ho_catchUp_84 : decode prog_1_method_13_code 84 = .ok (.aload_n 0, 1) := by decide +kernel
theorem d_Ho_catchUp_85 : decode prog_1_method_13_code 85 = .ok (.iload 5, 2) := by decide +kernel
theorem d_Ho_catchUp_87 : decode prog_1_method_13_code 87 = .ok (.iload 6, 2) := by decide +kernel
theorem d_Ho_catchUp_89 : decode prog_1_method_13_code 89 = .ok (.invokevirtual 183, 3) := by decide +kernel
theorem d_Ho_catchUp_92 : decode prog_1_method_13_code 92 = .ok (.ifCond .eq 44, 3) := by decide +kernel
theorem d_Ho_catchUp_95 : decode prog_1_method_13_code 95 = .ok (.aload_n 0, 1) := by decide +kernel
theorem d_Ho_catchUp_96 : decode prog_1_method_13_code 96 = .ok (.getfield 35, 3) := by decide +kernel
theorem d_Ho_catchUp_99 : decode prog_1_method_13_code 99 = .ok (.aload_n 0, 1) := by decide +kernel
theorem d_Ho_catchUp_100 : decode prog_1_method_13_code 100 = .ok (.getfield 42, 3) := by decide +kernel
theorem d_Ho_catchUp_103 : decode prog_1_method_13_code 103 = .ok (.invokevirtual 186, 3) := by decide +kernel
theorem d_Ho_catchUp_106 : decode prog_1_method_13_code 106 = .ok (.aload_n 3, 1) := by decide +kernel
theorem d_Ho_catchUp_107 : decode prog_1_method_13_code 107 = .ok (.getfield 174, 3) := by decide +kernel
theorem d_Ho_catchUp_110 : decode prog_1_method_13_code 110 = .ok (.iload 5, 2) := by decide +kernel
theorem d_Ho_catchUp_112 : decode prog_1_method_13_code 112 = .ok (.iconst 0, 1) := by decide +kernel
theorem d_Ho_catchUp_113 : decode prog_1_method_13_code 113 = .ok (.iload 6, 2) := by decide +kernel
theorem d_Ho_catchUp_115 : decode prog_1_method_13_code 115 = .ok (.aload_n 0, 1) := by decide +kernel
theorem d_Ho_catchUp_116 : decode prog_1_method_13_code 116 = .ok (.getfield 42, 3) := by decide +kernel
theorem d_Ho_catchUp_119 : decode prog_1_method_13_code 119 = .ok (.getfield 190, 3) := by decide +kernel
theorem d_Ho_catchUp_122 : decode prog_1_method_13_code 122 = .ok (.aload_n 0, 1) := by decide +kernel
theorem d_Ho_catchUp_123 : decode prog_1_method_13_code 123 = .ok (.getfield 42, 3) := by decide +kernel
theorem d_Ho_catchUp_126 : decode prog_1_method_13_code 126 = .ok (.iload_n 1, 1) := by decide +kernel
theorem d_Ho_catchUp_127 : decode prog_1_method_13_code 127 = .ok (.invokevirtual 193, 3) := by decide +kernel
theorem d_Ho_catchUp_130 : decode prog_1_method_13_code 130 = .ok (.invokevirtual 197, 3) := by decide +kernel
theorem d_Ho_catchUp_133 : decode prog_1_method_13_code 133 = .ok (.iinc 4 1, 3) := by decide +kernel
theorem d_Ho_catchUp_136 : decode prog_1_method_13_code 136 = .ok (.iinc 5 1, 3) := by decide +kernel
theorem d_Ho_catchUp_139 : decode prog_1_method_13_code 139 = .ok (.goto (-96), 3) := by decide +kernel
theorem d_Ho_catchUp_142 : decode prog_1_method_13_code 142 = .ok (.iload 4, 2) := by decide +kernel
theorem d_Ho_catchUp_144 : decode prog_1_method_13_code 144 = .ok (.ireturn, 1) := by decide +kernel
theorem d_Ho_gatherFromStations_0 : decode prog_1_method_33_code 0 = .ok (.aload_n 0, 1) := by decide +kernel
theorem d_Ho_gatherFromStations_1 : decode prog_1_method_33_code 1 = .ok (.getfield 35, 3) := by decide +kernel
theorem d_Ho_gatherFromStations_4 : decode prog_1_method_33_code 4 = .ok (.iload_n 2, 1) := by decide +kernel
theorem d_Ho_gatherFromStations_5 : decode prog_1_method_33_code 5 = .ok (.invokevirtual 303, 3) := by decide +kernel
theorem d_Ho_gatherFromStations_8 : decode prog_1_method_33_code 8 = .ok (.iconst 0, 1) := by decide +kernel
theorem d_Ho_gatherFromStations_9 : decode prog_1_method_33_code 9 = .ok (.istore_n 3, 1) := by decide +kernel
theorem d_Ho_gatherFromStations_10 : decode prog_1_method_33_code 10 = .ok (.iload_n 3, 1) := by decide +kernel
theorem d_Ho_gatherFromStations_11 : decode prog_1_method_33_code 11 = .ok (.bipush 7, 2) := by decide +kernel
theorem d_Ho_gatherFromStations_13 : decode prog_1_method_33_code 13 = .ok (.if_icmp .ge 39, 3) := by decide +kernel
theorem d_Ho_gatherFromStations_16 : decode prog_1_method_33_code 16 = .ok (.aload_n 0, 1) := by decide +kernel
theorem d_Ho_gatherFromStations_17 : decode prog_1_method_33_code 17 = .ok (.getfield 11, 3) := by decide +kernel
theorem d_Ho_gatherFromStations_20 : decode prog_1_method_33_code 20 = .ok (.iload_n 3, 1) := by decide +kernel
theorem d_Ho_gatherFromStations_21 : decode prog_1_method_33_code 21 = .ok (.aaload, 1) := by decide +kernel
theorem d_Ho_gatherFromStations_22 : decode prog_1_method_33_code 22 = .ok (.getfield 155, 3) := by decide +kernel
theorem d_Ho_gatherFromStations_25 : decode prog_1_method_33_code 25 = .ok (.ifCond .eq 21, 3) := by decide +kernel
theorem d_Ho_gatherFromStations_28 : decode prog_1_method_33_code 28 = .ok (.aload_n 0, 1) := by decide +kernel
theorem d_Ho_gatherFromStations_29 : decode prog_1_method_33_code 29 = .ok (.getfield 35, 3) := by decide +kernel
theorem d_Ho_gatherFromStations_32 : decode prog_1_method_33_code 32 = .ok (.iload_n 3, 1) := by decide +kernel
theorem d_Ho_gatherFromStations_33 : decode prog_1_method_33_code 33 = .ok (.aload_n 0, 1) := by decide +kernel
theorem d_Ho_gatherFromStations_34 : decode prog_1_method_33_code 34 = .ok (.getfield 11, 3) := by decide +kernel
theorem d_Ho_gatherFromStations_37 : decode prog_1_method_33_code 37 = .ok (.iload_n 3, 1) := by decide +kernel
theorem d_Ho_gatherFromStations_38 : decode prog_1_method_33_code 38 = .ok (.aaload, 1) := by decide +kernel
theorem d_Ho_gatherFromStations_39 : decode prog_1_method_33_code 39 = .ok (.getfield 174, 3) := by decide +kernel
theorem d_Ho_gatherFromStations_42 : decode prog_1_method_33_code 42 = .ok (.iload_n 1, 1) := by decide +kernel
theorem d_Ho_gatherFromStations_43 : decode prog_1_method_33_code 43 = .ok (.invokevirtual 306, 3) := by decide +kernel
theorem d_Ho_gatherFromStations_46 : decode prog_1_method_33_code 46 = .ok (.iinc 3 1, 3) := by decide +kernel
theorem d_Ho_gatherFromStations_49 : decode prog_1_method_33_code 49 = .ok (.goto (-39), 3) := by decide +kernel
theorem d_Ho_gatherFromStations_52 : decode prog_1_method_33_code 52 = .ok (.aload_n 0, 1) := by decide +kernel
theorem d_Ho_gatherFromStations_53 : decode prog_1_method_33_code 53 = .ok (.getfield 35, 3) := by decide +kernel
theorem d_Ho_gatherFromStations_56 : decode prog_1_method_33_code 56 = .ok (.invokevirtual 310, 3) := by decide +kernel
theorem d_Ho_gatherFromStations_59 : decode prog_1_method_33_code 59 = .ok (.ireturn, 1) := by decide +kernel
theorem d_Ho_decided_0 : decode prog_1_method_14_code 0 = .ok (.iload_n 1, 1) := by decide +kernel
theorem d_Ho_decided_1 : decode prog_1_method_14_code 1 = .ok (.invokestatic 57, 3) := by decide +kernel
theorem d_Ho_decided_4 : decode prog_1_method_14_code 4 = .ok (.iload_n 2, 1) := by decide +kernel
theorem d_Ho_decided_5 : decode prog_1_method_14_code 5 = .ok (.invokestatic 201, 3) := by decide +kernel
theorem d_Ho_decided_8 : decode prog_1_method_14_code 8 = .ok (.aload_n 0, 1) := by decide +kernel
theorem d_Ho_decided_9 : decode prog_1_method_14_code 9 = .ok (.getfield 18, 3) := by decide +kernel
theorem d_Ho_decided_12 : decode prog_1_method_14_code 12 = .ok (.iload_n 1, 1) := by decide +kernel
theorem d_Ho_decided_13 : decode prog_1_method_14_code 13 = .ok (.aaload, 1) := by decide +kernel
theorem d_Ho_decided_14 : decode prog_1_method_14_code 14 = .ok (.getfield 165, 3) := by decide +kernel
theorem d_Ho_decided_17 : decode prog_1_method_14_code 17 = .ok (.iload_n 2, 1) := by decide +kernel
theorem d_Ho_decided_18 : decode prog_1_method_14_code 18 = .ok (.aaload, 1) := by decide +kernel
theorem d_Ho_decided_19 : decode prog_1_method_14_code 19 = .ok (.getfield 169, 3) := by decide +kernel
theorem d_Ho_decided_22 : decode prog_1_method_14_code 22 = .ok (.ireturn, 1) := by decide +kernel
theorem d_Ho_checkPlace_0 : decode prog_1_method_23_code 0 = .ok (.iload_n 0, 1) := by decide +kernel
theorem d_Ho_checkPlace_1 : decode prog_1_method_23_code 1 = .ok (.ifCond .lt 9, 3) := by decide +kernel
theorem d_Ho_checkPlace_4 : decode prog_1_method_23_code 4 = .ok (.iload_n 0, 1) := by decide +kernel
theorem d_Ho_checkPlace_5 : decode prog_1_method_23_code 5 = .ok (.bipush 8, 2) := by decide +kernel
theorem d_Ho_checkPlace_7 : decode prog_1_method_23_code 7 = .ok (.if_icmp .lt 11, 3) := by decide +kernel
theorem d_Ho_checkPlace_10 : decode prog_1_method_23_code 10 = .ok (.new 149, 3) := by decide +kernel
theorem d_Ho_checkPlace_13 : decode prog_1_method_23_code 13 = .ok (.dup, 1) := by decide +kernel
theorem d_Ho_checkPlace_14 : decode prog_1_method_23_code 14 = .ok (.invokespecial 151, 3) := by decide +kernel
theorem d_Ho_checkPlace_17 : decode prog_1_method_23_code 17 = .ok (.athrow, 1) := by decide +kernel
theorem d_Ho_checkPlace_18 : decode prog_1_method_23_code 18 = .ok (.return_, 1) := by decide +kernel
theorem d_Ho_read_0 : decode prog_1_method_15_code 0 = .ok (.iload_n 1, 1) := by decide +kernel
theorem d_Ho_read_1 : decode prog_1_method_15_code 1 = .ok (.invokestatic 57, 3) := by decide +kernel
theorem d_Ho_read_4 : decode prog_1_method_15_code 4 = .ok (.iload_n 2, 1) := by decide +kernel
theorem d_Ho_read_5 : decode prog_1_method_15_code 5 = .ok (.invokestatic 201, 3) := by decide +kernel
theorem d_Ho_read_8 : decode prog_1_method_15_code 8 = .ok (.aload_n 0, 1) := by decide +kernel
theorem d_Ho_read_9 : decode prog_1_method_15_code 9 = .ok (.getfield 18, 3) := by decide +kernel
theorem d_Ho_read_12 : decode prog_1_method_15_code 12 = .ok (.iload_n 1, 1) := by decide +kernel
theorem d_Ho_read_13 : decode prog_1_method_15_code 13 = .ok (.aaload, 1) := by decide +kernel
theorem d_Ho_read_14 : decode prog_1_method_15_code 14 = .ok (.getfield 165, 3) := by decide +kernel
theorem d_Ho_read_17 : decode prog_1_method_15_code 17 = .ok (.iload_n 2, 1) := by decide +kernel
theorem d_Ho_read_18 : decode prog_1_method_15_code 18 = .ok (.aaload, 1) := by decide +kernel
theorem d_Ho_read_19 : decode prog_1_method_15_code 19 = .ok (.getfield 169, 3) := by decide +kernel
theorem d_Ho_read_22 : decode prog_1_method_15_code 22 = .ok (.istore_n 3, 1) := by decide +kernel
theorem d_Ho_read_23 : decode prog_1_method_15_code 23 = .ok (.iload_n 3, 1) := by decide +kernel
theorem d_Ho_read_24 : decode prog_1_method_15_code 24 = .ok (.ifCond .ne 11, 3) := by decide +kernel
theorem d_Ho_read_27 : decode prog_1_method_15_code 27 = .ok (.new 204, 3) := by decide +kernel
theorem d_Ho_read_30 : decode prog_1_method_15_code 30 = .ok (.dup, 1) := by decide +kernel
theorem d_Ho_read_31 : decode prog_1_method_15_code 31 = .ok (.invokespecial 206, 3) := by decide +kernel
theorem d_Ho_read_34 : decode prog_1_method_15_code 34 = .ok (.athrow, 1) := by decide +kernel
theorem d_Ho_read_35 : decode prog_1_method_15_code 35 = .ok (.aload_n 0, 1) := by decide +kernel
theorem d_Ho_read_36 : decode prog_1_method_15_code 36 = .ok (.iload_n 2, 1) := by decide +kernel
theorem d_Ho_read_37 : decode prog_1_method_15_code 37 = .ok (.iload_n 3, 1) := by decide +kernel
theorem d_Ho_read_38 : decode prog_1_method_15_code 38 = .ok (.invokevirtual 183, 3) := by decide +kernel
theorem d_Ho_read_41 : decode prog_1_method_15_code 41 = .ok (.ifCond .ne 11, 3) := by decide +kernel
theorem d_Ho_read_44 : decode prog_1_method_15_code 44 = .ok (.new 81, 3) := by decide +kernel
theorem d_Ho_read_47 : decode prog_1_method_15_code 47 = .ok (.dup, 1) := by decide +kernel
theorem d_Ho_read_48 : decode prog_1_method_15_code 48 = .ok (.invokespecial 83, 3) := by decide +kernel
theorem d_Ho_read_51 : decode prog_1_method_15_code 51 = .ok (.athrow, 1) := by decide +kernel
theorem d_Ho_read_52 : decode prog_1_method_15_code 52 = .ok (.aload_n 0, 1) := by decide +kernel
theorem d_Ho_read_53 : decode prog_1_method_15_code 53 = .ok (.getfield 35, 3) := by decide +kernel
theorem d_Ho_read_56 : decode prog_1_method_15_code 56 = .ok (.aload_n 0, 1) := by decide +kernel
theorem d_Ho_read_57 : decode prog_1_method_15_code 57 = .ok (.getfield 46, 3) := by decide +kernel
theorem d_Ho_read_60 : decode prog_1_method_15_code 60 = .ok (.invokevirtual 186, 3) := by decide +kernel
theorem d_Ho_read_63 : decode prog_1_method_15_code 63 = .ok (.aload_n 0, 1) := by decide +kernel
theorem d_Ho_read_64 : decode prog_1_method_15_code 64 = .ok (.getfield 46, 3) := by decide +kernel
theorem d_Ho_read_67 : decode prog_1_method_15_code 67 = .ok (.getfield 190, 3) := by decide +kernel
theorem d_Ho_read_70 : decode prog_1_method_15_code 70 = .ok (.ireturn, 1) := by decide +kernel
theorem d_Ho_readByte_0 : decode prog_1_method_16_code 0 = .ok (.iload_n 1, 1) := by decide +kernel
theorem d_Ho_readByte_1 : decode prog_1_method_16_code 1 = .ok (.ifCond .lt 14, 3) := by decide +kernel
theorem d_Ho_readByte_4 : decode prog_1_method_16_code 4 = .ok (.iload_n 1, 1) := by decide +kernel
theorem d_Ho_readByte_5 : decode prog_1_method_16_code 5 = .ok (.aload_n 0, 1) := by decide +kernel
theorem d_Ho_readByte_6 : decode prog_1_method_16_code 6 = .ok (.getfield 46, 3) := by decide +kernel
theorem d_Ho_readByte_9 : decode prog_1_method_16_code 9 = .ok (.getfield 190, 3) := by decide +kernel
theorem d_Ho_readByte_12 : decode prog_1_method_16_code 12 = .ok (.if_icmp .lt 11, 3) := by decide +kernel
theorem d_Ho_readByte_15 : decode prog_1_method_16_code 15 = .ok (.new 207, 3) := by decide +kernel
theorem d_Ho_readByte_18 : decode prog_1_method_16_code 18 = .ok (.dup, 1) := by decide +kernel
theorem d_Ho_readByte_19 : decode prog_1_method_16_code 19 = .ok (.invokespecial 209, 3) := by decide +kernel
theorem d_Ho_readByte_22 : decode prog_1_method_16_code 22 = .ok (.athrow, 1) := by decide +kernel
theorem d_Ho_readByte_23 : decode prog_1_method_16_code 23 = .ok (.aload_n 0, 1) := by decide +kernel
theorem d_Ho_readByte_24 : decode prog_1_method_16_code 24 = .ok (.getfield 46, 3) := by decide +kernel
theorem d_Ho_readByte_27 : decode prog_1_method_16_code 27 = .ok (.iload_n 1, 1) := by decide +kernel
theorem d_Ho_readByte_28 : decode prog_1_method_16_code 28 = .ok (.invokevirtual 210, 3) := by decide +kernel
theorem d_Ho_readByte_31 : decode prog_1_method_16_code 31 = .ok (.ireturn, 1) := by decide +kernel
theorem d_Re_byteAt_0 : decode prog_6_method_6_code 0 = .ok (.iconst 1, 1) := by decide +kernel
theorem d_Re_byteAt_1 : decode prog_6_method_6_code 1 = .ok (.aload_n 0, 1) := by decide +kernel
theorem d_Re_byteAt_2 : decode prog_6_method_6_code 2 = .ok (.getfield 15, 3) := by decide +kernel
theorem d_Re_byteAt_5 : decode prog_6_method_6_code 5 = .ok (.invokestatic 22, 3) := by decide +kernel
theorem d_Re_byteAt_8 : decode prog_6_method_6_code 8 = .ok (.invokestatic 26, 3) := by decide +kernel
theorem d_Re_byteAt_11 : decode prog_6_method_6_code 11 = .ok (.istore_n 2, 1) := by decide +kernel
theorem d_Re_byteAt_12 : decode prog_6_method_6_code 12 = .ok (.aload_n 0, 1) := by decide +kernel
theorem d_Re_byteAt_13 : decode prog_6_method_6_code 13 = .ok (.getfield 9, 3) := by decide +kernel
theorem d_Re_byteAt_16 : decode prog_6_method_6_code 16 = .ok (.iload_n 1, 1) := by decide +kernel
theorem d_Re_byteAt_17 : decode prog_6_method_6_code 17 = .ok (.iload_n 2, 1) := by decide +kernel
theorem d_Re_byteAt_18 : decode prog_6_method_6_code 18 = .ok (.idiv, 1) := by decide +kernel
theorem d_Re_byteAt_19 : decode prog_6_method_6_code 19 = .ok (.laload, 1) := by decide +kernel
theorem d_Re_byteAt_20 : decode prog_6_method_6_code 20 = .ok (.bipush 8, 2) := by decide +kernel
theorem d_Re_byteAt_22 : decode prog_6_method_6_code 22 = .ok (.iload_n 1, 1) := by decide +kernel
theorem d_Re_byteAt_23 : decode prog_6_method_6_code 23 = .ok (.iload_n 2, 1) := by decide +kernel
theorem d_Re_byteAt_24 : decode prog_6_method_6_code 24 = .ok (.irem, 1) := by decide +kernel
theorem d_Re_byteAt_25 : decode prog_6_method_6_code 25 = .ok (.imul, 1) := by decide +kernel
theorem d_Re_byteAt_26 : decode prog_6_method_6_code 26 = .ok (.lushr, 1) := by decide +kernel
theorem d_Re_byteAt_27 : decode prog_6_method_6_code 27 = .ok (.ldc2_w 32, 3) := by decide +kernel
theorem d_Re_byteAt_30 : decode prog_6_method_6_code 30 = .ok (.land, 1) := by decide +kernel
theorem d_Re_byteAt_31 : decode prog_6_method_6_code 31 = .ok (.l2i, 1) := by decide +kernel
theorem d_Re_byteAt_32 : decode prog_6_method_6_code 32 = .ok (.ireturn, 1) := by decide +kernel
theorem d_Ho_state_0 : decode prog_1_method_17_code 0 = .ok (.iload_n 1, 1) := by decide +kernel
theorem d_Ho_state_1 : decode prog_1_method_17_code 1 = .ok (.invokestatic 57, 3) := by decide +kernel
theorem d_Ho_state_4 : decode prog_1_method_17_code 4 = .ok (.aload_n 0, 1) := by decide +kernel
theorem d_Ho_state_5 : decode prog_1_method_17_code 5 = .ok (.getfield 18, 3) := by decide +kernel
theorem d_Ho_state_8 : decode prog_1_method_17_code 8 = .ok (.iload_n 1, 1) := by decide +kernel
theorem d_Ho_state_9 : decode prog_1_method_17_code 9 = .ok (.aaload, 1) := by decide +kernel
theorem d_Ho_state_10 : decode prog_1_method_17_code 10 = .ok (.astore_n 3, 1) := by decide +kernel
theorem d_Ho_state_11 : decode prog_1_method_17_code 11 = .ok (.iload_n 2, 1) := by decide +kernel
theorem d_Ho_state_12 : decode prog_1_method_17_code 12 = .ok (.tableswitch 55 0 3 #[32, 37, 42, 47], 32) := by decide +kernel
theorem d_Ho_state_44 : decode prog_1_method_17_code 44 = .ok (.aload_n 3, 1) := by decide +kernel
theorem d_Ho_state_45 : decode prog_1_method_17_code 45 = .ok (.getfield 94, 3) := by decide +kernel
theorem d_Ho_state_48 : decode prog_1_method_17_code 48 = .ok (.ireturn, 1) := by decide +kernel
theorem d_Ho_state_49 : decode prog_1_method_17_code 49 = .ok (.aload_n 3, 1) := by decide +kernel
theorem d_Ho_state_50 : decode prog_1_method_17_code 50 = .ok (.getfield 71, 3) := by decide +kernel
theorem d_Ho_state_53 : decode prog_1_method_17_code 53 = .ok (.ireturn, 1) := by decide +kernel
theorem d_Ho_state_54 : decode prog_1_method_17_code 54 = .ok (.aload_n 3, 1) := by decide +kernel
theorem d_Ho_state_55 : decode prog_1_method_17_code 55 = .ok (.invokevirtual 75, 3) := by decide +kernel
theorem d_Ho_state_58 : decode prog_1_method_17_code 58 = .ok (.ireturn, 1) := by decide +kernel
theorem d_Ho_state_59 : decode prog_1_method_17_code 59 = .ok (.aload_n 3, 1) := by decide +kernel
theorem d_Ho_state_60 : decode prog_1_method_17_code 60 = .ok (.getfield 214, 3) := by decide +kernel
theorem d_Ho_state_63 : decode prog_1_method_17_code 63 = .ok (.invokestatic 217, 3) := by decide +kernel
theorem d_Ho_state_66 : decode prog_1_method_17_code 66 = .ok (.ireturn, 1) := by decide +kernel
theorem d_Ho_state_67 : decode prog_1_method_17_code 67 = .ok (.new 149, 3) := by decide +kernel
theorem d_Ho_state_70 : decode prog_1_method_17_code 70 = .ok (.dup, 1) := by decide +kernel
theorem d_Ho_state_71 : decode prog_1_method_17_code 71 = .ok (.invokespecial 151, 3) := by decide +kernel
theorem d_Ho_state_74 : decode prog_1_method_17_code 74 = .ok (.athrow, 1) := by decide +kernel
theorem d_Ho_station_0 : decode prog_1_method_18_code 0 = .ok (.iload_n 1, 1) := by decide +kernel
theorem d_Ho_station_1 : decode prog_1_method_18_code 1 = .ok (.invokestatic 152, 3) := by decide +kernel
theorem d_Ho_station_4 : decode prog_1_method_18_code 4 = .ok (.aload_n 0, 1) := by decide +kernel
theorem d_Ho_station_5 : decode prog_1_method_18_code 5 = .ok (.getfield 11, 3) := by decide +kernel
theorem d_Ho_station_8 : decode prog_1_method_18_code 8 = .ok (.iload_n 1, 1) := by decide +kernel
theorem d_Ho_station_9 : decode prog_1_method_18_code 9 = .ok (.aaload, 1) := by decide +kernel
theorem d_Ho_station_10 : decode prog_1_method_18_code 10 = .ok (.astore_n 3, 1) := by decide +kernel
theorem d_Ho_station_11 : decode prog_1_method_18_code 11 = .ok (.iload_n 2, 1) := by decide +kernel
theorem d_Ho_station_12 : decode prog_1_method_18_code 12 = .ok (.tableswitch 71 0 3 #[32, 37, 45, 58], 32) := by decide +kernel
theorem d_Ho_station_44 : decode prog_1_method_18_code 44 = .ok (.aload_n 3, 1) := by decide +kernel
theorem d_Ho_station_45 : decode prog_1_method_18_code 45 = .ok (.getfield 222, 3) := by decide +kernel
theorem d_Ho_station_48 : decode prog_1_method_18_code 48 = .ok (.ireturn, 1) := by decide +kernel
theorem d_Ho_station_49 : decode prog_1_method_18_code 49 = .ok (.aload_n 3, 1) := by decide +kernel
theorem d_Ho_station_50 : decode prog_1_method_18_code 50 = .ok (.getfield 174, 3) := by decide +kernel
theorem d_Ho_station_53 : decode prog_1_method_18_code 53 = .ok (.invokevirtual 225, 3) := by decide +kernel
theorem d_Ho_station_56 : decode prog_1_method_18_code 56 = .ok (.ireturn, 1) := by decide +kernel
theorem d_Ho_station_57 : decode prog_1_method_18_code 57 = .ok (.aload_n 3, 1) := by decide +kernel
theorem d_Ho_station_58 : decode prog_1_method_18_code 58 = .ok (.getfield 155, 3) := by decide +kernel
theorem d_Ho_station_61 : decode prog_1_method_18_code 61 = .ok (.ifCond .eq 7, 3) := by decide +kernel
theorem d_Ho_station_64 : decode prog_1_method_18_code 64 = .ok (.iconst 1, 1) := by decide +kernel
theorem d_Ho_station_65 : decode prog_1_method_18_code 65 = .ok (.goto 4, 3) := by decide +kernel
theorem d_Ho_station_68 : decode prog_1_method_18_code 68 = .ok (.iconst 0, 1) := by decide +kernel
theorem d_Ho_station_69 : decode prog_1_method_18_code 69 = .ok (.ireturn, 1) := by decide +kernel
theorem d_Ho_station_70 : decode prog_1_method_18_code 70 = .ok (.aload_n 3, 1) := by decide +kernel
theorem d_Ho_station_71 : decode prog_1_method_18_code 71 = .ok (.getfield 162, 3) := by decide +kernel
theorem d_Ho_station_74 : decode prog_1_method_18_code 74 = .ok (.ifCond .eq 7, 3) := by decide +kernel
theorem d_Ho_station_77 : decode prog_1_method_18_code 77 = .ok (.iconst 1, 1) := by decide +kernel
theorem d_Ho_station_78 : decode prog_1_method_18_code 78 = .ok (.goto 4, 3) := by decide +kernel
theorem d_Ho_station_81 : decode prog_1_method_18_code 81 = .ok (.iconst 0, 1) := by decide +kernel
theorem d_Ho_station_82 : decode prog_1_method_18_code 82 = .ok (.ireturn, 1) := by decide +kernel
theorem d_Ho_station_83 : decode prog_1_method_18_code 83 = .ok (.new 149, 3) := by decide +kernel
theorem d_Ho_station_86 : decode prog_1_method_18_code 86 = .ok (.dup, 1) := by decide +kernel
theorem d_Ho_station_87 : decode prog_1_method_18_code 87 = .ok (.invokespecial 151, 3) := by decide +kernel
theorem d_Ho_station_90 : decode prog_1_method_18_code 90 = .ok (.athrow, 1) := by decide +kernel
theorem d_Sh_countBytes_0 : decode prog_8_method_6_code 0 = .ok (.iconst 0, 1) := by decide +kernel
theorem d_Sh_countBytes_1 : decode prog_8_method_6_code 1 = .ok (.istore_n 1, 1) := by decide +kernel
theorem d_Sh_countBytes_2 : decode prog_8_method_6_code 2 = .ok (.iconst 0, 1) := by decide +kernel
theorem d_Sh_countBytes_3 : decode prog_8_method_6_code 3 = .ok (.istore_n 2, 1) := by decide +kernel
theorem d_Sh_countBytes_4 : decode prog_8_method_6_code 4 = .ok (.iload_n 2, 1) := by decide +kernel
theorem d_Sh_countBytes_5 : decode prog_8_method_6_code 5 = .ok (.bipush 8, 2) := by decide +kernel
theorem d_Sh_countBytes_7 : decode prog_8_method_6_code 7 = .ok (.if_icmp .ge 21, 3) := by decide +kernel
theorem d_Sh_countBytes_10 : decode prog_8_method_6_code 10 = .ok (.iload_n 1, 1) := by decide +kernel
theorem d_Sh_countBytes_11 : decode prog_8_method_6_code 11 = .ok (.aload_n 0, 1) := by decide +kernel
theorem d_Sh_countBytes_12 : decode prog_8_method_6_code 12 = .ok (.getfield 18, 3) := by decide +kernel
theorem d_Sh_countBytes_15 : decode prog_8_method_6_code 15 = .ok (.iload_n 2, 1) := by decide +kernel
theorem d_Sh_countBytes_16 : decode prog_8_method_6_code 16 = .ok (.iaload, 1) := by decide +kernel
theorem d_Sh_countBytes_17 : decode prog_8_method_6_code 17 = .ok (.invokestatic 29, 3) := by decide +kernel
theorem d_Sh_countBytes_20 : decode prog_8_method_6_code 20 = .ok (.iadd, 1) := by decide +kernel
theorem d_Sh_countBytes_21 : decode prog_8_method_6_code 21 = .ok (.istore_n 1, 1) := by decide +kernel
theorem d_Sh_countBytes_22 : decode prog_8_method_6_code 22 = .ok (.iinc 2 1, 3) := by decide +kernel
theorem d_Sh_countBytes_25 : decode prog_8_method_6_code 25 = .ok (.goto (-21), 3) := by decide +kernel
theorem d_Sh_countBytes_28 : decode prog_8_method_6_code 28 = .ok (.iload_n 1, 1) := by decide +kernel
theorem d_Sh_countBytes_29 : decode prog_8_method_6_code 29 = .ok (.ireturn, 1) := by decide +kernel
theorem d_Ho_share_0 : decode prog_1_method_19_code 0 = .ok (.iload_n 1, 1) := by decide +kernel
theorem d_Ho_share_1 : decode prog_1_method_19_code 1 = .ok (.invokestatic 152, 3) := by decide +kernel
theorem d_Ho_share_4 : decode prog_1_method_19_code 4 = .ok (.iload_n 2, 1) := by decide +kernel
theorem d_Ho_share_5 : decode prog_1_method_19_code 5 = .ok (.invokestatic 201, 3) := by decide +kernel
theorem d_Ho_share_8 : decode prog_1_method_19_code 8 = .ok (.iload_n 3, 1) := by decide +kernel
theorem d_Ho_share_9 : decode prog_1_method_19_code 9 = .ok (.ifCond .ge 11, 3) := by decide +kernel
theorem d_Ho_share_12 : decode prog_1_method_19_code 12 = .ok (.new 149, 3) := by decide +kernel
theorem d_Ho_share_15 : decode prog_1_method_19_code 15 = .ok (.dup, 1) := by decide +kernel
theorem d_Ho_share_16 : decode prog_1_method_19_code 16 = .ok (.invokespecial 151, 3) := by decide +kernel
theorem d_Ho_share_19 : decode prog_1_method_19_code 19 = .ok (.athrow, 1) := by decide +kernel
theorem d_Ho_share_20 : decode prog_1_method_19_code 20 = .ok (.aload_n 0, 1) := by decide +kernel
theorem d_Ho_share_21 : decode prog_1_method_19_code 21 = .ok (.getfield 11, 3) := by decide +kernel
theorem d_Ho_share_24 : decode prog_1_method_19_code 24 = .ok (.iload_n 1, 1) := by decide +kernel
theorem d_Ho_share_25 : decode prog_1_method_19_code 25 = .ok (.aaload, 1) := by decide +kernel
theorem d_Ho_share_26 : decode prog_1_method_19_code 26 = .ok (.getfield 174, 3) := by decide +kernel
theorem d_Ho_share_29 : decode prog_1_method_19_code 29 = .ok (.astore 4, 2) := by decide +kernel
theorem d_Ho_share_31 : decode prog_1_method_19_code 31 = .ok (.aload 4, 2) := by decide +kernel
theorem d_Ho_share_33 : decode prog_1_method_19_code 33 = .ok (.iload_n 2, 1) := by decide +kernel
theorem d_Ho_share_34 : decode prog_1_method_19_code 34 = .ok (.invokevirtual 178, 3) := by decide +kernel
theorem d_Ho_share_37 : decode prog_1_method_19_code 37 = .ok (.ifCond .ne 5, 3) := by decide +kernel
theorem d_Ho_share_40 : decode prog_1_method_19_code 40 = .ok (.iconst (-1), 1) := by decide +kernel
theorem d_Ho_share_41 : decode prog_1_method_19_code 41 = .ok (.ireturn, 1) := by decide +kernel
theorem d_Ho_share_42 : decode prog_1_method_19_code 42 = .ok (.iload_n 3, 1) := by decide +kernel
theorem d_Ho_share_43 : decode prog_1_method_19_code 43 = .ok (.tableswitch 49 0 2 #[25, 33, 41], 25) := by decide +kernel
theorem d_Ho_share_68 : decode prog_1_method_19_code 68 = .ok (.aload 4, 2) := by decide +kernel
theorem d_Ho_share_70 : decode prog_1_method_19_code 70 = .ok (.getfield 228, 3) := by decide +kernel
theorem d_Ho_share_73 : decode prog_1_method_19_code 73 = .ok (.iload_n 2, 1) := by decide +kernel
theorem d_Ho_share_74 : decode prog_1_method_19_code 74 = .ok (.iaload, 1) := by decide +kernel
theorem d_Ho_share_75 : decode prog_1_method_19_code 75 = .ok (.ireturn, 1) := by decide +kernel
theorem d_Ho_share_76 : decode prog_1_method_19_code 76 = .ok (.aload 4, 2) := by decide +kernel
theorem d_Ho_share_78 : decode prog_1_method_19_code 78 = .ok (.getfield 232, 3) := by decide +kernel
theorem d_Ho_share_81 : decode prog_1_method_19_code 81 = .ok (.iload_n 2, 1) := by decide +kernel
theorem d_Ho_share_82 : decode prog_1_method_19_code 82 = .ok (.iaload, 1) := by decide +kernel
theorem d_Ho_share_83 : decode prog_1_method_19_code 83 = .ok (.ireturn, 1) := by decide +kernel
theorem d_Ho_share_84 : decode prog_1_method_19_code 84 = .ok (.aload 4, 2) := by decide +kernel
theorem d_Ho_share_86 : decode prog_1_method_19_code 86 = .ok (.getfield 235, 3) := by decide +kernel
theorem d_Ho_share_89 : decode prog_1_method_19_code 89 = .ok (.iload_n 2, 1) := by decide +kernel
theorem d_Ho_share_90 : decode prog_1_method_19_code 90 = .ok (.iaload, 1) := by decide +kernel
theorem d_Ho_share_91 : decode prog_1_method_19_code 91 = .ok (.ireturn, 1) := by decide +kernel
theorem d_Ho_share_92 : decode prog_1_method_19_code 92 = .ok (.aload 4, 2) := by decide +kernel
theorem d_Ho_share_94 : decode prog_1_method_19_code 94 = .ok (.iload_n 2, 1) := by decide +kernel
theorem d_Ho_share_95 : decode prog_1_method_19_code 95 = .ok (.iload_n 3, 1) := by decide +kernel
theorem d_Ho_share_96 : decode prog_1_method_19_code 96 = .ok (.iconst 3, 1) := by decide +kernel
theorem d_Ho_share_97 : decode prog_1_method_19_code 97 = .ok (.isub, 1) := by decide +kernel
theorem d_Ho_share_98 : decode prog_1_method_19_code 98 = .ok (.invokevirtual 238, 3) := by decide +kernel
theorem d_Ho_share_101 : decode prog_1_method_19_code 101 = .ok (.ireturn, 1) := by decide +kernel
theorem d_Sh_shareByte_0 : decode prog_8_method_7_code 0 = .ok (.iload_n 2, 1) := by decide +kernel
theorem d_Sh_shareByte_1 : decode prog_8_method_7_code 1 = .ok (.aload_n 0, 1) := by decide +kernel
theorem d_Sh_shareByte_2 : decode prog_8_method_7_code 2 = .ok (.getfield 18, 3) := by decide +kernel
theorem d_Sh_shareByte_5 : decode prog_8_method_7_code 5 = .ok (.iload_n 1, 1) := by decide +kernel
theorem d_Sh_shareByte_6 : decode prog_8_method_7_code 6 = .ok (.iaload, 1) := by decide +kernel
theorem d_Sh_shareByte_7 : decode prog_8_method_7_code 7 = .ok (.invokestatic 29, 3) := by decide +kernel
theorem d_Sh_shareByte_10 : decode prog_8_method_7_code 10 = .ok (.if_icmp .lt 5, 3) := by decide +kernel
theorem d_Sh_shareByte_13 : decode prog_8_method_7_code 13 = .ok (.iconst (-1), 1) := by decide +kernel
theorem d_Sh_shareByte_14 : decode prog_8_method_7_code 14 = .ok (.ireturn, 1) := by decide +kernel
theorem d_Sh_shareByte_15 : decode prog_8_method_7_code 15 = .ok (.aload_n 0, 1) := by decide +kernel
theorem d_Sh_shareByte_16 : decode prog_8_method_7_code 16 = .ok (.getfield 21, 3) := by decide +kernel
theorem d_Sh_shareByte_19 : decode prog_8_method_7_code 19 = .ok (.iload_n 1, 1) := by decide +kernel
theorem d_Sh_shareByte_20 : decode prog_8_method_7_code 20 = .ok (.laload, 1) := by decide +kernel
theorem d_Sh_shareByte_21 : decode prog_8_method_7_code 21 = .ok (.bipush 8, 2) := by decide +kernel
theorem d_Sh_shareByte_23 : decode prog_8_method_7_code 23 = .ok (.iload_n 2, 1) := by decide +kernel
theorem d_Sh_shareByte_24 : decode prog_8_method_7_code 24 = .ok (.imul, 1) := by decide +kernel
theorem d_Sh_shareByte_25 : decode prog_8_method_7_code 25 = .ok (.lushr, 1) := by decide +kernel
theorem d_Sh_shareByte_26 : decode prog_8_method_7_code 26 = .ok (.ldc2_w 35, 3) := by decide +kernel
theorem d_Sh_shareByte_29 : decode prog_8_method_7_code 29 = .ok (.land, 1) := by decide +kernel
theorem d_Sh_shareByte_30 : decode prog_8_method_7_code 30 = .ok (.l2i, 1) := by decide +kernel
theorem d_Sh_shareByte_31 : decode prog_8_method_7_code 31 = .ok (.ireturn, 1) := by decide +kernel
