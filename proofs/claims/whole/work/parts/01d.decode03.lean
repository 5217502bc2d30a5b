theorem d_63_0 : decode prog_7_method_1_code 0 = .ok (.aload_n 0, 1) := by decide +kernel
theorem d_63_1 : decode prog_7_method_1_code 1 = .ok (.invokespecial 1, 3) := by decide +kernel
theorem d_63_4 : decode prog_7_method_1_code 4 = .ok (.aload_n 0, 1) := by decide +kernel
theorem d_63_5 : decode prog_7_method_1_code 5 = .ok (.iconst 5, 1) := by decide +kernel
theorem d_63_6 : decode prog_7_method_1_code 6 = .ok (.putfield 9, 3) := by decide +kernel
theorem d_63_9 : decode prog_7_method_1_code 9 = .ok (.aload_n 0, 1) := by decide +kernel
theorem d_63_10 : decode prog_7_method_1_code 10 = .ok (.aload_n 1, 1) := by decide +kernel
theorem d_63_11 : decode prog_7_method_1_code 11 = .ok (.putfield 13, 3) := by decide +kernel
theorem d_63_14 : decode prog_7_method_1_code 14 = .ok (.aload_n 0, 1) := by decide +kernel
theorem d_63_15 : decode prog_7_method_1_code 15 = .ok (.aload_n 2, 1) := by decide +kernel
theorem d_63_16 : decode prog_7_method_1_code 16 = .ok (.putfield 17, 3) := by decide +kernel
theorem d_63_19 : decode prog_7_method_1_code 19 = .ok (.aload_n 0, 1) := by decide +kernel
theorem d_63_20 : decode prog_7_method_1_code 20 = .ok (.iload_n 3, 1) := by decide +kernel
theorem d_63_21 : decode prog_7_method_1_code 21 = .ok (.putfield 21, 3) := by decide +kernel
theorem d_63_24 : decode prog_7_method_1_code 24 = .ok (.aload_n 0, 1) := by decide +kernel
theorem d_63_25 : decode prog_7_method_1_code 25 = .ok (.new 24, 3) := by decide +kernel
theorem d_63_28 : decode prog_7_method_1_code 28 = .ok (.dup, 1) := by decide +kernel
theorem d_63_29 : decode prog_7_method_1_code 29 = .ok (.aload_n 1, 1) := by decide +kernel
theorem d_63_30 : decode prog_7_method_1_code 30 = .ok (.invokespecial 26, 3) := by decide +kernel
theorem d_63_33 : decode prog_7_method_1_code 33 = .ok (.putfield 29, 3) := by decide +kernel
theorem d_63_36 : decode prog_7_method_1_code 36 = .ok (.aload_n 0, 1) := by decide +kernel
theorem d_63_37 : decode prog_7_method_1_code 37 = .ok (.new 24, 3) := by decide +kernel
theorem d_63_40 : decode prog_7_method_1_code 40 = .ok (.dup, 1) := by decide +kernel
theorem d_63_41 : decode prog_7_method_1_code 41 = .ok (.aload_n 1, 1) := by decide +kernel
theorem d_63_42 : decode prog_7_method_1_code 42 = .ok (.invokespecial 26, 3) := by decide +kernel
theorem d_63_45 : decode prog_7_method_1_code 45 = .ok (.putfield 33, 3) := by decide +kernel
theorem d_63_48 : decode prog_7_method_1_code 48 = .ok (.aload_n 0, 1) := by decide +kernel
theorem d_63_49 : decode prog_7_method_1_code 49 = .ok (.new 24, 3) := by decide +kernel
theorem d_63_52 : decode prog_7_method_1_code 52 = .ok (.dup, 1) := by decide +kernel
theorem d_63_53 : decode prog_7_method_1_code 53 = .ok (.aload_n 1, 1) := by decide +kernel
theorem d_63_54 : decode prog_7_method_1_code 54 = .ok (.invokespecial 26, 3) := by decide +kernel
theorem d_63_57 : decode prog_7_method_1_code 57 = .ok (.putfield 36, 3) := by decide +kernel
theorem d_63_60 : decode prog_7_method_1_code 60 = .ok (.aload_n 0, 1) := by decide +kernel
theorem d_63_61 : decode prog_7_method_1_code 61 = .ok (.new 24, 3) := by decide +kernel
theorem d_63_64 : decode prog_7_method_1_code 64 = .ok (.dup, 1) := by decide +kernel
theorem d_63_65 : decode prog_7_method_1_code 65 = .ok (.aload_n 1, 1) := by decide +kernel
theorem d_63_66 : decode prog_7_method_1_code 66 = .ok (.invokespecial 26, 3) := by decide +kernel
theorem d_63_69 : decode prog_7_method_1_code 69 = .ok (.putfield 39, 3) := by decide +kernel
theorem d_63_72 : decode prog_7_method_1_code 72 = .ok (.return_, 1) := by decide +kernel
theorem d_64_0 : decode prog_7_method_2_code 0 = .ok (.aload_n 0, 1) := by decide +kernel
theorem d_64_1 : decode prog_7_method_2_code 1 = .ok (.iconst 1, 1) := by decide +kernel
theorem d_64_2 : decode prog_7_method_2_code 2 = .ok (.invokevirtual 42, 3) := by decide +kernel
theorem d_64_5 : decode prog_7_method_2_code 5 = .ok (.aload_n 0, 1) := by decide +kernel
theorem d_64_6 : decode prog_7_method_2_code 6 = .ok (.bipush 100, 2) := by decide +kernel
theorem d_64_8 : decode prog_7_method_2_code 8 = .ok (.invokevirtual 46, 3) := by decide +kernel
theorem d_64_11 : decode prog_7_method_2_code 11 = .ok (.return_, 1) := by decide +kernel
theorem d_65_0 : decode prog_7_method_3_code 0 = .ok (.aload_n 0, 1) := by decide +kernel
theorem d_65_1 : decode prog_7_method_3_code 1 = .ok (.iload_n 1, 1) := by decide +kernel
theorem d_65_2 : decode prog_7_method_3_code 2 = .ok (.putfield 49, 3) := by decide +kernel
theorem d_65_5 : decode prog_7_method_3_code 5 = .ok (.aload_n 0, 1) := by decide +kernel
theorem d_65_6 : decode prog_7_method_3_code 6 = .ok (.getfield 17, 3) := by decide +kernel
theorem d_65_9 : decode prog_7_method_3_code 9 = .ok (.aload_n 0, 1) := by decide +kernel
theorem d_65_10 : decode prog_7_method_3_code 10 = .ok (.getfield 21, 3) := by decide +kernel
theorem d_65_13 : decode prog_7_method_3_code 13 = .ok (.bipush 7, 2) := by decide +kernel
theorem d_65_15 : decode prog_7_method_3_code 15 = .ok (.iload_n 1, 1) := by decide +kernel
theorem d_65_16 : decode prog_7_method_3_code 16 = .ok (.invokevirtual 54, 3) := by decide +kernel
theorem d_65_19 : decode prog_7_method_3_code 19 = .ok (.return_, 1) := by decide +kernel
theorem d_66_0 : decode prog_7_method_4_code 0 = .ok (.aload_n 0, 1) := by decide +kernel
theorem d_66_1 : decode prog_7_method_4_code 1 = .ok (.getfield 17, 3) := by decide +kernel
theorem d_66_4 : decode prog_7_method_4_code 4 = .ok (.aload_n 0, 1) := by decide +kernel
theorem d_66_5 : decode prog_7_method_4_code 5 = .ok (.getfield 21, 3) := by decide +kernel
theorem d_66_8 : decode prog_7_method_4_code 8 = .ok (.bipush 7, 2) := by decide +kernel
theorem d_66_10 : decode prog_7_method_4_code 10 = .ok (.iload_n 1, 1) := by decide +kernel
theorem d_66_11 : decode prog_7_method_4_code 11 = .ok (.invokevirtual 54, 3) := by decide +kernel
theorem d_66_14 : decode prog_7_method_4_code 14 = .ok (.return_, 1) := by decide +kernel
theorem d_67_0 : decode prog_7_method_5_code 0 = .ok (.aload_n 0, 1) := by decide +kernel
theorem d_67_1 : decode prog_7_method_5_code 1 = .ok (.getfield 9, 3) := by decide +kernel
theorem d_67_4 : decode prog_7_method_5_code 4 = .ok (.iconst 1, 1) := by decide +kernel
theorem d_67_5 : decode prog_7_method_5_code 5 = .ok (.if_icmp .eq 11, 3) := by decide +kernel
theorem d_67_8 : decode prog_7_method_5_code 8 = .ok (.aload_n 0, 1) := by decide +kernel
theorem d_67_9 : decode prog_7_method_5_code 9 = .ok (.getfield 9, 3) := by decide +kernel
theorem d_67_12 : decode prog_7_method_5_code 12 = .ok (.iconst 2, 1) := by decide +kernel
theorem d_67_13 : decode prog_7_method_5_code 13 = .ok (.if_icmp .ne 11, 3) := by decide +kernel
theorem d_67_16 : decode prog_7_method_5_code 16 = .ok (.aload_n 0, 1) := by decide +kernel
theorem d_67_17 : decode prog_7_method_5_code 17 = .ok (.aload_n 0, 1) := by decide +kernel
theorem d_67_18 : decode prog_7_method_5_code 18 = .ok (.getfield 49, 3) := by decide +kernel
theorem d_67_21 : decode prog_7_method_5_code 21 = .ok (.invokevirtual 46, 3) := by decide +kernel
theorem d_67_24 : decode prog_7_method_5_code 24 = .ok (.return_, 1) := by decide +kernel
theorem d_68_0 : decode prog_7_method_6_code 0 = .ok (.aload_n 0, 1) := by decide +kernel
theorem d_68_1 : decode prog_7_method_6_code 1 = .ok (.iconst 4, 1) := by decide +kernel
theorem d_68_2 : decode prog_7_method_6_code 2 = .ok (.invokevirtual 42, 3) := by decide +kernel
theorem d_68_5 : decode prog_7_method_6_code 5 = .ok (.aload_n 0, 1) := by decide +kernel
theorem d_68_6 : decode prog_7_method_6_code 6 = .ok (.getfield 39, 3) := by decide +kernel
theorem d_68_9 : decode prog_7_method_6_code 9 = .ok (.bipush 64, 2) := by decide +kernel
theorem d_68_11 : decode prog_7_method_6_code 11 = .ok (.aload_n 0, 1) := by decide +kernel
theorem d_68_12 : decode prog_7_method_6_code 12 = .ok (.getfield 13, 3) := by decide +kernel
theorem d_68_15 : decode prog_7_method_6_code 15 = .ok (.getfield 58, 3) := by decide +kernel
theorem d_68_18 : decode prog_7_method_6_code 18 = .ok (.imul, 1) := by decide +kernel
theorem d_68_19 : decode prog_7_method_6_code 19 = .ok (.invokevirtual 63, 3) := by decide +kernel
theorem d_68_22 : decode prog_7_method_6_code 22 = .ok (.return_, 1) := by decide +kernel
theorem d_69_0 : decode prog_7_method_7_code 0 = .ok (.aload_n 0, 1) := by decide +kernel
theorem d_69_1 : decode prog_7_method_7_code 1 = .ok (.iload_n 1, 1) := by decide +kernel
theorem d_69_2 : decode prog_7_method_7_code 2 = .ok (.invokevirtual 46, 3) := by decide +kernel
theorem d_69_5 : decode prog_7_method_7_code 5 = .ok (.aload_n 0, 1) := by decide +kernel
theorem d_69_6 : decode prog_7_method_7_code 6 = .ok (.iconst 2, 1) := by decide +kernel
theorem d_69_7 : decode prog_7_method_7_code 7 = .ok (.invokevirtual 42, 3) := by decide +kernel
theorem d_69_10 : decode prog_7_method_7_code 10 = .ok (.aload_n 0, 1) := by decide +kernel
theorem d_69_11 : decode prog_7_method_7_code 11 = .ok (.getfield 29, 3) := by decide +kernel
theorem d_69_14 : decode prog_7_method_7_code 14 = .ok (.aload_n 0, 1) := by decide +kernel
theorem d_69_15 : decode prog_7_method_7_code 15 = .ok (.getfield 13, 3) := by decide +kernel
theorem d_69_18 : decode prog_7_method_7_code 18 = .ok (.getfield 58, 3) := by decide +kernel
theorem d_69_21 : decode prog_7_method_7_code 21 = .ok (.invokevirtual 63, 3) := by decide +kernel
theorem d_69_24 : decode prog_7_method_7_code 24 = .ok (.aload_n 0, 1) := by decide +kernel
theorem d_69_25 : decode prog_7_method_7_code 25 = .ok (.getfield 33, 3) := by decide +kernel
theorem d_69_28 : decode prog_7_method_7_code 28 = .ok (.bipush 64, 2) := by decide +kernel
theorem d_69_30 : decode prog_7_method_7_code 30 = .ok (.aload_n 0, 1) := by decide +kernel
theorem d_69_31 : decode prog_7_method_7_code 31 = .ok (.getfield 13, 3) := by decide +kernel
theorem d_69_34 : decode prog_7_method_7_code 34 = .ok (.getfield 58, 3) := by decide +kernel
theorem d_69_37 : decode prog_7_method_7_code 37 = .ok (.imul, 1) := by decide +kernel
theorem d_69_38 : decode prog_7_method_7_code 38 = .ok (.invokevirtual 63, 3) := by decide +kernel
theorem d_69_41 : decode prog_7_method_7_code 41 = .ok (.return_, 1) := by decide +kernel
theorem d_70_0 : decode prog_7_method_8_code 0 = .ok (.aload_n 0, 1) := by decide +kernel
theorem d_70_1 : decode prog_7_method_8_code 1 = .ok (.iconst 3, 1) := by decide +kernel
theorem d_70_2 : decode prog_7_method_8_code 2 = .ok (.invokevirtual 42, 3) := by decide +kernel
theorem d_70_5 : decode prog_7_method_8_code 5 = .ok (.aload_n 0, 1) := by decide +kernel
theorem d_70_6 : decode prog_7_method_8_code 6 = .ok (.getfield 36, 3) := by decide +kernel
theorem d_70_9 : decode prog_7_method_8_code 9 = .ok (.bipush 8, 2) := by decide +kernel
theorem d_70_11 : decode prog_7_method_8_code 11 = .ok (.aload_n 0, 1) := by decide +kernel
theorem d_70_12 : decode prog_7_method_8_code 12 = .ok (.getfield 13, 3) := by decide +kernel
theorem d_70_15 : decode prog_7_method_8_code 15 = .ok (.getfield 58, 3) := by decide +kernel
theorem d_70_18 : decode prog_7_method_8_code 18 = .ok (.imul, 1) := by decide +kernel
theorem d_70_19 : decode prog_7_method_8_code 19 = .ok (.invokevirtual 63, 3) := by decide +kernel
theorem d_70_22 : decode prog_7_method_8_code 22 = .ok (.return_, 1) := by decide +kernel
theorem d_71_0 : decode prog_7_method_9_code 0 = .ok (.aload_n 0, 1) := by decide +kernel
theorem d_71_1 : decode prog_7_method_9_code 1 = .ok (.iload_n 1, 1) := by decide +kernel
theorem d_71_2 : decode prog_7_method_9_code 2 = .ok (.putfield 9, 3) := by decide +kernel
theorem d_71_5 : decode prog_7_method_9_code 5 = .ok (.aload_n 0, 1) := by decide +kernel
theorem d_71_6 : decode prog_7_method_9_code 6 = .ok (.getfield 9, 3) := by decide +kernel
theorem d_71_9 : decode prog_7_method_9_code 9 = .ok (.iconst 2, 1) := by decide +kernel
theorem d_71_10 : decode prog_7_method_9_code 10 = .ok (.if_icmp .eq 17, 3) := by decide +kernel
theorem d_71_13 : decode prog_7_method_9_code 13 = .ok (.aload_n 0, 1) := by decide +kernel
theorem d_71_14 : decode prog_7_method_9_code 14 = .ok (.getfield 29, 3) := by decide +kernel
theorem d_71_17 : decode prog_7_method_9_code 17 = .ok (.invokevirtual 66, 3) := by decide +kernel
theorem d_71_20 : decode prog_7_method_9_code 20 = .ok (.aload_n 0, 1) := by decide +kernel
theorem d_71_21 : decode prog_7_method_9_code 21 = .ok (.getfield 33, 3) := by decide +kernel
theorem d_71_24 : decode prog_7_method_9_code 24 = .ok (.invokevirtual 66, 3) := by decide +kernel
theorem d_71_27 : decode prog_7_method_9_code 27 = .ok (.aload_n 0, 1) := by decide +kernel
theorem d_71_28 : decode prog_7_method_9_code 28 = .ok (.getfield 9, 3) := by decide +kernel
theorem d_71_31 : decode prog_7_method_9_code 31 = .ok (.iconst 5, 1) := by decide +kernel
theorem d_71_32 : decode prog_7_method_9_code 32 = .ok (.if_icmp .ne 17, 3) := by decide +kernel
theorem d_71_35 : decode prog_7_method_9_code 35 = .ok (.aload_n 0, 1) := by decide +kernel
theorem d_71_36 : decode prog_7_method_9_code 36 = .ok (.getfield 36, 3) := by decide +kernel
theorem d_71_39 : decode prog_7_method_9_code 39 = .ok (.invokevirtual 66, 3) := by decide +kernel
theorem d_71_42 : decode prog_7_method_9_code 42 = .ok (.aload_n 0, 1) := by decide +kernel
theorem d_71_43 : decode prog_7_method_9_code 43 = .ok (.getfield 39, 3) := by decide +kernel
theorem d_71_46 : decode prog_7_method_9_code 46 = .ok (.invokevirtual 66, 3) := by decide +kernel
theorem d_71_49 : decode prog_7_method_9_code 49 = .ok (.return_, 1) := by decide +kernel
theorem d_72_0 : decode prog_7_method_10_code 0 = .ok (.aload_n 0, 1) := by decide +kernel
theorem d_72_1 : decode prog_7_method_10_code 1 = .ok (.getfield 29, 3) := by decide +kernel
theorem d_72_4 : decode prog_7_method_10_code 4 = .ok (.invokevirtual 69, 3) := by decide +kernel
theorem d_72_7 : decode prog_7_method_10_code 7 = .ok (.ifCond .eq 28, 3) := by decide +kernel
theorem d_72_10 : decode prog_7_method_10_code 10 = .ok (.aload_n 0, 1) := by decide +kernel
theorem d_72_11 : decode prog_7_method_10_code 11 = .ok (.aload_n 0, 1) := by decide +kernel
theorem d_72_12 : decode prog_7_method_10_code 12 = .ok (.getfield 49, 3) := by decide +kernel
theorem d_72_15 : decode prog_7_method_10_code 15 = .ok (.invokevirtual 46, 3) := by decide +kernel
theorem d_72_18 : decode prog_7_method_10_code 18 = .ok (.aload_n 0, 1) := by decide +kernel
theorem d_72_19 : decode prog_7_method_10_code 19 = .ok (.getfield 29, 3) := by decide +kernel
theorem d_72_22 : decode prog_7_method_10_code 22 = .ok (.bipush 8, 2) := by decide +kernel
theorem d_72_24 : decode prog_7_method_10_code 24 = .ok (.aload_n 0, 1) := by decide +kernel
theorem d_72_25 : decode prog_7_method_10_code 25 = .ok (.getfield 13, 3) := by decide +kernel
theorem d_72_28 : decode prog_7_method_10_code 28 = .ok (.getfield 58, 3) := by decide +kernel
theorem d_72_31 : decode prog_7_method_10_code 31 = .ok (.imul, 1) := by decide +kernel
theorem d_72_32 : decode prog_7_method_10_code 32 = .ok (.invokevirtual 73, 3) := by decide +kernel
theorem d_72_35 : decode prog_7_method_10_code 35 = .ok (.aload_n 0, 1) := by decide +kernel
theorem d_72_36 : decode prog_7_method_10_code 36 = .ok (.getfield 33, 3) := by decide +kernel
theorem d_72_39 : decode prog_7_method_10_code 39 = .ok (.invokevirtual 69, 3) := by decide +kernel
theorem d_72_42 : decode prog_7_method_10_code 42 = .ok (.ifCond .ne 23, 3) := by decide +kernel
theorem d_72_45 : decode prog_7_method_10_code 45 = .ok (.aload_n 0, 1) := by decide +kernel
theorem d_72_46 : decode prog_7_method_10_code 46 = .ok (.getfield 36, 3) := by decide +kernel
theorem d_72_49 : decode prog_7_method_10_code 49 = .ok (.invokevirtual 69, 3) := by decide +kernel
theorem d_72_52 : decode prog_7_method_10_code 52 = .ok (.ifCond .ne 13, 3) := by decide +kernel
theorem d_72_55 : decode prog_7_method_10_code 55 = .ok (.aload_n 0, 1) := by decide +kernel
theorem d_72_56 : decode prog_7_method_10_code 56 = .ok (.getfield 39, 3) := by decide +kernel
theorem d_72_59 : decode prog_7_method_10_code 59 = .ok (.invokevirtual 69, 3) := by decide +kernel
theorem d_72_62 : decode prog_7_method_10_code 62 = .ok (.ifCond .eq 8, 3) := by decide +kernel
theorem d_72_65 : decode prog_7_method_10_code 65 = .ok (.aload_n 0, 1) := by decide +kernel
theorem d_72_66 : decode prog_7_method_10_code 66 = .ok (.iconst 5, 1) := by decide +kernel
theorem d_72_67 : decode prog_7_method_10_code 67 = .ok (.invokevirtual 42, 3) := by decide +kernel
theorem d_72_70 : decode prog_7_method_10_code 70 = .ok (.return_, 1) := by decide +kernel
theorem d_73_0 : decode prog_7_method_11_code 0 = .ok (.aload_n 0, 1) := by decide +kernel
theorem d_73_1 : decode prog_7_method_11_code 1 = .ok (.getfield 29, 3) := by decide +kernel
theorem d_73_4 : decode prog_7_method_11_code 4 = .ok (.getfield 76, 3) := by decide +kernel
theorem d_73_7 : decode prog_7_method_11_code 7 = .ok (.aload_n 0, 1) := by decide +kernel
theorem d_73_8 : decode prog_7_method_11_code 8 = .ok (.getfield 33, 3) := by decide +kernel
theorem d_73_11 : decode prog_7_method_11_code 11 = .ok (.getfield 76, 3) := by decide +kernel
theorem d_73_14 : decode prog_7_method_11_code 14 = .ok (.invokestatic 79, 3) := by decide +kernel
theorem d_73_17 : decode prog_7_method_11_code 17 = .ok (.istore_n 1, 1) := by decide +kernel
theorem d_73_18 : decode prog_7_method_11_code 18 = .ok (.iload_n 1, 1) := by decide +kernel
theorem d_73_19 : decode prog_7_method_11_code 19 = .ok (.aload_n 0, 1) := by decide +kernel
theorem d_73_20 : decode prog_7_method_11_code 20 = .ok (.getfield 36, 3) := by decide +kernel
theorem d_73_23 : decode prog_7_method_11_code 23 = .ok (.getfield 76, 3) := by decide +kernel
theorem d_73_26 : decode prog_7_method_11_code 26 = .ok (.aload_n 0, 1) := by decide +kernel
theorem d_73_27 : decode prog_7_method_11_code 27 = .ok (.getfield 39, 3) := by decide +kernel
theorem d_73_30 : decode prog_7_method_11_code 30 = .ok (.getfield 76, 3) := by decide +kernel
theorem d_73_33 : decode prog_7_method_11_code 33 = .ok (.invokestatic 79, 3) := by decide +kernel
theorem d_73_36 : decode prog_7_method_11_code 36 = .ok (.invokestatic 79, 3) := by decide +kernel
theorem d_73_39 : decode prog_7_method_11_code 39 = .ok (.ireturn, 1) := by decide +kernel
theorem d_74_0 : decode prog_8_method_1_code 0 = .ok (.aload_n 0, 1) := by decide +kernel
theorem d_74_1 : decode prog_8_method_1_code 1 = .ok (.invokespecial 1, 3) := by decide +kernel
theorem d_74_4 : decode prog_8_method_1_code 4 = .ok (.aload_n 0, 1) := by decide +kernel
theorem d_74_5 : decode prog_8_method_1_code 5 = .ok (.ldc 9, 2) := by decide +kernel
theorem d_74_7 : decode prog_8_method_1_code 7 = .ok (.putfield 10, 3) := by decide +kernel
theorem d_74_10 : decode prog_8_method_1_code 10 = .ok (.aload_n 0, 1) := by decide +kernel
theorem d_74_11 : decode prog_8_method_1_code 11 = .ok (.aload_n 1, 1) := by decide +kernel
theorem d_74_12 : decode prog_8_method_1_code 12 = .ok (.putfield 14, 3) := by decide +kernel
theorem d_74_15 : decode prog_8_method_1_code 15 = .ok (.return_, 1) := by decide +kernel
theorem d_75_0 : decode prog_8_method_2_code 0 = .ok (.aload_n 0, 1) := by decide +kernel
theorem d_75_1 : decode prog_8_method_2_code 1 = .ok (.iload_n 1, 1) := by decide +kernel
theorem d_75_2 : decode prog_8_method_2_code 2 = .ok (.putfield 18, 3) := by decide +kernel
theorem d_75_5 : decode prog_8_method_2_code 5 = .ok (.aload_n 0, 1) := by decide +kernel
theorem d_75_6 : decode prog_8_method_2_code 6 = .ok (.aload_n 0, 1) := by decide +kernel
theorem d_75_7 : decode prog_8_method_2_code 7 = .ok (.getfield 14, 3) := by decide +kernel
theorem d_75_10 : decode prog_8_method_2_code 10 = .ok (.getfield 21, 3) := by decide +kernel
theorem d_75_13 : decode prog_8_method_2_code 13 = .ok (.iload_n 1, 1) := by decide +kernel
theorem d_75_14 : decode prog_8_method_2_code 14 = .ok (.iadd, 1) := by decide +kernel
theorem d_75_15 : decode prog_8_method_2_code 15 = .ok (.putfield 10, 3) := by decide +kernel
theorem d_75_18 : decode prog_8_method_2_code 18 = .ok (.return_, 1) := by decide +kernel
theorem d_76_0 : decode prog_8_method_3_code 0 = .ok (.aload_n 0, 1) := by decide +kernel
theorem d_76_1 : decode prog_8_method_3_code 1 = .ok (.iconst 2, 1) := by decide +kernel
theorem d_76_2 : decode prog_8_method_3_code 2 = .ok (.aload_n 0, 1) := by decide +kernel
theorem d_76_3 : decode prog_8_method_3_code 3 = .ok (.getfield 18, 3) := by decide +kernel
theorem d_76_6 : decode prog_8_method_3_code 6 = .ok (.imul, 1) := by decide +kernel
theorem d_76_7 : decode prog_8_method_3_code 7 = .ok (.invokevirtual 26, 3) := by decide +kernel
theorem d_76_10 : decode prog_8_method_3_code 10 = .ok (.return_, 1) := by decide +kernel
theorem d_77_0 : decode prog_8_method_4_code 0 = .ok (.aload_n 0, 1) := by decide +kernel
theorem d_77_1 : decode prog_8_method_4_code 1 = .ok (.iconst 2, 1) := by decide +kernel
theorem d_77_2 : decode prog_8_method_4_code 2 = .ok (.aload_n 0, 1) := by decide +kernel
theorem d_77_3 : decode prog_8_method_4_code 3 = .ok (.getfield 18, 3) := by decide +kernel
theorem d_77_6 : decode prog_8_method_4_code 6 = .ok (.imul, 1) := by decide +kernel
theorem d_77_7 : decode prog_8_method_4_code 7 = .ok (.iload_n 1, 1) := by decide +kernel
theorem d_77_8 : decode prog_8_method_4_code 8 = .ok (.invokestatic 30, 3) := by decide +kernel
theorem d_77_11 : decode prog_8_method_4_code 11 = .ok (.invokevirtual 26, 3) := by decide +kernel
theorem d_77_14 : decode prog_8_method_4_code 14 = .ok (.return_, 1) := by decide +kernel
theorem d_78_0 : decode prog_8_method_5_code 0 = .ok (.aload_n 0, 1) := by decide +kernel
theorem d_78_1 : decode prog_8_method_5_code 1 = .ok (.ldc 9, 2) := by decide +kernel
theorem d_78_3 : decode prog_8_method_5_code 3 = .ok (.putfield 10, 3) := by decide +kernel
theorem d_78_6 : decode prog_8_method_5_code 6 = .ok (.return_, 1) := by decide +kernel
theorem d_79_0 : decode prog_8_method_6_code 0 = .ok (.aload_n 0, 1) := by decide +kernel
theorem d_79_1 : decode prog_8_method_6_code 1 = .ok (.getfield 10, 3) := by decide +kernel
theorem d_79_4 : decode prog_8_method_6_code 4 = .ok (.ldc 9, 2) := by decide +kernel
theorem d_79_6 : decode prog_8_method_6_code 6 = .ok (.if_icmp .eq 7, 3) := by decide +kernel
theorem d_79_9 : decode prog_8_method_6_code 9 = .ok (.iconst 1, 1) := by decide +kernel
theorem d_79_10 : decode prog_8_method_6_code 10 = .ok (.goto 4, 3) := by decide +kernel
theorem d_79_13 : decode prog_8_method_6_code 13 = .ok (.iconst 0, 1) := by decide +kernel
theorem d_79_14 : decode prog_8_method_6_code 14 = .ok (.ireturn, 1) := by decide +kernel
theorem d_80_0 : decode prog_8_method_7_code 0 = .ok (.aload_n 0, 1) := by decide +kernel
theorem d_80_1 : decode prog_8_method_7_code 1 = .ok (.getfield 10, 3) := by decide +kernel
theorem d_80_4 : decode prog_8_method_7_code 4 = .ok (.aload_n 0, 1) := by decide +kernel
theorem d_80_5 : decode prog_8_method_7_code 5 = .ok (.getfield 14, 3) := by decide +kernel
theorem d_80_8 : decode prog_8_method_7_code 8 = .ok (.getfield 21, 3) := by decide +kernel
theorem d_80_11 : decode prog_8_method_7_code 11 = .ok (.if_icmp .ne 7, 3) := by decide +kernel
theorem d_80_14 : decode prog_8_method_7_code 14 = .ok (.iconst 1, 1) := by decide +kernel
theorem d_80_15 : decode prog_8_method_7_code 15 = .ok (.goto 4, 3) := by decide +kernel
theorem d_80_18 : decode prog_8_method_7_code 18 = .ok (.iconst 0, 1) := by decide +kernel
theorem d_80_19 : decode prog_8_method_7_code 19 = .ok (.ireturn, 1) := by decide +kernel
theorem d_81_0 : decode prog_9_method_1_code 0 = .ok (.aload_n 0, 1) := by decide +kernel
theorem d_81_1 : decode prog_9_method_1_code 1 = .ok (.invokespecial 3, 3) := by decide +kernel
theorem d_81_4 : decode prog_9_method_1_code 4 = .ok (.aload_n 0, 1) := by decide +kernel
theorem d_81_5 : decode prog_9_method_1_code 5 = .ok (.iconst 4, 1) := by decide +kernel
theorem d_81_6 : decode prog_9_method_1_code 6 = .ok (.anewarray 9, 3) := by decide +kernel
theorem d_81_9 : decode prog_9_method_1_code 9 = .ok (.putfield 11, 3) := by decide +kernel
theorem d_81_12 : decode prog_9_method_1_code 12 = .ok (.aload_n 0, 1) := by decide +kernel
theorem d_81_13 : decode prog_9_method_1_code 13 = .ok (.aload_n 1, 1) := by decide +kernel
theorem d_81_14 : decode prog_9_method_1_code 14 = .ok (.putfield 17, 3) := by decide +kernel
theorem d_81_17 : decode prog_9_method_1_code 17 = .ok (.iconst 0, 1) := by decide +kernel
theorem d_81_18 : decode prog_9_method_1_code 18 = .ok (.istore_n 2, 1) := by decide +kernel
theorem d_81_19 : decode prog_9_method_1_code 19 = .ok (.iload_n 2, 1) := by decide +kernel
theorem d_81_20 : decode prog_9_method_1_code 20 = .ok (.iconst 4, 1) := by decide +kernel
theorem d_81_21 : decode prog_9_method_1_code 21 = .ok (.if_icmp .ge 22, 3) := by decide +kernel
theorem d_81_24 : decode prog_9_method_1_code 24 = .ok (.aload_n 0, 1) := by decide +kernel
theorem d_81_25 : decode prog_9_method_1_code 25 = .ok (.getfield 11, 3) := by decide +kernel
theorem d_81_28 : decode prog_9_method_1_code 28 = .ok (.iload_n 2, 1) := by decide +kernel
theorem d_81_29 : decode prog_9_method_1_code 29 = .ok (.new 9, 3) := by decide +kernel
theorem d_81_32 : decode prog_9_method_1_code 32 = .ok (.dup, 1) := by decide +kernel
theorem d_81_33 : decode prog_9_method_1_code 33 = .ok (.invokespecial 21, 3) := by decide +kernel
theorem d_81_36 : decode prog_9_method_1_code 36 = .ok (.aastore, 1) := by decide +kernel
theorem d_81_37 : decode prog_9_method_1_code 37 = .ok (.iinc 2 1, 3) := by decide +kernel
theorem d_81_40 : decode prog_9_method_1_code 40 = .ok (.goto (-21), 3) := by decide +kernel
theorem d_81_43 : decode prog_9_method_1_code 43 = .ok (.return_, 1) := by decide +kernel
theorem d_82_0 : decode prog_9_method_2_code 0 = .ok (.aload_n 0, 1) := by decide +kernel
theorem d_82_1 : decode prog_9_method_2_code 1 = .ok (.iconst 1, 1) := by decide +kernel
theorem d_82_2 : decode prog_9_method_2_code 2 = .ok (.putfield 22, 3) := by decide +kernel
theorem d_82_5 : decode prog_9_method_2_code 5 = .ok (.aload_n 0, 1) := by decide +kernel
theorem d_82_6 : decode prog_9_method_2_code 6 = .ok (.iload_n 1, 1) := by decide +kernel
theorem d_82_7 : decode prog_9_method_2_code 7 = .ok (.putfield 26, 3) := by decide +kernel
theorem d_82_10 : decode prog_9_method_2_code 10 = .ok (.aload_n 0, 1) := by decide +kernel
theorem d_82_11 : decode prog_9_method_2_code 11 = .ok (.aload_n 0, 1) := by decide +kernel
theorem d_82_12 : decode prog_9_method_2_code 12 = .ok (.getfield 17, 3) := by decide +kernel
theorem d_82_15 : decode prog_9_method_2_code 15 = .ok (.getfield 30, 3) := by decide +kernel
theorem d_82_18 : decode prog_9_method_2_code 18 = .ok (.putfield 35, 3) := by decide +kernel
theorem d_82_21 : decode prog_9_method_2_code 21 = .ok (.aload_n 0, 1) := by decide +kernel
theorem d_82_22 : decode prog_9_method_2_code 22 = .ok (.iconst 0, 1) := by decide +kernel
theorem d_82_23 : decode prog_9_method_2_code 23 = .ok (.putfield 38, 3) := by decide +kernel
theorem d_82_26 : decode prog_9_method_2_code 26 = .ok (.return_, 1) := by decide +kernel
theorem d_83_0 : decode prog_9_method_3_code 0 = .ok (.aload_n 0, 1) := by decide +kernel
theorem d_83_1 : decode prog_9_method_3_code 1 = .ok (.getfield 22, 3) := by decide +kernel
theorem d_83_4 : decode prog_9_method_3_code 4 = .ok (.ifCond .eq 32, 3) := by decide +kernel
theorem d_83_7 : decode prog_9_method_3_code 7 = .ok (.aload_n 0, 1) := by decide +kernel
theorem d_83_8 : decode prog_9_method_3_code 8 = .ok (.getfield 17, 3) := by decide +kernel
theorem d_83_11 : decode prog_9_method_3_code 11 = .ok (.getfield 30, 3) := by decide +kernel
theorem d_83_14 : decode prog_9_method_3_code 14 = .ok (.aload_n 0, 1) := by decide +kernel
theorem d_83_15 : decode prog_9_method_3_code 15 = .ok (.getfield 35, 3) := by decide +kernel
theorem d_83_18 : decode prog_9_method_3_code 18 = .ok (.isub, 1) := by decide +kernel
theorem d_83_19 : decode prog_9_method_3_code 19 = .ok (.bipush 100, 2) := by decide +kernel
theorem d_83_21 : decode prog_9_method_3_code 21 = .ok (.aload_n 0, 1) := by decide +kernel
theorem d_83_22 : decode prog_9_method_3_code 22 = .ok (.getfield 17, 3) := by decide +kernel
theorem d_83_25 : decode prog_9_method_3_code 25 = .ok (.getfield 41, 3) := by decide +kernel
theorem d_83_28 : decode prog_9_method_3_code 28 = .ok (.imul, 1) := by decide +kernel
theorem d_83_29 : decode prog_9_method_3_code 29 = .ok (.if_icmp .ge 7, 3) := by decide +kernel
theorem d_83_32 : decode prog_9_method_3_code 32 = .ok (.iconst 1, 1) := by decide +kernel
theorem d_83_33 : decode prog_9_method_3_code 33 = .ok (.goto 4, 3) := by decide +kernel
theorem d_83_36 : decode prog_9_method_3_code 36 = .ok (.iconst 0, 1) := by decide +kernel
theorem d_83_37 : decode prog_9_method_3_code 37 = .ok (.istore_n 3, 1) := by decide +kernel
theorem d_83_38 : decode prog_9_method_3_code 38 = .ok (.iload_n 3, 1) := by decide +kernel
theorem d_83_39 : decode prog_9_method_3_code 39 = .ok (.ifCond .eq 27, 3) := by decide +kernel
theorem d_83_42 : decode prog_9_method_3_code 42 = .ok (.iload_n 1, 1) := by decide +kernel
theorem d_83_43 : decode prog_9_method_3_code 43 = .ok (.aload_n 0, 1) := by decide +kernel
theorem d_83_44 : decode prog_9_method_3_code 44 = .ok (.getfield 38, 3) := by decide +kernel
theorem d_83_47 : decode prog_9_method_3_code 47 = .ok (.if_icmp .le 19, 3) := by decide +kernel
theorem d_83_50 : decode prog_9_method_3_code 50 = .ok (.iload_n 2, 1) := by decide +kernel
theorem d_83_51 : decode prog_9_method_3_code 51 = .ok (.aload_n 0, 1) := by decide +kernel
theorem d_83_52 : decode prog_9_method_3_code 52 = .ok (.getfield 44, 3) := by decide +kernel
theorem d_83_55 : decode prog_9_method_3_code 55 = .ok (.aload_n 0, 1) := by decide +kernel
theorem d_83_56 : decode prog_9_method_3_code 56 = .ok (.getfield 26, 3) := by decide +kernel
theorem d_83_59 : decode prog_9_method_3_code 59 = .ok (.iload_n 1, 1) := by decide +kernel
theorem d_83_60 : decode prog_9_method_3_code 60 = .ok (.invokestatic 47, 3) := by decide +kernel
theorem d_83_63 : decode prog_9_method_3_code 63 = .ok (.if_icmp .eq 5, 3) := by decide +kernel
theorem d_83_66 : decode prog_9_method_3_code 66 = .ok (.iconst 0, 1) := by decide +kernel
theorem d_83_67 : decode prog_9_method_3_code 67 = .ok (.ireturn, 1) := by decide +kernel
theorem d_83_68 : decode prog_9_method_3_code 68 = .ok (.aload_n 0, 1) := by decide +kernel
theorem d_83_69 : decode prog_9_method_3_code 69 = .ok (.iload_n 1, 1) := by decide +kernel
theorem d_83_70 : decode prog_9_method_3_code 70 = .ok (.putfield 38, 3) := by decide +kernel
theorem d_83_73 : decode prog_9_method_3_code 73 = .ok (.aload_n 0, 1) := by decide +kernel
theorem d_83_74 : decode prog_9_method_3_code 74 = .ok (.iconst 1, 1) := by decide +kernel
theorem d_83_75 : decode prog_9_method_3_code 75 = .ok (.putfield 51, 3) := by decide +kernel
theorem d_83_78 : decode prog_9_method_3_code 78 = .ok (.iconst 1, 1) := by decide +kernel
theorem d_83_79 : decode prog_9_method_3_code 79 = .ok (.ireturn, 1) := by decide +kernel
theorem d_84_0 : decode prog_9_method_4_code 0 = .ok (.iload_n 0, 1) := by decide +kernel
theorem d_84_1 : decode prog_9_method_4_code 1 = .ok (.iload_n 1, 1) := by decide +kernel
theorem d_84_2 : decode prog_9_method_4_code 2 = .ok (.ixor, 1) := by decide +kernel
theorem d_84_3 : decode prog_9_method_4_code 3 = .ok (.istore_n 3, 1) := by decide +kernel
theorem d_84_4 : decode prog_9_method_4_code 4 = .ok (.iload_n 3, 1) := by decide +kernel
theorem d_84_5 : decode prog_9_method_4_code 5 = .ok (.iload_n 3, 1) := by decide +kernel
theorem d_84_6 : decode prog_9_method_4_code 6 = .ok (.bipush 15, 2) := by decide +kernel
theorem d_84_8 : decode prog_9_method_4_code 8 = .ok (.iushr, 1) := by decide +kernel
theorem d_84_9 : decode prog_9_method_4_code 9 = .ok (.ixor, 1) := by decide +kernel
theorem d_84_10 : decode prog_9_method_4_code 10 = .ok (.ldc 54, 2) := by decide +kernel
theorem d_84_12 : decode prog_9_method_4_code 12 = .ok (.imul, 1) := by decide +kernel
theorem d_84_13 : decode prog_9_method_4_code 13 = .ok (.istore_n 3, 1) := by decide +kernel
theorem d_84_14 : decode prog_9_method_4_code 14 = .ok (.iload_n 3, 1) := by decide +kernel
theorem d_84_15 : decode prog_9_method_4_code 15 = .ok (.iload_n 2, 1) := by decide +kernel
theorem d_84_16 : decode prog_9_method_4_code 16 = .ok (.ldc 55, 2) := by decide +kernel
theorem d_84_18 : decode prog_9_method_4_code 18 = .ok (.imul, 1) := by decide +kernel
theorem d_84_19 : decode prog_9_method_4_code 19 = .ok (.iadd, 1) := by decide +kernel
theorem d_84_20 : decode prog_9_method_4_code 20 = .ok (.istore_n 3, 1) := by decide +kernel
theorem d_84_21 : decode prog_9_method_4_code 21 = .ok (.iload_n 3, 1) := by decide +kernel
theorem d_84_22 : decode prog_9_method_4_code 22 = .ok (.iload_n 3, 1) := by decide +kernel
theorem d_84_23 : decode prog_9_method_4_code 23 = .ok (.bipush 13, 2) := by decide +kernel
theorem d_84_25 : decode prog_9_method_4_code 25 = .ok (.iushr, 1) := by decide +kernel
theorem d_84_26 : decode prog_9_method_4_code 26 = .ok (.ixor, 1) := by decide +kernel
theorem d_84_27 : decode prog_9_method_4_code 27 = .ok (.ireturn, 1) := by decide +kernel
theorem d_85_0 : decode prog_9_method_5_code 0 = .ok (.aload_n 0, 1) := by decide +kernel
theorem d_85_1 : decode prog_9_method_5_code 1 = .ok (.getfield 56, 3) := by decide +kernel
theorem d_85_4 : decode prog_9_method_5_code 4 = .ok (.iconst 1, 1) := by decide +kernel
theorem d_85_5 : decode prog_9_method_5_code 5 = .ok (.isub, 1) := by decide +kernel
theorem d_85_6 : decode prog_9_method_5_code 6 = .ok (.istore_n 1, 1) := by decide +kernel
theorem d_85_7 : decode prog_9_method_5_code 7 = .ok (.iload_n 1, 1) := by decide +kernel
theorem d_85_8 : decode prog_9_method_5_code 8 = .ok (.ifCond .lt 33, 3) := by decide +kernel
theorem d_85_11 : decode prog_9_method_5_code 11 = .ok (.aload_n 0, 1) := by decide +kernel
theorem d_85_12 : decode prog_9_method_5_code 12 = .ok (.getfield 17, 3) := by decide +kernel
theorem d_85_15 : decode prog_9_method_5_code 15 = .ok (.getfield 30, 3) := by decide +kernel
theorem d_85_18 : decode prog_9_method_5_code 18 = .ok (.aload_n 0, 1) := by decide +kernel
theorem d_85_19 : decode prog_9_method_5_code 19 = .ok (.getfield 11, 3) := by decide +kernel
theorem d_85_22 : decode prog_9_method_5_code 22 = .ok (.iload_n 1, 1) := by decide +kernel
theorem d_85_23 : decode prog_9_method_5_code 23 = .ok (.aaload, 1) := by decide +kernel
theorem d_85_24 : decode prog_9_method_5_code 24 = .ok (.getfield 59, 3) := by decide +kernel
theorem d_85_27 : decode prog_9_method_5_code 27 = .ok (.if_icmp .lt 8, 3) := by decide +kernel
theorem d_85_30 : decode prog_9_method_5_code 30 = .ok (.aload_n 0, 1) := by decide +kernel
theorem d_85_31 : decode prog_9_method_5_code 31 = .ok (.iload_n 1, 1) := by decide +kernel
theorem d_85_32 : decode prog_9_method_5_code 32 = .ok (.invokevirtual 62, 3) := by decide +kernel
theorem d_85_35 : decode prog_9_method_5_code 35 = .ok (.iinc 1 (-1), 3) := by decide +kernel
theorem d_85_38 : decode prog_9_method_5_code 38 = .ok (.goto (-31), 3) := by decide +kernel
theorem d_85_41 : decode prog_9_method_5_code 41 = .ok (.return_, 1) := by decide +kernel
theorem d_86_0 : decode prog_9_method_6_code 0 = .ok (.iconst 0, 1) := by decide +kernel
theorem d_86_1 : decode prog_9_method_6_code 1 = .ok (.istore_n 3, 1) := by decide +kernel
theorem d_86_2 : decode prog_9_method_6_code 2 = .ok (.iload_n 3, 1) := by decide +kernel
theorem d_86_3 : decode prog_9_method_6_code 3 = .ok (.aload_n 0, 1) := by decide +kernel
theorem d_86_4 : decode prog_9_method_6_code 4 = .ok (.getfield 56, 3) := by decide +kernel
theorem d_86_7 : decode prog_9_method_6_code 7 = .ok (.if_icmp .ge 70, 3) := by decide +kernel
theorem d_86_10 : decode prog_9_method_6_code 10 = .ok (.aload_n 0, 1) := by decide +kernel
theorem d_86_11 : decode prog_9_method_6_code 11 = .ok (.getfield 11, 3) := by decide +kernel
theorem d_86_14 : decode prog_9_method_6_code 14 = .ok (.iload_n 3, 1) := by decide +kernel
theorem d_86_15 : decode prog_9_method_6_code 15 = .ok (.aaload, 1) := by decide +kernel
theorem d_86_16 : decode prog_9_method_6_code 16 = .ok (.astore 4, 2) := by decide +kernel
theorem d_86_18 : decode prog_9_method_6_code 18 = .ok (.iload_n 1, 1) := by decide +kernel
theorem d_86_19 : decode prog_9_method_6_code 19 = .ok (.iconst (-1), 1) := by decide +kernel
theorem d_86_20 : decode prog_9_method_6_code 20 = .ok (.if_icmp .eq 12, 3) := by decide +kernel
theorem d_86_23 : decode prog_9_method_6_code 23 = .ok (.iload_n 1, 1) := by decide +kernel
theorem d_86_24 : decode prog_9_method_6_code 24 = .ok (.aload 4, 2) := by decide +kernel
theorem d_86_26 : decode prog_9_method_6_code 26 = .ok (.getfield 66, 3) := by decide +kernel
theorem d_86_29 : decode prog_9_method_6_code 29 = .ok (.if_icmp .ne 7, 3) := by decide +kernel
theorem d_86_32 : decode prog_9_method_6_code 32 = .ok (.iconst 1, 1) := by decide +kernel
theorem d_86_33 : decode prog_9_method_6_code 33 = .ok (.goto 4, 3) := by decide +kernel
theorem d_86_36 : decode prog_9_method_6_code 36 = .ok (.iconst 0, 1) := by decide +kernel
theorem d_86_37 : decode prog_9_method_6_code 37 = .ok (.istore 5, 2) := by decide +kernel
theorem d_86_39 : decode prog_9_method_6_code 39 = .ok (.iload 5, 2) := by decide +kernel
theorem d_86_41 : decode prog_9_method_6_code 41 = .ok (.ifCond .eq 30, 3) := by decide +kernel
theorem d_86_44 : decode prog_9_method_6_code 44 = .ok (.aload 4, 2) := by decide +kernel
theorem d_86_46 : decode prog_9_method_6_code 46 = .ok (.getfield 69, 3) := by decide +kernel
theorem d_86_49 : decode prog_9_method_6_code 49 = .ok (.iload_n 2, 1) := by decide +kernel
theorem d_86_50 : decode prog_9_method_6_code 50 = .ok (.bipush 8, 2) := by decide +kernel
theorem d_86_52 : decode prog_9_method_6_code 52 = .ok (.ishr, 1) := by decide +kernel
theorem d_86_53 : decode prog_9_method_6_code 53 = .ok (.if_icmp .ne 18, 3) := by decide +kernel
theorem d_86_56 : decode prog_9_method_6_code 56 = .ok (.aload 4, 2) := by decide +kernel
theorem d_86_58 : decode prog_9_method_6_code 58 = .ok (.getfield 72, 3) := by decide +kernel
theorem d_86_61 : decode prog_9_method_6_code 61 = .ok (.iload_n 2, 1) := by decide +kernel
theorem d_86_62 : decode prog_9_method_6_code 62 = .ok (.sipush 255, 3) := by decide +kernel
theorem d_86_65 : decode prog_9_method_6_code 65 = .ok (.iand, 1) := by decide +kernel
theorem d_86_66 : decode prog_9_method_6_code 66 = .ok (.if_icmp .lt 5, 3) := by decide +kernel
theorem d_86_69 : decode prog_9_method_6_code 69 = .ok (.iconst 1, 1) := by decide +kernel
theorem d_86_70 : decode prog_9_method_6_code 70 = .ok (.ireturn, 1) := by decide +kernel
theorem d_86_71 : decode prog_9_method_6_code 71 = .ok (.iinc 3 1, 3) := by decide +kernel
theorem d_86_74 : decode prog_9_method_6_code 74 = .ok (.goto (-72), 3) := by decide +kernel
theorem d_86_77 : decode prog_9_method_6_code 77 = .ok (.iconst 0, 1) := by decide +kernel
theorem d_86_78 : decode prog_9_method_6_code 78 = .ok (.ireturn, 1) := by decide +kernel
theorem d_87_0 : decode prog_9_method_7_code 0 = .ok (.aload_n 0, 1) := by decide +kernel
theorem d_87_1 : decode prog_9_method_7_code 1 = .ok (.iconst 0, 1) := by decide +kernel
theorem d_87_2 : decode prog_9_method_7_code 2 = .ok (.putfield 56, 3) := by decide +kernel
theorem d_87_5 : decode prog_9_method_7_code 5 = .ok (.return_, 1) := by decide +kernel
theorem d_88_0 : decode prog_9_method_8_code 0 = .ok (.aload_n 0, 1) := by decide +kernel
theorem d_88_1 : decode prog_9_method_8_code 1 = .ok (.getfield 56, 3) := by decide +kernel
theorem d_88_4 : decode prog_9_method_8_code 4 = .ok (.iconst 1, 1) := by decide +kernel
theorem d_88_5 : decode prog_9_method_8_code 5 = .ok (.isub, 1) := by decide +kernel
theorem d_88_6 : decode prog_9_method_8_code 6 = .ok (.istore_n 2, 1) := by decide +kernel
theorem d_88_7 : decode prog_9_method_8_code 7 = .ok (.iload_n 2, 1) := by decide +kernel
theorem d_88_8 : decode prog_9_method_8_code 8 = .ok (.ifCond .lt 27, 3) := by decide +kernel
theorem d_88_11 : decode prog_9_method_8_code 11 = .ok (.aload_n 0, 1) := by decide +kernel
theorem d_88_12 : decode prog_9_method_8_code 12 = .ok (.getfield 11, 3) := by decide +kernel
theorem d_88_15 : decode prog_9_method_8_code 15 = .ok (.iload_n 2, 1) := by decide +kernel
theorem d_88_16 : decode prog_9_method_8_code 16 = .ok (.aaload, 1) := by decide +kernel
theorem d_88_17 : decode prog_9_method_8_code 17 = .ok (.getfield 66, 3) := by decide +kernel
theorem d_88_20 : decode prog_9_method_8_code 20 = .ok (.iload_n 1, 1) := by decide +kernel
theorem d_88_21 : decode prog_9_method_8_code 21 = .ok (.if_icmp .ne 8, 3) := by decide +kernel
theorem d_88_24 : decode prog_9_method_8_code 24 = .ok (.aload_n 0, 1) := by decide +kernel
theorem d_88_25 : decode prog_9_method_8_code 25 = .ok (.iload_n 2, 1) := by decide +kernel
theorem d_88_26 : decode prog_9_method_8_code 26 = .ok (.invokevirtual 62, 3) := by decide +kernel
theorem d_88_29 : decode prog_9_method_8_code 29 = .ok (.iinc 2 (-1), 3) := by decide +kernel
theorem d_88_32 : decode prog_9_method_8_code 32 = .ok (.goto (-25), 3) := by decide +kernel
theorem d_88_35 : decode prog_9_method_8_code 35 = .ok (.return_, 1) := by decide +kernel
theorem d_89_0 : decode prog_9_method_9_code 0 = .ok (.aload_n 0, 1) := by decide +kernel
theorem d_89_1 : decode prog_9_method_9_code 1 = .ok (.getfield 11, 3) := by decide +kernel
theorem d_89_4 : decode prog_9_method_9_code 4 = .ok (.iload_n 1, 1) := by decide +kernel
theorem d_89_5 : decode prog_9_method_9_code 5 = .ok (.aaload, 1) := by decide +kernel
theorem d_89_6 : decode prog_9_method_9_code 6 = .ok (.astore_n 2, 1) := by decide +kernel
theorem d_89_7 : decode prog_9_method_9_code 7 = .ok (.aload_n 0, 1) := by decide +kernel
theorem d_89_8 : decode prog_9_method_9_code 8 = .ok (.dup, 1) := by decide +kernel
theorem d_89_9 : decode prog_9_method_9_code 9 = .ok (.getfield 56, 3) := by decide +kernel
theorem d_89_12 : decode prog_9_method_9_code 12 = .ok (.iconst 1, 1) := by decide +kernel
theorem d_89_13 : decode prog_9_method_9_code 13 = .ok (.isub, 1) := by decide +kernel
theorem d_89_14 : decode prog_9_method_9_code 14 = .ok (.putfield 56, 3) := by decide +kernel
theorem d_89_17 : decode prog_9_method_9_code 17 = .ok (.iload_n 1, 1) := by decide +kernel
theorem d_89_18 : decode prog_9_method_9_code 18 = .ok (.istore_n 3, 1) := by decide +kernel
theorem d_89_19 : decode prog_9_method_9_code 19 = .ok (.iload_n 3, 1) := by decide +kernel
theorem d_89_20 : decode prog_9_method_9_code 20 = .ok (.aload_n 0, 1) := by decide +kernel
theorem d_89_21 : decode prog_9_method_9_code 21 = .ok (.getfield 56, 3) := by decide +kernel
theorem d_89_24 : decode prog_9_method_9_code 24 = .ok (.if_icmp .ge 23, 3) := by decide +kernel
theorem d_89_27 : decode prog_9_method_9_code 27 = .ok (.aload_n 0, 1) := by decide +kernel
theorem d_89_28 : decode prog_9_method_9_code 28 = .ok (.getfield 11, 3) := by decide +kernel
theorem d_89_31 : decode prog_9_method_9_code 31 = .ok (.iload_n 3, 1) := by decide +kernel
theorem d_89_32 : decode prog_9_method_9_code 32 = .ok (.aload_n 0, 1) := by decide +kernel
theorem d_89_33 : decode prog_9_method_9_code 33 = .ok (.getfield 11, 3) := by decide +kernel
theorem d_89_36 : decode prog_9_method_9_code 36 = .ok (.iload_n 3, 1) := by decide +kernel
theorem d_89_37 : decode prog_9_method_9_code 37 = .ok (.iconst 1, 1) := by decide +kernel
theorem d_89_38 : decode prog_9_method_9_code 38 = .ok (.iadd, 1) := by decide +kernel
theorem d_89_39 : decode prog_9_method_9_code 39 = .ok (.aaload, 1) := by decide +kernel
theorem d_89_40 : decode prog_9_method_9_code 40 = .ok (.aastore, 1) := by decide +kernel
theorem d_89_41 : decode prog_9_method_9_code 41 = .ok (.iinc 3 1, 3) := by decide +kernel
theorem d_89_44 : decode prog_9_method_9_code 44 = .ok (.goto (-25), 3) := by decide +kernel
theorem d_89_47 : decode prog_9_method_9_code 47 = .ok (.aload_n 0, 1) := by decide +kernel
theorem d_89_48 : decode prog_9_method_9_code 48 = .ok (.getfield 11, 3) := by decide +kernel
theorem d_89_51 : decode prog_9_method_9_code 51 = .ok (.aload_n 0, 1) := by decide +kernel
theorem d_89_52 : decode prog_9_method_9_code 52 = .ok (.getfield 56, 3) := by decide +kernel
theorem d_89_55 : decode prog_9_method_9_code 55 = .ok (.aload_n 2, 1) := by decide +kernel
theorem d_89_56 : decode prog_9_method_9_code 56 = .ok (.aastore, 1) := by decide +kernel
theorem d_89_57 : decode prog_9_method_9_code 57 = .ok (.return_, 1) := by decide +kernel
