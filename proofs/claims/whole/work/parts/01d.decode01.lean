theorem d_21_0 : decode prog_1_method_22_code 0 = .ok (.iload_n 1, 1) := by decide +kernel
theorem d_21_1 : decode prog_1_method_22_code 1 = .ok (.ifCond .lt 20, 3) := by decide +kernel
theorem d_21_4 : decode prog_1_method_22_code 4 = .ok (.iload_n 1, 1) := by decide +kernel
theorem d_21_5 : decode prog_1_method_22_code 5 = .ok (.iconst 4, 1) := by decide +kernel
theorem d_21_6 : decode prog_1_method_22_code 6 = .ok (.if_icmp .ge 15, 3) := by decide +kernel
theorem d_21_9 : decode prog_1_method_22_code 9 = .ok (.aload_n 0, 1) := by decide +kernel
theorem d_21_10 : decode prog_1_method_22_code 10 = .ok (.getfield 45, 3) := by decide +kernel
theorem d_21_13 : decode prog_1_method_22_code 13 = .ok (.iload_n 1, 1) := by decide +kernel
theorem d_21_14 : decode prog_1_method_22_code 14 = .ok (.aaload, 1) := by decide +kernel
theorem d_21_15 : decode prog_1_method_22_code 15 = .ok (.invokevirtual 116, 3) := by decide +kernel
theorem d_21_18 : decode prog_1_method_22_code 18 = .ok (.ifCond .ne 5, 3) := by decide +kernel
theorem d_21_21 : decode prog_1_method_22_code 21 = .ok (.aconst_null, 1) := by decide +kernel
theorem d_21_22 : decode prog_1_method_22_code 22 = .ok (.areturn, 1) := by decide +kernel
theorem d_21_23 : decode prog_1_method_22_code 23 = .ok (.aload_n 0, 1) := by decide +kernel
theorem d_21_24 : decode prog_1_method_22_code 24 = .ok (.getfield 45, 3) := by decide +kernel
theorem d_21_27 : decode prog_1_method_22_code 27 = .ok (.iload_n 1, 1) := by decide +kernel
theorem d_21_28 : decode prog_1_method_22_code 28 = .ok (.aaload, 1) := by decide +kernel
theorem d_21_29 : decode prog_1_method_22_code 29 = .ok (.areturn, 1) := by decide +kernel
theorem d_22_0 : decode prog_1_method_23_code 0 = .ok (.aload_n 0, 1) := by decide +kernel
theorem d_22_1 : decode prog_1_method_23_code 1 = .ok (.iload_n 1, 1) := by decide +kernel
theorem d_22_2 : decode prog_1_method_23_code 2 = .ok (.invokevirtual 159, 3) := by decide +kernel
theorem d_22_5 : decode prog_1_method_23_code 5 = .ok (.astore_n 3, 1) := by decide +kernel
theorem d_22_6 : decode prog_1_method_23_code 6 = .ok (.aload_n 3, 1) := by decide +kernel
theorem d_22_7 : decode prog_1_method_23_code 7 = .ok (.ifnull 15, 3) := by decide +kernel
theorem d_22_10 : decode prog_1_method_23_code 10 = .ok (.iload_n 2, 1) := by decide +kernel
theorem d_22_11 : decode prog_1_method_23_code 11 = .ok (.ifCond .lt 11, 3) := by decide +kernel
theorem d_22_14 : decode prog_1_method_23_code 14 = .ok (.iload_n 2, 1) := by decide +kernel
theorem d_22_15 : decode prog_1_method_23_code 15 = .ok (.aload_n 3, 1) := by decide +kernel
theorem d_22_16 : decode prog_1_method_23_code 16 = .ok (.getfield 197, 3) := by decide +kernel
theorem d_22_19 : decode prog_1_method_23_code 19 = .ok (.if_icmp .lt 5, 3) := by decide +kernel
theorem d_22_22 : decode prog_1_method_23_code 22 = .ok (.aconst_null, 1) := by decide +kernel
theorem d_22_23 : decode prog_1_method_23_code 23 = .ok (.areturn, 1) := by decide +kernel
theorem d_22_24 : decode prog_1_method_23_code 24 = .ok (.aload_n 3, 1) := by decide +kernel
theorem d_22_25 : decode prog_1_method_23_code 25 = .ok (.getfield 200, 3) := by decide +kernel
theorem d_22_28 : decode prog_1_method_23_code 28 = .ok (.iload_n 2, 1) := by decide +kernel
theorem d_22_29 : decode prog_1_method_23_code 29 = .ok (.aaload, 1) := by decide +kernel
theorem d_22_30 : decode prog_1_method_23_code 30 = .ok (.areturn, 1) := by decide +kernel
theorem d_23_0 : decode prog_1_method_24_code 0 = .ok (.iload_n 0, 1) := by decide +kernel
theorem d_23_1 : decode prog_1_method_24_code 1 = .ok (.iconst (-1), 1) := by decide +kernel
theorem d_23_2 : decode prog_1_method_24_code 2 = .ok (.if_icmp .lt 9, 3) := by decide +kernel
theorem d_23_5 : decode prog_1_method_24_code 5 = .ok (.iload_n 0, 1) := by decide +kernel
theorem d_23_6 : decode prog_1_method_24_code 6 = .ok (.bipush 15, 2) := by decide +kernel
theorem d_23_8 : decode prog_1_method_24_code 8 = .ok (.if_icmp .le 5, 3) := by decide +kernel
theorem d_23_11 : decode prog_1_method_24_code 11 = .ok (.iconst 0, 1) := by decide +kernel
theorem d_23_12 : decode prog_1_method_24_code 12 = .ok (.ireturn, 1) := by decide +kernel
theorem d_23_13 : decode prog_1_method_24_code 13 = .ok (.iload_n 1, 1) := by decide +kernel
theorem d_23_14 : decode prog_1_method_24_code 14 = .ok (.ifCond .lt 20, 3) := by decide +kernel
theorem d_23_17 : decode prog_1_method_24_code 17 = .ok (.iload_n 1, 1) := by decide +kernel
theorem d_23_18 : decode prog_1_method_24_code 18 = .ok (.bipush 10, 2) := by decide +kernel
theorem d_23_20 : decode prog_1_method_24_code 20 = .ok (.if_icmp .gt 14, 3) := by decide +kernel
theorem d_23_23 : decode prog_1_method_24_code 23 = .ok (.iload_n 2, 1) := by decide +kernel
theorem d_23_24 : decode prog_1_method_24_code 24 = .ok (.ifCond .lt 10, 3) := by decide +kernel
theorem d_23_27 : decode prog_1_method_24_code 27 = .ok (.iload_n 2, 1) := by decide +kernel
theorem d_23_28 : decode prog_1_method_24_code 28 = .ok (.sipush 5000, 3) := by decide +kernel
theorem d_23_31 : decode prog_1_method_24_code 31 = .ok (.if_icmp .le 5, 3) := by decide +kernel
theorem d_23_34 : decode prog_1_method_24_code 34 = .ok (.iconst 0, 1) := by decide +kernel
theorem d_23_35 : decode prog_1_method_24_code 35 = .ok (.ireturn, 1) := by decide +kernel
theorem d_23_36 : decode prog_1_method_24_code 36 = .ok (.iload_n 0, 1) := by decide +kernel
theorem d_23_37 : decode prog_1_method_24_code 37 = .ok (.iconst (-1), 1) := by decide +kernel
theorem d_23_38 : decode prog_1_method_24_code 38 = .ok (.if_icmp .ne 7, 3) := by decide +kernel
theorem d_23_41 : decode prog_1_method_24_code 41 = .ok (.iload_n 2, 1) := by decide +kernel
theorem d_23_42 : decode prog_1_method_24_code 42 = .ok (.ifCond .ne 7, 3) := by decide +kernel
theorem d_23_45 : decode prog_1_method_24_code 45 = .ok (.iconst 1, 1) := by decide +kernel
theorem d_23_46 : decode prog_1_method_24_code 46 = .ok (.goto 4, 3) := by decide +kernel
theorem d_23_49 : decode prog_1_method_24_code 49 = .ok (.iconst 0, 1) := by decide +kernel
theorem d_23_50 : decode prog_1_method_24_code 50 = .ok (.ireturn, 1) := by decide +kernel
theorem d_24_0 : decode prog_1_method_25_code 0 = .ok (.iload_n 2, 1) := by decide +kernel
theorem d_24_1 : decode prog_1_method_25_code 1 = .ok (.iconst 1, 1) := by decide +kernel
theorem d_24_2 : decode prog_1_method_25_code 2 = .ok (.if_icmp .ge 7, 3) := by decide +kernel
theorem d_24_5 : decode prog_1_method_25_code 5 = .ok (.sipush 483, 3) := by decide +kernel
theorem d_24_8 : decode prog_1_method_25_code 8 = .ok (.ireturn, 1) := by decide +kernel
theorem d_24_9 : decode prog_1_method_25_code 9 = .ok (.aload_n 0, 1) := by decide +kernel
theorem d_24_10 : decode prog_1_method_25_code 10 = .ok (.iload_n 1, 1) := by decide +kernel
theorem d_24_11 : decode prog_1_method_25_code 11 = .ok (.invokevirtual 56, 3) := by decide +kernel
theorem d_24_14 : decode prog_1_method_25_code 14 = .ok (.astore 4, 2) := by decide +kernel
theorem d_24_16 : decode prog_1_method_25_code 16 = .ok (.aload 4, 2) := by decide +kernel
theorem d_24_18 : decode prog_1_method_25_code 18 = .ok (.ifnonnull 7, 3) := by decide +kernel
theorem d_24_21 : decode prog_1_method_25_code 21 = .ok (.sipush 404, 3) := by decide +kernel
theorem d_24_24 : decode prog_1_method_25_code 24 = .ok (.ireturn, 1) := by decide +kernel
theorem d_24_25 : decode prog_1_method_25_code 25 = .ok (.iload_n 3, 1) := by decide +kernel
theorem d_24_26 : decode prog_1_method_25_code 26 = .ok (.iload_n 1, 1) := by decide +kernel
theorem d_24_27 : decode prog_1_method_25_code 27 = .ok (.ishr, 1) := by decide +kernel
theorem d_24_28 : decode prog_1_method_25_code 28 = .ok (.iconst 1, 1) := by decide +kernel
theorem d_24_29 : decode prog_1_method_25_code 29 = .ok (.iand, 1) := by decide +kernel
theorem d_24_30 : decode prog_1_method_25_code 30 = .ok (.ifCond .eq 7, 3) := by decide +kernel
theorem d_24_33 : decode prog_1_method_25_code 33 = .ok (.sipush 482, 3) := by decide +kernel
theorem d_24_36 : decode prog_1_method_25_code 36 = .ok (.ireturn, 1) := by decide +kernel
theorem d_24_37 : decode prog_1_method_25_code 37 = .ok (.aload 4, 2) := by decide +kernel
theorem d_24_39 : decode prog_1_method_25_code 39 = .ok (.invokevirtual 79, 3) := by decide +kernel
theorem d_24_42 : decode prog_1_method_25_code 42 = .ok (.aload 4, 2) := by decide +kernel
theorem d_24_44 : decode prog_1_method_25_code 44 = .ok (.getfield 95, 3) := by decide +kernel
theorem d_24_47 : decode prog_1_method_25_code 47 = .ok (.ifCond .ne 9, 3) := by decide +kernel
theorem d_24_50 : decode prog_1_method_25_code 50 = .ok (.sipush 480, 3) := by decide +kernel
theorem d_24_53 : decode prog_1_method_25_code 53 = .ok (.goto 4, 3) := by decide +kernel
theorem d_24_56 : decode prog_1_method_25_code 56 = .ok (.iconst 0, 1) := by decide +kernel
theorem d_24_57 : decode prog_1_method_25_code 57 = .ok (.ireturn, 1) := by decide +kernel
theorem d_25_0 : decode prog_1_method_26_code 0 = .ok (.iload_n 3, 1) := by decide +kernel
theorem d_25_1 : decode prog_1_method_26_code 1 = .ok (.ifCond .ne 11, 3) := by decide +kernel
theorem d_25_4 : decode prog_1_method_26_code 4 = .ok (.aload_n 2, 1) := by decide +kernel
theorem d_25_5 : decode prog_1_method_26_code 5 = .ok (.ifnull 7, 3) := by decide +kernel
theorem d_25_8 : decode prog_1_method_26_code 8 = .ok (.iconst 1, 1) := by decide +kernel
theorem d_25_9 : decode prog_1_method_26_code 9 = .ok (.goto 4, 3) := by decide +kernel
theorem d_25_12 : decode prog_1_method_26_code 12 = .ok (.iconst 0, 1) := by decide +kernel
theorem d_25_13 : decode prog_1_method_26_code 13 = .ok (.istore 4, 2) := by decide +kernel
theorem d_25_15 : decode prog_1_method_26_code 15 = .ok (.iload 4, 2) := by decide +kernel
theorem d_25_17 : decode prog_1_method_26_code 17 = .ok (.ifCond .eq 12, 3) := by decide +kernel
theorem d_25_20 : decode prog_1_method_26_code 20 = .ok (.iconst 1, 1) := by decide +kernel
theorem d_25_21 : decode prog_1_method_26_code 21 = .ok (.aload_n 2, 1) := by decide +kernel
theorem d_25_22 : decode prog_1_method_26_code 22 = .ok (.getfield 95, 3) := by decide +kernel
theorem d_25_25 : decode prog_1_method_26_code 25 = .ok (.iadd, 1) := by decide +kernel
theorem d_25_26 : decode prog_1_method_26_code 26 = .ok (.goto 4, 3) := by decide +kernel
theorem d_25_29 : decode prog_1_method_26_code 29 = .ok (.iconst 1, 1) := by decide +kernel
theorem d_25_30 : decode prog_1_method_26_code 30 = .ok (.istore 5, 2) := by decide +kernel
theorem d_25_32 : decode prog_1_method_26_code 32 = .ok (.aload_n 0, 1) := by decide +kernel
theorem d_25_33 : decode prog_1_method_26_code 33 = .ok (.invokevirtual 204, 3) := by decide +kernel
theorem d_25_36 : decode prog_1_method_26_code 36 = .ok (.iload 5, 2) := by decide +kernel
theorem d_25_38 : decode prog_1_method_26_code 38 = .ok (.iadd, 1) := by decide +kernel
theorem d_25_39 : decode prog_1_method_26_code 39 = .ok (.bipush 12, 2) := by decide +kernel
theorem d_25_41 : decode prog_1_method_26_code 41 = .ok (.if_icmp .le 22, 3) := by decide +kernel
theorem d_25_44 : decode prog_1_method_26_code 44 = .ok (.aload_n 0, 1) := by decide +kernel
theorem d_25_45 : decode prog_1_method_26_code 45 = .ok (.getfield 32, 3) := by decide +kernel
theorem d_25_48 : decode prog_1_method_26_code 48 = .ok (.aload_n 1, 1) := by decide +kernel
theorem d_25_49 : decode prog_1_method_26_code 49 = .ok (.getfield 207, 3) := by decide +kernel
theorem d_25_52 : decode prog_1_method_26_code 52 = .ok (.bipush 7, 2) := by decide +kernel
theorem d_25_54 : decode prog_1_method_26_code 54 = .ok (.sipush 503, 3) := by decide +kernel
theorem d_25_57 : decode prog_1_method_26_code 57 = .ok (.invokevirtual 210, 3) := by decide +kernel
theorem d_25_60 : decode prog_1_method_26_code 60 = .ok (.goto 21, 3) := by decide +kernel
theorem d_25_63 : decode prog_1_method_26_code 63 = .ok (.iload 4, 2) := by decide +kernel
theorem d_25_65 : decode prog_1_method_26_code 65 = .ok (.ifCond .eq 11, 3) := by decide +kernel
theorem d_25_68 : decode prog_1_method_26_code 68 = .ok (.aload_n 1, 1) := by decide +kernel
theorem d_25_69 : decode prog_1_method_26_code 69 = .ok (.aload_n 2, 1) := by decide +kernel
theorem d_25_70 : decode prog_1_method_26_code 70 = .ok (.invokevirtual 214, 3) := by decide +kernel
theorem d_25_73 : decode prog_1_method_26_code 73 = .ok (.goto 8, 3) := by decide +kernel
theorem d_25_76 : decode prog_1_method_26_code 76 = .ok (.aload_n 1, 1) := by decide +kernel
theorem d_25_77 : decode prog_1_method_26_code 77 = .ok (.iload_n 3, 1) := by decide +kernel
theorem d_25_78 : decode prog_1_method_26_code 78 = .ok (.invokevirtual 218, 3) := by decide +kernel
theorem d_25_81 : decode prog_1_method_26_code 81 = .ok (.return_, 1) := by decide +kernel
theorem d_26_0 : decode prog_1_method_27_code 0 = .ok (.ldc 221, 2) := by decide +kernel
theorem d_26_2 : decode prog_1_method_27_code 2 = .ok (.istore_n 1, 1) := by decide +kernel
theorem d_26_3 : decode prog_1_method_27_code 3 = .ok (.iconst 0, 1) := by decide +kernel
theorem d_26_4 : decode prog_1_method_27_code 4 = .ok (.istore_n 2, 1) := by decide +kernel
theorem d_26_5 : decode prog_1_method_27_code 5 = .ok (.iload_n 2, 1) := by decide +kernel
theorem d_26_6 : decode prog_1_method_27_code 6 = .ok (.iconst 4, 1) := by decide +kernel
theorem d_26_7 : decode prog_1_method_27_code 7 = .ok (.if_icmp .ge 23, 3) := by decide +kernel
theorem d_26_10 : decode prog_1_method_27_code 10 = .ok (.iload_n 1, 1) := by decide +kernel
theorem d_26_11 : decode prog_1_method_27_code 11 = .ok (.aload_n 0, 1) := by decide +kernel
theorem d_26_12 : decode prog_1_method_27_code 12 = .ok (.getfield 45, 3) := by decide +kernel
theorem d_26_15 : decode prog_1_method_27_code 15 = .ok (.iload_n 2, 1) := by decide +kernel
theorem d_26_16 : decode prog_1_method_27_code 16 = .ok (.aaload, 1) := by decide +kernel
theorem d_26_17 : decode prog_1_method_27_code 17 = .ok (.invokevirtual 222, 3) := by decide +kernel
theorem d_26_20 : decode prog_1_method_27_code 20 = .ok (.invokestatic 9, 3) := by decide +kernel
theorem d_26_23 : decode prog_1_method_27_code 23 = .ok (.istore_n 1, 1) := by decide +kernel
theorem d_26_24 : decode prog_1_method_27_code 24 = .ok (.iinc 2 1, 3) := by decide +kernel
theorem d_26_27 : decode prog_1_method_27_code 27 = .ok (.goto (-22), 3) := by decide +kernel
theorem d_26_30 : decode prog_1_method_27_code 30 = .ok (.iload_n 1, 1) := by decide +kernel
theorem d_26_31 : decode prog_1_method_27_code 31 = .ok (.ireturn, 1) := by decide +kernel
theorem d_27_0 : decode prog_1_method_28_code 0 = .ok (.iconst 0, 1) := by decide +kernel
theorem d_27_1 : decode prog_1_method_28_code 1 = .ok (.istore_n 1, 1) := by decide +kernel
theorem d_27_2 : decode prog_1_method_28_code 2 = .ok (.iload_n 1, 1) := by decide +kernel
theorem d_27_3 : decode prog_1_method_28_code 3 = .ok (.iconst 4, 1) := by decide +kernel
theorem d_27_4 : decode prog_1_method_28_code 4 = .ok (.if_icmp .ge 30, 3) := by decide +kernel
theorem d_27_7 : decode prog_1_method_28_code 7 = .ok (.aload_n 0, 1) := by decide +kernel
theorem d_27_8 : decode prog_1_method_28_code 8 = .ok (.getfield 45, 3) := by decide +kernel
theorem d_27_11 : decode prog_1_method_28_code 11 = .ok (.iload_n 1, 1) := by decide +kernel
theorem d_27_12 : decode prog_1_method_28_code 12 = .ok (.aaload, 1) := by decide +kernel
theorem d_27_13 : decode prog_1_method_28_code 13 = .ok (.invokevirtual 116, 3) := by decide +kernel
theorem d_27_16 : decode prog_1_method_28_code 16 = .ok (.ifCond .eq 12, 3) := by decide +kernel
theorem d_27_19 : decode prog_1_method_28_code 19 = .ok (.aload_n 0, 1) := by decide +kernel
theorem d_27_20 : decode prog_1_method_28_code 20 = .ok (.getfield 45, 3) := by decide +kernel
theorem d_27_23 : decode prog_1_method_28_code 23 = .ok (.iload_n 1, 1) := by decide +kernel
theorem d_27_24 : decode prog_1_method_28_code 24 = .ok (.aaload, 1) := by decide +kernel
theorem d_27_25 : decode prog_1_method_28_code 25 = .ok (.invokevirtual 223, 3) := by decide +kernel
theorem d_27_28 : decode prog_1_method_28_code 28 = .ok (.iinc 1 1, 3) := by decide +kernel
theorem d_27_31 : decode prog_1_method_28_code 31 = .ok (.goto (-29), 3) := by decide +kernel
theorem d_27_34 : decode prog_1_method_28_code 34 = .ok (.return_, 1) := by decide +kernel
theorem d_28_0 : decode prog_2_method_1_code 0 = .ok (.aload_n 0, 1) := by decide +kernel
theorem d_28_1 : decode prog_2_method_1_code 1 = .ok (.invokespecial 1, 3) := by decide +kernel
theorem d_28_4 : decode prog_2_method_1_code 4 = .ok (.return_, 1) := by decide +kernel
theorem d_29_0 : decode prog_3_method_1_code 0 = .ok (.aload_n 0, 1) := by decide +kernel
theorem d_29_1 : decode prog_3_method_1_code 1 = .ok (.invokespecial 3, 3) := by decide +kernel
theorem d_29_4 : decode prog_3_method_1_code 4 = .ok (.aload_n 0, 1) := by decide +kernel
theorem d_29_5 : decode prog_3_method_1_code 5 = .ok (.iconst 4, 1) := by decide +kernel
theorem d_29_6 : decode prog_3_method_1_code 6 = .ok (.putfield 11, 3) := by decide +kernel
theorem d_29_9 : decode prog_3_method_1_code 9 = .ok (.aload_n 0, 1) := by decide +kernel
theorem d_29_10 : decode prog_3_method_1_code 10 = .ok (.aload_n 1, 1) := by decide +kernel
theorem d_29_11 : decode prog_3_method_1_code 11 = .ok (.putfield 15, 3) := by decide +kernel
theorem d_29_14 : decode prog_3_method_1_code 14 = .ok (.aload_n 0, 1) := by decide +kernel
theorem d_29_15 : decode prog_3_method_1_code 15 = .ok (.aload_n 2, 1) := by decide +kernel
theorem d_29_16 : decode prog_3_method_1_code 16 = .ok (.putfield 19, 3) := by decide +kernel
theorem d_29_19 : decode prog_3_method_1_code 19 = .ok (.aload_n 0, 1) := by decide +kernel
theorem d_29_20 : decode prog_3_method_1_code 20 = .ok (.iload_n 3, 1) := by decide +kernel
theorem d_29_21 : decode prog_3_method_1_code 21 = .ok (.putfield 23, 3) := by decide +kernel
theorem d_29_24 : decode prog_3_method_1_code 24 = .ok (.aload_n 0, 1) := by decide +kernel
theorem d_29_25 : decode prog_3_method_1_code 25 = .ok (.iload 4, 2) := by decide +kernel
theorem d_29_27 : decode prog_3_method_1_code 27 = .ok (.putfield 26, 3) := by decide +kernel
theorem d_29_30 : decode prog_3_method_1_code 30 = .ok (.aload_n 0, 1) := by decide +kernel
theorem d_29_31 : decode prog_3_method_1_code 31 = .ok (.new 29, 3) := by decide +kernel
theorem d_29_34 : decode prog_3_method_1_code 34 = .ok (.dup, 1) := by decide +kernel
theorem d_29_35 : decode prog_3_method_1_code 35 = .ok (.aload_n 1, 1) := by decide +kernel
theorem d_29_36 : decode prog_3_method_1_code 36 = .ok (.invokespecial 31, 3) := by decide +kernel
theorem d_29_39 : decode prog_3_method_1_code 39 = .ok (.putfield 34, 3) := by decide +kernel
theorem d_29_42 : decode prog_3_method_1_code 42 = .ok (.aload_n 0, 1) := by decide +kernel
theorem d_29_43 : decode prog_3_method_1_code 43 = .ok (.new 29, 3) := by decide +kernel
theorem d_29_46 : decode prog_3_method_1_code 46 = .ok (.dup, 1) := by decide +kernel
theorem d_29_47 : decode prog_3_method_1_code 47 = .ok (.aload_n 1, 1) := by decide +kernel
theorem d_29_48 : decode prog_3_method_1_code 48 = .ok (.invokespecial 31, 3) := by decide +kernel
theorem d_29_51 : decode prog_3_method_1_code 51 = .ok (.putfield 38, 3) := by decide +kernel
theorem d_29_54 : decode prog_3_method_1_code 54 = .ok (.aload_n 0, 1) := by decide +kernel
theorem d_29_55 : decode prog_3_method_1_code 55 = .ok (.new 29, 3) := by decide +kernel
theorem d_29_58 : decode prog_3_method_1_code 58 = .ok (.dup, 1) := by decide +kernel
theorem d_29_59 : decode prog_3_method_1_code 59 = .ok (.aload_n 1, 1) := by decide +kernel
theorem d_29_60 : decode prog_3_method_1_code 60 = .ok (.invokespecial 31, 3) := by decide +kernel
theorem d_29_63 : decode prog_3_method_1_code 63 = .ok (.putfield 41, 3) := by decide +kernel
theorem d_29_66 : decode prog_3_method_1_code 66 = .ok (.aload_n 0, 1) := by decide +kernel
theorem d_29_67 : decode prog_3_method_1_code 67 = .ok (.new 29, 3) := by decide +kernel
theorem d_29_70 : decode prog_3_method_1_code 70 = .ok (.dup, 1) := by decide +kernel
theorem d_29_71 : decode prog_3_method_1_code 71 = .ok (.aload_n 1, 1) := by decide +kernel
theorem d_29_72 : decode prog_3_method_1_code 72 = .ok (.invokespecial 31, 3) := by decide +kernel
theorem d_29_75 : decode prog_3_method_1_code 75 = .ok (.putfield 44, 3) := by decide +kernel
theorem d_29_78 : decode prog_3_method_1_code 78 = .ok (.aload_n 0, 1) := by decide +kernel
theorem d_29_79 : decode prog_3_method_1_code 79 = .ok (.new 29, 3) := by decide +kernel
theorem d_29_82 : decode prog_3_method_1_code 82 = .ok (.dup, 1) := by decide +kernel
theorem d_29_83 : decode prog_3_method_1_code 83 = .ok (.aload_n 1, 1) := by decide +kernel
theorem d_29_84 : decode prog_3_method_1_code 84 = .ok (.invokespecial 31, 3) := by decide +kernel
theorem d_29_87 : decode prog_3_method_1_code 87 = .ok (.putfield 47, 3) := by decide +kernel
theorem d_29_90 : decode prog_3_method_1_code 90 = .ok (.aload_n 0, 1) := by decide +kernel
theorem d_29_91 : decode prog_3_method_1_code 91 = .ok (.new 29, 3) := by decide +kernel
theorem d_29_94 : decode prog_3_method_1_code 94 = .ok (.dup, 1) := by decide +kernel
theorem d_29_95 : decode prog_3_method_1_code 95 = .ok (.aload_n 1, 1) := by decide +kernel
theorem d_29_96 : decode prog_3_method_1_code 96 = .ok (.invokespecial 31, 3) := by decide +kernel
theorem d_29_99 : decode prog_3_method_1_code 99 = .ok (.putfield 50, 3) := by decide +kernel
theorem d_29_102 : decode prog_3_method_1_code 102 = .ok (.return_, 1) := by decide +kernel
theorem d_30_0 : decode prog_3_method_2_code 0 = .ok (.aload_n 0, 1) := by decide +kernel
theorem d_30_1 : decode prog_3_method_2_code 1 = .ok (.iload_n 1, 1) := by decide +kernel
theorem d_30_2 : decode prog_3_method_2_code 2 = .ok (.putfield 53, 3) := by decide +kernel
theorem d_30_5 : decode prog_3_method_2_code 5 = .ok (.aload_n 0, 1) := by decide +kernel
theorem d_30_6 : decode prog_3_method_2_code 6 = .ok (.iconst 0, 1) := by decide +kernel
theorem d_30_7 : decode prog_3_method_2_code 7 = .ok (.putfield 56, 3) := by decide +kernel
theorem d_30_10 : decode prog_3_method_2_code 10 = .ok (.aload_n 0, 1) := by decide +kernel
theorem d_30_11 : decode prog_3_method_2_code 11 = .ok (.iconst 0, 1) := by decide +kernel
theorem d_30_12 : decode prog_3_method_2_code 12 = .ok (.putfield 60, 3) := by decide +kernel
theorem d_30_15 : decode prog_3_method_2_code 15 = .ok (.aload_n 0, 1) := by decide +kernel
theorem d_30_16 : decode prog_3_method_2_code 16 = .ok (.iconst 0, 1) := by decide +kernel
theorem d_30_17 : decode prog_3_method_2_code 17 = .ok (.putfield 63, 3) := by decide +kernel
theorem d_30_20 : decode prog_3_method_2_code 20 = .ok (.aload_n 0, 1) := by decide +kernel
theorem d_30_21 : decode prog_3_method_2_code 21 = .ok (.iconst 1, 1) := by decide +kernel
theorem d_30_22 : decode prog_3_method_2_code 22 = .ok (.invokevirtual 66, 3) := by decide +kernel
theorem d_30_25 : decode prog_3_method_2_code 25 = .ok (.aload_n 0, 1) := by decide +kernel
theorem d_30_26 : decode prog_3_method_2_code 26 = .ok (.getfield 19, 3) := by decide +kernel
theorem d_30_29 : decode prog_3_method_2_code 29 = .ok (.aload_n 0, 1) := by decide +kernel
theorem d_30_30 : decode prog_3_method_2_code 30 = .ok (.getfield 23, 3) := by decide +kernel
theorem d_30_33 : decode prog_3_method_2_code 33 = .ok (.aload_n 0, 1) := by decide +kernel
theorem d_30_34 : decode prog_3_method_2_code 34 = .ok (.getfield 26, 3) := by decide +kernel
theorem d_30_37 : decode prog_3_method_2_code 37 = .ok (.iconst 1, 1) := by decide +kernel
theorem d_30_38 : decode prog_3_method_2_code 38 = .ok (.invokevirtual 70, 3) := by decide +kernel
theorem d_30_41 : decode prog_3_method_2_code 41 = .ok (.aload_n 0, 1) := by decide +kernel
theorem d_30_42 : decode prog_3_method_2_code 42 = .ok (.getfield 34, 3) := by decide +kernel
theorem d_30_45 : decode prog_3_method_2_code 45 = .ok (.aload_n 0, 1) := by decide +kernel
theorem d_30_46 : decode prog_3_method_2_code 46 = .ok (.getfield 15, 3) := by decide +kernel
theorem d_30_49 : decode prog_3_method_2_code 49 = .ok (.getfield 76, 3) := by decide +kernel
theorem d_30_52 : decode prog_3_method_2_code 52 = .ok (.invokevirtual 81, 3) := by decide +kernel
theorem d_30_55 : decode prog_3_method_2_code 55 = .ok (.aload_n 0, 1) := by decide +kernel
theorem d_30_56 : decode prog_3_method_2_code 56 = .ok (.getfield 38, 3) := by decide +kernel
theorem d_30_59 : decode prog_3_method_2_code 59 = .ok (.bipush 64, 2) := by decide +kernel
theorem d_30_61 : decode prog_3_method_2_code 61 = .ok (.aload_n 0, 1) := by decide +kernel
theorem d_30_62 : decode prog_3_method_2_code 62 = .ok (.getfield 15, 3) := by decide +kernel
theorem d_30_65 : decode prog_3_method_2_code 65 = .ok (.getfield 76, 3) := by decide +kernel
theorem d_30_68 : decode prog_3_method_2_code 68 = .ok (.imul, 1) := by decide +kernel
theorem d_30_69 : decode prog_3_method_2_code 69 = .ok (.invokevirtual 81, 3) := by decide +kernel
theorem d_30_72 : decode prog_3_method_2_code 72 = .ok (.aload_n 0, 1) := by decide +kernel
theorem d_30_73 : decode prog_3_method_2_code 73 = .ok (.getfield 41, 3) := by decide +kernel
theorem d_30_76 : decode prog_3_method_2_code 76 = .ok (.sipush 200, 3) := by decide +kernel
theorem d_30_79 : decode prog_3_method_2_code 79 = .ok (.aload_n 0, 1) := by decide +kernel
theorem d_30_80 : decode prog_3_method_2_code 80 = .ok (.getfield 15, 3) := by decide +kernel
theorem d_30_83 : decode prog_3_method_2_code 83 = .ok (.getfield 76, 3) := by decide +kernel
theorem d_30_86 : decode prog_3_method_2_code 86 = .ok (.imul, 1) := by decide +kernel
theorem d_30_87 : decode prog_3_method_2_code 87 = .ok (.invokevirtual 81, 3) := by decide +kernel
theorem d_30_90 : decode prog_3_method_2_code 90 = .ok (.return_, 1) := by decide +kernel
theorem d_31_0 : decode prog_3_method_3_code 0 = .ok (.aload_n 0, 1) := by decide +kernel
theorem d_31_1 : decode prog_3_method_3_code 1 = .ok (.getfield 11, 3) := by decide +kernel
theorem d_31_4 : decode prog_3_method_3_code 4 = .ok (.iconst 1, 1) := by decide +kernel
theorem d_31_5 : decode prog_3_method_3_code 5 = .ok (.if_icmp .eq 11, 3) := by decide +kernel
theorem d_31_8 : decode prog_3_method_3_code 8 = .ok (.aload_n 0, 1) := by decide +kernel
theorem d_31_9 : decode prog_3_method_3_code 9 = .ok (.getfield 11, 3) := by decide +kernel
theorem d_31_12 : decode prog_3_method_3_code 12 = .ok (.iconst 2, 1) := by decide +kernel
theorem d_31_13 : decode prog_3_method_3_code 13 = .ok (.if_icmp .ne 7, 3) := by decide +kernel
theorem d_31_16 : decode prog_3_method_3_code 16 = .ok (.iconst 1, 1) := by decide +kernel
theorem d_31_17 : decode prog_3_method_3_code 17 = .ok (.goto 4, 3) := by decide +kernel
theorem d_31_20 : decode prog_3_method_3_code 20 = .ok (.iconst 0, 1) := by decide +kernel
theorem d_31_21 : decode prog_3_method_3_code 21 = .ok (.ireturn, 1) := by decide +kernel
theorem d_32_0 : decode prog_3_method_4_code 0 = .ok (.aload_n 0, 1) := by decide +kernel
theorem d_32_1 : decode prog_3_method_4_code 1 = .ok (.iconst 2, 1) := by decide +kernel
theorem d_32_2 : decode prog_3_method_4_code 2 = .ok (.invokevirtual 66, 3) := by decide +kernel
theorem d_32_5 : decode prog_3_method_4_code 5 = .ok (.return_, 1) := by decide +kernel
theorem d_33_0 : decode prog_3_method_5_code 0 = .ok (.aload_n 0, 1) := by decide +kernel
theorem d_33_1 : decode prog_3_method_5_code 1 = .ok (.getfield 60, 3) := by decide +kernel
theorem d_33_4 : decode prog_3_method_5_code 4 = .ok (.ifCond .ne 21, 3) := by decide +kernel
theorem d_33_7 : decode prog_3_method_5_code 7 = .ok (.aload_n 0, 1) := by decide +kernel
theorem d_33_8 : decode prog_3_method_5_code 8 = .ok (.getfield 41, 3) := by decide +kernel
theorem d_33_11 : decode prog_3_method_5_code 11 = .ok (.sipush 200, 3) := by decide +kernel
theorem d_33_14 : decode prog_3_method_5_code 14 = .ok (.aload_n 0, 1) := by decide +kernel
theorem d_33_15 : decode prog_3_method_5_code 15 = .ok (.getfield 15, 3) := by decide +kernel
theorem d_33_18 : decode prog_3_method_5_code 18 = .ok (.getfield 76, 3) := by decide +kernel
theorem d_33_21 : decode prog_3_method_5_code 21 = .ok (.imul, 1) := by decide +kernel
theorem d_33_22 : decode prog_3_method_5_code 22 = .ok (.invokevirtual 81, 3) := by decide +kernel
theorem d_33_25 : decode prog_3_method_5_code 25 = .ok (.return_, 1) := by decide +kernel
theorem d_34_0 : decode prog_3_method_6_code 0 = .ok (.aload_n 0, 1) := by decide +kernel
theorem d_34_1 : decode prog_3_method_6_code 1 = .ok (.iconst 1, 1) := by decide +kernel
theorem d_34_2 : decode prog_3_method_6_code 2 = .ok (.putfield 56, 3) := by decide +kernel
theorem d_34_5 : decode prog_3_method_6_code 5 = .ok (.aload_n 0, 1) := by decide +kernel
theorem d_34_6 : decode prog_3_method_6_code 6 = .ok (.getfield 11, 3) := by decide +kernel
theorem d_34_9 : decode prog_3_method_6_code 9 = .ok (.iconst 2, 1) := by decide +kernel
theorem d_34_10 : decode prog_3_method_6_code 10 = .ok (.if_icmp .ne 10, 3) := by decide +kernel
theorem d_34_13 : decode prog_3_method_6_code 13 = .ok (.aload_n 0, 1) := by decide +kernel
theorem d_34_14 : decode prog_3_method_6_code 14 = .ok (.getfield 60, 3) := by decide +kernel
theorem d_34_17 : decode prog_3_method_6_code 17 = .ok (.ifCond .eq 4, 3) := by decide +kernel
theorem d_34_20 : decode prog_3_method_6_code 20 = .ok (.return_, 1) := by decide +kernel
theorem d_34_21 : decode prog_3_method_6_code 21 = .ok (.aload_n 0, 1) := by decide +kernel
theorem d_34_22 : decode prog_3_method_6_code 22 = .ok (.iconst 1, 1) := by decide +kernel
theorem d_34_23 : decode prog_3_method_6_code 23 = .ok (.putfield 60, 3) := by decide +kernel
theorem d_34_26 : decode prog_3_method_6_code 26 = .ok (.aload_n 0, 1) := by decide +kernel
theorem d_34_27 : decode prog_3_method_6_code 27 = .ok (.getfield 19, 3) := by decide +kernel
theorem d_34_30 : decode prog_3_method_6_code 30 = .ok (.aload_n 0, 1) := by decide +kernel
theorem d_34_31 : decode prog_3_method_6_code 31 = .ok (.getfield 23, 3) := by decide +kernel
theorem d_34_34 : decode prog_3_method_6_code 34 = .ok (.aload_n 0, 1) := by decide +kernel
theorem d_34_35 : decode prog_3_method_6_code 35 = .ok (.getfield 26, 3) := by decide +kernel
theorem d_34_38 : decode prog_3_method_6_code 38 = .ok (.iconst 2, 1) := by decide +kernel
theorem d_34_39 : decode prog_3_method_6_code 39 = .ok (.invokevirtual 70, 3) := by decide +kernel
theorem d_34_42 : decode prog_3_method_6_code 42 = .ok (.aload_n 0, 1) := by decide +kernel
theorem d_34_43 : decode prog_3_method_6_code 43 = .ok (.getfield 41, 3) := by decide +kernel
theorem d_34_46 : decode prog_3_method_6_code 46 = .ok (.invokevirtual 84, 3) := by decide +kernel
theorem d_34_49 : decode prog_3_method_6_code 49 = .ok (.aload_n 0, 1) := by decide +kernel
theorem d_34_50 : decode prog_3_method_6_code 50 = .ok (.getfield 47, 3) := by decide +kernel
theorem d_34_53 : decode prog_3_method_6_code 53 = .ok (.aload_n 0, 1) := by decide +kernel
theorem d_34_54 : decode prog_3_method_6_code 54 = .ok (.getfield 15, 3) := by decide +kernel
theorem d_34_57 : decode prog_3_method_6_code 57 = .ok (.getfield 76, 3) := by decide +kernel
theorem d_34_60 : decode prog_3_method_6_code 60 = .ok (.invokevirtual 81, 3) := by decide +kernel
theorem d_34_63 : decode prog_3_method_6_code 63 = .ok (.aload_n 0, 1) := by decide +kernel
theorem d_34_64 : decode prog_3_method_6_code 64 = .ok (.getfield 50, 3) := by decide +kernel
theorem d_34_67 : decode prog_3_method_6_code 67 = .ok (.bipush 64, 2) := by decide +kernel
theorem d_34_69 : decode prog_3_method_6_code 69 = .ok (.aload_n 0, 1) := by decide +kernel
theorem d_34_70 : decode prog_3_method_6_code 70 = .ok (.getfield 15, 3) := by decide +kernel
theorem d_34_73 : decode prog_3_method_6_code 73 = .ok (.getfield 76, 3) := by decide +kernel
theorem d_34_76 : decode prog_3_method_6_code 76 = .ok (.imul, 1) := by decide +kernel
theorem d_34_77 : decode prog_3_method_6_code 77 = .ok (.invokevirtual 81, 3) := by decide +kernel
theorem d_34_80 : decode prog_3_method_6_code 80 = .ok (.return_, 1) := by decide +kernel
theorem d_35_0 : decode prog_3_method_7_code 0 = .ok (.aload_n 0, 1) := by decide +kernel
theorem d_35_1 : decode prog_3_method_7_code 1 = .ok (.iload_n 1, 1) := by decide +kernel
theorem d_35_2 : decode prog_3_method_7_code 2 = .ok (.putfield 63, 3) := by decide +kernel
theorem d_35_5 : decode prog_3_method_7_code 5 = .ok (.aload_n 0, 1) := by decide +kernel
theorem d_35_6 : decode prog_3_method_7_code 6 = .ok (.iconst 4, 1) := by decide +kernel
theorem d_35_7 : decode prog_3_method_7_code 7 = .ok (.invokevirtual 66, 3) := by decide +kernel
theorem d_35_10 : decode prog_3_method_7_code 10 = .ok (.return_, 1) := by decide +kernel
theorem d_36_0 : decode prog_3_method_8_code 0 = .ok (.aload_n 0, 1) := by decide +kernel
theorem d_36_1 : decode prog_3_method_8_code 1 = .ok (.iload_n 1, 1) := by decide +kernel
theorem d_36_2 : decode prog_3_method_8_code 2 = .ok (.putfield 63, 3) := by decide +kernel
theorem d_36_5 : decode prog_3_method_8_code 5 = .ok (.aload_n 0, 1) := by decide +kernel
theorem d_36_6 : decode prog_3_method_8_code 6 = .ok (.iconst 3, 1) := by decide +kernel
theorem d_36_7 : decode prog_3_method_8_code 7 = .ok (.invokevirtual 66, 3) := by decide +kernel
theorem d_36_10 : decode prog_3_method_8_code 10 = .ok (.aload_n 0, 1) := by decide +kernel
theorem d_36_11 : decode prog_3_method_8_code 11 = .ok (.invokevirtual 87, 3) := by decide +kernel
theorem d_36_14 : decode prog_3_method_8_code 14 = .ok (.aload_n 0, 1) := by decide +kernel
theorem d_36_15 : decode prog_3_method_8_code 15 = .ok (.getfield 44, 3) := by decide +kernel
theorem d_36_18 : decode prog_3_method_8_code 18 = .ok (.bipush 64, 2) := by decide +kernel
theorem d_36_20 : decode prog_3_method_8_code 20 = .ok (.aload_n 0, 1) := by decide +kernel
theorem d_36_21 : decode prog_3_method_8_code 21 = .ok (.getfield 15, 3) := by decide +kernel
theorem d_36_24 : decode prog_3_method_8_code 24 = .ok (.getfield 76, 3) := by decide +kernel
theorem d_36_27 : decode prog_3_method_8_code 27 = .ok (.imul, 1) := by decide +kernel
theorem d_36_28 : decode prog_3_method_8_code 28 = .ok (.invokevirtual 81, 3) := by decide +kernel
theorem d_36_31 : decode prog_3_method_8_code 31 = .ok (.return_, 1) := by decide +kernel
theorem d_37_0 : decode prog_3_method_9_code 0 = .ok (.aload_n 0, 1) := by decide +kernel
theorem d_37_1 : decode prog_3_method_9_code 1 = .ok (.getfield 19, 3) := by decide +kernel
theorem d_37_4 : decode prog_3_method_9_code 4 = .ok (.aload_n 0, 1) := by decide +kernel
theorem d_37_5 : decode prog_3_method_9_code 5 = .ok (.getfield 23, 3) := by decide +kernel
theorem d_37_8 : decode prog_3_method_9_code 8 = .ok (.aload_n 0, 1) := by decide +kernel
theorem d_37_9 : decode prog_3_method_9_code 9 = .ok (.getfield 26, 3) := by decide +kernel
theorem d_37_12 : decode prog_3_method_9_code 12 = .ok (.iconst 3, 1) := by decide +kernel
theorem d_37_13 : decode prog_3_method_9_code 13 = .ok (.invokevirtual 70, 3) := by decide +kernel
theorem d_37_16 : decode prog_3_method_9_code 16 = .ok (.return_, 1) := by decide +kernel
theorem d_38_0 : decode prog_3_method_10_code 0 = .ok (.aload_n 0, 1) := by decide +kernel
theorem d_38_1 : decode prog_3_method_10_code 1 = .ok (.sipush 408, 3) := by decide +kernel
theorem d_38_4 : decode prog_3_method_10_code 4 = .ok (.putfield 63, 3) := by decide +kernel
theorem d_38_7 : decode prog_3_method_10_code 7 = .ok (.aload_n 0, 1) := by decide +kernel
theorem d_38_8 : decode prog_3_method_10_code 8 = .ok (.iconst 4, 1) := by decide +kernel
theorem d_38_9 : decode prog_3_method_10_code 9 = .ok (.invokevirtual 66, 3) := by decide +kernel
theorem d_38_12 : decode prog_3_method_10_code 12 = .ok (.return_, 1) := by decide +kernel
theorem d_39_0 : decode prog_3_method_11_code 0 = .ok (.aload_n 0, 1) := by decide +kernel
theorem d_39_1 : decode prog_3_method_11_code 1 = .ok (.iload_n 1, 1) := by decide +kernel
theorem d_39_2 : decode prog_3_method_11_code 2 = .ok (.putfield 11, 3) := by decide +kernel
theorem d_39_5 : decode prog_3_method_11_code 5 = .ok (.aload_n 0, 1) := by decide +kernel
theorem d_39_6 : decode prog_3_method_11_code 6 = .ok (.getfield 11, 3) := by decide +kernel
theorem d_39_9 : decode prog_3_method_11_code 9 = .ok (.iconst 1, 1) := by decide +kernel
theorem d_39_10 : decode prog_3_method_11_code 10 = .ok (.if_icmp .eq 17, 3) := by decide +kernel
theorem d_39_13 : decode prog_3_method_11_code 13 = .ok (.aload_n 0, 1) := by decide +kernel
theorem d_39_14 : decode prog_3_method_11_code 14 = .ok (.getfield 34, 3) := by decide +kernel
theorem d_39_17 : decode prog_3_method_11_code 17 = .ok (.invokevirtual 84, 3) := by decide +kernel
theorem d_39_20 : decode prog_3_method_11_code 20 = .ok (.aload_n 0, 1) := by decide +kernel
theorem d_39_21 : decode prog_3_method_11_code 21 = .ok (.getfield 38, 3) := by decide +kernel
theorem d_39_24 : decode prog_3_method_11_code 24 = .ok (.invokevirtual 84, 3) := by decide +kernel
theorem d_39_27 : decode prog_3_method_11_code 27 = .ok (.aload_n 0, 1) := by decide +kernel
theorem d_39_28 : decode prog_3_method_11_code 28 = .ok (.invokevirtual 90, 3) := by decide +kernel
theorem d_39_31 : decode prog_3_method_11_code 31 = .ok (.ifCond .ne 24, 3) := by decide +kernel
theorem d_39_34 : decode prog_3_method_11_code 34 = .ok (.aload_n 0, 1) := by decide +kernel
theorem d_39_35 : decode prog_3_method_11_code 35 = .ok (.getfield 41, 3) := by decide +kernel
theorem d_39_38 : decode prog_3_method_11_code 38 = .ok (.invokevirtual 84, 3) := by decide +kernel
theorem d_39_41 : decode prog_3_method_11_code 41 = .ok (.aload_n 0, 1) := by decide +kernel
theorem d_39_42 : decode prog_3_method_11_code 42 = .ok (.getfield 47, 3) := by decide +kernel
theorem d_39_45 : decode prog_3_method_11_code 45 = .ok (.invokevirtual 84, 3) := by decide +kernel
theorem d_39_48 : decode prog_3_method_11_code 48 = .ok (.aload_n 0, 1) := by decide +kernel
theorem d_39_49 : decode prog_3_method_11_code 49 = .ok (.getfield 50, 3) := by decide +kernel
theorem d_39_52 : decode prog_3_method_11_code 52 = .ok (.invokevirtual 84, 3) := by decide +kernel
theorem d_39_55 : decode prog_3_method_11_code 55 = .ok (.aload_n 0, 1) := by decide +kernel
theorem d_39_56 : decode prog_3_method_11_code 56 = .ok (.getfield 11, 3) := by decide +kernel
theorem d_39_59 : decode prog_3_method_11_code 59 = .ok (.iconst 4, 1) := by decide +kernel
theorem d_39_60 : decode prog_3_method_11_code 60 = .ok (.if_icmp .ne 10, 3) := by decide +kernel
theorem d_39_63 : decode prog_3_method_11_code 63 = .ok (.aload_n 0, 1) := by decide +kernel
theorem d_39_64 : decode prog_3_method_11_code 64 = .ok (.getfield 44, 3) := by decide +kernel
theorem d_39_67 : decode prog_3_method_11_code 67 = .ok (.invokevirtual 84, 3) := by decide +kernel
theorem d_39_70 : decode prog_3_method_11_code 70 = .ok (.return_, 1) := by decide +kernel
theorem d_40_0 : decode prog_3_method_12_code 0 = .ok (.aload_n 0, 1) := by decide +kernel
theorem d_40_1 : decode prog_3_method_12_code 1 = .ok (.invokevirtual 90, 3) := by decide +kernel
theorem d_40_4 : decode prog_3_method_12_code 4 = .ok (.istore_n 1, 1) := by decide +kernel
theorem d_40_5 : decode prog_3_method_12_code 5 = .ok (.aload_n 0, 1) := by decide +kernel
theorem d_40_6 : decode prog_3_method_12_code 6 = .ok (.getfield 34, 3) := by decide +kernel
theorem d_40_9 : decode prog_3_method_12_code 9 = .ok (.invokevirtual 94, 3) := by decide +kernel
theorem d_40_12 : decode prog_3_method_12_code 12 = .ok (.ifCond .eq 26, 3) := by decide +kernel
theorem d_40_15 : decode prog_3_method_12_code 15 = .ok (.aload_n 0, 1) := by decide +kernel
theorem d_40_16 : decode prog_3_method_12_code 16 = .ok (.getfield 19, 3) := by decide +kernel
theorem d_40_19 : decode prog_3_method_12_code 19 = .ok (.aload_n 0, 1) := by decide +kernel
theorem d_40_20 : decode prog_3_method_12_code 20 = .ok (.getfield 23, 3) := by decide +kernel
theorem d_40_23 : decode prog_3_method_12_code 23 = .ok (.aload_n 0, 1) := by decide +kernel
theorem d_40_24 : decode prog_3_method_12_code 24 = .ok (.getfield 26, 3) := by decide +kernel
theorem d_40_27 : decode prog_3_method_12_code 27 = .ok (.iconst 1, 1) := by decide +kernel
theorem d_40_28 : decode prog_3_method_12_code 28 = .ok (.invokevirtual 70, 3) := by decide +kernel
theorem d_40_31 : decode prog_3_method_12_code 31 = .ok (.aload_n 0, 1) := by decide +kernel
theorem d_40_32 : decode prog_3_method_12_code 32 = .ok (.getfield 34, 3) := by decide +kernel
theorem d_40_35 : decode prog_3_method_12_code 35 = .ok (.invokevirtual 97, 3) := by decide +kernel
theorem d_40_38 : decode prog_3_method_12_code 38 = .ok (.aload_n 0, 1) := by decide +kernel
theorem d_40_39 : decode prog_3_method_12_code 39 = .ok (.getfield 38, 3) := by decide +kernel
theorem d_40_42 : decode prog_3_method_12_code 42 = .ok (.invokevirtual 94, 3) := by decide +kernel
theorem d_40_45 : decode prog_3_method_12_code 45 = .ok (.ifCond .eq 7, 3) := by decide +kernel
theorem d_40_48 : decode prog_3_method_12_code 48 = .ok (.aload_n 0, 1) := by decide +kernel
theorem d_40_49 : decode prog_3_method_12_code 49 = .ok (.invokevirtual 100, 3) := by decide +kernel
theorem d_40_52 : decode prog_3_method_12_code 52 = .ok (.aload_n 0, 1) := by decide +kernel
theorem d_40_53 : decode prog_3_method_12_code 53 = .ok (.getfield 41, 3) := by decide +kernel
theorem d_40_56 : decode prog_3_method_12_code 56 = .ok (.invokevirtual 94, 3) := by decide +kernel
theorem d_40_59 : decode prog_3_method_12_code 59 = .ok (.ifCond .eq 7, 3) := by decide +kernel
theorem d_40_62 : decode prog_3_method_12_code 62 = .ok (.aload_n 0, 1) := by decide +kernel
theorem d_40_63 : decode prog_3_method_12_code 63 = .ok (.invokevirtual 103, 3) := by decide +kernel
theorem d_40_66 : decode prog_3_method_12_code 66 = .ok (.aload_n 0, 1) := by decide +kernel
theorem d_40_67 : decode prog_3_method_12_code 67 = .ok (.getfield 44, 3) := by decide +kernel
theorem d_40_70 : decode prog_3_method_12_code 70 = .ok (.invokevirtual 94, 3) := by decide +kernel
theorem d_40_73 : decode prog_3_method_12_code 73 = .ok (.ifCond .eq 8, 3) := by decide +kernel
theorem d_40_76 : decode prog_3_method_12_code 76 = .ok (.aload_n 0, 1) := by decide +kernel
theorem d_40_77 : decode prog_3_method_12_code 77 = .ok (.iconst 4, 1) := by decide +kernel
theorem d_40_78 : decode prog_3_method_12_code 78 = .ok (.invokevirtual 66, 3) := by decide +kernel
theorem d_40_81 : decode prog_3_method_12_code 81 = .ok (.aload_n 0, 1) := by decide +kernel
theorem d_40_82 : decode prog_3_method_12_code 82 = .ok (.getfield 47, 3) := by decide +kernel
theorem d_40_85 : decode prog_3_method_12_code 85 = .ok (.invokevirtual 94, 3) := by decide +kernel
theorem d_40_88 : decode prog_3_method_12_code 88 = .ok (.ifCond .eq 36, 3) := by decide +kernel
theorem d_40_91 : decode prog_3_method_12_code 91 = .ok (.aload_n 0, 1) := by decide +kernel
theorem d_40_92 : decode prog_3_method_12_code 92 = .ok (.getfield 19, 3) := by decide +kernel
theorem d_40_95 : decode prog_3_method_12_code 95 = .ok (.aload_n 0, 1) := by decide +kernel
theorem d_40_96 : decode prog_3_method_12_code 96 = .ok (.getfield 23, 3) := by decide +kernel
theorem d_40_99 : decode prog_3_method_12_code 99 = .ok (.aload_n 0, 1) := by decide +kernel
theorem d_40_100 : decode prog_3_method_12_code 100 = .ok (.getfield 26, 3) := by decide +kernel
theorem d_40_103 : decode prog_3_method_12_code 103 = .ok (.iconst 2, 1) := by decide +kernel
theorem d_40_104 : decode prog_3_method_12_code 104 = .ok (.invokevirtual 70, 3) := by decide +kernel
theorem d_40_107 : decode prog_3_method_12_code 107 = .ok (.aload_n 0, 1) := by decide +kernel
theorem d_40_108 : decode prog_3_method_12_code 108 = .ok (.getfield 47, 3) := by decide +kernel
theorem d_40_111 : decode prog_3_method_12_code 111 = .ok (.bipush 8, 2) := by decide +kernel
theorem d_40_113 : decode prog_3_method_12_code 113 = .ok (.aload_n 0, 1) := by decide +kernel
theorem d_40_114 : decode prog_3_method_12_code 114 = .ok (.getfield 15, 3) := by decide +kernel
theorem d_40_117 : decode prog_3_method_12_code 117 = .ok (.getfield 76, 3) := by decide +kernel
theorem d_40_120 : decode prog_3_method_12_code 120 = .ok (.imul, 1) := by decide +kernel
theorem d_40_121 : decode prog_3_method_12_code 121 = .ok (.invokevirtual 106, 3) := by decide +kernel
theorem d_40_124 : decode prog_3_method_12_code 124 = .ok (.aload_n 0, 1) := by decide +kernel
theorem d_40_125 : decode prog_3_method_12_code 125 = .ok (.getfield 50, 3) := by decide +kernel
theorem d_40_128 : decode prog_3_method_12_code 128 = .ok (.invokevirtual 94, 3) := by decide +kernel
theorem d_40_131 : decode prog_3_method_12_code 131 = .ok (.ifCond .eq 7, 3) := by decide +kernel
theorem d_40_134 : decode prog_3_method_12_code 134 = .ok (.aload_n 0, 1) := by decide +kernel
theorem d_40_135 : decode prog_3_method_12_code 135 = .ok (.invokevirtual 100, 3) := by decide +kernel
theorem d_40_138 : decode prog_3_method_12_code 138 = .ok (.iload_n 1, 1) := by decide +kernel
theorem d_40_139 : decode prog_3_method_12_code 139 = .ok (.ifCond .eq 14, 3) := by decide +kernel
theorem d_40_142 : decode prog_3_method_12_code 142 = .ok (.aload_n 0, 1) := by decide +kernel
theorem d_40_143 : decode prog_3_method_12_code 143 = .ok (.invokevirtual 90, 3) := by decide +kernel
theorem d_40_146 : decode prog_3_method_12_code 146 = .ok (.ifCond .ne 7, 3) := by decide +kernel
theorem d_40_149 : decode prog_3_method_12_code 149 = .ok (.iconst 1, 1) := by decide +kernel
theorem d_40_150 : decode prog_3_method_12_code 150 = .ok (.goto 4, 3) := by decide +kernel
theorem d_40_153 : decode prog_3_method_12_code 153 = .ok (.iconst 0, 1) := by decide +kernel
theorem d_40_154 : decode prog_3_method_12_code 154 = .ok (.ireturn, 1) := by decide +kernel
