theorem d_41_0 : decode prog_3_method_13_code 0 = .ok (.aload_n 0, 1) := by decide +kernel
theorem d_41_1 : decode prog_3_method_13_code 1 = .ok (.getfield 34, 3) := by decide +kernel
theorem d_41_4 : decode prog_3_method_13_code 4 = .ok (.getfield 109, 3) := by decide +kernel
theorem d_41_7 : decode prog_3_method_13_code 7 = .ok (.aload_n 0, 1) := by decide +kernel
theorem d_41_8 : decode prog_3_method_13_code 8 = .ok (.getfield 38, 3) := by decide +kernel
theorem d_41_11 : decode prog_3_method_13_code 11 = .ok (.getfield 109, 3) := by decide +kernel
theorem d_41_14 : decode prog_3_method_13_code 14 = .ok (.aload_n 0, 1) := by decide +kernel
theorem d_41_15 : decode prog_3_method_13_code 15 = .ok (.getfield 41, 3) := by decide +kernel
theorem d_41_18 : decode prog_3_method_13_code 18 = .ok (.getfield 109, 3) := by decide +kernel
theorem d_41_21 : decode prog_3_method_13_code 21 = .ok (.invokestatic 112, 3) := by decide +kernel
theorem d_41_24 : decode prog_3_method_13_code 24 = .ok (.invokestatic 112, 3) := by decide +kernel
theorem d_41_27 : decode prog_3_method_13_code 27 = .ok (.istore_n 1, 1) := by decide +kernel
theorem d_41_28 : decode prog_3_method_13_code 28 = .ok (.iload_n 1, 1) := by decide +kernel
theorem d_41_29 : decode prog_3_method_13_code 29 = .ok (.aload_n 0, 1) := by decide +kernel
theorem d_41_30 : decode prog_3_method_13_code 30 = .ok (.getfield 44, 3) := by decide +kernel
theorem d_41_33 : decode prog_3_method_13_code 33 = .ok (.getfield 109, 3) := by decide +kernel
theorem d_41_36 : decode prog_3_method_13_code 36 = .ok (.aload_n 0, 1) := by decide +kernel
theorem d_41_37 : decode prog_3_method_13_code 37 = .ok (.getfield 47, 3) := by decide +kernel
theorem d_41_40 : decode prog_3_method_13_code 40 = .ok (.getfield 109, 3) := by decide +kernel
theorem d_41_43 : decode prog_3_method_13_code 43 = .ok (.aload_n 0, 1) := by decide +kernel
theorem d_41_44 : decode prog_3_method_13_code 44 = .ok (.getfield 50, 3) := by decide +kernel
theorem d_41_47 : decode prog_3_method_13_code 47 = .ok (.getfield 109, 3) := by decide +kernel
theorem d_41_50 : decode prog_3_method_13_code 50 = .ok (.invokestatic 112, 3) := by decide +kernel
theorem d_41_53 : decode prog_3_method_13_code 53 = .ok (.invokestatic 112, 3) := by decide +kernel
theorem d_41_56 : decode prog_3_method_13_code 56 = .ok (.invokestatic 112, 3) := by decide +kernel
theorem d_41_59 : decode prog_3_method_13_code 59 = .ok (.ireturn, 1) := by decide +kernel
theorem d_42_0 : decode prog_4_method_1_code 0 = .ok (.aload_n 0, 1) := by decide +kernel
theorem d_42_1 : decode prog_4_method_1_code 1 = .ok (.invokespecial 3, 3) := by decide +kernel
theorem d_42_4 : decode prog_4_method_1_code 4 = .ok (.aload_n 0, 1) := by decide +kernel
theorem d_42_5 : decode prog_4_method_1_code 5 = .ok (.iconst 4, 1) := by decide +kernel
theorem d_42_6 : decode prog_4_method_1_code 6 = .ok (.anewarray 9, 3) := by decide +kernel
theorem d_42_9 : decode prog_4_method_1_code 9 = .ok (.putfield 11, 3) := by decide +kernel
theorem d_42_12 : decode prog_4_method_1_code 12 = .ok (.aload_n 0, 1) := by decide +kernel
theorem d_42_13 : decode prog_4_method_1_code 13 = .ok (.iload_n 3, 1) := by decide +kernel
theorem d_42_14 : decode prog_4_method_1_code 14 = .ok (.putfield 17, 3) := by decide +kernel
theorem d_42_17 : decode prog_4_method_1_code 17 = .ok (.aload_n 0, 1) := by decide +kernel
theorem d_42_18 : decode prog_4_method_1_code 18 = .ok (.new 21, 3) := by decide +kernel
theorem d_42_21 : decode prog_4_method_1_code 21 = .ok (.dup, 1) := by decide +kernel
theorem d_42_22 : decode prog_4_method_1_code 22 = .ok (.aload_n 1, 1) := by decide +kernel
theorem d_42_23 : decode prog_4_method_1_code 23 = .ok (.aload_n 2, 1) := by decide +kernel
theorem d_42_24 : decode prog_4_method_1_code 24 = .ok (.iload_n 3, 1) := by decide +kernel
theorem d_42_25 : decode prog_4_method_1_code 25 = .ok (.invokespecial 23, 3) := by decide +kernel
theorem d_42_28 : decode prog_4_method_1_code 28 = .ok (.putfield 26, 3) := by decide +kernel
theorem d_42_31 : decode prog_4_method_1_code 31 = .ok (.iconst 0, 1) := by decide +kernel
theorem d_42_32 : decode prog_4_method_1_code 32 = .ok (.istore 4, 2) := by decide +kernel
theorem d_42_34 : decode prog_4_method_1_code 34 = .ok (.iload 4, 2) := by decide +kernel
theorem d_42_36 : decode prog_4_method_1_code 36 = .ok (.iconst 4, 1) := by decide +kernel
theorem d_42_37 : decode prog_4_method_1_code 37 = .ok (.if_icmp .ge 28, 3) := by decide +kernel
theorem d_42_40 : decode prog_4_method_1_code 40 = .ok (.aload_n 0, 1) := by decide +kernel
theorem d_42_41 : decode prog_4_method_1_code 41 = .ok (.getfield 11, 3) := by decide +kernel
theorem d_42_44 : decode prog_4_method_1_code 44 = .ok (.iload 4, 2) := by decide +kernel
theorem d_42_46 : decode prog_4_method_1_code 46 = .ok (.new 9, 3) := by decide +kernel
theorem d_42_49 : decode prog_4_method_1_code 49 = .ok (.dup, 1) := by decide +kernel
theorem d_42_50 : decode prog_4_method_1_code 50 = .ok (.aload_n 1, 1) := by decide +kernel
theorem d_42_51 : decode prog_4_method_1_code 51 = .ok (.aload_n 2, 1) := by decide +kernel
theorem d_42_52 : decode prog_4_method_1_code 52 = .ok (.iload_n 3, 1) := by decide +kernel
theorem d_42_53 : decode prog_4_method_1_code 53 = .ok (.iload 4, 2) := by decide +kernel
theorem d_42_55 : decode prog_4_method_1_code 55 = .ok (.invokespecial 30, 3) := by decide +kernel
theorem d_42_58 : decode prog_4_method_1_code 58 = .ok (.aastore, 1) := by decide +kernel
theorem d_42_59 : decode prog_4_method_1_code 59 = .ok (.iinc 4 1, 3) := by decide +kernel
theorem d_42_62 : decode prog_4_method_1_code 62 = .ok (.goto (-28), 3) := by decide +kernel
theorem d_42_65 : decode prog_4_method_1_code 65 = .ok (.return_, 1) := by decide +kernel
theorem d_43_0 : decode prog_4_method_2_code 0 = .ok (.aload_n 0, 1) := by decide +kernel
theorem d_43_1 : decode prog_4_method_2_code 1 = .ok (.invokevirtual 33, 3) := by decide +kernel
theorem d_43_4 : decode prog_4_method_2_code 4 = .ok (.ifCond .le 7, 3) := by decide +kernel
theorem d_43_7 : decode prog_4_method_2_code 7 = .ok (.iconst 1, 1) := by decide +kernel
theorem d_43_8 : decode prog_4_method_2_code 8 = .ok (.goto 4, 3) := by decide +kernel
theorem d_43_11 : decode prog_4_method_2_code 11 = .ok (.iconst 0, 1) := by decide +kernel
theorem d_43_12 : decode prog_4_method_2_code 12 = .ok (.ireturn, 1) := by decide +kernel
theorem d_44_0 : decode prog_4_method_3_code 0 = .ok (.aload_n 0, 1) := by decide +kernel
theorem d_44_1 : decode prog_4_method_3_code 1 = .ok (.getfield 26, 3) := by decide +kernel
theorem d_44_4 : decode prog_4_method_3_code 4 = .ok (.getfield 37, 3) := by decide +kernel
theorem d_44_7 : decode prog_4_method_3_code 7 = .ok (.iconst 5, 1) := by decide +kernel
theorem d_44_8 : decode prog_4_method_3_code 8 = .ok (.if_icmp .ne 7, 3) := by decide +kernel
theorem d_44_11 : decode prog_4_method_3_code 11 = .ok (.iconst 0, 1) := by decide +kernel
theorem d_44_12 : decode prog_4_method_3_code 12 = .ok (.goto 4, 3) := by decide +kernel
theorem d_44_15 : decode prog_4_method_3_code 15 = .ok (.iconst 1, 1) := by decide +kernel
theorem d_44_16 : decode prog_4_method_3_code 16 = .ok (.istore_n 1, 1) := by decide +kernel
theorem d_44_17 : decode prog_4_method_3_code 17 = .ok (.iconst 0, 1) := by decide +kernel
theorem d_44_18 : decode prog_4_method_3_code 18 = .ok (.istore_n 2, 1) := by decide +kernel
theorem d_44_19 : decode prog_4_method_3_code 19 = .ok (.iload_n 2, 1) := by decide +kernel
theorem d_44_20 : decode prog_4_method_3_code 20 = .ok (.aload_n 0, 1) := by decide +kernel
theorem d_44_21 : decode prog_4_method_3_code 21 = .ok (.getfield 40, 3) := by decide +kernel
theorem d_44_24 : decode prog_4_method_3_code 24 = .ok (.if_icmp .ge 25, 3) := by decide +kernel
theorem d_44_27 : decode prog_4_method_3_code 27 = .ok (.aload_n 0, 1) := by decide +kernel
theorem d_44_28 : decode prog_4_method_3_code 28 = .ok (.getfield 11, 3) := by decide +kernel
theorem d_44_31 : decode prog_4_method_3_code 31 = .ok (.iload_n 2, 1) := by decide +kernel
theorem d_44_32 : decode prog_4_method_3_code 32 = .ok (.aaload, 1) := by decide +kernel
theorem d_44_33 : decode prog_4_method_3_code 33 = .ok (.getfield 43, 3) := by decide +kernel
theorem d_44_36 : decode prog_4_method_3_code 36 = .ok (.iconst 4, 1) := by decide +kernel
theorem d_44_37 : decode prog_4_method_3_code 37 = .ok (.if_icmp .eq 6, 3) := by decide +kernel
theorem d_44_40 : decode prog_4_method_3_code 40 = .ok (.iinc 1 1, 3) := by decide +kernel
theorem d_44_43 : decode prog_4_method_3_code 43 = .ok (.iinc 2 1, 3) := by decide +kernel
theorem d_44_46 : decode prog_4_method_3_code 46 = .ok (.goto (-27), 3) := by decide +kernel
theorem d_44_49 : decode prog_4_method_3_code 49 = .ok (.iload_n 1, 1) := by decide +kernel
theorem d_44_50 : decode prog_4_method_3_code 50 = .ok (.ireturn, 1) := by decide +kernel
theorem d_45_0 : decode prog_4_method_4_code 0 = .ok (.aload_n 0, 1) := by decide +kernel
theorem d_45_1 : decode prog_4_method_4_code 1 = .ok (.iconst 0, 1) := by decide +kernel
theorem d_45_2 : decode prog_4_method_4_code 2 = .ok (.putfield 40, 3) := by decide +kernel
theorem d_45_5 : decode prog_4_method_4_code 5 = .ok (.aload_n 0, 1) := by decide +kernel
theorem d_45_6 : decode prog_4_method_4_code 6 = .ok (.getfield 26, 3) := by decide +kernel
theorem d_45_9 : decode prog_4_method_4_code 9 = .ok (.iload_n 1, 1) := by decide +kernel
theorem d_45_10 : decode prog_4_method_4_code 10 = .ok (.invokevirtual 44, 3) := by decide +kernel
theorem d_45_13 : decode prog_4_method_4_code 13 = .ok (.return_, 1) := by decide +kernel
theorem d_46_0 : decode prog_4_method_5_code 0 = .ok (.aload_n 0, 1) := by decide +kernel
theorem d_46_1 : decode prog_4_method_5_code 1 = .ok (.iconst 0, 1) := by decide +kernel
theorem d_46_2 : decode prog_4_method_5_code 2 = .ok (.putfield 40, 3) := by decide +kernel
theorem d_46_5 : decode prog_4_method_5_code 5 = .ok (.aload_n 0, 1) := by decide +kernel
theorem d_46_6 : decode prog_4_method_5_code 6 = .ok (.iconst 0, 1) := by decide +kernel
theorem d_46_7 : decode prog_4_method_5_code 7 = .ok (.putfield 48, 3) := by decide +kernel
theorem d_46_10 : decode prog_4_method_5_code 10 = .ok (.aload_n 0, 1) := by decide +kernel
theorem d_46_11 : decode prog_4_method_5_code 11 = .ok (.getfield 26, 3) := by decide +kernel
theorem d_46_14 : decode prog_4_method_5_code 14 = .ok (.invokevirtual 51, 3) := by decide +kernel
theorem d_46_17 : decode prog_4_method_5_code 17 = .ok (.iconst 0, 1) := by decide +kernel
theorem d_46_18 : decode prog_4_method_5_code 18 = .ok (.istore_n 2, 1) := by decide +kernel
theorem d_46_19 : decode prog_4_method_5_code 19 = .ok (.iload_n 2, 1) := by decide +kernel
theorem d_46_20 : decode prog_4_method_5_code 20 = .ok (.iconst 4, 1) := by decide +kernel
theorem d_46_21 : decode prog_4_method_5_code 21 = .ok (.if_icmp .ge 42, 3) := by decide +kernel
theorem d_46_24 : decode prog_4_method_5_code 24 = .ok (.aload_n 1, 1) := by decide +kernel
theorem d_46_25 : decode prog_4_method_5_code 25 = .ok (.iload_n 2, 1) := by decide +kernel
theorem d_46_26 : decode prog_4_method_5_code 26 = .ok (.invokevirtual 54, 3) := by decide +kernel
theorem d_46_29 : decode prog_4_method_5_code 29 = .ok (.astore_n 3, 1) := by decide +kernel
theorem d_46_30 : decode prog_4_method_5_code 30 = .ok (.aload_n 3, 1) := by decide +kernel
theorem d_46_31 : decode prog_4_method_5_code 31 = .ok (.ifnull 26, 3) := by decide +kernel
theorem d_46_34 : decode prog_4_method_5_code 34 = .ok (.aload_n 0, 1) := by decide +kernel
theorem d_46_35 : decode prog_4_method_5_code 35 = .ok (.getfield 11, 3) := by decide +kernel
theorem d_46_38 : decode prog_4_method_5_code 38 = .ok (.iload_n 2, 1) := by decide +kernel
theorem d_46_39 : decode prog_4_method_5_code 39 = .ok (.aaload, 1) := by decide +kernel
theorem d_46_40 : decode prog_4_method_5_code 40 = .ok (.aload_n 3, 1) := by decide +kernel
theorem d_46_41 : decode prog_4_method_5_code 41 = .ok (.getfield 60, 3) := by decide +kernel
theorem d_46_44 : decode prog_4_method_5_code 44 = .ok (.invokevirtual 65, 3) := by decide +kernel
theorem d_46_47 : decode prog_4_method_5_code 47 = .ok (.aload_n 0, 1) := by decide +kernel
theorem d_46_48 : decode prog_4_method_5_code 48 = .ok (.dup, 1) := by decide +kernel
theorem d_46_49 : decode prog_4_method_5_code 49 = .ok (.getfield 40, 3) := by decide +kernel
theorem d_46_52 : decode prog_4_method_5_code 52 = .ok (.iconst 1, 1) := by decide +kernel
theorem d_46_53 : decode prog_4_method_5_code 53 = .ok (.iadd, 1) := by decide +kernel
theorem d_46_54 : decode prog_4_method_5_code 54 = .ok (.putfield 40, 3) := by decide +kernel
theorem d_46_57 : decode prog_4_method_5_code 57 = .ok (.iinc 2 1, 3) := by decide +kernel
theorem d_46_60 : decode prog_4_method_5_code 60 = .ok (.goto (-41), 3) := by decide +kernel
theorem d_46_63 : decode prog_4_method_5_code 63 = .ok (.return_, 1) := by decide +kernel
theorem d_47_0 : decode prog_4_method_6_code 0 = .ok (.iconst 0, 1) := by decide +kernel
theorem d_47_1 : decode prog_4_method_6_code 1 = .ok (.istore_n 1, 1) := by decide +kernel
theorem d_47_2 : decode prog_4_method_6_code 2 = .ok (.iload_n 1, 1) := by decide +kernel
theorem d_47_3 : decode prog_4_method_6_code 3 = .ok (.aload_n 0, 1) := by decide +kernel
theorem d_47_4 : decode prog_4_method_6_code 4 = .ok (.getfield 40, 3) := by decide +kernel
theorem d_47_7 : decode prog_4_method_6_code 7 = .ok (.if_icmp .ge 30, 3) := by decide +kernel
theorem d_47_10 : decode prog_4_method_6_code 10 = .ok (.aload_n 0, 1) := by decide +kernel
theorem d_47_11 : decode prog_4_method_6_code 11 = .ok (.getfield 11, 3) := by decide +kernel
theorem d_47_14 : decode prog_4_method_6_code 14 = .ok (.iload_n 1, 1) := by decide +kernel
theorem d_47_15 : decode prog_4_method_6_code 15 = .ok (.aaload, 1) := by decide +kernel
theorem d_47_16 : decode prog_4_method_6_code 16 = .ok (.invokevirtual 68, 3) := by decide +kernel
theorem d_47_19 : decode prog_4_method_6_code 19 = .ok (.ifCond .eq 12, 3) := by decide +kernel
theorem d_47_22 : decode prog_4_method_6_code 22 = .ok (.aload_n 0, 1) := by decide +kernel
theorem d_47_23 : decode prog_4_method_6_code 23 = .ok (.getfield 11, 3) := by decide +kernel
theorem d_47_26 : decode prog_4_method_6_code 26 = .ok (.iload_n 1, 1) := by decide +kernel
theorem d_47_27 : decode prog_4_method_6_code 27 = .ok (.aaload, 1) := by decide +kernel
theorem d_47_28 : decode prog_4_method_6_code 28 = .ok (.invokevirtual 72, 3) := by decide +kernel
theorem d_47_31 : decode prog_4_method_6_code 31 = .ok (.iinc 1 1, 3) := by decide +kernel
theorem d_47_34 : decode prog_4_method_6_code 34 = .ok (.goto (-32), 3) := by decide +kernel
theorem d_47_37 : decode prog_4_method_6_code 37 = .ok (.return_, 1) := by decide +kernel
theorem d_48_0 : decode prog_4_method_7_code 0 = .ok (.iload_n 2, 1) := by decide +kernel
theorem d_48_1 : decode prog_4_method_7_code 1 = .ok (.sipush 200, 3) := by decide +kernel
theorem d_48_4 : decode prog_4_method_7_code 4 = .ok (.if_icmp .ge 12, 3) := by decide +kernel
theorem d_48_7 : decode prog_4_method_7_code 7 = .ok (.aload_n 0, 1) := by decide +kernel
theorem d_48_8 : decode prog_4_method_7_code 8 = .ok (.aload_n 1, 1) := by decide +kernel
theorem d_48_9 : decode prog_4_method_7_code 9 = .ok (.iload_n 2, 1) := by decide +kernel
theorem d_48_10 : decode prog_4_method_7_code 10 = .ok (.invokevirtual 75, 3) := by decide +kernel
theorem d_48_13 : decode prog_4_method_7_code 13 = .ok (.goto 25, 3) := by decide +kernel
theorem d_48_16 : decode prog_4_method_7_code 16 = .ok (.iload_n 2, 1) := by decide +kernel
theorem d_48_17 : decode prog_4_method_7_code 17 = .ok (.sipush 300, 3) := by decide +kernel
theorem d_48_20 : decode prog_4_method_7_code 20 = .ok (.if_icmp .ge 12, 3) := by decide +kernel
theorem d_48_23 : decode prog_4_method_7_code 23 = .ok (.aload_n 0, 1) := by decide +kernel
theorem d_48_24 : decode prog_4_method_7_code 24 = .ok (.aload_n 1, 1) := by decide +kernel
theorem d_48_25 : decode prog_4_method_7_code 25 = .ok (.iload_n 2, 1) := by decide +kernel
theorem d_48_26 : decode prog_4_method_7_code 26 = .ok (.invokevirtual 79, 3) := by decide +kernel
theorem d_48_29 : decode prog_4_method_7_code 29 = .ok (.goto 9, 3) := by decide +kernel
theorem d_48_32 : decode prog_4_method_7_code 32 = .ok (.aload_n 0, 1) := by decide +kernel
theorem d_48_33 : decode prog_4_method_7_code 33 = .ok (.aload_n 1, 1) := by decide +kernel
theorem d_48_34 : decode prog_4_method_7_code 34 = .ok (.iload_n 2, 1) := by decide +kernel
theorem d_48_35 : decode prog_4_method_7_code 35 = .ok (.invokevirtual 82, 3) := by decide +kernel
theorem d_48_38 : decode prog_4_method_7_code 38 = .ok (.return_, 1) := by decide +kernel
theorem d_49_0 : decode prog_4_method_8_code 0 = .ok (.aload_n 1, 1) := by decide +kernel
theorem d_49_1 : decode prog_4_method_8_code 1 = .ok (.invokevirtual 68, 3) := by decide +kernel
theorem d_49_4 : decode prog_4_method_8_code 4 = .ok (.ifCond .ne 4, 3) := by decide +kernel
theorem d_49_7 : decode prog_4_method_8_code 7 = .ok (.return_, 1) := by decide +kernel
theorem d_49_8 : decode prog_4_method_8_code 8 = .ok (.aload_n 1, 1) := by decide +kernel
theorem d_49_9 : decode prog_4_method_8_code 9 = .ok (.invokevirtual 85, 3) := by decide +kernel
theorem d_49_12 : decode prog_4_method_8_code 12 = .ok (.iload_n 2, 1) := by decide +kernel
theorem d_49_13 : decode prog_4_method_8_code 13 = .ok (.bipush 100, 2) := by decide +kernel
theorem d_49_15 : decode prog_4_method_8_code 15 = .ok (.if_icmp .eq 26, 3) := by decide +kernel
theorem d_49_18 : decode prog_4_method_8_code 18 = .ok (.aload_n 1, 1) := by decide +kernel
theorem d_49_19 : decode prog_4_method_8_code 19 = .ok (.invokevirtual 86, 3) := by decide +kernel
theorem d_49_22 : decode prog_4_method_8_code 22 = .ok (.aload_n 0, 1) := by decide +kernel
theorem d_49_23 : decode prog_4_method_8_code 23 = .ok (.getfield 26, 3) := by decide +kernel
theorem d_49_26 : decode prog_4_method_8_code 26 = .ok (.getfield 37, 3) := by decide +kernel
theorem d_49_29 : decode prog_4_method_8_code 29 = .ok (.iconst 1, 1) := by decide +kernel
theorem d_49_30 : decode prog_4_method_8_code 30 = .ok (.if_icmp .ne 11, 3) := by decide +kernel
theorem d_49_33 : decode prog_4_method_8_code 33 = .ok (.aload_n 0, 1) := by decide +kernel
theorem d_49_34 : decode prog_4_method_8_code 34 = .ok (.getfield 26, 3) := by decide +kernel
theorem d_49_37 : decode prog_4_method_8_code 37 = .ok (.iload_n 2, 1) := by decide +kernel
theorem d_49_38 : decode prog_4_method_8_code 38 = .ok (.invokevirtual 89, 3) := by decide +kernel
theorem d_49_41 : decode prog_4_method_8_code 41 = .ok (.aload_n 1, 1) := by decide +kernel
theorem d_49_42 : decode prog_4_method_8_code 42 = .ok (.getfield 92, 3) := by decide +kernel
theorem d_49_45 : decode prog_4_method_8_code 45 = .ok (.ifCond .eq 7, 3) := by decide +kernel
theorem d_49_48 : decode prog_4_method_8_code 48 = .ok (.aload_n 1, 1) := by decide +kernel
theorem d_49_49 : decode prog_4_method_8_code 49 = .ok (.invokevirtual 72, 3) := by decide +kernel
theorem d_49_52 : decode prog_4_method_8_code 52 = .ok (.return_, 1) := by decide +kernel
theorem d_50_0 : decode prog_4_method_9_code 0 = .ok (.aload_n 1, 1) := by decide +kernel
theorem d_50_1 : decode prog_4_method_9_code 1 = .ok (.invokevirtual 68, 3) := by decide +kernel
theorem d_50_4 : decode prog_4_method_9_code 4 = .ok (.ifCond .eq 13, 3) := by decide +kernel
theorem d_50_7 : decode prog_4_method_9_code 7 = .ok (.aload_n 1, 1) := by decide +kernel
theorem d_50_8 : decode prog_4_method_9_code 8 = .ok (.iload_n 2, 1) := by decide +kernel
theorem d_50_9 : decode prog_4_method_9_code 9 = .ok (.invokevirtual 96, 3) := by decide +kernel
theorem d_50_12 : decode prog_4_method_9_code 12 = .ok (.aload_n 0, 1) := by decide +kernel
theorem d_50_13 : decode prog_4_method_9_code 13 = .ok (.aload_n 1, 1) := by decide +kernel
theorem d_50_14 : decode prog_4_method_9_code 14 = .ok (.invokevirtual 99, 3) := by decide +kernel
theorem d_50_17 : decode prog_4_method_9_code 17 = .ok (.aload_n 0, 1) := by decide +kernel
theorem d_50_18 : decode prog_4_method_9_code 18 = .ok (.getfield 26, 3) := by decide +kernel
theorem d_50_21 : decode prog_4_method_9_code 21 = .ok (.iload_n 2, 1) := by decide +kernel
theorem d_50_22 : decode prog_4_method_9_code 22 = .ok (.invokevirtual 103, 3) := by decide +kernel
theorem d_50_25 : decode prog_4_method_9_code 25 = .ok (.aload_n 0, 1) := by decide +kernel
theorem d_50_26 : decode prog_4_method_9_code 26 = .ok (.getfield 26, 3) := by decide +kernel
theorem d_50_29 : decode prog_4_method_9_code 29 = .ok (.getfield 37, 3) := by decide +kernel
theorem d_50_32 : decode prog_4_method_9_code 32 = .ok (.iconst 1, 1) := by decide +kernel
theorem d_50_33 : decode prog_4_method_9_code 33 = .ok (.if_icmp .ne 14, 3) := by decide +kernel
theorem d_50_36 : decode prog_4_method_9_code 36 = .ok (.aload_n 0, 1) := by decide +kernel
theorem d_50_37 : decode prog_4_method_9_code 37 = .ok (.getfield 26, 3) := by decide +kernel
theorem d_50_40 : decode prog_4_method_9_code 40 = .ok (.invokevirtual 106, 3) := by decide +kernel
theorem d_50_43 : decode prog_4_method_9_code 43 = .ok (.aload_n 0, 1) := by decide +kernel
theorem d_50_44 : decode prog_4_method_9_code 44 = .ok (.invokevirtual 109, 3) := by decide +kernel
theorem d_50_47 : decode prog_4_method_9_code 47 = .ok (.return_, 1) := by decide +kernel
theorem d_51_0 : decode prog_4_method_10_code 0 = .ok (.aload_n 1, 1) := by decide +kernel
theorem d_51_1 : decode prog_4_method_10_code 1 = .ok (.getfield 43, 3) := by decide +kernel
theorem d_51_4 : decode prog_4_method_10_code 4 = .ok (.iconst 3, 1) := by decide +kernel
theorem d_51_5 : decode prog_4_method_10_code 5 = .ok (.if_icmp .ne 10, 3) := by decide +kernel
theorem d_51_8 : decode prog_4_method_10_code 8 = .ok (.aload_n 1, 1) := by decide +kernel
theorem d_51_9 : decode prog_4_method_10_code 9 = .ok (.invokevirtual 112, 3) := by decide +kernel
theorem d_51_12 : decode prog_4_method_10_code 12 = .ok (.goto 35, 3) := by decide +kernel
theorem d_51_15 : decode prog_4_method_10_code 15 = .ok (.aload_n 1, 1) := by decide +kernel
theorem d_51_16 : decode prog_4_method_10_code 16 = .ok (.invokevirtual 68, 3) := by decide +kernel
theorem d_51_19 : decode prog_4_method_10_code 19 = .ok (.ifCond .eq 28, 3) := by decide +kernel
theorem d_51_22 : decode prog_4_method_10_code 22 = .ok (.aload_n 1, 1) := by decide +kernel
theorem d_51_23 : decode prog_4_method_10_code 23 = .ok (.iload_n 2, 1) := by decide +kernel
theorem d_51_24 : decode prog_4_method_10_code 24 = .ok (.invokevirtual 115, 3) := by decide +kernel
theorem d_51_27 : decode prog_4_method_10_code 27 = .ok (.aload_n 0, 1) := by decide +kernel
theorem d_51_28 : decode prog_4_method_10_code 28 = .ok (.aload_n 1, 1) := by decide +kernel
theorem d_51_29 : decode prog_4_method_10_code 29 = .ok (.invokevirtual 99, 3) := by decide +kernel
theorem d_51_32 : decode prog_4_method_10_code 32 = .ok (.iload_n 2, 1) := by decide +kernel
theorem d_51_33 : decode prog_4_method_10_code 33 = .ok (.sipush 600, 3) := by decide +kernel
theorem d_51_36 : decode prog_4_method_10_code 36 = .ok (.if_icmp .lt 7, 3) := by decide +kernel
theorem d_51_39 : decode prog_4_method_10_code 39 = .ok (.aload_n 0, 1) := by decide +kernel
theorem d_51_40 : decode prog_4_method_10_code 40 = .ok (.invokevirtual 109, 3) := by decide +kernel
theorem d_51_43 : decode prog_4_method_10_code 43 = .ok (.aload_n 0, 1) := by decide +kernel
theorem d_51_44 : decode prog_4_method_10_code 44 = .ok (.invokevirtual 118, 3) := by decide +kernel
theorem d_51_47 : decode prog_4_method_10_code 47 = .ok (.return_, 1) := by decide +kernel
theorem d_52_0 : decode prog_4_method_11_code 0 = .ok (.aload_n 0, 1) := by decide +kernel
theorem d_52_1 : decode prog_4_method_11_code 1 = .ok (.dup, 1) := by decide +kernel
theorem d_52_2 : decode prog_4_method_11_code 2 = .ok (.getfield 48, 3) := by decide +kernel
theorem d_52_5 : decode prog_4_method_11_code 5 = .ok (.iconst 1, 1) := by decide +kernel
theorem d_52_6 : decode prog_4_method_11_code 6 = .ok (.iadd, 1) := by decide +kernel
theorem d_52_7 : decode prog_4_method_11_code 7 = .ok (.putfield 48, 3) := by decide +kernel
theorem d_52_10 : decode prog_4_method_11_code 10 = .ok (.aload_n 1, 1) := by decide +kernel
theorem d_52_11 : decode prog_4_method_11_code 11 = .ok (.aload_n 0, 1) := by decide +kernel
theorem d_52_12 : decode prog_4_method_11_code 12 = .ok (.getfield 48, 3) := by decide +kernel
theorem d_52_15 : decode prog_4_method_11_code 15 = .ok (.putfield 121, 3) := by decide +kernel
theorem d_52_18 : decode prog_4_method_11_code 18 = .ok (.return_, 1) := by decide +kernel
theorem d_53_0 : decode prog_4_method_12_code 0 = .ok (.aload_n 0, 1) := by decide +kernel
theorem d_53_1 : decode prog_4_method_12_code 1 = .ok (.getfield 26, 3) := by decide +kernel
theorem d_53_4 : decode prog_4_method_12_code 4 = .ok (.getfield 37, 3) := by decide +kernel
theorem d_53_7 : decode prog_4_method_12_code 7 = .ok (.iconst 1, 1) := by decide +kernel
theorem d_53_8 : decode prog_4_method_12_code 8 = .ok (.if_icmp .ne 40, 3) := by decide +kernel
theorem d_53_11 : decode prog_4_method_12_code 11 = .ok (.aload_n 0, 1) := by decide +kernel
theorem d_53_12 : decode prog_4_method_12_code 12 = .ok (.getfield 48, 3) := by decide +kernel
theorem d_53_15 : decode prog_4_method_12_code 15 = .ok (.aload_n 0, 1) := by decide +kernel
theorem d_53_16 : decode prog_4_method_12_code 16 = .ok (.getfield 40, 3) := by decide +kernel
theorem d_53_19 : decode prog_4_method_12_code 19 = .ok (.if_icmp .ne 29, 3) := by decide +kernel
theorem d_53_22 : decode prog_4_method_12_code 22 = .ok (.aload_n 0, 1) := by decide +kernel
theorem d_53_23 : decode prog_4_method_12_code 23 = .ok (.invokevirtual 124, 3) := by decide +kernel
theorem d_53_26 : decode prog_4_method_12_code 26 = .ok (.istore_n 1, 1) := by decide +kernel
theorem d_53_27 : decode prog_4_method_12_code 27 = .ok (.aload_n 0, 1) := by decide +kernel
theorem d_53_28 : decode prog_4_method_12_code 28 = .ok (.getfield 26, 3) := by decide +kernel
theorem d_53_31 : decode prog_4_method_12_code 31 = .ok (.iload_n 1, 1) := by decide +kernel
theorem d_53_32 : decode prog_4_method_12_code 32 = .ok (.sipush 503, 3) := by decide +kernel
theorem d_53_35 : decode prog_4_method_12_code 35 = .ok (.if_icmp .ne 9, 3) := by decide +kernel
theorem d_53_38 : decode prog_4_method_12_code 38 = .ok (.sipush 500, 3) := by decide +kernel
theorem d_53_41 : decode prog_4_method_12_code 41 = .ok (.goto 4, 3) := by decide +kernel
theorem d_53_44 : decode prog_4_method_12_code 44 = .ok (.iload_n 1, 1) := by decide +kernel
theorem d_53_45 : decode prog_4_method_12_code 45 = .ok (.invokevirtual 44, 3) := by decide +kernel
theorem d_53_48 : decode prog_4_method_12_code 48 = .ok (.return_, 1) := by decide +kernel
theorem d_54_0 : decode prog_4_method_13_code 0 = .ok (.aload_n 0, 1) := by decide +kernel
theorem d_54_1 : decode prog_4_method_13_code 1 = .ok (.getfield 11, 3) := by decide +kernel
theorem d_54_4 : decode prog_4_method_13_code 4 = .ok (.iconst 0, 1) := by decide +kernel
theorem d_54_5 : decode prog_4_method_13_code 5 = .ok (.aaload, 1) := by decide +kernel
theorem d_54_6 : decode prog_4_method_13_code 6 = .ok (.astore_n 1, 1) := by decide +kernel
theorem d_54_7 : decode prog_4_method_13_code 7 = .ok (.iconst 1, 1) := by decide +kernel
theorem d_54_8 : decode prog_4_method_13_code 8 = .ok (.istore_n 2, 1) := by decide +kernel
theorem d_54_9 : decode prog_4_method_13_code 9 = .ok (.iload_n 2, 1) := by decide +kernel
theorem d_54_10 : decode prog_4_method_13_code 10 = .ok (.aload_n 0, 1) := by decide +kernel
theorem d_54_11 : decode prog_4_method_13_code 11 = .ok (.getfield 40, 3) := by decide +kernel
theorem d_54_14 : decode prog_4_method_13_code 14 = .ok (.if_icmp .ge 29, 3) := by decide +kernel
theorem d_54_17 : decode prog_4_method_13_code 17 = .ok (.aload_n 0, 1) := by decide +kernel
theorem d_54_18 : decode prog_4_method_13_code 18 = .ok (.getfield 11, 3) := by decide +kernel
theorem d_54_21 : decode prog_4_method_13_code 21 = .ok (.iload_n 2, 1) := by decide +kernel
theorem d_54_22 : decode prog_4_method_13_code 22 = .ok (.aaload, 1) := by decide +kernel
theorem d_54_23 : decode prog_4_method_13_code 23 = .ok (.aload_n 1, 1) := by decide +kernel
theorem d_54_24 : decode prog_4_method_13_code 24 = .ok (.invokestatic 127, 3) := by decide +kernel
theorem d_54_27 : decode prog_4_method_13_code 27 = .ok (.ifCond .eq 10, 3) := by decide +kernel
theorem d_54_30 : decode prog_4_method_13_code 30 = .ok (.aload_n 0, 1) := by decide +kernel
theorem d_54_31 : decode prog_4_method_13_code 31 = .ok (.getfield 11, 3) := by decide +kernel
theorem d_54_34 : decode prog_4_method_13_code 34 = .ok (.iload_n 2, 1) := by decide +kernel
theorem d_54_35 : decode prog_4_method_13_code 35 = .ok (.aaload, 1) := by decide +kernel
theorem d_54_36 : decode prog_4_method_13_code 36 = .ok (.astore_n 1, 1) := by decide +kernel
theorem d_54_37 : decode prog_4_method_13_code 37 = .ok (.iinc 2 1, 3) := by decide +kernel
theorem d_54_40 : decode prog_4_method_13_code 40 = .ok (.goto (-31), 3) := by decide +kernel
theorem d_54_43 : decode prog_4_method_13_code 43 = .ok (.aload_n 1, 1) := by decide +kernel
theorem d_54_44 : decode prog_4_method_13_code 44 = .ok (.getfield 131, 3) := by decide +kernel
theorem d_54_47 : decode prog_4_method_13_code 47 = .ok (.ireturn, 1) := by decide +kernel
theorem d_55_0 : decode prog_4_method_14_code 0 = .ok (.aload_n 0, 1) := by decide +kernel
theorem d_55_1 : decode prog_4_method_14_code 1 = .ok (.getfield 131, 3) := by decide +kernel
theorem d_55_4 : decode prog_4_method_14_code 4 = .ok (.invokestatic 134, 3) := by decide +kernel
theorem d_55_7 : decode prog_4_method_14_code 7 = .ok (.aload_n 1, 1) := by decide +kernel
theorem d_55_8 : decode prog_4_method_14_code 8 = .ok (.getfield 131, 3) := by decide +kernel
theorem d_55_11 : decode prog_4_method_14_code 11 = .ok (.invokestatic 134, 3) := by decide +kernel
theorem d_55_14 : decode prog_4_method_14_code 14 = .ok (.isub, 1) := by decide +kernel
theorem d_55_15 : decode prog_4_method_14_code 15 = .ok (.istore_n 2, 1) := by decide +kernel
theorem d_55_16 : decode prog_4_method_14_code 16 = .ok (.iload_n 2, 1) := by decide +kernel
theorem d_55_17 : decode prog_4_method_14_code 17 = .ok (.ifCond .lt 18, 3) := by decide +kernel
theorem d_55_20 : decode prog_4_method_14_code 20 = .ok (.iload_n 2, 1) := by decide +kernel
theorem d_55_21 : decode prog_4_method_14_code 21 = .ok (.ifCond .ne 18, 3) := by decide +kernel
theorem d_55_24 : decode prog_4_method_14_code 24 = .ok (.aload_n 0, 1) := by decide +kernel
theorem d_55_25 : decode prog_4_method_14_code 25 = .ok (.getfield 121, 3) := by decide +kernel
theorem d_55_28 : decode prog_4_method_14_code 28 = .ok (.aload_n 1, 1) := by decide +kernel
theorem d_55_29 : decode prog_4_method_14_code 29 = .ok (.getfield 121, 3) := by decide +kernel
theorem d_55_32 : decode prog_4_method_14_code 32 = .ok (.if_icmp .ge 7, 3) := by decide +kernel
theorem d_55_35 : decode prog_4_method_14_code 35 = .ok (.iconst 1, 1) := by decide +kernel
theorem d_55_36 : decode prog_4_method_14_code 36 = .ok (.goto 4, 3) := by decide +kernel
theorem d_55_39 : decode prog_4_method_14_code 39 = .ok (.iconst 0, 1) := by decide +kernel
theorem d_55_40 : decode prog_4_method_14_code 40 = .ok (.ireturn, 1) := by decide +kernel
theorem d_56_0 : decode prog_4_method_15_code 0 = .ok (.iload_n 0, 1) := by decide +kernel
theorem d_56_1 : decode prog_4_method_15_code 1 = .ok (.sipush 600, 3) := by decide +kernel
theorem d_56_4 : decode prog_4_method_15_code 4 = .ok (.if_icmp .lt 5, 3) := by decide +kernel
theorem d_56_7 : decode prog_4_method_15_code 7 = .ok (.iconst 0, 1) := by decide +kernel
theorem d_56_8 : decode prog_4_method_15_code 8 = .ok (.ireturn, 1) := by decide +kernel
theorem d_56_9 : decode prog_4_method_15_code 9 = .ok (.iload_n 0, 1) := by decide +kernel
theorem d_56_10 : decode prog_4_method_15_code 10 = .ok (.lookupswitch 53 #[(401, 50), (407, 50), (415, 50), (420, 50), (484, 50)], 50) := by decide +kernel
theorem d_56_60 : decode prog_4_method_15_code 60 = .ok (.bipush 8, 2) := by decide +kernel
theorem d_56_62 : decode prog_4_method_15_code 62 = .ok (.ireturn, 1) := by decide +kernel
theorem d_56_63 : decode prog_4_method_15_code 63 = .ok (.iconst 2, 1) := by decide +kernel
theorem d_56_64 : decode prog_4_method_15_code 64 = .ok (.iload_n 0, 1) := by decide +kernel
theorem d_56_65 : decode prog_4_method_15_code 65 = .ok (.bipush 100, 2) := by decide +kernel
theorem d_56_67 : decode prog_4_method_15_code 67 = .ok (.idiv, 1) := by decide +kernel
theorem d_56_68 : decode prog_4_method_15_code 68 = .ok (.imul, 1) := by decide +kernel
theorem d_56_69 : decode prog_4_method_15_code 69 = .ok (.iconst 1, 1) := by decide +kernel
theorem d_56_70 : decode prog_4_method_15_code 70 = .ok (.iadd, 1) := by decide +kernel
theorem d_56_71 : decode prog_4_method_15_code 71 = .ok (.ireturn, 1) := by decide +kernel
theorem d_57_0 : decode prog_4_method_16_code 0 = .ok (.aload_n 0, 1) := by decide +kernel
theorem d_57_1 : decode prog_4_method_16_code 1 = .ok (.getfield 26, 3) := by decide +kernel
theorem d_57_4 : decode prog_4_method_16_code 4 = .ok (.invokevirtual 138, 3) := by decide +kernel
theorem d_57_7 : decode prog_4_method_16_code 7 = .ok (.iconst 0, 1) := by decide +kernel
theorem d_57_8 : decode prog_4_method_16_code 8 = .ok (.istore_n 1, 1) := by decide +kernel
theorem d_57_9 : decode prog_4_method_16_code 9 = .ok (.iload_n 1, 1) := by decide +kernel
theorem d_57_10 : decode prog_4_method_16_code 10 = .ok (.aload_n 0, 1) := by decide +kernel
theorem d_57_11 : decode prog_4_method_16_code 11 = .ok (.getfield 40, 3) := by decide +kernel
theorem d_57_14 : decode prog_4_method_16_code 14 = .ok (.if_icmp .ge 35, 3) := by decide +kernel
theorem d_57_17 : decode prog_4_method_16_code 17 = .ok (.aload_n 0, 1) := by decide +kernel
theorem d_57_18 : decode prog_4_method_16_code 18 = .ok (.getfield 11, 3) := by decide +kernel
theorem d_57_21 : decode prog_4_method_16_code 21 = .ok (.iload_n 1, 1) := by decide +kernel
theorem d_57_22 : decode prog_4_method_16_code 22 = .ok (.aaload, 1) := by decide +kernel
theorem d_57_23 : decode prog_4_method_16_code 23 = .ok (.invokevirtual 141, 3) := by decide +kernel
theorem d_57_26 : decode prog_4_method_16_code 26 = .ok (.ifCond .eq 17, 3) := by decide +kernel
theorem d_57_29 : decode prog_4_method_16_code 29 = .ok (.aload_n 0, 1) := by decide +kernel
theorem d_57_30 : decode prog_4_method_16_code 30 = .ok (.aload_n 0, 1) := by decide +kernel
theorem d_57_31 : decode prog_4_method_16_code 31 = .ok (.getfield 11, 3) := by decide +kernel
theorem d_57_34 : decode prog_4_method_16_code 34 = .ok (.iload_n 1, 1) := by decide +kernel
theorem d_57_35 : decode prog_4_method_16_code 35 = .ok (.aaload, 1) := by decide +kernel
theorem d_57_36 : decode prog_4_method_16_code 36 = .ok (.invokevirtual 99, 3) := by decide +kernel
theorem d_57_39 : decode prog_4_method_16_code 39 = .ok (.aload_n 0, 1) := by decide +kernel
theorem d_57_40 : decode prog_4_method_16_code 40 = .ok (.invokevirtual 118, 3) := by decide +kernel
theorem d_57_43 : decode prog_4_method_16_code 43 = .ok (.iinc 1 1, 3) := by decide +kernel
theorem d_57_46 : decode prog_4_method_16_code 46 = .ok (.goto (-37), 3) := by decide +kernel
theorem d_57_49 : decode prog_4_method_16_code 49 = .ok (.return_, 1) := by decide +kernel
theorem d_58_0 : decode prog_4_method_17_code 0 = .ok (.aload_n 0, 1) := by decide +kernel
theorem d_58_1 : decode prog_4_method_17_code 1 = .ok (.getfield 26, 3) := by decide +kernel
theorem d_58_4 : decode prog_4_method_17_code 4 = .ok (.invokevirtual 143, 3) := by decide +kernel
theorem d_58_7 : decode prog_4_method_17_code 7 = .ok (.istore_n 1, 1) := by decide +kernel
theorem d_58_8 : decode prog_4_method_17_code 8 = .ok (.iconst 0, 1) := by decide +kernel
theorem d_58_9 : decode prog_4_method_17_code 9 = .ok (.istore_n 2, 1) := by decide +kernel
theorem d_58_10 : decode prog_4_method_17_code 10 = .ok (.iload_n 2, 1) := by decide +kernel
theorem d_58_11 : decode prog_4_method_17_code 11 = .ok (.aload_n 0, 1) := by decide +kernel
theorem d_58_12 : decode prog_4_method_17_code 12 = .ok (.getfield 40, 3) := by decide +kernel
theorem d_58_15 : decode prog_4_method_17_code 15 = .ok (.if_icmp .ge 23, 3) := by decide +kernel
theorem d_58_18 : decode prog_4_method_17_code 18 = .ok (.iload_n 1, 1) := by decide +kernel
theorem d_58_19 : decode prog_4_method_17_code 19 = .ok (.aload_n 0, 1) := by decide +kernel
theorem d_58_20 : decode prog_4_method_17_code 20 = .ok (.getfield 11, 3) := by decide +kernel
theorem d_58_23 : decode prog_4_method_17_code 23 = .ok (.iload_n 2, 1) := by decide +kernel
theorem d_58_24 : decode prog_4_method_17_code 24 = .ok (.aaload, 1) := by decide +kernel
theorem d_58_25 : decode prog_4_method_17_code 25 = .ok (.invokevirtual 146, 3) := by decide +kernel
theorem d_58_28 : decode prog_4_method_17_code 28 = .ok (.invokestatic 147, 3) := by decide +kernel
theorem d_58_31 : decode prog_4_method_17_code 31 = .ok (.istore_n 1, 1) := by decide +kernel
theorem d_58_32 : decode prog_4_method_17_code 32 = .ok (.iinc 2 1, 3) := by decide +kernel
theorem d_58_35 : decode prog_4_method_17_code 35 = .ok (.goto (-25), 3) := by decide +kernel
theorem d_58_38 : decode prog_4_method_17_code 38 = .ok (.iload_n 1, 1) := by decide +kernel
theorem d_58_39 : decode prog_4_method_17_code 39 = .ok (.ireturn, 1) := by decide +kernel
theorem d_59_0 : decode prog_5_method_1_code 0 = .ok (.aload_n 0, 1) := by decide +kernel
theorem d_59_1 : decode prog_5_method_1_code 1 = .ok (.invokespecial 1, 3) := by decide +kernel
theorem d_59_4 : decode prog_5_method_1_code 4 = .ok (.aload_n 0, 1) := by decide +kernel
theorem d_59_5 : decode prog_5_method_1_code 5 = .ok (.iload_n 1, 1) := by decide +kernel
theorem d_59_6 : decode prog_5_method_1_code 6 = .ok (.putfield 7, 3) := by decide +kernel
theorem d_59_9 : decode prog_5_method_1_code 9 = .ok (.return_, 1) := by decide +kernel
theorem d_60_0 : decode prog_6_method_1_code 0 = .ok (.aload_n 0, 1) := by decide +kernel
theorem d_60_1 : decode prog_6_method_1_code 1 = .ok (.invokespecial 3, 3) := by decide +kernel
theorem d_60_4 : decode prog_6_method_1_code 4 = .ok (.aload_n 0, 1) := by decide +kernel
theorem d_60_5 : decode prog_6_method_1_code 5 = .ok (.bipush 64, 2) := by decide +kernel
theorem d_60_7 : decode prog_6_method_1_code 7 = .ok (.newarray .long, 2) := by decide +kernel
theorem d_60_9 : decode prog_6_method_1_code 9 = .ok (.putfield 11, 3) := by decide +kernel
theorem d_60_12 : decode prog_6_method_1_code 12 = .ok (.aload_n 0, 1) := by decide +kernel
theorem d_60_13 : decode prog_6_method_1_code 13 = .ok (.aload_n 1, 1) := by decide +kernel
theorem d_60_14 : decode prog_6_method_1_code 14 = .ok (.putfield 15, 3) := by decide +kernel
theorem d_60_17 : decode prog_6_method_1_code 17 = .ok (.return_, 1) := by decide +kernel
theorem d_61_0 : decode prog_6_method_2_code 0 = .ok (.aload_n 0, 1) := by decide +kernel
theorem d_61_1 : decode prog_6_method_2_code 1 = .ok (.getfield 15, 3) := by decide +kernel
theorem d_61_4 : decode prog_6_method_2_code 4 = .ok (.getfield 19, 3) := by decide +kernel
theorem d_61_7 : decode prog_6_method_2_code 7 = .ok (.i2l, 1) := by decide +kernel
theorem d_61_8 : decode prog_6_method_2_code 8 = .ok (.ldc2_w 25, 3) := by decide +kernel
theorem d_61_11 : decode prog_6_method_2_code 11 = .ok (.lmul, 1) := by decide +kernel
theorem d_61_12 : decode prog_6_method_2_code 12 = .ok (.iload_n 1, 1) := by decide +kernel
theorem d_61_13 : decode prog_6_method_2_code 13 = .ok (.i2l, 1) := by decide +kernel
theorem d_61_14 : decode prog_6_method_2_code 14 = .ok (.ladd, 1) := by decide +kernel
theorem d_61_15 : decode prog_6_method_2_code 15 = .ok (.ldc2_w 27, 3) := by decide +kernel
theorem d_61_18 : decode prog_6_method_2_code 18 = .ok (.lmul, 1) := by decide +kernel
theorem d_61_19 : decode prog_6_method_2_code 19 = .ok (.iload_n 2, 1) := by decide +kernel
theorem d_61_20 : decode prog_6_method_2_code 20 = .ok (.i2l, 1) := by decide +kernel
theorem d_61_21 : decode prog_6_method_2_code 21 = .ok (.ladd, 1) := by decide +kernel
theorem d_61_22 : decode prog_6_method_2_code 22 = .ok (.lstore 4, 2) := by decide +kernel
theorem d_61_24 : decode prog_6_method_2_code 24 = .ok (.aload_n 0, 1) := by decide +kernel
theorem d_61_25 : decode prog_6_method_2_code 25 = .ok (.getfield 11, 3) := by decide +kernel
theorem d_61_28 : decode prog_6_method_2_code 28 = .ok (.aload_n 0, 1) := by decide +kernel
theorem d_61_29 : decode prog_6_method_2_code 29 = .ok (.getfield 29, 3) := by decide +kernel
theorem d_61_32 : decode prog_6_method_2_code 32 = .ok (.bipush 63, 2) := by decide +kernel
theorem d_61_34 : decode prog_6_method_2_code 34 = .ok (.iand, 1) := by decide +kernel
theorem d_61_35 : decode prog_6_method_2_code 35 = .ok (.lload 4, 2) := by decide +kernel
theorem d_61_37 : decode prog_6_method_2_code 37 = .ok (.ldc2_w 32, 3) := by decide +kernel
theorem d_61_40 : decode prog_6_method_2_code 40 = .ok (.lmul, 1) := by decide +kernel
theorem d_61_41 : decode prog_6_method_2_code 41 = .ok (.iload_n 3, 1) := by decide +kernel
theorem d_61_42 : decode prog_6_method_2_code 42 = .ok (.i2l, 1) := by decide +kernel
theorem d_61_43 : decode prog_6_method_2_code 43 = .ok (.ladd, 1) := by decide +kernel
theorem d_61_44 : decode prog_6_method_2_code 44 = .ok (.lastore, 1) := by decide +kernel
theorem d_61_45 : decode prog_6_method_2_code 45 = .ok (.aload_n 0, 1) := by decide +kernel
theorem d_61_46 : decode prog_6_method_2_code 46 = .ok (.dup, 1) := by decide +kernel
theorem d_61_47 : decode prog_6_method_2_code 47 = .ok (.getfield 29, 3) := by decide +kernel
theorem d_61_50 : decode prog_6_method_2_code 50 = .ok (.iconst 1, 1) := by decide +kernel
theorem d_61_51 : decode prog_6_method_2_code 51 = .ok (.iadd, 1) := by decide +kernel
theorem d_61_52 : decode prog_6_method_2_code 52 = .ok (.putfield 29, 3) := by decide +kernel
theorem d_61_55 : decode prog_6_method_2_code 55 = .ok (.return_, 1) := by decide +kernel
theorem d_62_0 : decode prog_6_method_3_code 0 = .ok (.iload_n 1, 1) := by decide +kernel
theorem d_62_1 : decode prog_6_method_3_code 1 = .ok (.ifCond .lt 17, 3) := by decide +kernel
theorem d_62_4 : decode prog_6_method_3_code 4 = .ok (.iload_n 1, 1) := by decide +kernel
theorem d_62_5 : decode prog_6_method_3_code 5 = .ok (.bipush 64, 2) := by decide +kernel
theorem d_62_7 : decode prog_6_method_3_code 7 = .ok (.if_icmp .ge 11, 3) := by decide +kernel
theorem d_62_10 : decode prog_6_method_3_code 10 = .ok (.iload_n 1, 1) := by decide +kernel
theorem d_62_11 : decode prog_6_method_3_code 11 = .ok (.aload_n 0, 1) := by decide +kernel
theorem d_62_12 : decode prog_6_method_3_code 12 = .ok (.getfield 29, 3) := by decide +kernel
theorem d_62_15 : decode prog_6_method_3_code 15 = .ok (.if_icmp .lt 7, 3) := by decide +kernel
theorem d_62_18 : decode prog_6_method_3_code 18 = .ok (.ldc2_w 34, 3) := by decide +kernel
theorem d_62_21 : decode prog_6_method_3_code 21 = .ok (.lreturn, 1) := by decide +kernel
theorem d_62_22 : decode prog_6_method_3_code 22 = .ok (.aload_n 0, 1) := by decide +kernel
theorem d_62_23 : decode prog_6_method_3_code 23 = .ok (.getfield 11, 3) := by decide +kernel
theorem d_62_26 : decode prog_6_method_3_code 26 = .ok (.aload_n 0, 1) := by decide +kernel
theorem d_62_27 : decode prog_6_method_3_code 27 = .ok (.getfield 29, 3) := by decide +kernel
theorem d_62_30 : decode prog_6_method_3_code 30 = .ok (.iconst 1, 1) := by decide +kernel
theorem d_62_31 : decode prog_6_method_3_code 31 = .ok (.isub, 1) := by decide +kernel
theorem d_62_32 : decode prog_6_method_3_code 32 = .ok (.iload_n 1, 1) := by decide +kernel
theorem d_62_33 : decode prog_6_method_3_code 33 = .ok (.isub, 1) := by decide +kernel
theorem d_62_34 : decode prog_6_method_3_code 34 = .ok (.bipush 63, 2) := by decide +kernel
theorem d_62_36 : decode prog_6_method_3_code 36 = .ok (.iand, 1) := by decide +kernel
theorem d_62_37 : decode prog_6_method_3_code 37 = .ok (.laload, 1) := by decide +kernel
theorem d_62_38 : decode prog_6_method_3_code 38 = .ok (.lreturn, 1) := by decide +kernel
