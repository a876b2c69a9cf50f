theorem dX0_init_0 : decode cX0_init 0 = .ok (.aload_n 0, 1) := by decide +kernel
theorem dX0_init_1 : decode cX0_init 1 = .ok (.invokespecial 3, 3) := by decide +kernel
theorem dX0_init_4 : decode cX0_init 4 = .ok (.aload_n 0, 1) := by decide +kernel
theorem dX0_init_5 : decode cX0_init 5 = .ok (.bipush 41, 2) := by decide +kernel
theorem dX0_init_7 : decode cX0_init 7 = .ok (.bipush 41, 2) := by decide +kernel
theorem dX0_init_9 : decode cX0_init 9 = .ok (.multianewarray 9 2, 4) := by decide +kernel
theorem dX0_init_13 : decode cX0_init 13 = .ok (.putfield 11, 3) := by decide +kernel
theorem dX0_init_16 : decode cX0_init 16 = .ok (.return_, 1) := by decide +kernel
theorem dX0_compare_0 : decode cX0_compare 0 = .ok (.aload_n 1, 1) := by decide +kernel
theorem dX0_compare_1 : decode cX0_compare 1 = .ok (.getfield 16, 3) := by decide +kernel
theorem dX0_compare_4 : decode cX0_compare 4 = .ok (.bipush 40, 2) := by decide +kernel
theorem dX0_compare_6 : decode cX0_compare 6 = .ok (.invokestatic 22, 3) := by decide +kernel
theorem dX0_compare_9 : decode cX0_compare 9 = .ok (.istore_n 3, 1) := by decide +kernel
theorem dX0_compare_10 : decode cX0_compare 10 = .ok (.iload_n 3, 1) := by decide +kernel
theorem dX0_compare_11 : decode cX0_compare 11 = .ok (.ifCond .lt 49, 3) := by decide +kernel
theorem dX0_compare_14 : decode cX0_compare 14 = .ok (.aload_n 2, 1) := by decide +kernel
theorem dX0_compare_15 : decode cX0_compare 15 = .ok (.getfield 16, 3) := by decide +kernel
theorem dX0_compare_18 : decode cX0_compare 18 = .ok (.bipush 40, 2) := by decide +kernel
theorem dX0_compare_20 : decode cX0_compare 20 = .ok (.invokestatic 22, 3) := by decide +kernel
theorem dX0_compare_23 : decode cX0_compare 23 = .ok (.istore 4, 2) := by decide +kernel
theorem dX0_compare_25 : decode cX0_compare 25 = .ok (.iload 4, 2) := by decide +kernel
theorem dX0_compare_27 : decode cX0_compare 27 = .ok (.ifCond .lt 27, 3) := by decide +kernel
theorem dX0_compare_30 : decode cX0_compare 30 = .ok (.aload_n 0, 1) := by decide +kernel
theorem dX0_compare_31 : decode cX0_compare 31 = .ok (.getfield 11, 3) := by decide +kernel
theorem dX0_compare_34 : decode cX0_compare 34 = .ok (.iload_n 3, 1) := by decide +kernel
theorem dX0_compare_35 : decode cX0_compare 35 = .ok (.aaload, 1) := by decide +kernel
theorem dX0_compare_36 : decode cX0_compare 36 = .ok (.iload 4, 2) := by decide +kernel
theorem dX0_compare_38 : decode cX0_compare 38 = .ok (.aload_n 0, 1) := by decide +kernel
theorem dX0_compare_39 : decode cX0_compare 39 = .ok (.aload_n 1, 1) := by decide +kernel
theorem dX0_compare_40 : decode cX0_compare 40 = .ok (.iload_n 3, 1) := by decide +kernel
theorem dX0_compare_41 : decode cX0_compare 41 = .ok (.aload_n 2, 1) := by decide +kernel
theorem dX0_compare_42 : decode cX0_compare 42 = .ok (.iload 4, 2) := by decide +kernel
theorem dX0_compare_44 : decode cX0_compare 44 = .ok (.invokevirtual 28, 3) := by decide +kernel
theorem dX0_compare_47 : decode cX0_compare 47 = .ok (.iastore, 1) := by decide +kernel
theorem dX0_compare_48 : decode cX0_compare 48 = .ok (.iinc 4 (-1), 3) := by decide +kernel
theorem dX0_compare_51 : decode cX0_compare 51 = .ok (.goto (-26), 3) := by decide +kernel
theorem dX0_compare_54 : decode cX0_compare 54 = .ok (.iinc 3 (-1), 3) := by decide +kernel
theorem dX0_compare_57 : decode cX0_compare 57 = .ok (.goto (-47), 3) := by decide +kernel
theorem dX0_compare_60 : decode cX0_compare 60 = .ok (.return_, 1) := by decide +kernel
theorem dX0_difference_0 : decode cX0_difference 0 = .ok (.aload_n 0, 1) := by decide +kernel
theorem dX0_difference_1 : decode cX0_difference 1 = .ok (.iconst 0, 1) := by decide +kernel
theorem dX0_difference_2 : decode cX0_difference 2 = .ok (.iconst 0, 1) := by decide +kernel
theorem dX0_difference_3 : decode cX0_difference 3 = .ok (.invokevirtual 32, 3) := by decide +kernel
theorem dX0_difference_6 : decode cX0_difference 6 = .ok (.ireturn, 1) := by decide +kernel
theorem dX0_leftFrom_0 : decode cX0_leftFrom 0 = .ok (.iload_n 1, 1) := by decide +kernel
theorem dX0_leftFrom_1 : decode cX0_leftFrom 1 = .ok (.ifCond .lt 30, 3) := by decide +kernel
theorem dX0_leftFrom_4 : decode cX0_leftFrom 4 = .ok (.iload_n 1, 1) := by decide +kernel
theorem dX0_leftFrom_5 : decode cX0_leftFrom 5 = .ok (.bipush 40, 2) := by decide +kernel
theorem dX0_leftFrom_7 : decode cX0_leftFrom 7 = .ok (.if_icmp .gt 24, 3) := by decide +kernel
theorem dX0_leftFrom_10 : decode cX0_leftFrom 10 = .ok (.iload_n 2, 1) := by decide +kernel
theorem dX0_leftFrom_11 : decode cX0_leftFrom 11 = .ok (.ifCond .lt 20, 3) := by decide +kernel
theorem dX0_leftFrom_14 : decode cX0_leftFrom 14 = .ok (.iload_n 2, 1) := by decide +kernel
theorem dX0_leftFrom_15 : decode cX0_leftFrom 15 = .ok (.bipush 40, 2) := by decide +kernel
theorem dX0_leftFrom_17 : decode cX0_leftFrom 17 = .ok (.if_icmp .gt 14, 3) := by decide +kernel
theorem dX0_leftFrom_20 : decode cX0_leftFrom 20 = .ok (.aload_n 0, 1) := by decide +kernel
theorem dX0_leftFrom_21 : decode cX0_leftFrom 21 = .ok (.getfield 11, 3) := by decide +kernel
theorem dX0_leftFrom_24 : decode cX0_leftFrom 24 = .ok (.iload_n 1, 1) := by decide +kernel
theorem dX0_leftFrom_25 : decode cX0_leftFrom 25 = .ok (.aaload, 1) := by decide +kernel
theorem dX0_leftFrom_26 : decode cX0_leftFrom 26 = .ok (.iload_n 2, 1) := by decide +kernel
theorem dX0_leftFrom_27 : decode cX0_leftFrom 27 = .ok (.iaload, 1) := by decide +kernel
theorem dX0_leftFrom_28 : decode cX0_leftFrom 28 = .ok (.goto 4, 3) := by decide +kernel
theorem dX0_leftFrom_31 : decode cX0_leftFrom 31 = .ok (.iconst 0, 1) := by decide +kernel
theorem dX0_leftFrom_32 : decode cX0_leftFrom 32 = .ok (.ireturn, 1) := by decide +kernel
theorem dX0_differenceFrom_0 : decode cX0_differenceFrom 0 = .ok (.aload_n 1, 1) := by decide +kernel
theorem dX0_differenceFrom_1 : decode cX0_differenceFrom 1 = .ok (.iload_n 2, 1) := by decide +kernel
theorem dX0_differenceFrom_2 : decode cX0_differenceFrom 2 = .ok (.invokevirtual 35, 3) := by decide +kernel
theorem dX0_differenceFrom_5 : decode cX0_differenceFrom 5 = .ok (.ifCond .ne 11, 3) := by decide +kernel
theorem dX0_differenceFrom_8 : decode cX0_differenceFrom 8 = .ok (.aload_n 3, 1) := by decide +kernel
theorem dX0_differenceFrom_9 : decode cX0_differenceFrom 9 = .ok (.getfield 16, 3) := by decide +kernel
theorem dX0_differenceFrom_12 : decode cX0_differenceFrom 12 = .ok (.iload 4, 2) := by decide +kernel
theorem dX0_differenceFrom_14 : decode cX0_differenceFrom 14 = .ok (.isub, 1) := by decide +kernel
theorem dX0_differenceFrom_15 : decode cX0_differenceFrom 15 = .ok (.ireturn, 1) := by decide +kernel
theorem dX0_differenceFrom_16 : decode cX0_differenceFrom 16 = .ok (.aload_n 3, 1) := by decide +kernel
theorem dX0_differenceFrom_17 : decode cX0_differenceFrom 17 = .ok (.iload 4, 2) := by decide +kernel
theorem dX0_differenceFrom_19 : decode cX0_differenceFrom 19 = .ok (.invokevirtual 35, 3) := by decide +kernel
theorem dX0_differenceFrom_22 : decode cX0_differenceFrom 22 = .ok (.ifCond .ne 10, 3) := by decide +kernel
theorem dX0_differenceFrom_25 : decode cX0_differenceFrom 25 = .ok (.aload_n 1, 1) := by decide +kernel
theorem dX0_differenceFrom_26 : decode cX0_differenceFrom 26 = .ok (.getfield 16, 3) := by decide +kernel
theorem dX0_differenceFrom_29 : decode cX0_differenceFrom 29 = .ok (.iload_n 2, 1) := by decide +kernel
theorem dX0_differenceFrom_30 : decode cX0_differenceFrom 30 = .ok (.isub, 1) := by decide +kernel
theorem dX0_differenceFrom_31 : decode cX0_differenceFrom 31 = .ok (.ireturn, 1) := by decide +kernel
theorem dX0_differenceFrom_32 : decode cX0_differenceFrom 32 = .ok (.aload_n 1, 1) := by decide +kernel
theorem dX0_differenceFrom_33 : decode cX0_differenceFrom 33 = .ok (.iload_n 2, 1) := by decide +kernel
theorem dX0_differenceFrom_34 : decode cX0_differenceFrom 34 = .ok (.invokevirtual 39, 3) := by decide +kernel
theorem dX0_differenceFrom_37 : decode cX0_differenceFrom 37 = .ok (.aload_n 3, 1) := by decide +kernel
theorem dX0_differenceFrom_38 : decode cX0_differenceFrom 38 = .ok (.iload 4, 2) := by decide +kernel
theorem dX0_differenceFrom_40 : decode cX0_differenceFrom 40 = .ok (.invokevirtual 39, 3) := by decide +kernel
theorem dX0_differenceFrom_43 : decode cX0_differenceFrom 43 = .ok (.if_icmp .ne 15, 3) := by decide +kernel
theorem dX0_differenceFrom_46 : decode cX0_differenceFrom 46 = .ok (.aload_n 0, 1) := by decide +kernel
theorem dX0_differenceFrom_47 : decode cX0_differenceFrom 47 = .ok (.iload_n 2, 1) := by decide +kernel
theorem dX0_differenceFrom_48 : decode cX0_differenceFrom 48 = .ok (.iconst 1, 1) := by decide +kernel
theorem dX0_differenceFrom_49 : decode cX0_differenceFrom 49 = .ok (.iadd, 1) := by decide +kernel
theorem dX0_differenceFrom_50 : decode cX0_differenceFrom 50 = .ok (.iload 4, 2) := by decide +kernel
theorem dX0_differenceFrom_52 : decode cX0_differenceFrom 52 = .ok (.iconst 1, 1) := by decide +kernel
theorem dX0_differenceFrom_53 : decode cX0_differenceFrom 53 = .ok (.iadd, 1) := by decide +kernel
theorem dX0_differenceFrom_54 : decode cX0_differenceFrom 54 = .ok (.invokevirtual 32, 3) := by decide +kernel
theorem dX0_differenceFrom_57 : decode cX0_differenceFrom 57 = .ok (.ireturn, 1) := by decide +kernel
theorem dX0_differenceFrom_58 : decode cX0_differenceFrom 58 = .ok (.iconst 1, 1) := by decide +kernel
theorem dX0_differenceFrom_59 : decode cX0_differenceFrom 59 = .ok (.aload_n 0, 1) := by decide +kernel
theorem dX0_differenceFrom_60 : decode cX0_differenceFrom 60 = .ok (.iload_n 2, 1) := by decide +kernel
theorem dX0_differenceFrom_61 : decode cX0_differenceFrom 61 = .ok (.iconst 1, 1) := by decide +kernel
theorem dX0_differenceFrom_62 : decode cX0_differenceFrom 62 = .ok (.iadd, 1) := by decide +kernel
theorem dX0_differenceFrom_63 : decode cX0_differenceFrom 63 = .ok (.iload 4, 2) := by decide +kernel
theorem dX0_differenceFrom_65 : decode cX0_differenceFrom 65 = .ok (.invokevirtual 32, 3) := by decide +kernel
theorem dX0_differenceFrom_68 : decode cX0_differenceFrom 68 = .ok (.aload_n 0, 1) := by decide +kernel
theorem dX0_differenceFrom_69 : decode cX0_differenceFrom 69 = .ok (.iload_n 2, 1) := by decide +kernel
theorem dX0_differenceFrom_70 : decode cX0_differenceFrom 70 = .ok (.iload 4, 2) := by decide +kernel
theorem dX0_differenceFrom_72 : decode cX0_differenceFrom 72 = .ok (.iconst 1, 1) := by decide +kernel
theorem dX0_differenceFrom_73 : decode cX0_differenceFrom 73 = .ok (.iadd, 1) := by decide +kernel
theorem dX0_differenceFrom_74 : decode cX0_differenceFrom 74 = .ok (.invokevirtual 32, 3) := by decide +kernel
theorem dX0_differenceFrom_77 : decode cX0_differenceFrom 77 = .ok (.invokestatic 22, 3) := by decide +kernel
theorem dX0_differenceFrom_80 : decode cX0_differenceFrom 80 = .ok (.iadd, 1) := by decide +kernel
theorem dX0_differenceFrom_81 : decode cX0_differenceFrom 81 = .ok (.ireturn, 1) := by decide +kernel
theorem dX0_stepAt_0 : decode cX0_stepAt 0 = .ok (.iconst 0, 1) := by decide +kernel
theorem dX0_stepAt_1 : decode cX0_stepAt 1 = .ok (.istore 4, 2) := by decide +kernel
theorem dX0_stepAt_3 : decode cX0_stepAt 3 = .ok (.iconst 0, 1) := by decide +kernel
theorem dX0_stepAt_4 : decode cX0_stepAt 4 = .ok (.istore 5, 2) := by decide +kernel
theorem dX0_stepAt_6 : decode cX0_stepAt 6 = .ok (.iconst 0, 1) := by decide +kernel
theorem dX0_stepAt_7 : decode cX0_stepAt 7 = .ok (.istore 6, 2) := by decide +kernel
theorem dX0_stepAt_9 : decode cX0_stepAt 9 = .ok (.iload 6, 2) := by decide +kernel
theorem dX0_stepAt_11 : decode cX0_stepAt 11 = .ok (.aload_n 1, 1) := by decide +kernel
theorem dX0_stepAt_12 : decode cX0_stepAt 12 = .ok (.getfield 16, 3) := by decide +kernel
theorem dX0_stepAt_15 : decode cX0_stepAt 15 = .ok (.aload_n 2, 1) := by decide +kernel
theorem dX0_stepAt_16 : decode cX0_stepAt 16 = .ok (.getfield 16, 3) := by decide +kernel
theorem dX0_stepAt_19 : decode cX0_stepAt 19 = .ok (.iadd, 1) := by decide +kernel
theorem dX0_stepAt_20 : decode cX0_stepAt 20 = .ok (.if_icmp .ge 66, 3) := by decide +kernel
theorem dX0_stepAt_23 : decode cX0_stepAt 23 = .ok (.aload_n 1, 1) := by decide +kernel
theorem dX0_stepAt_24 : decode cX0_stepAt 24 = .ok (.iload 4, 2) := by decide +kernel
theorem dX0_stepAt_26 : decode cX0_stepAt 26 = .ok (.invokevirtual 35, 3) := by decide +kernel
theorem dX0_stepAt_29 : decode cX0_stepAt 29 = .ok (.ifCond .ne 12, 3) := by decide +kernel
theorem dX0_stepAt_32 : decode cX0_stepAt 32 = .ok (.aload_n 2, 1) := by decide +kernel
theorem dX0_stepAt_33 : decode cX0_stepAt 33 = .ok (.iload 5, 2) := by decide +kernel
theorem dX0_stepAt_35 : decode cX0_stepAt 35 = .ok (.invokevirtual 35, 3) := by decide +kernel
theorem dX0_stepAt_38 : decode cX0_stepAt 38 = .ok (.ifCond .eq 48, 3) := by decide +kernel
theorem dX0_stepAt_41 : decode cX0_stepAt 41 = .ok (.aload_n 0, 1) := by decide +kernel
theorem dX0_stepAt_42 : decode cX0_stepAt 42 = .ok (.aload_n 1, 1) := by decide +kernel
theorem dX0_stepAt_43 : decode cX0_stepAt 43 = .ok (.iload 4, 2) := by decide +kernel
theorem dX0_stepAt_45 : decode cX0_stepAt 45 = .ok (.aload_n 2, 1) := by decide +kernel
theorem dX0_stepAt_46 : decode cX0_stepAt 46 = .ok (.iload 5, 2) := by decide +kernel
theorem dX0_stepAt_48 : decode cX0_stepAt 48 = .ok (.invokevirtual 43, 3) := by decide +kernel
theorem dX0_stepAt_51 : decode cX0_stepAt 51 = .ok (.istore 7, 2) := by decide +kernel
theorem dX0_stepAt_53 : decode cX0_stepAt 53 = .ok (.iload 6, 2) := by decide +kernel
theorem dX0_stepAt_55 : decode cX0_stepAt 55 = .ok (.iload_n 3, 1) := by decide +kernel
theorem dX0_stepAt_56 : decode cX0_stepAt 56 = .ok (.if_icmp .ne 6, 3) := by decide +kernel
theorem dX0_stepAt_59 : decode cX0_stepAt 59 = .ok (.iload 7, 2) := by decide +kernel
theorem dX0_stepAt_61 : decode cX0_stepAt 61 = .ok (.ireturn, 1) := by decide +kernel
theorem dX0_stepAt_62 : decode cX0_stepAt 62 = .ok (.iload 7, 2) := by decide +kernel
theorem dX0_stepAt_64 : decode cX0_stepAt 64 = .ok (.iconst 2, 1) := by decide +kernel
theorem dX0_stepAt_65 : decode cX0_stepAt 65 = .ok (.if_icmp .eq 6, 3) := by decide +kernel
theorem dX0_stepAt_68 : decode cX0_stepAt 68 = .ok (.iinc 4 1, 3) := by decide +kernel
theorem dX0_stepAt_71 : decode cX0_stepAt 71 = .ok (.iload 7, 2) := by decide +kernel
theorem dX0_stepAt_73 : decode cX0_stepAt 73 = .ok (.iconst 1, 1) := by decide +kernel
theorem dX0_stepAt_74 : decode cX0_stepAt 74 = .ok (.if_icmp .eq 6, 3) := by decide +kernel
theorem dX0_stepAt_77 : decode cX0_stepAt 77 = .ok (.iinc 5 1, 3) := by decide +kernel
theorem dX0_stepAt_80 : decode cX0_stepAt 80 = .ok (.iinc 6 1, 3) := by decide +kernel
theorem dX0_stepAt_83 : decode cX0_stepAt 83 = .ok (.goto (-74), 3) := by decide +kernel
theorem dX0_stepAt_86 : decode cX0_stepAt 86 = .ok (.iconst (-1), 1) := by decide +kernel
theorem dX0_stepAt_87 : decode cX0_stepAt 87 = .ok (.ireturn, 1) := by decide +kernel
theorem dX0_stepFrom_0 : decode cX0_stepFrom 0 = .ok (.aload_n 1, 1) := by decide +kernel
theorem dX0_stepFrom_1 : decode cX0_stepFrom 1 = .ok (.iload_n 2, 1) := by decide +kernel
theorem dX0_stepFrom_2 : decode cX0_stepFrom 2 = .ok (.invokevirtual 35, 3) := by decide +kernel
theorem dX0_stepFrom_5 : decode cX0_stepFrom 5 = .ok (.ifCond .eq 28, 3) := by decide +kernel
theorem dX0_stepFrom_8 : decode cX0_stepFrom 8 = .ok (.aload_n 3, 1) := by decide +kernel
theorem dX0_stepFrom_9 : decode cX0_stepFrom 9 = .ok (.iload 4, 2) := by decide +kernel
theorem dX0_stepFrom_11 : decode cX0_stepFrom 11 = .ok (.invokevirtual 35, 3) := by decide +kernel
theorem dX0_stepFrom_14 : decode cX0_stepFrom 14 = .ok (.ifCond .eq 19, 3) := by decide +kernel
theorem dX0_stepFrom_17 : decode cX0_stepFrom 17 = .ok (.aload_n 1, 1) := by decide +kernel
theorem dX0_stepFrom_18 : decode cX0_stepFrom 18 = .ok (.iload_n 2, 1) := by decide +kernel
theorem dX0_stepFrom_19 : decode cX0_stepFrom 19 = .ok (.invokevirtual 39, 3) := by decide +kernel
theorem dX0_stepFrom_22 : decode cX0_stepFrom 22 = .ok (.aload_n 3, 1) := by decide +kernel
theorem dX0_stepFrom_23 : decode cX0_stepFrom 23 = .ok (.iload 4, 2) := by decide +kernel
theorem dX0_stepFrom_25 : decode cX0_stepFrom 25 = .ok (.invokevirtual 39, 3) := by decide +kernel
theorem dX0_stepFrom_28 : decode cX0_stepFrom 28 = .ok (.if_icmp .ne 5, 3) := by decide +kernel
theorem dX0_stepFrom_31 : decode cX0_stepFrom 31 = .ok (.iconst 0, 1) := by decide +kernel
theorem dX0_stepFrom_32 : decode cX0_stepFrom 32 = .ok (.ireturn, 1) := by decide +kernel
theorem dX0_stepFrom_33 : decode cX0_stepFrom 33 = .ok (.aload_n 1, 1) := by decide +kernel
theorem dX0_stepFrom_34 : decode cX0_stepFrom 34 = .ok (.iload_n 2, 1) := by decide +kernel
theorem dX0_stepFrom_35 : decode cX0_stepFrom 35 = .ok (.invokevirtual 35, 3) := by decide +kernel
theorem dX0_stepFrom_38 : decode cX0_stepFrom 38 = .ok (.ifCond .eq 28, 3) := by decide +kernel
theorem dX0_stepFrom_41 : decode cX0_stepFrom 41 = .ok (.aload_n 0, 1) := by decide +kernel
theorem dX0_stepFrom_42 : decode cX0_stepFrom 42 = .ok (.iload_n 2, 1) := by decide +kernel
theorem dX0_stepFrom_43 : decode cX0_stepFrom 43 = .ok (.iconst 1, 1) := by decide +kernel
theorem dX0_stepFrom_44 : decode cX0_stepFrom 44 = .ok (.iadd, 1) := by decide +kernel
theorem dX0_stepFrom_45 : decode cX0_stepFrom 45 = .ok (.iload 4, 2) := by decide +kernel
theorem dX0_stepFrom_47 : decode cX0_stepFrom 47 = .ok (.invokevirtual 32, 3) := by decide +kernel
theorem dX0_stepFrom_50 : decode cX0_stepFrom 50 = .ok (.iconst 1, 1) := by decide +kernel
theorem dX0_stepFrom_51 : decode cX0_stepFrom 51 = .ok (.iadd, 1) := by decide +kernel
theorem dX0_stepFrom_52 : decode cX0_stepFrom 52 = .ok (.aload_n 0, 1) := by decide +kernel
theorem dX0_stepFrom_53 : decode cX0_stepFrom 53 = .ok (.iload_n 2, 1) := by decide +kernel
theorem dX0_stepFrom_54 : decode cX0_stepFrom 54 = .ok (.iload 4, 2) := by decide +kernel
theorem dX0_stepFrom_56 : decode cX0_stepFrom 56 = .ok (.invokevirtual 32, 3) := by decide +kernel
theorem dX0_stepFrom_59 : decode cX0_stepFrom 59 = .ok (.if_icmp .ne 7, 3) := by decide +kernel
theorem dX0_stepFrom_62 : decode cX0_stepFrom 62 = .ok (.iconst 1, 1) := by decide +kernel
theorem dX0_stepFrom_63 : decode cX0_stepFrom 63 = .ok (.goto 4, 3) := by decide +kernel
theorem dX0_stepFrom_66 : decode cX0_stepFrom 66 = .ok (.iconst 0, 1) := by decide +kernel
theorem dX0_stepFrom_67 : decode cX0_stepFrom 67 = .ok (.istore 5, 2) := by decide +kernel
theorem dX0_stepFrom_69 : decode cX0_stepFrom 69 = .ok (.iload 5, 2) := by decide +kernel
theorem dX0_stepFrom_71 : decode cX0_stepFrom 71 = .ok (.ifCond .eq 7, 3) := by decide +kernel
theorem dX0_stepFrom_74 : decode cX0_stepFrom 74 = .ok (.iconst 1, 1) := by decide +kernel
theorem dX0_stepFrom_75 : decode cX0_stepFrom 75 = .ok (.goto 4, 3) := by decide +kernel
theorem dX0_stepFrom_78 : decode cX0_stepFrom 78 = .ok (.iconst 2, 1) := by decide +kernel
theorem dX0_stepFrom_79 : decode cX0_stepFrom 79 = .ok (.ireturn, 1) := by decide +kernel
theorem dX1_init_0 : decode cX1_init 0 = .ok (.aload_n 0, 1) := by decide +kernel
theorem dX1_init_1 : decode cX1_init 1 = .ok (.invokespecial 3, 3) := by decide +kernel
theorem dX1_init_4 : decode cX1_init 4 = .ok (.aload_n 0, 1) := by decide +kernel
theorem dX1_init_5 : decode cX1_init 5 = .ok (.iload_n 1, 1) := by decide +kernel
theorem dX1_init_6 : decode cX1_init 6 = .ok (.putfield 9, 3) := by decide +kernel
theorem dX1_init_9 : decode cX1_init 9 = .ok (.aload_n 0, 1) := by decide +kernel
theorem dX1_init_10 : decode cX1_init 10 = .ok (.iload_n 2, 1) := by decide +kernel
theorem dX1_init_11 : decode cX1_init 11 = .ok (.putfield 15, 3) := by decide +kernel
theorem dX1_init_14 : decode cX1_init 14 = .ok (.aload_n 0, 1) := by decide +kernel
theorem dX1_init_15 : decode cX1_init 15 = .ok (.iload_n 3, 1) := by decide +kernel
theorem dX1_init_16 : decode cX1_init 16 = .ok (.putfield 18, 3) := by decide +kernel
theorem dX1_init_19 : decode cX1_init 19 = .ok (.return_, 1) := by decide +kernel
theorem dX1_judgement_0 : decode cX1_judgement 0 = .ok (.aload_n 0, 1) := by decide +kernel
theorem dX1_judgement_1 : decode cX1_judgement 1 = .ok (.aload_n 1, 1) := by decide +kernel
theorem dX1_judgement_2 : decode cX1_judgement 2 = .ok (.invokevirtual 21, 3) := by decide +kernel
theorem dX1_judgement_5 : decode cX1_judgement 5 = .ok (.lstore_n 2, 1) := by decide +kernel
theorem dX1_judgement_6 : decode cX1_judgement 6 = .ok (.iconst 0, 1) := by decide +kernel
theorem dX1_judgement_7 : decode cX1_judgement 7 = .ok (.istore 4, 2) := by decide +kernel
theorem dX1_judgement_9 : decode cX1_judgement 9 = .ok (.iconst 0, 1) := by decide +kernel
theorem dX1_judgement_10 : decode cX1_judgement 10 = .ok (.istore 5, 2) := by decide +kernel
theorem dX1_judgement_12 : decode cX1_judgement 12 = .ok (.iconst 0, 1) := by decide +kernel
theorem dX1_judgement_13 : decode cX1_judgement 13 = .ok (.istore 6, 2) := by decide +kernel
theorem dX1_judgement_15 : decode cX1_judgement 15 = .ok (.iload 6, 2) := by decide +kernel
theorem dX1_judgement_17 : decode cX1_judgement 17 = .ok (.aload_n 0, 1) := by decide +kernel
theorem dX1_judgement_18 : decode cX1_judgement 18 = .ok (.invokevirtual 25, 3) := by decide +kernel
theorem dX1_judgement_21 : decode cX1_judgement 21 = .ok (.if_icmp .gt 36, 3) := by decide +kernel
theorem dX1_judgement_24 : decode cX1_judgement 24 = .ok (.lload_n 2, 1) := by decide +kernel
theorem dX1_judgement_25 : decode cX1_judgement 25 = .ok (.iload 6, 2) := by decide +kernel
theorem dX1_judgement_27 : decode cX1_judgement 27 = .ok (.invokestatic 29, 3) := by decide +kernel
theorem dX1_judgement_30 : decode cX1_judgement 30 = .ok (.ifCond .eq 21, 3) := by decide +kernel
theorem dX1_judgement_33 : decode cX1_judgement 33 = .ok (.aload_n 0, 1) := by decide +kernel
theorem dX1_judgement_34 : decode cX1_judgement 34 = .ok (.iload 6, 2) := by decide +kernel
theorem dX1_judgement_36 : decode cX1_judgement 36 = .ok (.invokevirtual 33, 3) := by decide +kernel
theorem dX1_judgement_39 : decode cX1_judgement 39 = .ok (.ifCond .eq 9, 3) := by decide +kernel
theorem dX1_judgement_42 : decode cX1_judgement 42 = .ok (.iconst 1, 1) := by decide +kernel
theorem dX1_judgement_43 : decode cX1_judgement 43 = .ok (.istore 5, 2) := by decide +kernel
theorem dX1_judgement_45 : decode cX1_judgement 45 = .ok (.goto 6, 3) := by decide +kernel
theorem dX1_judgement_48 : decode cX1_judgement 48 = .ok (.iconst 1, 1) := by decide +kernel
theorem dX1_judgement_49 : decode cX1_judgement 49 = .ok (.istore 4, 2) := by decide +kernel
theorem dX1_judgement_51 : decode cX1_judgement 51 = .ok (.iinc 6 1, 3) := by decide +kernel
theorem dX1_judgement_54 : decode cX1_judgement 54 = .ok (.goto (-39), 3) := by decide +kernel
theorem dX1_judgement_57 : decode cX1_judgement 57 = .ok (.iload 5, 2) := by decide +kernel
theorem dX1_judgement_59 : decode cX1_judgement 59 = .ok (.ifCond .ne 5, 3) := by decide +kernel
theorem dX1_judgement_62 : decode cX1_judgement 62 = .ok (.iconst 0, 1) := by decide +kernel
theorem dX1_judgement_63 : decode cX1_judgement 63 = .ok (.ireturn, 1) := by decide +kernel
theorem dX1_judgement_64 : decode cX1_judgement 64 = .ok (.iload 4, 2) := by decide +kernel
theorem dX1_judgement_66 : decode cX1_judgement 66 = .ok (.ifCond .eq 7, 3) := by decide +kernel
theorem dX1_judgement_69 : decode cX1_judgement 69 = .ok (.iconst 1, 1) := by decide +kernel
theorem dX1_judgement_70 : decode cX1_judgement 70 = .ok (.goto 4, 3) := by decide +kernel
theorem dX1_judgement_73 : decode cX1_judgement 73 = .ok (.iconst 2, 1) := by decide +kernel
theorem dX1_judgement_74 : decode cX1_judgement 74 = .ok (.ireturn, 1) := by decide +kernel
theorem dX1_statesBehind_0 : decode cX1_statesBehind 0 = .ok (.lconst 1, 1) := by decide +kernel
theorem dX1_statesBehind_1 : decode cX1_statesBehind 1 = .ok (.lstore_n 2, 1) := by decide +kernel
theorem dX1_statesBehind_2 : decode cX1_statesBehind 2 = .ok (.iconst 0, 1) := by decide +kernel
theorem dX1_statesBehind_3 : decode cX1_statesBehind 3 = .ok (.istore 4, 2) := by decide +kernel
theorem dX1_statesBehind_5 : decode cX1_statesBehind 5 = .ok (.iload 4, 2) := by decide +kernel
theorem dX1_statesBehind_7 : decode cX1_statesBehind 7 = .ok (.aload_n 1, 1) := by decide +kernel
theorem dX1_statesBehind_8 : decode cX1_statesBehind 8 = .ok (.getfield 37, 3) := by decide +kernel
theorem dX1_statesBehind_11 : decode cX1_statesBehind 11 = .ok (.if_icmp .ge 39, 3) := by decide +kernel
theorem dX1_statesBehind_14 : decode cX1_statesBehind 14 = .ok (.aload_n 1, 1) := by decide +kernel
theorem dX1_statesBehind_15 : decode cX1_statesBehind 15 = .ok (.iload 4, 2) := by decide +kernel
theorem dX1_statesBehind_17 : decode cX1_statesBehind 17 = .ok (.invokevirtual 42, 3) := by decide +kernel
theorem dX1_statesBehind_20 : decode cX1_statesBehind 20 = .ok (.istore 5, 2) := by decide +kernel
theorem dX1_statesBehind_22 : decode cX1_statesBehind 22 = .ok (.iload 5, 2) := by decide +kernel
theorem dX1_statesBehind_24 : decode cX1_statesBehind 24 = .ok (.iconst (-1), 1) := by decide +kernel
theorem dX1_statesBehind_25 : decode cX1_statesBehind 25 = .ok (.if_icmp .ne 11, 3) := by decide +kernel
theorem dX1_statesBehind_28 : decode cX1_statesBehind 28 = .ok (.aload_n 0, 1) := by decide +kernel
theorem dX1_statesBehind_29 : decode cX1_statesBehind 29 = .ok (.lload_n 2, 1) := by decide +kernel
theorem dX1_statesBehind_30 : decode cX1_statesBehind 30 = .ok (.invokevirtual 46, 3) := by decide +kernel
theorem dX1_statesBehind_33 : decode cX1_statesBehind 33 = .ok (.goto 10, 3) := by decide +kernel
theorem dX1_statesBehind_36 : decode cX1_statesBehind 36 = .ok (.aload_n 0, 1) := by decide +kernel
theorem dX1_statesBehind_37 : decode cX1_statesBehind 37 = .ok (.lload_n 2, 1) := by decide +kernel
theorem dX1_statesBehind_38 : decode cX1_statesBehind 38 = .ok (.iload 5, 2) := by decide +kernel
theorem dX1_statesBehind_40 : decode cX1_statesBehind 40 = .ok (.invokevirtual 50, 3) := by decide +kernel
theorem dX1_statesBehind_43 : decode cX1_statesBehind 43 = .ok (.lstore_n 2, 1) := by decide +kernel
theorem dX1_statesBehind_44 : decode cX1_statesBehind 44 = .ok (.iinc 4 1, 3) := by decide +kernel
theorem dX1_statesBehind_47 : decode cX1_statesBehind 47 = .ok (.goto (-42), 3) := by decide +kernel
theorem dX1_statesBehind_50 : decode cX1_statesBehind 50 = .ok (.lload_n 2, 1) := by decide +kernel
theorem dX1_statesBehind_51 : decode cX1_statesBehind 51 = .ok (.lreturn, 1) := by decide +kernel
theorem dX1_statesBehindLine_0 : decode cX1_statesBehindLine 0 = .ok (.lconst 0, 1) := by decide +kernel
theorem dX1_statesBehindLine_1 : decode cX1_statesBehindLine 1 = .ok (.lstore 4, 2) := by decide +kernel
theorem dX1_statesBehindLine_3 : decode cX1_statesBehindLine 3 = .ok (.iconst 0, 1) := by decide +kernel
theorem dX1_statesBehindLine_4 : decode cX1_statesBehindLine 4 = .ok (.istore 6, 2) := by decide +kernel
theorem dX1_statesBehindLine_6 : decode cX1_statesBehindLine 6 = .ok (.iload 6, 2) := by decide +kernel
theorem dX1_statesBehindLine_8 : decode cX1_statesBehindLine 8 = .ok (.aload_n 0, 1) := by decide +kernel
theorem dX1_statesBehindLine_9 : decode cX1_statesBehindLine 9 = .ok (.invokevirtual 25, 3) := by decide +kernel
theorem dX1_statesBehindLine_12 : decode cX1_statesBehindLine 12 = .ok (.if_icmp .gt 32, 3) := by decide +kernel
theorem dX1_statesBehindLine_15 : decode cX1_statesBehindLine 15 = .ok (.lload_n 1, 1) := by decide +kernel
theorem dX1_statesBehindLine_16 : decode cX1_statesBehindLine 16 = .ok (.iload 6, 2) := by decide +kernel
theorem dX1_statesBehindLine_18 : decode cX1_statesBehindLine 18 = .ok (.invokestatic 29, 3) := by decide +kernel
theorem dX1_statesBehindLine_21 : decode cX1_statesBehindLine 21 = .ok (.ifCond .eq 17, 3) := by decide +kernel
theorem dX1_statesBehindLine_24 : decode cX1_statesBehindLine 24 = .ok (.lload 4, 2) := by decide +kernel
theorem dX1_statesBehindLine_26 : decode cX1_statesBehindLine 26 = .ok (.lconst 1, 1) := by decide +kernel
theorem dX1_statesBehindLine_27 : decode cX1_statesBehindLine 27 = .ok (.aload_n 0, 1) := by decide +kernel
theorem dX1_statesBehindLine_28 : decode cX1_statesBehindLine 28 = .ok (.iload 6, 2) := by decide +kernel
theorem dX1_statesBehindLine_30 : decode cX1_statesBehindLine 30 = .ok (.iload_n 3, 1) := by decide +kernel
theorem dX1_statesBehindLine_31 : decode cX1_statesBehindLine 31 = .ok (.invokevirtual 54, 3) := by decide +kernel
theorem dX1_statesBehindLine_34 : decode cX1_statesBehindLine 34 = .ok (.lshl, 1) := by decide +kernel
theorem dX1_statesBehindLine_35 : decode cX1_statesBehindLine 35 = .ok (.lor, 1) := by decide +kernel
theorem dX1_statesBehindLine_36 : decode cX1_statesBehindLine 36 = .ok (.lstore 4, 2) := by decide +kernel
theorem dX1_statesBehindLine_38 : decode cX1_statesBehindLine 38 = .ok (.iinc 6 1, 3) := by decide +kernel
theorem dX1_statesBehindLine_41 : decode cX1_statesBehindLine 41 = .ok (.goto (-35), 3) := by decide +kernel
theorem dX1_statesBehindLine_44 : decode cX1_statesBehindLine 44 = .ok (.lload 4, 2) := by decide +kernel
theorem dX1_statesBehindLine_46 : decode cX1_statesBehindLine 46 = .ok (.lreturn, 1) := by decide +kernel
theorem dX1_statesBehindGap_0 : decode cX1_statesBehindGap 0 = .ok (.lload_n 1, 1) := by decide +kernel
theorem dX1_statesBehindGap_1 : decode cX1_statesBehindGap 1 = .ok (.lstore_n 3, 1) := by decide +kernel
theorem dX1_statesBehindGap_2 : decode cX1_statesBehindGap 2 = .ok (.iconst 0, 1) := by decide +kernel
theorem dX1_statesBehindGap_3 : decode cX1_statesBehindGap 3 = .ok (.istore 5, 2) := by decide +kernel
theorem dX1_statesBehindGap_5 : decode cX1_statesBehindGap 5 = .ok (.iload 5, 2) := by decide +kernel
theorem dX1_statesBehindGap_7 : decode cX1_statesBehindGap 7 = .ok (.aload_n 0, 1) := by decide +kernel
theorem dX1_statesBehindGap_8 : decode cX1_statesBehindGap 8 = .ok (.invokevirtual 25, 3) := by decide +kernel
theorem dX1_statesBehindGap_11 : decode cX1_statesBehindGap 11 = .ok (.if_icmp .gt 91, 3) := by decide +kernel
theorem dX1_statesBehindGap_14 : decode cX1_statesBehindGap 14 = .ok (.lload_n 3, 1) := by decide +kernel
theorem dX1_statesBehindGap_15 : decode cX1_statesBehindGap 15 = .ok (.lstore 6, 2) := by decide +kernel
theorem dX1_statesBehindGap_17 : decode cX1_statesBehindGap 17 = .ok (.iconst 0, 1) := by decide +kernel
theorem dX1_statesBehindGap_18 : decode cX1_statesBehindGap 18 = .ok (.istore 8, 2) := by decide +kernel
theorem dX1_statesBehindGap_20 : decode cX1_statesBehindGap 20 = .ok (.iload 8, 2) := by decide +kernel
theorem dX1_statesBehindGap_22 : decode cX1_statesBehindGap 22 = .ok (.aload_n 0, 1) := by decide +kernel
theorem dX1_statesBehindGap_23 : decode cX1_statesBehindGap 23 = .ok (.invokevirtual 25, 3) := by decide +kernel
theorem dX1_statesBehindGap_26 : decode cX1_statesBehindGap 26 = .ok (.if_icmp .gt 60, 3) := by decide +kernel
theorem dX1_statesBehindGap_29 : decode cX1_statesBehindGap 29 = .ok (.lload_n 3, 1) := by decide +kernel
theorem dX1_statesBehindGap_30 : decode cX1_statesBehindGap 30 = .ok (.iload 8, 2) := by decide +kernel
theorem dX1_statesBehindGap_32 : decode cX1_statesBehindGap 32 = .ok (.invokestatic 29, 3) := by decide +kernel
theorem dX1_statesBehindGap_35 : decode cX1_statesBehindGap 35 = .ok (.ifCond .eq 45, 3) := by decide +kernel
theorem dX1_statesBehindGap_38 : decode cX1_statesBehindGap 38 = .ok (.lload_n 3, 1) := by decide +kernel
theorem dX1_statesBehindGap_39 : decode cX1_statesBehindGap 39 = .ok (.lconst 1, 1) := by decide +kernel
theorem dX1_statesBehindGap_40 : decode cX1_statesBehindGap 40 = .ok (.aload_n 0, 1) := by decide +kernel
theorem dX1_statesBehindGap_41 : decode cX1_statesBehindGap 41 = .ok (.iload 8, 2) := by decide +kernel
theorem dX1_statesBehindGap_43 : decode cX1_statesBehindGap 43 = .ok (.aload_n 0, 1) := by decide +kernel
theorem dX1_statesBehindGap_44 : decode cX1_statesBehindGap 44 = .ok (.getfield 15, 3) := by decide +kernel
theorem dX1_statesBehindGap_47 : decode cX1_statesBehindGap 47 = .ok (.invokevirtual 54, 3) := by decide +kernel
theorem dX1_statesBehindGap_50 : decode cX1_statesBehindGap 50 = .ok (.lshl, 1) := by decide +kernel
theorem dX1_statesBehindGap_51 : decode cX1_statesBehindGap 51 = .ok (.lor, 1) := by decide +kernel
theorem dX1_statesBehindGap_52 : decode cX1_statesBehindGap 52 = .ok (.lstore_n 3, 1) := by decide +kernel
theorem dX1_statesBehindGap_53 : decode cX1_statesBehindGap 53 = .ok (.lload_n 3, 1) := by decide +kernel
theorem dX1_statesBehindGap_54 : decode cX1_statesBehindGap 54 = .ok (.lconst 1, 1) := by decide +kernel
theorem dX1_statesBehindGap_55 : decode cX1_statesBehindGap 55 = .ok (.aload_n 0, 1) := by decide +kernel
theorem dX1_statesBehindGap_56 : decode cX1_statesBehindGap 56 = .ok (.iload 8, 2) := by decide +kernel
theorem dX1_statesBehindGap_58 : decode cX1_statesBehindGap 58 = .ok (.aload_n 0, 1) := by decide +kernel
theorem dX1_statesBehindGap_59 : decode cX1_statesBehindGap 59 = .ok (.getfield 18, 3) := by decide +kernel
theorem dX1_statesBehindGap_62 : decode cX1_statesBehindGap 62 = .ok (.invokevirtual 54, 3) := by decide +kernel
theorem dX1_statesBehindGap_65 : decode cX1_statesBehindGap 65 = .ok (.lshl, 1) := by decide +kernel
theorem dX1_statesBehindGap_66 : decode cX1_statesBehindGap 66 = .ok (.lor, 1) := by decide +kernel
theorem dX1_statesBehindGap_67 : decode cX1_statesBehindGap 67 = .ok (.lstore_n 3, 1) := by decide +kernel
theorem dX1_statesBehindGap_68 : decode cX1_statesBehindGap 68 = .ok (.lload_n 3, 1) := by decide +kernel
theorem dX1_statesBehindGap_69 : decode cX1_statesBehindGap 69 = .ok (.lconst 1, 1) := by decide +kernel
theorem dX1_statesBehindGap_70 : decode cX1_statesBehindGap 70 = .ok (.aload_n 0, 1) := by decide +kernel
theorem dX1_statesBehindGap_71 : decode cX1_statesBehindGap 71 = .ok (.iload 8, 2) := by decide +kernel
theorem dX1_statesBehindGap_73 : decode cX1_statesBehindGap 73 = .ok (.iconst (-1), 1) := by decide +kernel
theorem dX1_statesBehindGap_74 : decode cX1_statesBehindGap 74 = .ok (.invokevirtual 54, 3) := by decide +kernel
theorem dX1_statesBehindGap_77 : decode cX1_statesBehindGap 77 = .ok (.lshl, 1) := by decide +kernel
theorem dX1_statesBehindGap_78 : decode cX1_statesBehindGap 78 = .ok (.lor, 1) := by decide +kernel
theorem dX1_statesBehindGap_79 : decode cX1_statesBehindGap 79 = .ok (.lstore_n 3, 1) := by decide +kernel
theorem dX1_statesBehindGap_80 : decode cX1_statesBehindGap 80 = .ok (.iinc 8 1, 3) := by decide +kernel
theorem dX1_statesBehindGap_83 : decode cX1_statesBehindGap 83 = .ok (.goto (-63), 3) := by decide +kernel
theorem dX1_statesBehindGap_86 : decode cX1_statesBehindGap 86 = .ok (.lload_n 3, 1) := by decide +kernel
theorem dX1_statesBehindGap_87 : decode cX1_statesBehindGap 87 = .ok (.lload 6, 2) := by decide +kernel
theorem dX1_statesBehindGap_89 : decode cX1_statesBehindGap 89 = .ok (.lcmp, 1) := by decide +kernel
theorem dX1_statesBehindGap_90 : decode cX1_statesBehindGap 90 = .ok (.ifCond .ne 6, 3) := by decide +kernel
theorem dX1_statesBehindGap_93 : decode cX1_statesBehindGap 93 = .ok (.goto 9, 3) := by decide +kernel
theorem dX1_statesBehindGap_96 : decode cX1_statesBehindGap 96 = .ok (.iinc 5 1, 3) := by decide +kernel
theorem dX1_statesBehindGap_99 : decode cX1_statesBehindGap 99 = .ok (.goto (-94), 3) := by decide +kernel
theorem dX1_statesBehindGap_102 : decode cX1_statesBehindGap 102 = .ok (.lload_n 3, 1) := by decide +kernel
theorem dX1_statesBehindGap_103 : decode cX1_statesBehindGap 103 = .ok (.lreturn, 1) := by decide +kernel
theorem dX1_lastState_0 : decode cX1_lastState 0 = .ok (.aload_n 0, 1) := by decide +kernel
theorem dX1_lastState_1 : decode cX1_lastState 1 = .ok (.getfield 9, 3) := by decide +kernel
theorem dX1_lastState_4 : decode cX1_lastState 4 = .ok (.iconst 1, 1) := by decide +kernel
theorem dX1_lastState_5 : decode cX1_lastState 5 = .ok (.if_icmp .ne 12, 3) := by decide +kernel
theorem dX1_lastState_8 : decode cX1_lastState 8 = .ok (.aload_n 0, 1) := by decide +kernel
theorem dX1_lastState_9 : decode cX1_lastState 9 = .ok (.getfield 18, 3) := by decide +kernel
theorem dX1_lastState_12 : decode cX1_lastState 12 = .ok (.iconst 1, 1) := by decide +kernel
theorem dX1_lastState_13 : decode cX1_lastState 13 = .ok (.iadd, 1) := by decide +kernel
theorem dX1_lastState_14 : decode cX1_lastState 14 = .ok (.goto 4, 3) := by decide +kernel
theorem dX1_lastState_17 : decode cX1_lastState 17 = .ok (.iconst 3, 1) := by decide +kernel
theorem dX1_lastState_18 : decode cX1_lastState 18 = .ok (.ireturn, 1) := by decide +kernel
theorem dX1_next_0 : decode cX1_next 0 = .ok (.aload_n 0, 1) := by decide +kernel
theorem dX1_next_1 : decode cX1_next 1 = .ok (.getfield 9, 3) := by decide +kernel
theorem dX1_next_4 : decode cX1_next 4 = .ok (.tableswitch 189 1 6 #[40, 64, 94, 189, 124, 157], 40) := by decide +kernel
theorem dX1_next_44 : decode cX1_next 44 = .ok (.iload_n 2, 1) := by decide +kernel
theorem dX1_next_45 : decode cX1_next 45 = .ok (.aload_n 0, 1) := by decide +kernel
theorem dX1_next_46 : decode cX1_next 46 = .ok (.getfield 15, 3) := by decide +kernel
theorem dX1_next_49 : decode cX1_next 49 = .ok (.if_icmp .ne 17, 3) := by decide +kernel
theorem dX1_next_52 : decode cX1_next 52 = .ok (.iload_n 1, 1) := by decide +kernel
theorem dX1_next_53 : decode cX1_next 53 = .ok (.aload_n 0, 1) := by decide +kernel
theorem dX1_next_54 : decode cX1_next 54 = .ok (.getfield 18, 3) := by decide +kernel
theorem dX1_next_57 : decode cX1_next 57 = .ok (.if_icmp .gt 9, 3) := by decide +kernel
theorem dX1_next_60 : decode cX1_next 60 = .ok (.iload_n 1, 1) := by decide +kernel
theorem dX1_next_61 : decode cX1_next 61 = .ok (.iconst 1, 1) := by decide +kernel
theorem dX1_next_62 : decode cX1_next 62 = .ok (.iadd, 1) := by decide +kernel
theorem dX1_next_63 : decode cX1_next 63 = .ok (.goto 4, 3) := by decide +kernel
theorem dX1_next_66 : decode cX1_next 66 = .ok (.iload_n 1, 1) := by decide +kernel
theorem dX1_next_67 : decode cX1_next 67 = .ok (.ireturn, 1) := by decide +kernel
theorem dX1_next_68 : decode cX1_next 68 = .ok (.iload_n 1, 1) := by decide +kernel
theorem dX1_next_69 : decode cX1_next 69 = .ok (.ifCond .eq 5, 3) := by decide +kernel
theorem dX1_next_72 : decode cX1_next 72 = .ok (.iload_n 1, 1) := by decide +kernel
theorem dX1_next_73 : decode cX1_next 73 = .ok (.ireturn, 1) := by decide +kernel
theorem dX1_next_74 : decode cX1_next 74 = .ok (.iload_n 2, 1) := by decide +kernel
theorem dX1_next_75 : decode cX1_next 75 = .ok (.aload_n 0, 1) := by decide +kernel
theorem dX1_next_76 : decode cX1_next 76 = .ok (.getfield 15, 3) := by decide +kernel
theorem dX1_next_79 : decode cX1_next 79 = .ok (.if_icmp .ne 5, 3) := by decide +kernel
theorem dX1_next_82 : decode cX1_next 82 = .ok (.iconst 2, 1) := by decide +kernel
theorem dX1_next_83 : decode cX1_next 83 = .ok (.ireturn, 1) := by decide +kernel
theorem dX1_next_84 : decode cX1_next 84 = .ok (.iload_n 2, 1) := by decide +kernel
theorem dX1_next_85 : decode cX1_next 85 = .ok (.aload_n 0, 1) := by decide +kernel
theorem dX1_next_86 : decode cX1_next 86 = .ok (.getfield 18, 3) := by decide +kernel
theorem dX1_next_89 : decode cX1_next 89 = .ok (.if_icmp .ne 7, 3) := by decide +kernel
theorem dX1_next_92 : decode cX1_next 92 = .ok (.iconst 1, 1) := by decide +kernel
theorem dX1_next_93 : decode cX1_next 93 = .ok (.goto 4, 3) := by decide +kernel
theorem dX1_next_96 : decode cX1_next 96 = .ok (.iconst 0, 1) := by decide +kernel
theorem dX1_next_97 : decode cX1_next 97 = .ok (.ireturn, 1) := by decide +kernel
theorem dX1_next_98 : decode cX1_next 98 = .ok (.iload_n 1, 1) := by decide +kernel
theorem dX1_next_99 : decode cX1_next 99 = .ok (.iload_n 2, 1) := by decide +kernel
theorem dX1_next_100 : decode cX1_next 100 = .ok (.aload_n 0, 1) := by decide +kernel
theorem dX1_next_101 : decode cX1_next 101 = .ok (.getfield 15, 3) := by decide +kernel
theorem dX1_next_104 : decode cX1_next 104 = .ok (.if_icmp .ne 7, 3) := by decide +kernel
theorem dX1_next_107 : decode cX1_next 107 = .ok (.iconst 1, 1) := by decide +kernel
theorem dX1_next_108 : decode cX1_next 108 = .ok (.goto 4, 3) := by decide +kernel
theorem dX1_next_111 : decode cX1_next 111 = .ok (.iconst 0, 1) := by decide +kernel
theorem dX1_next_112 : decode cX1_next 112 = .ok (.ior, 1) := by decide +kernel
theorem dX1_next_113 : decode cX1_next 113 = .ok (.iload_n 2, 1) := by decide +kernel
theorem dX1_next_114 : decode cX1_next 114 = .ok (.aload_n 0, 1) := by decide +kernel
theorem dX1_next_115 : decode cX1_next 115 = .ok (.getfield 18, 3) := by decide +kernel
theorem dX1_next_118 : decode cX1_next 118 = .ok (.if_icmp .ne 7, 3) := by decide +kernel
theorem dX1_next_121 : decode cX1_next 121 = .ok (.iconst 2, 1) := by decide +kernel
theorem dX1_next_122 : decode cX1_next 122 = .ok (.goto 4, 3) := by decide +kernel
theorem dX1_next_125 : decode cX1_next 125 = .ok (.iconst 0, 1) := by decide +kernel
theorem dX1_next_126 : decode cX1_next 126 = .ok (.ior, 1) := by decide +kernel
theorem dX1_next_127 : decode cX1_next 127 = .ok (.ireturn, 1) := by decide +kernel
theorem dX1_next_128 : decode cX1_next 128 = .ok (.iload_n 1, 1) := by decide +kernel
theorem dX1_next_129 : decode cX1_next 129 = .ok (.iconst 2, 1) := by decide +kernel
theorem dX1_next_130 : decode cX1_next 130 = .ok (.if_icmp .eq 15, 3) := by decide +kernel
theorem dX1_next_133 : decode cX1_next 133 = .ok (.iload_n 1, 1) := by decide +kernel
theorem dX1_next_134 : decode cX1_next 134 = .ok (.ifCond .ne 13, 3) := by decide +kernel
theorem dX1_next_137 : decode cX1_next 137 = .ok (.iload_n 2, 1) := by decide +kernel
theorem dX1_next_138 : decode cX1_next 138 = .ok (.aload_n 0, 1) := by decide +kernel
theorem dX1_next_139 : decode cX1_next 139 = .ok (.getfield 15, 3) := by decide +kernel
theorem dX1_next_142 : decode cX1_next 142 = .ok (.if_icmp .ne 5, 3) := by decide +kernel
theorem dX1_next_145 : decode cX1_next 145 = .ok (.iconst 2, 1) := by decide +kernel
theorem dX1_next_146 : decode cX1_next 146 = .ok (.ireturn, 1) := by decide +kernel
theorem dX1_next_147 : decode cX1_next 147 = .ok (.iload_n 2, 1) := by decide +kernel
theorem dX1_next_148 : decode cX1_next 148 = .ok (.aload_n 0, 1) := by decide +kernel
theorem dX1_next_149 : decode cX1_next 149 = .ok (.getfield 18, 3) := by decide +kernel
theorem dX1_next_152 : decode cX1_next 152 = .ok (.if_icmp .ne 7, 3) := by decide +kernel
theorem dX1_next_155 : decode cX1_next 155 = .ok (.iconst 1, 1) := by decide +kernel
theorem dX1_next_156 : decode cX1_next 156 = .ok (.goto 4, 3) := by decide +kernel
theorem dX1_next_159 : decode cX1_next 159 = .ok (.iconst 0, 1) := by decide +kernel
theorem dX1_next_160 : decode cX1_next 160 = .ok (.ireturn, 1) := by decide +kernel
theorem dX1_next_161 : decode cX1_next 161 = .ok (.iload_n 1, 1) := by decide +kernel
theorem dX1_next_162 : decode cX1_next 162 = .ok (.ifCond .ne 17, 3) := by decide +kernel
theorem dX1_next_165 : decode cX1_next 165 = .ok (.iload_n 2, 1) := by decide +kernel
theorem dX1_next_166 : decode cX1_next 166 = .ok (.aload_n 0, 1) := by decide +kernel
theorem dX1_next_167 : decode cX1_next 167 = .ok (.getfield 15, 3) := by decide +kernel
theorem dX1_next_170 : decode cX1_next 170 = .ok (.if_icmp .ne 7, 3) := by decide +kernel
theorem dX1_next_173 : decode cX1_next 173 = .ok (.iconst 1, 1) := by decide +kernel
theorem dX1_next_174 : decode cX1_next 174 = .ok (.goto 4, 3) := by decide +kernel
theorem dX1_next_177 : decode cX1_next 177 = .ok (.iconst 0, 1) := by decide +kernel
theorem dX1_next_178 : decode cX1_next 178 = .ok (.ireturn, 1) := by decide +kernel
theorem dX1_next_179 : decode cX1_next 179 = .ok (.iload_n 2, 1) := by decide +kernel
theorem dX1_next_180 : decode cX1_next 180 = .ok (.aload_n 0, 1) := by decide +kernel
theorem dX1_next_181 : decode cX1_next 181 = .ok (.getfield 18, 3) := by decide +kernel
theorem dX1_next_184 : decode cX1_next 184 = .ok (.if_icmp .ne 7, 3) := by decide +kernel
theorem dX1_next_187 : decode cX1_next 187 = .ok (.iconst 2, 1) := by decide +kernel
theorem dX1_next_188 : decode cX1_next 188 = .ok (.goto 4, 3) := by decide +kernel
theorem dX1_next_191 : decode cX1_next 191 = .ok (.iload_n 1, 1) := by decide +kernel
theorem dX1_next_192 : decode cX1_next 192 = .ok (.ireturn, 1) := by decide +kernel
theorem dX1_next_193 : decode cX1_next 193 = .ok (.iload_n 2, 1) := by decide +kernel
theorem dX1_next_194 : decode cX1_next 194 = .ok (.aload_n 0, 1) := by decide +kernel
theorem dX1_next_195 : decode cX1_next 195 = .ok (.getfield 15, 3) := by decide +kernel
theorem dX1_next_198 : decode cX1_next 198 = .ok (.if_icmp .ne 7, 3) := by decide +kernel
theorem dX1_next_201 : decode cX1_next 201 = .ok (.iconst 1, 1) := by decide +kernel
theorem dX1_next_202 : decode cX1_next 202 = .ok (.goto 4, 3) := by decide +kernel
theorem dX1_next_205 : decode cX1_next 205 = .ok (.iload_n 1, 1) := by decide +kernel
theorem dX1_next_206 : decode cX1_next 206 = .ok (.ireturn, 1) := by decide +kernel
theorem dX1_isBroken_0 : decode cX1_isBroken 0 = .ok (.aload_n 0, 1) := by decide +kernel
theorem dX1_isBroken_1 : decode cX1_isBroken 1 = .ok (.getfield 9, 3) := by decide +kernel
theorem dX1_isBroken_4 : decode cX1_isBroken 4 = .ok (.tableswitch 82 0 4 #[36, 47, 82, 61, 72], 36) := by decide +kernel
theorem dX1_isBroken_40 : decode cX1_isBroken 40 = .ok (.iload_n 1, 1) := by decide +kernel
theorem dX1_isBroken_41 : decode cX1_isBroken 41 = .ok (.iconst 1, 1) := by decide +kernel
theorem dX1_isBroken_42 : decode cX1_isBroken 42 = .ok (.if_icmp .ne 7, 3) := by decide +kernel
theorem dX1_isBroken_45 : decode cX1_isBroken 45 = .ok (.iconst 1, 1) := by decide +kernel
theorem dX1_isBroken_46 : decode cX1_isBroken 46 = .ok (.goto 4, 3) := by decide +kernel
theorem dX1_isBroken_49 : decode cX1_isBroken 49 = .ok (.iconst 0, 1) := by decide +kernel
theorem dX1_isBroken_50 : decode cX1_isBroken 50 = .ok (.ireturn, 1) := by decide +kernel
theorem dX1_isBroken_51 : decode cX1_isBroken 51 = .ok (.iload_n 1, 1) := by decide +kernel
theorem dX1_isBroken_52 : decode cX1_isBroken 52 = .ok (.aload_n 0, 1) := by decide +kernel
theorem dX1_isBroken_53 : decode cX1_isBroken 53 = .ok (.getfield 18, 3) := by decide +kernel
theorem dX1_isBroken_56 : decode cX1_isBroken 56 = .ok (.if_icmp .le 7, 3) := by decide +kernel
theorem dX1_isBroken_59 : decode cX1_isBroken 59 = .ok (.iconst 1, 1) := by decide +kernel
theorem dX1_isBroken_60 : decode cX1_isBroken 60 = .ok (.goto 4, 3) := by decide +kernel
theorem dX1_isBroken_63 : decode cX1_isBroken 63 = .ok (.iconst 0, 1) := by decide +kernel
theorem dX1_isBroken_64 : decode cX1_isBroken 64 = .ok (.ireturn, 1) := by decide +kernel
theorem dX1_isBroken_65 : decode cX1_isBroken 65 = .ok (.iload_n 1, 1) := by decide +kernel
theorem dX1_isBroken_66 : decode cX1_isBroken 66 = .ok (.iconst 3, 1) := by decide +kernel
theorem dX1_isBroken_67 : decode cX1_isBroken 67 = .ok (.if_icmp .ne 7, 3) := by decide +kernel
theorem dX1_isBroken_70 : decode cX1_isBroken 70 = .ok (.iconst 1, 1) := by decide +kernel
theorem dX1_isBroken_71 : decode cX1_isBroken 71 = .ok (.goto 4, 3) := by decide +kernel
theorem dX1_isBroken_74 : decode cX1_isBroken 74 = .ok (.iconst 0, 1) := by decide +kernel
theorem dX1_isBroken_75 : decode cX1_isBroken 75 = .ok (.ireturn, 1) := by decide +kernel
theorem dX1_isBroken_76 : decode cX1_isBroken 76 = .ok (.iload_n 1, 1) := by decide +kernel
theorem dX1_isBroken_77 : decode cX1_isBroken 77 = .ok (.ifCond .ne 7, 3) := by decide +kernel
theorem dX1_isBroken_80 : decode cX1_isBroken 80 = .ok (.iconst 1, 1) := by decide +kernel
theorem dX1_isBroken_81 : decode cX1_isBroken 81 = .ok (.goto 4, 3) := by decide +kernel
theorem dX1_isBroken_84 : decode cX1_isBroken 84 = .ok (.iconst 0, 1) := by decide +kernel
theorem dX1_isBroken_85 : decode cX1_isBroken 85 = .ok (.ireturn, 1) := by decide +kernel
theorem dX1_isBroken_86 : decode cX1_isBroken 86 = .ok (.iload_n 1, 1) := by decide +kernel
theorem dX1_isBroken_87 : decode cX1_isBroken 87 = .ok (.iconst 2, 1) := by decide +kernel
theorem dX1_isBroken_88 : decode cX1_isBroken 88 = .ok (.if_icmp .ne 7, 3) := by decide +kernel
theorem dX1_isBroken_91 : decode cX1_isBroken 91 = .ok (.iconst 1, 1) := by decide +kernel
theorem dX1_isBroken_92 : decode cX1_isBroken 92 = .ok (.goto 4, 3) := by decide +kernel
theorem dX1_isBroken_95 : decode cX1_isBroken 95 = .ok (.iconst 0, 1) := by decide +kernel
theorem dX1_isBroken_96 : decode cX1_isBroken 96 = .ok (.ireturn, 1) := by decide +kernel
theorem dX2_init_0 : decode cX2_init 0 = .ok (.aload_n 0, 1) := by decide +kernel
theorem dX2_init_1 : decode cX2_init 1 = .ok (.invokespecial 3, 3) := by decide +kernel
theorem dX2_init_4 : decode cX2_init 4 = .ok (.aload_n 0, 1) := by decide +kernel
theorem dX2_init_5 : decode cX2_init 5 = .ok (.bipush 40, 2) := by decide +kernel
theorem dX2_init_7 : decode cX2_init 7 = .ok (.newarray .int, 2) := by decide +kernel
theorem dX2_init_9 : decode cX2_init 9 = .ok (.putfield 9, 3) := by decide +kernel
theorem dX2_init_12 : decode cX2_init 12 = .ok (.aload_n 0, 1) := by decide +kernel
theorem dX2_init_13 : decode cX2_init 13 = .ok (.iconst 0, 1) := by decide +kernel
theorem dX2_init_14 : decode cX2_init 14 = .ok (.putfield 15, 3) := by decide +kernel
theorem dX2_init_17 : decode cX2_init 17 = .ok (.return_, 1) := by decide +kernel
theorem dX2_has_0 : decode cX2_has 0 = .ok (.iload_n 1, 1) := by decide +kernel
theorem dX2_has_1 : decode cX2_has 1 = .ok (.ifCond .lt 24, 3) := by decide +kernel
theorem dX2_has_4 : decode cX2_has 4 = .ok (.iload_n 1, 1) := by decide +kernel
theorem dX2_has_5 : decode cX2_has 5 = .ok (.aload_n 0, 1) := by decide +kernel
theorem dX2_has_6 : decode cX2_has 6 = .ok (.getfield 15, 3) := by decide +kernel
theorem dX2_has_9 : decode cX2_has 9 = .ok (.if_icmp .ge 16, 3) := by decide +kernel
theorem dX2_has_12 : decode cX2_has 12 = .ok (.iload_n 1, 1) := by decide +kernel
theorem dX2_has_13 : decode cX2_has 13 = .ok (.aload_n 0, 1) := by decide +kernel
theorem dX2_has_14 : decode cX2_has 14 = .ok (.getfield 9, 3) := by decide +kernel
theorem dX2_has_17 : decode cX2_has 17 = .ok (.arraylength, 1) := by decide +kernel
theorem dX2_has_18 : decode cX2_has 18 = .ok (.if_icmp .ge 7, 3) := by decide +kernel
theorem dX2_has_21 : decode cX2_has 21 = .ok (.iconst 1, 1) := by decide +kernel
theorem dX2_has_22 : decode cX2_has 22 = .ok (.goto 4, 3) := by decide +kernel
theorem dX2_has_25 : decode cX2_has 25 = .ok (.iconst 0, 1) := by decide +kernel
theorem dX2_has_26 : decode cX2_has 26 = .ok (.ireturn, 1) := by decide +kernel
theorem dX2_at_0 : decode cX2_at 0 = .ok (.aload_n 0, 1) := by decide +kernel
theorem dX2_at_1 : decode cX2_at 1 = .ok (.iload_n 1, 1) := by decide +kernel
theorem dX2_at_2 : decode cX2_at 2 = .ok (.invokevirtual 19, 3) := by decide +kernel
theorem dX2_at_5 : decode cX2_at 5 = .ok (.ifCond .eq 12, 3) := by decide +kernel
theorem dX2_at_8 : decode cX2_at 8 = .ok (.aload_n 0, 1) := by decide +kernel
theorem dX2_at_9 : decode cX2_at 9 = .ok (.getfield 9, 3) := by decide +kernel
theorem dX2_at_12 : decode cX2_at 12 = .ok (.iload_n 1, 1) := by decide +kernel
theorem dX2_at_13 : decode cX2_at 13 = .ok (.iaload, 1) := by decide +kernel
theorem dX2_at_14 : decode cX2_at 14 = .ok (.goto 4, 3) := by decide +kernel
theorem dX2_at_17 : decode cX2_at 17 = .ok (.iconst (-1), 1) := by decide +kernel
theorem dX2_at_18 : decode cX2_at 18 = .ok (.ireturn, 1) := by decide +kernel
theorem dX2_isFull_0 : decode cX2_isFull 0 = .ok (.aload_n 0, 1) := by decide +kernel
theorem dX2_isFull_1 : decode cX2_isFull 1 = .ok (.getfield 15, 3) := by decide +kernel
theorem dX2_isFull_4 : decode cX2_isFull 4 = .ok (.aload_n 0, 1) := by decide +kernel
theorem dX2_isFull_5 : decode cX2_isFull 5 = .ok (.getfield 9, 3) := by decide +kernel
theorem dX2_isFull_8 : decode cX2_isFull 8 = .ok (.arraylength, 1) := by decide +kernel
theorem dX2_isFull_9 : decode cX2_isFull 9 = .ok (.if_icmp .lt 7, 3) := by decide +kernel
theorem dX2_isFull_12 : decode cX2_isFull 12 = .ok (.iconst 1, 1) := by decide +kernel
theorem dX2_isFull_13 : decode cX2_isFull 13 = .ok (.goto 4, 3) := by decide +kernel
theorem dX2_isFull_16 : decode cX2_isFull 16 = .ok (.iconst 0, 1) := by decide +kernel
theorem dX2_isFull_17 : decode cX2_isFull 17 = .ok (.ireturn, 1) := by decide +kernel
theorem dX2_insert_0 : decode cX2_insert 0 = .ok (.iload_n 1, 1) := by decide +kernel
theorem dX2_insert_1 : decode cX2_insert 1 = .ok (.ifCond .lt 18, 3) := by decide +kernel
theorem dX2_insert_4 : decode cX2_insert 4 = .ok (.iload_n 1, 1) := by decide +kernel
theorem dX2_insert_5 : decode cX2_insert 5 = .ok (.aload_n 0, 1) := by decide +kernel
theorem dX2_insert_6 : decode cX2_insert 6 = .ok (.getfield 15, 3) := by decide +kernel
theorem dX2_insert_9 : decode cX2_insert 9 = .ok (.if_icmp .gt 10, 3) := by decide +kernel
theorem dX2_insert_12 : decode cX2_insert 12 = .ok (.aload_n 0, 1) := by decide +kernel
theorem dX2_insert_13 : decode cX2_insert 13 = .ok (.invokevirtual 23, 3) := by decide +kernel
theorem dX2_insert_16 : decode cX2_insert 16 = .ok (.ifCond .eq 4, 3) := by decide +kernel
theorem dX2_insert_19 : decode cX2_insert 19 = .ok (.return_, 1) := by decide +kernel
theorem dX2_insert_20 : decode cX2_insert 20 = .ok (.aload_n 0, 1) := by decide +kernel
theorem dX2_insert_21 : decode cX2_insert 21 = .ok (.getfield 15, 3) := by decide +kernel
theorem dX2_insert_24 : decode cX2_insert 24 = .ok (.istore_n 3, 1) := by decide +kernel
theorem dX2_insert_25 : decode cX2_insert 25 = .ok (.iload_n 3, 1) := by decide +kernel
theorem dX2_insert_26 : decode cX2_insert 26 = .ok (.iload_n 1, 1) := by decide +kernel
theorem dX2_insert_27 : decode cX2_insert 27 = .ok (.if_icmp .le 23, 3) := by decide +kernel
theorem dX2_insert_30 : decode cX2_insert 30 = .ok (.aload_n 0, 1) := by decide +kernel
theorem dX2_insert_31 : decode cX2_insert 31 = .ok (.getfield 9, 3) := by decide +kernel
theorem dX2_insert_34 : decode cX2_insert 34 = .ok (.iload_n 3, 1) := by decide +kernel
theorem dX2_insert_35 : decode cX2_insert 35 = .ok (.aload_n 0, 1) := by decide +kernel
theorem dX2_insert_36 : decode cX2_insert 36 = .ok (.getfield 9, 3) := by decide +kernel
theorem dX2_insert_39 : decode cX2_insert 39 = .ok (.iload_n 3, 1) := by decide +kernel
theorem dX2_insert_40 : decode cX2_insert 40 = .ok (.iconst 1, 1) := by decide +kernel
theorem dX2_insert_41 : decode cX2_insert 41 = .ok (.isub, 1) := by decide +kernel
theorem dX2_insert_42 : decode cX2_insert 42 = .ok (.iaload, 1) := by decide +kernel
theorem dX2_insert_43 : decode cX2_insert 43 = .ok (.iastore, 1) := by decide +kernel
theorem dX2_insert_44 : decode cX2_insert 44 = .ok (.iinc 3 (-1), 3) := by decide +kernel
theorem dX2_insert_47 : decode cX2_insert 47 = .ok (.goto (-22), 3) := by decide +kernel
theorem dX2_insert_50 : decode cX2_insert 50 = .ok (.aload_n 0, 1) := by decide +kernel
theorem dX2_insert_51 : decode cX2_insert 51 = .ok (.getfield 9, 3) := by decide +kernel
theorem dX2_insert_54 : decode cX2_insert 54 = .ok (.iload_n 1, 1) := by decide +kernel
theorem dX2_insert_55 : decode cX2_insert 55 = .ok (.iload_n 2, 1) := by decide +kernel
theorem dX2_insert_56 : decode cX2_insert 56 = .ok (.iastore, 1) := by decide +kernel
theorem dX2_insert_57 : decode cX2_insert 57 = .ok (.aload_n 0, 1) := by decide +kernel
theorem dX2_insert_58 : decode cX2_insert 58 = .ok (.dup, 1) := by decide +kernel
theorem dX2_insert_59 : decode cX2_insert 59 = .ok (.getfield 15, 3) := by decide +kernel
theorem dX2_insert_62 : decode cX2_insert 62 = .ok (.iconst 1, 1) := by decide +kernel
theorem dX2_insert_63 : decode cX2_insert 63 = .ok (.iadd, 1) := by decide +kernel
theorem dX2_insert_64 : decode cX2_insert 64 = .ok (.putfield 15, 3) := by decide +kernel
theorem dX2_insert_67 : decode cX2_insert 67 = .ok (.return_, 1) := by decide +kernel
theorem dX2_remove_0 : decode cX2_remove 0 = .ok (.aload_n 0, 1) := by decide +kernel
theorem dX2_remove_1 : decode cX2_remove 1 = .ok (.iload_n 1, 1) := by decide +kernel
theorem dX2_remove_2 : decode cX2_remove 2 = .ok (.invokevirtual 19, 3) := by decide +kernel
theorem dX2_remove_5 : decode cX2_remove 5 = .ok (.ifCond .ne 4, 3) := by decide +kernel
theorem dX2_remove_8 : decode cX2_remove 8 = .ok (.return_, 1) := by decide +kernel
theorem dX2_remove_9 : decode cX2_remove 9 = .ok (.iload_n 1, 1) := by decide +kernel
theorem dX2_remove_10 : decode cX2_remove 10 = .ok (.istore_n 2, 1) := by decide +kernel
theorem dX2_remove_11 : decode cX2_remove 11 = .ok (.iload_n 2, 1) := by decide +kernel
theorem dX2_remove_12 : decode cX2_remove 12 = .ok (.iconst 1, 1) := by decide +kernel
theorem dX2_remove_13 : decode cX2_remove 13 = .ok (.iadd, 1) := by decide +kernel
theorem dX2_remove_14 : decode cX2_remove 14 = .ok (.aload_n 0, 1) := by decide +kernel
theorem dX2_remove_15 : decode cX2_remove 15 = .ok (.getfield 15, 3) := by decide +kernel
theorem dX2_remove_18 : decode cX2_remove 18 = .ok (.if_icmp .ge 34, 3) := by decide +kernel
theorem dX2_remove_21 : decode cX2_remove 21 = .ok (.iload_n 2, 1) := by decide +kernel
theorem dX2_remove_22 : decode cX2_remove 22 = .ok (.iconst 1, 1) := by decide +kernel
theorem dX2_remove_23 : decode cX2_remove 23 = .ok (.iadd, 1) := by decide +kernel
theorem dX2_remove_24 : decode cX2_remove 24 = .ok (.aload_n 0, 1) := by decide +kernel
theorem dX2_remove_25 : decode cX2_remove 25 = .ok (.getfield 9, 3) := by decide +kernel
theorem dX2_remove_28 : decode cX2_remove 28 = .ok (.arraylength, 1) := by decide +kernel
theorem dX2_remove_29 : decode cX2_remove 29 = .ok (.if_icmp .ge 23, 3) := by decide +kernel
theorem dX2_remove_32 : decode cX2_remove 32 = .ok (.aload_n 0, 1) := by decide +kernel
theorem dX2_remove_33 : decode cX2_remove 33 = .ok (.getfield 9, 3) := by decide +kernel
theorem dX2_remove_36 : decode cX2_remove 36 = .ok (.iload_n 2, 1) := by decide +kernel
theorem dX2_remove_37 : decode cX2_remove 37 = .ok (.aload_n 0, 1) := by decide +kernel
theorem dX2_remove_38 : decode cX2_remove 38 = .ok (.getfield 9, 3) := by decide +kernel
theorem dX2_remove_41 : decode cX2_remove 41 = .ok (.iload_n 2, 1) := by decide +kernel
theorem dX2_remove_42 : decode cX2_remove 42 = .ok (.iconst 1, 1) := by decide +kernel
theorem dX2_remove_43 : decode cX2_remove 43 = .ok (.iadd, 1) := by decide +kernel
theorem dX2_remove_44 : decode cX2_remove 44 = .ok (.iaload, 1) := by decide +kernel
theorem dX2_remove_45 : decode cX2_remove 45 = .ok (.iastore, 1) := by decide +kernel
theorem dX2_remove_46 : decode cX2_remove 46 = .ok (.iinc 2 1, 3) := by decide +kernel
theorem dX2_remove_49 : decode cX2_remove 49 = .ok (.goto (-38), 3) := by decide +kernel
theorem dX2_remove_52 : decode cX2_remove 52 = .ok (.aload_n 0, 1) := by decide +kernel
theorem dX2_remove_53 : decode cX2_remove 53 = .ok (.dup, 1) := by decide +kernel
theorem dX2_remove_54 : decode cX2_remove 54 = .ok (.getfield 15, 3) := by decide +kernel
theorem dX2_remove_57 : decode cX2_remove 57 = .ok (.iconst 1, 1) := by decide +kernel
theorem dX2_remove_58 : decode cX2_remove 58 = .ok (.isub, 1) := by decide +kernel
theorem dX2_remove_59 : decode cX2_remove 59 = .ok (.putfield 15, 3) := by decide +kernel
theorem dX2_remove_62 : decode cX2_remove 62 = .ok (.return_, 1) := by decide +kernel
theorem dX2_empty_0 : decode cX2_empty 0 = .ok (.aload_n 0, 1) := by decide +kernel
theorem dX2_empty_1 : decode cX2_empty 1 = .ok (.iconst 0, 1) := by decide +kernel
theorem dX2_empty_2 : decode cX2_empty 2 = .ok (.putfield 15, 3) := by decide +kernel
theorem dX2_empty_5 : decode cX2_empty 5 = .ok (.return_, 1) := by decide +kernel
theorem dX2_become_0 : decode cX2_become 0 = .ok (.iconst 0, 1) := by decide +kernel
theorem dX2_become_1 : decode cX2_become 1 = .ok (.istore_n 2, 1) := by decide +kernel
theorem dX2_become_2 : decode cX2_become 2 = .ok (.iload_n 2, 1) := by decide +kernel
theorem dX2_become_3 : decode cX2_become 3 = .ok (.aload_n 1, 1) := by decide +kernel
theorem dX2_become_4 : decode cX2_become 4 = .ok (.getfield 15, 3) := by decide +kernel
theorem dX2_become_7 : decode cX2_become 7 = .ok (.if_icmp .ge 29, 3) := by decide +kernel
theorem dX2_become_10 : decode cX2_become 10 = .ok (.iload_n 2, 1) := by decide +kernel
theorem dX2_become_11 : decode cX2_become 11 = .ok (.aload_n 0, 1) := by decide +kernel
theorem dX2_become_12 : decode cX2_become 12 = .ok (.getfield 9, 3) := by decide +kernel
theorem dX2_become_15 : decode cX2_become 15 = .ok (.arraylength, 1) := by decide +kernel
theorem dX2_become_16 : decode cX2_become 16 = .ok (.if_icmp .ge 20, 3) := by decide +kernel
theorem dX2_become_19 : decode cX2_become 19 = .ok (.aload_n 0, 1) := by decide +kernel
theorem dX2_become_20 : decode cX2_become 20 = .ok (.getfield 9, 3) := by decide +kernel
theorem dX2_become_23 : decode cX2_become 23 = .ok (.iload_n 2, 1) := by decide +kernel
theorem dX2_become_24 : decode cX2_become 24 = .ok (.aload_n 1, 1) := by decide +kernel
theorem dX2_become_25 : decode cX2_become 25 = .ok (.iload_n 2, 1) := by decide +kernel
theorem dX2_become_26 : decode cX2_become 26 = .ok (.invokevirtual 27, 3) := by decide +kernel
theorem dX2_become_29 : decode cX2_become 29 = .ok (.iastore, 1) := by decide +kernel
theorem dX2_become_30 : decode cX2_become 30 = .ok (.iinc 2 1, 3) := by decide +kernel
theorem dX2_become_33 : decode cX2_become 33 = .ok (.goto (-31), 3) := by decide +kernel
theorem dX2_become_36 : decode cX2_become 36 = .ok (.aload_n 0, 1) := by decide +kernel
theorem dX2_become_37 : decode cX2_become 37 = .ok (.aload_n 1, 1) := by decide +kernel
theorem dX2_become_38 : decode cX2_become 38 = .ok (.getfield 15, 3) := by decide +kernel
theorem dX2_become_41 : decode cX2_become 41 = .ok (.putfield 15, 3) := by decide +kernel
theorem dX2_become_44 : decode cX2_become 44 = .ok (.return_, 1) := by decide +kernel
theorem dX3_init_0 : decode cX3_init 0 = .ok (.aload_n 0, 1) := by decide +kernel
theorem dX3_init_1 : decode cX3_init 1 = .ok (.invokespecial 1, 3) := by decide +kernel
theorem dX3_init_4 : decode cX3_init 4 = .ok (.aload_n 0, 1) := by decide +kernel
theorem dX3_init_5 : decode cX3_init 5 = .ok (.iload_n 1, 1) := by decide +kernel
theorem dX3_init_6 : decode cX3_init 6 = .ok (.putfield 7, 3) := by decide +kernel
theorem dX3_init_9 : decode cX3_init 9 = .ok (.aload_n 0, 1) := by decide +kernel
theorem dX3_init_10 : decode cX3_init 10 = .ok (.iload_n 2, 1) := by decide +kernel
theorem dX3_init_11 : decode cX3_init 11 = .ok (.putfield 13, 3) := by decide +kernel
theorem dX3_init_14 : decode cX3_init 14 = .ok (.aload_n 0, 1) := by decide +kernel
theorem dX3_init_15 : decode cX3_init 15 = .ok (.iload_n 3, 1) := by decide +kernel
theorem dX3_init_16 : decode cX3_init 16 = .ok (.putfield 16, 3) := by decide +kernel
theorem dX3_init_19 : decode cX3_init 19 = .ok (.aload_n 0, 1) := by decide +kernel
theorem dX3_init_20 : decode cX3_init 20 = .ok (.iload 4, 2) := by decide +kernel
theorem dX3_init_22 : decode cX3_init 22 = .ok (.putfield 19, 3) := by decide +kernel
theorem dX3_init_25 : decode cX3_init 25 = .ok (.return_, 1) := by decide +kernel
theorem dX3_isInForce_0 : decode cX3_isInForce 0 = .ok (.iload_n 1, 1) := by decide +kernel
theorem dX3_isInForce_1 : decode cX3_isInForce 1 = .ok (.aload_n 0, 1) := by decide +kernel
theorem dX3_isInForce_2 : decode cX3_isInForce 2 = .ok (.getfield 7, 3) := by decide +kernel
theorem dX3_isInForce_5 : decode cX3_isInForce 5 = .ok (.if_icmp .ne 23, 3) := by decide +kernel
theorem dX3_isInForce_8 : decode cX3_isInForce 8 = .ok (.iload_n 2, 1) := by decide +kernel
theorem dX3_isInForce_9 : decode cX3_isInForce 9 = .ok (.aload_n 0, 1) := by decide +kernel
theorem dX3_isInForce_10 : decode cX3_isInForce 10 = .ok (.getfield 16, 3) := by decide +kernel
theorem dX3_isInForce_13 : decode cX3_isInForce 13 = .ok (.if_icmp .lt 15, 3) := by decide +kernel
theorem dX3_isInForce_16 : decode cX3_isInForce 16 = .ok (.iload_n 2, 1) := by decide +kernel
theorem dX3_isInForce_17 : decode cX3_isInForce 17 = .ok (.aload_n 0, 1) := by decide +kernel
theorem dX3_isInForce_18 : decode cX3_isInForce 18 = .ok (.getfield 19, 3) := by decide +kernel
theorem dX3_isInForce_21 : decode cX3_isInForce 21 = .ok (.if_icmp .gt 7, 3) := by decide +kernel
theorem dX3_isInForce_24 : decode cX3_isInForce 24 = .ok (.iconst 1, 1) := by decide +kernel
theorem dX3_isInForce_25 : decode cX3_isInForce 25 = .ok (.goto 4, 3) := by decide +kernel
theorem dX3_isInForce_28 : decode cX3_isInForce 28 = .ok (.iconst 0, 1) := by decide +kernel
theorem dX3_isInForce_29 : decode cX3_isInForce 29 = .ok (.ireturn, 1) := by decide +kernel
theorem dX4_init_0 : decode cX4_init 0 = .ok (.aload_n 0, 1) := by decide +kernel
theorem dX4_init_1 : decode cX4_init 1 = .ok (.invokespecial 3, 3) := by decide +kernel
theorem dX4_init_4 : decode cX4_init 4 = .ok (.aload_n 0, 1) := by decide +kernel
theorem dX4_init_5 : decode cX4_init 5 = .ok (.new 9, 3) := by decide +kernel
theorem dX4_init_8 : decode cX4_init 8 = .ok (.dup, 1) := by decide +kernel
theorem dX4_init_9 : decode cX4_init 9 = .ok (.invokespecial 11, 3) := by decide +kernel
theorem dX4_init_12 : decode cX4_init 12 = .ok (.putfield 12, 3) := by decide +kernel
theorem dX4_init_15 : decode cX4_init 15 = .ok (.aload_n 0, 1) := by decide +kernel
theorem dX4_init_16 : decode cX4_init 16 = .ok (.bipush 8, 2) := by decide +kernel
theorem dX4_init_18 : decode cX4_init 18 = .ok (.bipush 8, 2) := by decide +kernel
theorem dX4_init_20 : decode cX4_init 20 = .ok (.multianewarray 18 2, 4) := by decide +kernel
theorem dX4_init_24 : decode cX4_init 24 = .ok (.putfield 20, 3) := by decide +kernel
theorem dX4_init_27 : decode cX4_init 27 = .ok (.aload_n 0, 1) := by decide +kernel
theorem dX4_init_28 : decode cX4_init 28 = .ok (.sipush 256, 3) := by decide +kernel
theorem dX4_init_31 : decode cX4_init 31 = .ok (.newarray .int, 2) := by decide +kernel
theorem dX4_init_33 : decode cX4_init 33 = .ok (.putfield 23, 3) := by decide +kernel
theorem dX4_init_36 : decode cX4_init 36 = .ok (.return_, 1) := by decide +kernel
theorem dX4_setCuts_0 : decode cX4_setCuts 0 = .ok (.iload_n 1, 1) := by decide +kernel
theorem dX4_setCuts_1 : decode cX4_setCuts 1 = .ok (.invokestatic 27, 3) := by decide +kernel
theorem dX4_setCuts_4 : decode cX4_setCuts 4 = .ok (.ifCond .eq 19, 3) := by decide +kernel
theorem dX4_setCuts_7 : decode cX4_setCuts 7 = .ok (.iload_n 2, 1) := by decide +kernel
theorem dX4_setCuts_8 : decode cX4_setCuts 8 = .ok (.invokestatic 27, 3) := by decide +kernel
theorem dX4_setCuts_11 : decode cX4_setCuts 11 = .ok (.ifCond .eq 12, 3) := by decide +kernel
theorem dX4_setCuts_14 : decode cX4_setCuts 14 = .ok (.aload_n 0, 1) := by decide +kernel
theorem dX4_setCuts_15 : decode cX4_setCuts 15 = .ok (.getfield 20, 3) := by decide +kernel
theorem dX4_setCuts_18 : decode cX4_setCuts 18 = .ok (.iload_n 1, 1) := by decide +kernel
theorem dX4_setCuts_19 : decode cX4_setCuts 19 = .ok (.aaload, 1) := by decide +kernel
theorem dX4_setCuts_20 : decode cX4_setCuts 20 = .ok (.iload_n 2, 1) := by decide +kernel
theorem dX4_setCuts_21 : decode cX4_setCuts 21 = .ok (.iload_n 3, 1) := by decide +kernel
theorem dX4_setCuts_22 : decode cX4_setCuts 22 = .ok (.iastore, 1) := by decide +kernel
theorem dX4_setCuts_23 : decode cX4_setCuts 23 = .ok (.return_, 1) := by decide +kernel
theorem dX4_find_0 : decode cX4_find 0 = .ok (.sipush 255, 3) := by decide +kernel
theorem dX4_find_3 : decode cX4_find 3 = .ok (.istore_n 2, 1) := by decide +kernel
theorem dX4_find_4 : decode cX4_find 4 = .ok (.iload_n 2, 1) := by decide +kernel
theorem dX4_find_5 : decode cX4_find 5 = .ok (.ifCond .lt 29, 3) := by decide +kernel
theorem dX4_find_8 : decode cX4_find 8 = .ok (.iload_n 2, 1) := by decide +kernel
theorem dX4_find_9 : decode cX4_find 9 = .ok (.iload_n 1, 1) := by decide +kernel
theorem dX4_find_10 : decode cX4_find 10 = .ok (.iconst (-1), 1) := by decide +kernel
theorem dX4_find_11 : decode cX4_find 11 = .ok (.ixor, 1) := by decide +kernel
theorem dX4_find_12 : decode cX4_find 12 = .ok (.iand, 1) := by decide +kernel
theorem dX4_find_13 : decode cX4_find 13 = .ok (.ifCond .ne 15, 3) := by decide +kernel
theorem dX4_find_16 : decode cX4_find 16 = .ok (.aload_n 0, 1) := by decide +kernel
theorem dX4_find_17 : decode cX4_find 17 = .ok (.getfield 23, 3) := by decide +kernel
theorem dX4_find_20 : decode cX4_find 20 = .ok (.iload_n 2, 1) := by decide +kernel
theorem dX4_find_21 : decode cX4_find 21 = .ok (.aload_n 0, 1) := by decide +kernel
theorem dX4_find_22 : decode cX4_find 22 = .ok (.iload_n 1, 1) := by decide +kernel
theorem dX4_find_23 : decode cX4_find 23 = .ok (.iload_n 2, 1) := by decide +kernel
theorem dX4_find_24 : decode cX4_find 24 = .ok (.invokevirtual 31, 3) := by decide +kernel
theorem dX4_find_27 : decode cX4_find 27 = .ok (.iastore, 1) := by decide +kernel
theorem dX4_find_28 : decode cX4_find 28 = .ok (.iinc 2 (-1), 3) := by decide +kernel
theorem dX4_find_31 : decode cX4_find 31 = .ok (.goto (-27), 3) := by decide +kernel
theorem dX4_find_34 : decode cX4_find 34 = .ok (.aload_n 0, 1) := by decide +kernel
theorem dX4_find_35 : decode cX4_find 35 = .ok (.getfield 12, 3) := by decide +kernel
theorem dX4_find_38 : decode cX4_find 38 = .ok (.invokevirtual 35, 3) := by decide +kernel
theorem dX4_find_41 : decode cX4_find 41 = .ok (.iconst 0, 1) := by decide +kernel
theorem dX4_find_42 : decode cX4_find 42 = .ok (.istore_n 2, 1) := by decide +kernel
theorem dX4_find_43 : decode cX4_find 43 = .ok (.iconst 0, 1) := by decide +kernel
theorem dX4_find_44 : decode cX4_find 44 = .ok (.istore_n 3, 1) := by decide +kernel
theorem dX4_find_45 : decode cX4_find 45 = .ok (.iload_n 3, 1) := by decide +kernel
theorem dX4_find_46 : decode cX4_find 46 = .ok (.bipush 8, 2) := by decide +kernel
theorem dX4_find_48 : decode cX4_find 48 = .ok (.if_icmp .ge 39, 3) := by decide +kernel
theorem dX4_find_51 : decode cX4_find 51 = .ok (.iload_n 2, 1) := by decide +kernel
theorem dX4_find_52 : decode cX4_find 52 = .ok (.iload_n 1, 1) := by decide +kernel
theorem dX4_find_53 : decode cX4_find 53 = .ok (.if_icmp .eq 34, 3) := by decide +kernel
theorem dX4_find_56 : decode cX4_find 56 = .ok (.aload_n 0, 1) := by decide +kernel
theorem dX4_find_57 : decode cX4_find 57 = .ok (.iload_n 1, 1) := by decide +kernel
theorem dX4_find_58 : decode cX4_find 58 = .ok (.iload_n 2, 1) := by decide +kernel
theorem dX4_find_59 : decode cX4_find 59 = .ok (.invokevirtual 38, 3) := by decide +kernel
theorem dX4_find_62 : decode cX4_find 62 = .ok (.istore 4, 2) := by decide +kernel
theorem dX4_find_64 : decode cX4_find 64 = .ok (.aload_n 0, 1) := by decide +kernel
theorem dX4_find_65 : decode cX4_find 65 = .ok (.getfield 12, 3) := by decide +kernel
theorem dX4_find_68 : decode cX4_find 68 = .ok (.iload_n 3, 1) := by decide +kernel
theorem dX4_find_69 : decode cX4_find 69 = .ok (.iload 4, 2) := by decide +kernel
theorem dX4_find_71 : decode cX4_find 71 = .ok (.invokevirtual 41, 3) := by decide +kernel
theorem dX4_find_74 : decode cX4_find 74 = .ok (.iload_n 2, 1) := by decide +kernel
theorem dX4_find_75 : decode cX4_find 75 = .ok (.iconst 1, 1) := by decide +kernel
theorem dX4_find_76 : decode cX4_find 76 = .ok (.iload 4, 2) := by decide +kernel
theorem dX4_find_78 : decode cX4_find 78 = .ok (.ishl, 1) := by decide +kernel
theorem dX4_find_79 : decode cX4_find 79 = .ok (.ior, 1) := by decide +kernel
theorem dX4_find_80 : decode cX4_find 80 = .ok (.istore_n 2, 1) := by decide +kernel
theorem dX4_find_81 : decode cX4_find 81 = .ok (.iinc 3 1, 3) := by decide +kernel
theorem dX4_find_84 : decode cX4_find 84 = .ok (.goto (-39), 3) := by decide +kernel
theorem dX4_find_87 : decode cX4_find 87 = .ok (.aload_n 0, 1) := by decide +kernel
theorem dX4_find_88 : decode cX4_find 88 = .ok (.getfield 23, 3) := by decide +kernel
theorem dX4_find_91 : decode cX4_find 91 = .ok (.iconst 0, 1) := by decide +kernel
theorem dX4_find_92 : decode cX4_find 92 = .ok (.iaload, 1) := by decide +kernel
theorem dX4_find_93 : decode cX4_find 93 = .ok (.ireturn, 1) := by decide +kernel
theorem dX4_fewestBehind_0 : decode cX4_fewestBehind 0 = .ok (.aload_n 0, 1) := by decide +kernel
theorem dX4_fewestBehind_1 : decode cX4_fewestBehind 1 = .ok (.iload_n 1, 1) := by decide +kernel
theorem dX4_fewestBehind_2 : decode cX4_fewestBehind 2 = .ok (.iload_n 2, 1) := by decide +kernel
theorem dX4_fewestBehind_3 : decode cX4_fewestBehind 3 = .ok (.invokevirtual 38, 3) := by decide +kernel
theorem dX4_fewestBehind_6 : decode cX4_fewestBehind 6 = .ok (.istore_n 3, 1) := by decide +kernel
theorem dX4_fewestBehind_7 : decode cX4_fewestBehind 7 = .ok (.iload_n 3, 1) := by decide +kernel
theorem dX4_fewestBehind_8 : decode cX4_fewestBehind 8 = .ok (.iconst (-1), 1) := by decide +kernel
theorem dX4_fewestBehind_9 : decode cX4_fewestBehind 9 = .ok (.if_icmp .ne 7, 3) := by decide +kernel
theorem dX4_fewestBehind_12 : decode cX4_fewestBehind 12 = .ok (.iconst 0, 1) := by decide +kernel
theorem dX4_fewestBehind_13 : decode cX4_fewestBehind 13 = .ok (.goto 9, 3) := by decide +kernel
theorem dX4_fewestBehind_16 : decode cX4_fewestBehind 16 = .ok (.aload_n 0, 1) := by decide +kernel
theorem dX4_fewestBehind_17 : decode cX4_fewestBehind 17 = .ok (.iload_n 3, 1) := by decide +kernel
theorem dX4_fewestBehind_18 : decode cX4_fewestBehind 18 = .ok (.iload_n 2, 1) := by decide +kernel
theorem dX4_fewestBehind_19 : decode cX4_fewestBehind 19 = .ok (.invokevirtual 45, 3) := by decide +kernel
theorem dX4_fewestBehind_22 : decode cX4_fewestBehind 22 = .ok (.ireturn, 1) := by decide +kernel
theorem dX4_nextTown_0 : decode cX4_nextTown 0 = .ok (.iconst (-1), 1) := by decide +kernel
theorem dX4_nextTown_1 : decode cX4_nextTown 1 = .ok (.istore_n 3, 1) := by decide +kernel
theorem dX4_nextTown_2 : decode cX4_nextTown 2 = .ok (.iconst 0, 1) := by decide +kernel
theorem dX4_nextTown_3 : decode cX4_nextTown 3 = .ok (.istore 4, 2) := by decide +kernel
theorem dX4_nextTown_5 : decode cX4_nextTown 5 = .ok (.iload 4, 2) := by decide +kernel
theorem dX4_nextTown_7 : decode cX4_nextTown 7 = .ok (.bipush 8, 2) := by decide +kernel
theorem dX4_nextTown_9 : decode cX4_nextTown 9 = .ok (.if_icmp .ge 47, 3) := by decide +kernel
theorem dX4_nextTown_12 : decode cX4_nextTown 12 = .ok (.iload_n 1, 1) := by decide +kernel
theorem dX4_nextTown_13 : decode cX4_nextTown 13 = .ok (.iload_n 2, 1) := by decide +kernel
theorem dX4_nextTown_14 : decode cX4_nextTown 14 = .ok (.iconst (-1), 1) := by decide +kernel
theorem dX4_nextTown_15 : decode cX4_nextTown 15 = .ok (.ixor, 1) := by decide +kernel
theorem dX4_nextTown_16 : decode cX4_nextTown 16 = .ok (.iand, 1) := by decide +kernel
theorem dX4_nextTown_17 : decode cX4_nextTown 17 = .ok (.i2l, 1) := by decide +kernel
theorem dX4_nextTown_18 : decode cX4_nextTown 18 = .ok (.iload 4, 2) := by decide +kernel
theorem dX4_nextTown_20 : decode cX4_nextTown 20 = .ok (.invokestatic 48, 3) := by decide +kernel
theorem dX4_nextTown_23 : decode cX4_nextTown 23 = .ok (.ifCond .eq 27, 3) := by decide +kernel
theorem dX4_nextTown_26 : decode cX4_nextTown 26 = .ok (.iload_n 3, 1) := by decide +kernel
theorem dX4_nextTown_27 : decode cX4_nextTown 27 = .ok (.iconst (-1), 1) := by decide +kernel
theorem dX4_nextTown_28 : decode cX4_nextTown 28 = .ok (.if_icmp .eq 19, 3) := by decide +kernel
theorem dX4_nextTown_31 : decode cX4_nextTown 31 = .ok (.aload_n 0, 1) := by decide +kernel
theorem dX4_nextTown_32 : decode cX4_nextTown 32 = .ok (.iload 4, 2) := by decide +kernel
theorem dX4_nextTown_34 : decode cX4_nextTown 34 = .ok (.iload_n 2, 1) := by decide +kernel
theorem dX4_nextTown_35 : decode cX4_nextTown 35 = .ok (.invokevirtual 45, 3) := by decide +kernel
theorem dX4_nextTown_38 : decode cX4_nextTown 38 = .ok (.aload_n 0, 1) := by decide +kernel
theorem dX4_nextTown_39 : decode cX4_nextTown 39 = .ok (.iload_n 3, 1) := by decide +kernel
theorem dX4_nextTown_40 : decode cX4_nextTown 40 = .ok (.iload_n 2, 1) := by decide +kernel
theorem dX4_nextTown_41 : decode cX4_nextTown 41 = .ok (.invokevirtual 45, 3) := by decide +kernel
theorem dX4_nextTown_44 : decode cX4_nextTown 44 = .ok (.if_icmp .ge 6, 3) := by decide +kernel
theorem dX4_nextTown_47 : decode cX4_nextTown 47 = .ok (.iload 4, 2) := by decide +kernel
theorem dX4_nextTown_49 : decode cX4_nextTown 49 = .ok (.istore_n 3, 1) := by decide +kernel
theorem dX4_nextTown_50 : decode cX4_nextTown 50 = .ok (.iinc 4 1, 3) := by decide +kernel
theorem dX4_nextTown_53 : decode cX4_nextTown 53 = .ok (.goto (-48), 3) := by decide +kernel
theorem dX4_nextTown_56 : decode cX4_nextTown 56 = .ok (.iload_n 3, 1) := by decide +kernel
theorem dX4_nextTown_57 : decode cX4_nextTown 57 = .ok (.ireturn, 1) := by decide +kernel
theorem dX4_cutsBy_0 : decode cX4_cutsBy 0 = .ok (.iload_n 2, 1) := by decide +kernel
theorem dX4_cutsBy_1 : decode cX4_cutsBy 1 = .ok (.invokestatic 52, 3) := by decide +kernel
theorem dX4_cutsBy_4 : decode cX4_cutsBy 4 = .ok (.istore_n 3, 1) := by decide +kernel
theorem dX4_cutsBy_5 : decode cX4_cutsBy 5 = .ok (.iload_n 2, 1) := by decide +kernel
theorem dX4_cutsBy_6 : decode cX4_cutsBy 6 = .ok (.iconst 1, 1) := by decide +kernel
theorem dX4_cutsBy_7 : decode cX4_cutsBy 7 = .ok (.iload_n 1, 1) := by decide +kernel
theorem dX4_cutsBy_8 : decode cX4_cutsBy 8 = .ok (.ishl, 1) := by decide +kernel
theorem dX4_cutsBy_9 : decode cX4_cutsBy 9 = .ok (.ior, 1) := by decide +kernel
theorem dX4_cutsBy_10 : decode cX4_cutsBy 10 = .ok (.istore 4, 2) := by decide +kernel
theorem dX4_cutsBy_12 : decode cX4_cutsBy 12 = .ok (.iload_n 1, 1) := by decide +kernel
theorem dX4_cutsBy_13 : decode cX4_cutsBy 13 = .ok (.invokestatic 27, 3) := by decide +kernel
theorem dX4_cutsBy_16 : decode cX4_cutsBy 16 = .ok (.ifCond .eq 23, 3) := by decide +kernel
theorem dX4_cutsBy_19 : decode cX4_cutsBy 19 = .ok (.iload_n 3, 1) := by decide +kernel
theorem dX4_cutsBy_20 : decode cX4_cutsBy 20 = .ok (.invokestatic 27, 3) := by decide +kernel
theorem dX4_cutsBy_23 : decode cX4_cutsBy 23 = .ok (.ifCond .eq 16, 3) := by decide +kernel
theorem dX4_cutsBy_26 : decode cX4_cutsBy 26 = .ok (.iload 4, 2) := by decide +kernel
theorem dX4_cutsBy_28 : decode cX4_cutsBy 28 = .ok (.ifCond .lt 11, 3) := by decide +kernel
theorem dX4_cutsBy_31 : decode cX4_cutsBy 31 = .ok (.iload 4, 2) := by decide +kernel
theorem dX4_cutsBy_33 : decode cX4_cutsBy 33 = .ok (.sipush 255, 3) := by decide +kernel
theorem dX4_cutsBy_36 : decode cX4_cutsBy 36 = .ok (.if_icmp .le 5, 3) := by decide +kernel
theorem dX4_cutsBy_39 : decode cX4_cutsBy 39 = .ok (.iconst 0, 1) := by decide +kernel
theorem dX4_cutsBy_40 : decode cX4_cutsBy 40 = .ok (.ireturn, 1) := by decide +kernel
theorem dX4_cutsBy_41 : decode cX4_cutsBy 41 = .ok (.aload_n 0, 1) := by decide +kernel
theorem dX4_cutsBy_42 : decode cX4_cutsBy 42 = .ok (.getfield 20, 3) := by decide +kernel
theorem dX4_cutsBy_45 : decode cX4_cutsBy 45 = .ok (.iload_n 1, 1) := by decide +kernel
theorem dX4_cutsBy_46 : decode cX4_cutsBy 46 = .ok (.aaload, 1) := by decide +kernel
theorem dX4_cutsBy_47 : decode cX4_cutsBy 47 = .ok (.iload_n 3, 1) := by decide +kernel
theorem dX4_cutsBy_48 : decode cX4_cutsBy 48 = .ok (.iaload, 1) := by decide +kernel
theorem dX4_cutsBy_49 : decode cX4_cutsBy 49 = .ok (.aload_n 0, 1) := by decide +kernel
theorem dX4_cutsBy_50 : decode cX4_cutsBy 50 = .ok (.getfield 23, 3) := by decide +kernel
theorem dX4_cutsBy_53 : decode cX4_cutsBy 53 = .ok (.iload 4, 2) := by decide +kernel
theorem dX4_cutsBy_55 : decode cX4_cutsBy 55 = .ok (.iaload, 1) := by decide +kernel
theorem dX4_cutsBy_56 : decode cX4_cutsBy 56 = .ok (.iadd, 1) := by decide +kernel
theorem dX4_cutsBy_57 : decode cX4_cutsBy 57 = .ok (.ireturn, 1) := by decide +kernel
