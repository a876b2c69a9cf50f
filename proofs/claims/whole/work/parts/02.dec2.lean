theorem dX5_init_0 : decode cX5_init 0 = .ok (.aload_n 0, 1) := by decide +kernel
theorem dX5_init_1 : decode cX5_init 1 = .ok (.invokespecial 1, 3) := by decide +kernel
theorem dX5_init_4 : decode cX5_init 4 = .ok (.aload_n 0, 1) := by decide +kernel
theorem dX5_init_5 : decode cX5_init 5 = .ok (.bipush 8, 2) := by decide +kernel
theorem dX5_init_7 : decode cX5_init 7 = .ok (.anewarray 9, 3) := by decide +kernel
theorem dX5_init_10 : decode cX5_init 10 = .ok (.putfield 11, 3) := by decide +kernel
theorem dX5_init_13 : decode cX5_init 13 = .ok (.aload_n 0, 1) := by decide +kernel
theorem dX5_init_14 : decode cX5_init 14 = .ok (.iconst 4, 1) := by decide +kernel
theorem dX5_init_15 : decode cX5_init 15 = .ok (.anewarray 9, 3) := by decide +kernel
theorem dX5_init_18 : decode cX5_init 18 = .ok (.putfield 15, 3) := by decide +kernel
theorem dX5_init_21 : decode cX5_init 21 = .ok (.aload_n 0, 1) := by decide +kernel
theorem dX5_init_22 : decode cX5_init 22 = .ok (.bipush 12, 2) := by decide +kernel
theorem dX5_init_24 : decode cX5_init 24 = .ok (.anewarray 18, 3) := by decide +kernel
theorem dX5_init_27 : decode cX5_init 27 = .ok (.putfield 20, 3) := by decide +kernel
theorem dX5_init_30 : decode cX5_init 30 = .ok (.aload_n 0, 1) := by decide +kernel
theorem dX5_init_31 : decode cX5_init 31 = .ok (.bipush 20, 2) := by decide +kernel
theorem dX5_init_33 : decode cX5_init 33 = .ok (.anewarray 24, 3) := by decide +kernel
theorem dX5_init_36 : decode cX5_init 36 = .ok (.putfield 26, 3) := by decide +kernel
theorem dX5_init_39 : decode cX5_init 39 = .ok (.aload_n 0, 1) := by decide +kernel
theorem dX5_init_40 : decode cX5_init 40 = .ok (.bipush 100, 2) := by decide +kernel
theorem dX5_init_42 : decode cX5_init 42 = .ok (.newarray .int, 2) := by decide +kernel
theorem dX5_init_44 : decode cX5_init 44 = .ok (.putfield 30, 3) := by decide +kernel
theorem dX5_init_47 : decode cX5_init 47 = .ok (.aload_n 0, 1) := by decide +kernel
theorem dX5_init_48 : decode cX5_init 48 = .ok (.new 34, 3) := by decide +kernel
theorem dX5_init_51 : decode cX5_init 51 = .ok (.dup, 1) := by decide +kernel
theorem dX5_init_52 : decode cX5_init 52 = .ok (.invokespecial 36, 3) := by decide +kernel
theorem dX5_init_55 : decode cX5_init 55 = .ok (.putfield 37, 3) := by decide +kernel
theorem dX5_init_58 : decode cX5_init 58 = .ok (.aload_n 0, 1) := by decide +kernel
theorem dX5_init_59 : decode cX5_init 59 = .ok (.new 41, 3) := by decide +kernel
theorem dX5_init_62 : decode cX5_init 62 = .ok (.dup, 1) := by decide +kernel
theorem dX5_init_63 : decode cX5_init 63 = .ok (.invokespecial 43, 3) := by decide +kernel
theorem dX5_init_66 : decode cX5_init 66 = .ok (.putfield 44, 3) := by decide +kernel
theorem dX5_init_69 : decode cX5_init 69 = .ok (.aload_n 0, 1) := by decide +kernel
theorem dX5_init_70 : decode cX5_init 70 = .ok (.new 9, 3) := by decide +kernel
theorem dX5_init_73 : decode cX5_init 73 = .ok (.dup, 1) := by decide +kernel
theorem dX5_init_74 : decode cX5_init 74 = .ok (.invokespecial 48, 3) := by decide +kernel
theorem dX5_init_77 : decode cX5_init 77 = .ok (.putfield 49, 3) := by decide +kernel
theorem dX5_init_80 : decode cX5_init 80 = .ok (.aload_n 0, 1) := by decide +kernel
theorem dX5_init_81 : decode cX5_init 81 = .ok (.iconst 0, 1) := by decide +kernel
theorem dX5_init_82 : decode cX5_init 82 = .ok (.putfield 53, 3) := by decide +kernel
theorem dX5_init_85 : decode cX5_init 85 = .ok (.aload_n 0, 1) := by decide +kernel
theorem dX5_init_86 : decode cX5_init 86 = .ok (.iconst 0, 1) := by decide +kernel
theorem dX5_init_87 : decode cX5_init 87 = .ok (.putfield 57, 3) := by decide +kernel
theorem dX5_init_90 : decode cX5_init 90 = .ok (.iconst 0, 1) := by decide +kernel
theorem dX5_init_91 : decode cX5_init 91 = .ok (.istore_n 1, 1) := by decide +kernel
theorem dX5_init_92 : decode cX5_init 92 = .ok (.iload_n 1, 1) := by decide +kernel
theorem dX5_init_93 : decode cX5_init 93 = .ok (.bipush 8, 2) := by decide +kernel
theorem dX5_init_95 : decode cX5_init 95 = .ok (.if_icmp .ge 22, 3) := by decide +kernel
theorem dX5_init_98 : decode cX5_init 98 = .ok (.aload_n 0, 1) := by decide +kernel
theorem dX5_init_99 : decode cX5_init 99 = .ok (.getfield 11, 3) := by decide +kernel
theorem dX5_init_102 : decode cX5_init 102 = .ok (.iload_n 1, 1) := by decide +kernel
theorem dX5_init_103 : decode cX5_init 103 = .ok (.new 9, 3) := by decide +kernel
theorem dX5_init_106 : decode cX5_init 106 = .ok (.dup, 1) := by decide +kernel
theorem dX5_init_107 : decode cX5_init 107 = .ok (.invokespecial 48, 3) := by decide +kernel
theorem dX5_init_110 : decode cX5_init 110 = .ok (.aastore, 1) := by decide +kernel
theorem dX5_init_111 : decode cX5_init 111 = .ok (.iinc 1 1, 3) := by decide +kernel
theorem dX5_init_114 : decode cX5_init 114 = .ok (.goto (-22), 3) := by decide +kernel
theorem dX5_init_117 : decode cX5_init 117 = .ok (.iconst 0, 1) := by decide +kernel
theorem dX5_init_118 : decode cX5_init 118 = .ok (.istore_n 1, 1) := by decide +kernel
theorem dX5_init_119 : decode cX5_init 119 = .ok (.iload_n 1, 1) := by decide +kernel
theorem dX5_init_120 : decode cX5_init 120 = .ok (.iconst 4, 1) := by decide +kernel
theorem dX5_init_121 : decode cX5_init 121 = .ok (.if_icmp .ge 22, 3) := by decide +kernel
theorem dX5_init_124 : decode cX5_init 124 = .ok (.aload_n 0, 1) := by decide +kernel
theorem dX5_init_125 : decode cX5_init 125 = .ok (.getfield 15, 3) := by decide +kernel
theorem dX5_init_128 : decode cX5_init 128 = .ok (.iload_n 1, 1) := by decide +kernel
theorem dX5_init_129 : decode cX5_init 129 = .ok (.new 9, 3) := by decide +kernel
theorem dX5_init_132 : decode cX5_init 132 = .ok (.dup, 1) := by decide +kernel
theorem dX5_init_133 : decode cX5_init 133 = .ok (.invokespecial 48, 3) := by decide +kernel
theorem dX5_init_136 : decode cX5_init 136 = .ok (.aastore, 1) := by decide +kernel
theorem dX5_init_137 : decode cX5_init 137 = .ok (.iinc 1 1, 3) := by decide +kernel
theorem dX5_init_140 : decode cX5_init 140 = .ok (.goto (-21), 3) := by decide +kernel
theorem dX5_init_143 : decode cX5_init 143 = .ok (.return_, 1) := by decide +kernel
theorem dX5_put_0 : decode cX5_put 0 = .ok (.aload_n 0, 1) := by decide +kernel
theorem dX5_put_1 : decode cX5_put 1 = .ok (.getfield 11, 3) := by decide +kernel
theorem dX5_put_4 : decode cX5_put 4 = .ok (.iload_n 1, 1) := by decide +kernel
theorem dX5_put_5 : decode cX5_put 5 = .ok (.invokestatic 60, 3) := by decide +kernel
theorem dX5_put_8 : decode cX5_put 8 = .ok (.astore 4, 2) := by decide +kernel
theorem dX5_put_10 : decode cX5_put 10 = .ok (.aload 4, 2) := by decide +kernel
theorem dX5_put_12 : decode cX5_put 12 = .ok (.ifnull 23, 3) := by decide +kernel
theorem dX5_put_15 : decode cX5_put 15 = .ok (.iload_n 2, 1) := by decide +kernel
theorem dX5_put_16 : decode cX5_put 16 = .ok (.ifCond .lt 19, 3) := by decide +kernel
theorem dX5_put_19 : decode cX5_put 19 = .ok (.iload_n 2, 1) := by decide +kernel
theorem dX5_put_20 : decode cX5_put 20 = .ok (.aload 4, 2) := by decide +kernel
theorem dX5_put_22 : decode cX5_put 22 = .ok (.getfield 64, 3) := by decide +kernel
theorem dX5_put_25 : decode cX5_put 25 = .ok (.if_icmp .gt 10, 3) := by decide +kernel
theorem dX5_put_28 : decode cX5_put 28 = .ok (.iload_n 3, 1) := by decide +kernel
theorem dX5_put_29 : decode cX5_put 29 = .ok (.invokestatic 67, 3) := by decide +kernel
theorem dX5_put_32 : decode cX5_put 32 = .ok (.ifCond .ne 6, 3) := by decide +kernel
theorem dX5_put_35 : decode cX5_put 35 = .ok (.bipush (-2), 2) := by decide +kernel
theorem dX5_put_37 : decode cX5_put 37 = .ok (.ireturn, 1) := by decide +kernel
theorem dX5_put_38 : decode cX5_put 38 = .ok (.aload 4, 2) := by decide +kernel
theorem dX5_put_40 : decode cX5_put 40 = .ok (.invokevirtual 71, 3) := by decide +kernel
theorem dX5_put_43 : decode cX5_put 43 = .ok (.ifCond .eq 6, 3) := by decide +kernel
theorem dX5_put_46 : decode cX5_put 46 = .ok (.bipush (-4), 2) := by decide +kernel
theorem dX5_put_48 : decode cX5_put 48 = .ok (.ireturn, 1) := by decide +kernel
theorem dX5_put_49 : decode cX5_put 49 = .ok (.aload 4, 2) := by decide +kernel
theorem dX5_put_51 : decode cX5_put 51 = .ok (.iload_n 2, 1) := by decide +kernel
theorem dX5_put_52 : decode cX5_put 52 = .ok (.iload_n 3, 1) := by decide +kernel
theorem dX5_put_53 : decode cX5_put 53 = .ok (.invokevirtual 75, 3) := by decide +kernel
theorem dX5_put_56 : decode cX5_put 56 = .ok (.aload 4, 2) := by decide +kernel
theorem dX5_put_58 : decode cX5_put 58 = .ok (.getfield 64, 3) := by decide +kernel
theorem dX5_put_61 : decode cX5_put 61 = .ok (.ireturn, 1) := by decide +kernel
theorem dX5_take_0 : decode cX5_take 0 = .ok (.aload_n 0, 1) := by decide +kernel
theorem dX5_take_1 : decode cX5_take 1 = .ok (.getfield 11, 3) := by decide +kernel
theorem dX5_take_4 : decode cX5_take 4 = .ok (.iload_n 1, 1) := by decide +kernel
theorem dX5_take_5 : decode cX5_take 5 = .ok (.invokestatic 60, 3) := by decide +kernel
theorem dX5_take_8 : decode cX5_take 8 = .ok (.astore_n 3, 1) := by decide +kernel
theorem dX5_take_9 : decode cX5_take 9 = .ok (.aload_n 3, 1) := by decide +kernel
theorem dX5_take_10 : decode cX5_take 10 = .ok (.ifnull 11, 3) := by decide +kernel
theorem dX5_take_13 : decode cX5_take 13 = .ok (.aload_n 3, 1) := by decide +kernel
theorem dX5_take_14 : decode cX5_take 14 = .ok (.iload_n 2, 1) := by decide +kernel
theorem dX5_take_15 : decode cX5_take 15 = .ok (.invokevirtual 79, 3) := by decide +kernel
theorem dX5_take_18 : decode cX5_take 18 = .ok (.ifCond .ne 6, 3) := by decide +kernel
theorem dX5_take_21 : decode cX5_take 21 = .ok (.bipush (-2), 2) := by decide +kernel
theorem dX5_take_23 : decode cX5_take 23 = .ok (.ireturn, 1) := by decide +kernel
theorem dX5_take_24 : decode cX5_take 24 = .ok (.aload_n 3, 1) := by decide +kernel
theorem dX5_take_25 : decode cX5_take 25 = .ok (.iload_n 2, 1) := by decide +kernel
theorem dX5_take_26 : decode cX5_take 26 = .ok (.invokevirtual 82, 3) := by decide +kernel
theorem dX5_take_29 : decode cX5_take 29 = .ok (.istore 4, 2) := by decide +kernel
theorem dX5_take_31 : decode cX5_take 31 = .ok (.aload_n 3, 1) := by decide +kernel
theorem dX5_take_32 : decode cX5_take 32 = .ok (.iload_n 2, 1) := by decide +kernel
theorem dX5_take_33 : decode cX5_take 33 = .ok (.invokevirtual 86, 3) := by decide +kernel
theorem dX5_take_36 : decode cX5_take 36 = .ok (.iload 4, 2) := by decide +kernel
theorem dX5_take_38 : decode cX5_take 38 = .ok (.ireturn, 1) := by decide +kernel
theorem dX5_copy_0 : decode cX5_copy 0 = .ok (.aload_n 0, 1) := by decide +kernel
theorem dX5_copy_1 : decode cX5_copy 1 = .ok (.getfield 11, 3) := by decide +kernel
theorem dX5_copy_4 : decode cX5_copy 4 = .ok (.iload_n 1, 1) := by decide +kernel
theorem dX5_copy_5 : decode cX5_copy 5 = .ok (.invokestatic 60, 3) := by decide +kernel
theorem dX5_copy_8 : decode cX5_copy 8 = .ok (.astore_n 3, 1) := by decide +kernel
theorem dX5_copy_9 : decode cX5_copy 9 = .ok (.aload_n 0, 1) := by decide +kernel
theorem dX5_copy_10 : decode cX5_copy 10 = .ok (.getfield 11, 3) := by decide +kernel
theorem dX5_copy_13 : decode cX5_copy 13 = .ok (.iload_n 2, 1) := by decide +kernel
theorem dX5_copy_14 : decode cX5_copy 14 = .ok (.invokestatic 60, 3) := by decide +kernel
theorem dX5_copy_17 : decode cX5_copy 17 = .ok (.astore 4, 2) := by decide +kernel
theorem dX5_copy_19 : decode cX5_copy 19 = .ok (.aload_n 3, 1) := by decide +kernel
theorem dX5_copy_20 : decode cX5_copy 20 = .ok (.ifnull 8, 3) := by decide +kernel
theorem dX5_copy_23 : decode cX5_copy 23 = .ok (.aload 4, 2) := by decide +kernel
theorem dX5_copy_25 : decode cX5_copy 25 = .ok (.ifnonnull 6, 3) := by decide +kernel
theorem dX5_copy_28 : decode cX5_copy 28 = .ok (.bipush (-2), 2) := by decide +kernel
theorem dX5_copy_30 : decode cX5_copy 30 = .ok (.ireturn, 1) := by decide +kernel
theorem dX5_copy_31 : decode cX5_copy 31 = .ok (.aload 4, 2) := by decide +kernel
theorem dX5_copy_33 : decode cX5_copy 33 = .ok (.aload_n 3, 1) := by decide +kernel
theorem dX5_copy_34 : decode cX5_copy 34 = .ok (.invokevirtual 90, 3) := by decide +kernel
theorem dX5_copy_37 : decode cX5_copy 37 = .ok (.aload 4, 2) := by decide +kernel
theorem dX5_copy_39 : decode cX5_copy 39 = .ok (.getfield 64, 3) := by decide +kernel
theorem dX5_copy_42 : decode cX5_copy 42 = .ok (.ireturn, 1) := by decide +kernel
theorem dX5_lineAt_0 : decode cX5_lineAt 0 = .ok (.aload_n 0, 1) := by decide +kernel
theorem dX5_lineAt_1 : decode cX5_lineAt 1 = .ok (.getfield 11, 3) := by decide +kernel
theorem dX5_lineAt_4 : decode cX5_lineAt 4 = .ok (.iload_n 1, 1) := by decide +kernel
theorem dX5_lineAt_5 : decode cX5_lineAt 5 = .ok (.invokestatic 60, 3) := by decide +kernel
theorem dX5_lineAt_8 : decode cX5_lineAt 8 = .ok (.astore_n 3, 1) := by decide +kernel
theorem dX5_lineAt_9 : decode cX5_lineAt 9 = .ok (.aload_n 3, 1) := by decide +kernel
theorem dX5_lineAt_10 : decode cX5_lineAt 10 = .ok (.ifnonnull 8, 3) := by decide +kernel
theorem dX5_lineAt_13 : decode cX5_lineAt 13 = .ok (.bipush (-2), 2) := by decide +kernel
theorem dX5_lineAt_15 : decode cX5_lineAt 15 = .ok (.goto 8, 3) := by decide +kernel
theorem dX5_lineAt_18 : decode cX5_lineAt 18 = .ok (.aload_n 3, 1) := by decide +kernel
theorem dX5_lineAt_19 : decode cX5_lineAt 19 = .ok (.iload_n 2, 1) := by decide +kernel
theorem dX5_lineAt_20 : decode cX5_lineAt 20 = .ok (.invokevirtual 82, 3) := by decide +kernel
theorem dX5_lineAt_23 : decode cX5_lineAt 23 = .ok (.ireturn, 1) := by decide +kernel
theorem dX5_differ_0 : decode cX5_differ 0 = .ok (.aload_n 0, 1) := by decide +kernel
theorem dX5_differ_1 : decode cX5_differ 1 = .ok (.getfield 11, 3) := by decide +kernel
theorem dX5_differ_4 : decode cX5_differ 4 = .ok (.iload_n 1, 1) := by decide +kernel
theorem dX5_differ_5 : decode cX5_differ 5 = .ok (.invokestatic 60, 3) := by decide +kernel
theorem dX5_differ_8 : decode cX5_differ 8 = .ok (.astore_n 3, 1) := by decide +kernel
theorem dX5_differ_9 : decode cX5_differ 9 = .ok (.aload_n 0, 1) := by decide +kernel
theorem dX5_differ_10 : decode cX5_differ 10 = .ok (.getfield 11, 3) := by decide +kernel
theorem dX5_differ_13 : decode cX5_differ 13 = .ok (.iload_n 2, 1) := by decide +kernel
theorem dX5_differ_14 : decode cX5_differ 14 = .ok (.invokestatic 60, 3) := by decide +kernel
theorem dX5_differ_17 : decode cX5_differ 17 = .ok (.astore 4, 2) := by decide +kernel
theorem dX5_differ_19 : decode cX5_differ 19 = .ok (.aload_n 3, 1) := by decide +kernel
theorem dX5_differ_20 : decode cX5_differ 20 = .ok (.ifnull 8, 3) := by decide +kernel
theorem dX5_differ_23 : decode cX5_differ 23 = .ok (.aload 4, 2) := by decide +kernel
theorem dX5_differ_25 : decode cX5_differ 25 = .ok (.ifnonnull 6, 3) := by decide +kernel
theorem dX5_differ_28 : decode cX5_differ 28 = .ok (.bipush (-2), 2) := by decide +kernel
theorem dX5_differ_30 : decode cX5_differ 30 = .ok (.ireturn, 1) := by decide +kernel
theorem dX5_differ_31 : decode cX5_differ 31 = .ok (.aload_n 0, 1) := by decide +kernel
theorem dX5_differ_32 : decode cX5_differ 32 = .ok (.getfield 37, 3) := by decide +kernel
theorem dX5_differ_35 : decode cX5_differ 35 = .ok (.aload_n 3, 1) := by decide +kernel
theorem dX5_differ_36 : decode cX5_differ 36 = .ok (.aload 4, 2) := by decide +kernel
theorem dX5_differ_38 : decode cX5_differ 38 = .ok (.invokevirtual 94, 3) := by decide +kernel
theorem dX5_differ_41 : decode cX5_differ 41 = .ok (.aload_n 0, 1) := by decide +kernel
theorem dX5_differ_42 : decode cX5_differ 42 = .ok (.getfield 37, 3) := by decide +kernel
theorem dX5_differ_45 : decode cX5_differ 45 = .ok (.invokevirtual 98, 3) := by decide +kernel
theorem dX5_differ_48 : decode cX5_differ 48 = .ok (.ireturn, 1) := by decide +kernel
theorem dX5_step_0 : decode cX5_step 0 = .ok (.aload_n 0, 1) := by decide +kernel
theorem dX5_step_1 : decode cX5_step 1 = .ok (.getfield 11, 3) := by decide +kernel
theorem dX5_step_4 : decode cX5_step 4 = .ok (.iload_n 1, 1) := by decide +kernel
theorem dX5_step_5 : decode cX5_step 5 = .ok (.invokestatic 60, 3) := by decide +kernel
theorem dX5_step_8 : decode cX5_step 8 = .ok (.astore 4, 2) := by decide +kernel
theorem dX5_step_10 : decode cX5_step 10 = .ok (.aload_n 0, 1) := by decide +kernel
theorem dX5_step_11 : decode cX5_step 11 = .ok (.getfield 11, 3) := by decide +kernel
theorem dX5_step_14 : decode cX5_step 14 = .ok (.iload_n 2, 1) := by decide +kernel
theorem dX5_step_15 : decode cX5_step 15 = .ok (.invokestatic 60, 3) := by decide +kernel
theorem dX5_step_18 : decode cX5_step 18 = .ok (.astore 5, 2) := by decide +kernel
theorem dX5_step_20 : decode cX5_step 20 = .ok (.aload 4, 2) := by decide +kernel
theorem dX5_step_22 : decode cX5_step 22 = .ok (.ifnull 8, 3) := by decide +kernel
theorem dX5_step_25 : decode cX5_step 25 = .ok (.aload 5, 2) := by decide +kernel
theorem dX5_step_27 : decode cX5_step 27 = .ok (.ifnonnull 6, 3) := by decide +kernel
theorem dX5_step_30 : decode cX5_step 30 = .ok (.bipush (-2), 2) := by decide +kernel
theorem dX5_step_32 : decode cX5_step 32 = .ok (.ireturn, 1) := by decide +kernel
theorem dX5_step_33 : decode cX5_step 33 = .ok (.iload_n 3, 1) := by decide +kernel
theorem dX5_step_34 : decode cX5_step 34 = .ok (.ifCond .lt 18, 3) := by decide +kernel
theorem dX5_step_37 : decode cX5_step 37 = .ok (.iload_n 3, 1) := by decide +kernel
theorem dX5_step_38 : decode cX5_step 38 = .ok (.aload 4, 2) := by decide +kernel
theorem dX5_step_40 : decode cX5_step 40 = .ok (.getfield 64, 3) := by decide +kernel
theorem dX5_step_43 : decode cX5_step 43 = .ok (.aload 5, 2) := by decide +kernel
theorem dX5_step_45 : decode cX5_step 45 = .ok (.getfield 64, 3) := by decide +kernel
theorem dX5_step_48 : decode cX5_step 48 = .ok (.iadd, 1) := by decide +kernel
theorem dX5_step_49 : decode cX5_step 49 = .ok (.if_icmp .lt 5, 3) := by decide +kernel
theorem dX5_step_52 : decode cX5_step 52 = .ok (.iconst (-1), 1) := by decide +kernel
theorem dX5_step_53 : decode cX5_step 53 = .ok (.ireturn, 1) := by decide +kernel
theorem dX5_step_54 : decode cX5_step 54 = .ok (.aload_n 0, 1) := by decide +kernel
theorem dX5_step_55 : decode cX5_step 55 = .ok (.getfield 37, 3) := by decide +kernel
theorem dX5_step_58 : decode cX5_step 58 = .ok (.aload 4, 2) := by decide +kernel
theorem dX5_step_60 : decode cX5_step 60 = .ok (.aload 5, 2) := by decide +kernel
theorem dX5_step_62 : decode cX5_step 62 = .ok (.invokevirtual 94, 3) := by decide +kernel
theorem dX5_step_65 : decode cX5_step 65 = .ok (.aload_n 0, 1) := by decide +kernel
theorem dX5_step_66 : decode cX5_step 66 = .ok (.getfield 37, 3) := by decide +kernel
theorem dX5_step_69 : decode cX5_step 69 = .ok (.aload 4, 2) := by decide +kernel
theorem dX5_step_71 : decode cX5_step 71 = .ok (.aload 5, 2) := by decide +kernel
theorem dX5_step_73 : decode cX5_step 73 = .ok (.iload_n 3, 1) := by decide +kernel
theorem dX5_step_74 : decode cX5_step 74 = .ok (.invokevirtual 102, 3) := by decide +kernel
theorem dX5_step_77 : decode cX5_step 77 = .ok (.ireturn, 1) := by decide +kernel
theorem dX5_condition_0 : decode cX5_condition 0 = .ok (.iload_n 1, 1) := by decide +kernel
theorem dX5_condition_1 : decode cX5_condition 1 = .ok (.ifCond .lt 23, 3) := by decide +kernel
theorem dX5_condition_4 : decode cX5_condition 4 = .ok (.iload_n 1, 1) := by decide +kernel
theorem dX5_condition_5 : decode cX5_condition 5 = .ok (.bipush 6, 2) := by decide +kernel
theorem dX5_condition_7 : decode cX5_condition 7 = .ok (.if_icmp .gt 17, 3) := by decide +kernel
theorem dX5_condition_10 : decode cX5_condition 10 = .ok (.iload_n 2, 1) := by decide +kernel
theorem dX5_condition_11 : decode cX5_condition 11 = .ok (.invokestatic 67, 3) := by decide +kernel
theorem dX5_condition_14 : decode cX5_condition 14 = .ok (.ifCond .eq 10, 3) := by decide +kernel
theorem dX5_condition_17 : decode cX5_condition 17 = .ok (.iload_n 3, 1) := by decide +kernel
theorem dX5_condition_18 : decode cX5_condition 18 = .ok (.invokestatic 67, 3) := by decide +kernel
theorem dX5_condition_21 : decode cX5_condition 21 = .ok (.ifCond .ne 6, 3) := by decide +kernel
theorem dX5_condition_24 : decode cX5_condition 24 = .ok (.bipush (-2), 2) := by decide +kernel
theorem dX5_condition_26 : decode cX5_condition 26 = .ok (.ireturn, 1) := by decide +kernel
theorem dX5_condition_27 : decode cX5_condition 27 = .ok (.iload_n 1, 1) := by decide +kernel
theorem dX5_condition_28 : decode cX5_condition 28 = .ok (.iconst 1, 1) := by decide +kernel
theorem dX5_condition_29 : decode cX5_condition 29 = .ok (.if_icmp .ne 12, 3) := by decide +kernel
theorem dX5_condition_32 : decode cX5_condition 32 = .ok (.iload_n 3, 1) := by decide +kernel
theorem dX5_condition_33 : decode cX5_condition 33 = .ok (.bipush 40, 2) := by decide +kernel
theorem dX5_condition_35 : decode cX5_condition 35 = .ok (.if_icmp .le 6, 3) := by decide +kernel
theorem dX5_condition_38 : decode cX5_condition 38 = .ok (.bipush (-2), 2) := by decide +kernel
theorem dX5_condition_40 : decode cX5_condition 40 = .ok (.ireturn, 1) := by decide +kernel
theorem dX5_condition_41 : decode cX5_condition 41 = .ok (.aload_n 0, 1) := by decide +kernel
theorem dX5_condition_42 : decode cX5_condition 42 = .ok (.getfield 53, 3) := by decide +kernel
theorem dX5_condition_45 : decode cX5_condition 45 = .ok (.bipush 12, 2) := by decide +kernel
theorem dX5_condition_47 : decode cX5_condition 47 = .ok (.if_icmp .lt 6, 3) := by decide +kernel
theorem dX5_condition_50 : decode cX5_condition 50 = .ok (.bipush (-4), 2) := by decide +kernel
theorem dX5_condition_52 : decode cX5_condition 52 = .ok (.ireturn, 1) := by decide +kernel
theorem dX5_condition_53 : decode cX5_condition 53 = .ok (.aload_n 0, 1) := by decide +kernel
theorem dX5_condition_54 : decode cX5_condition 54 = .ok (.getfield 20, 3) := by decide +kernel
theorem dX5_condition_57 : decode cX5_condition 57 = .ok (.aload_n 0, 1) := by decide +kernel
theorem dX5_condition_58 : decode cX5_condition 58 = .ok (.getfield 53, 3) := by decide +kernel
theorem dX5_condition_61 : decode cX5_condition 61 = .ok (.new 18, 3) := by decide +kernel
theorem dX5_condition_64 : decode cX5_condition 64 = .ok (.dup, 1) := by decide +kernel
theorem dX5_condition_65 : decode cX5_condition 65 = .ok (.iload_n 1, 1) := by decide +kernel
theorem dX5_condition_66 : decode cX5_condition 66 = .ok (.iload_n 2, 1) := by decide +kernel
theorem dX5_condition_67 : decode cX5_condition 67 = .ok (.iload_n 3, 1) := by decide +kernel
theorem dX5_condition_68 : decode cX5_condition 68 = .ok (.invokespecial 106, 3) := by decide +kernel
theorem dX5_condition_71 : decode cX5_condition 71 = .ok (.aastore, 1) := by decide +kernel
theorem dX5_condition_72 : decode cX5_condition 72 = .ok (.aload_n 0, 1) := by decide +kernel
theorem dX5_condition_73 : decode cX5_condition 73 = .ok (.dup, 1) := by decide +kernel
theorem dX5_condition_74 : decode cX5_condition 74 = .ok (.getfield 53, 3) := by decide +kernel
theorem dX5_condition_77 : decode cX5_condition 77 = .ok (.iconst 1, 1) := by decide +kernel
theorem dX5_condition_78 : decode cX5_condition 78 = .ok (.iadd, 1) := by decide +kernel
theorem dX5_condition_79 : decode cX5_condition 79 = .ok (.putfield 53, 3) := by decide +kernel
theorem dX5_condition_82 : decode cX5_condition 82 = .ok (.aload_n 0, 1) := by decide +kernel
theorem dX5_condition_83 : decode cX5_condition 83 = .ok (.getfield 53, 3) := by decide +kernel
theorem dX5_condition_86 : decode cX5_condition 86 = .ok (.iconst 1, 1) := by decide +kernel
theorem dX5_condition_87 : decode cX5_condition 87 = .ok (.isub, 1) := by decide +kernel
theorem dX5_condition_88 : decode cX5_condition 88 = .ok (.ireturn, 1) := by decide +kernel
theorem dX5_clear_0 : decode cX5_clear 0 = .ok (.aload_n 0, 1) := by decide +kernel
theorem dX5_clear_1 : decode cX5_clear 1 = .ok (.getfield 53, 3) := by decide +kernel
theorem dX5_clear_4 : decode cX5_clear 4 = .ok (.istore_n 1, 1) := by decide +kernel
theorem dX5_clear_5 : decode cX5_clear 5 = .ok (.aload_n 0, 1) := by decide +kernel
theorem dX5_clear_6 : decode cX5_clear 6 = .ok (.iconst 0, 1) := by decide +kernel
theorem dX5_clear_7 : decode cX5_clear 7 = .ok (.putfield 53, 3) := by decide +kernel
theorem dX5_clear_10 : decode cX5_clear 10 = .ok (.iload_n 1, 1) := by decide +kernel
theorem dX5_clear_11 : decode cX5_clear 11 = .ok (.ireturn, 1) := by decide +kernel
theorem dX5_breaks_0 : decode cX5_breaks 0 = .ok (.aload_n 0, 1) := by decide +kernel
theorem dX5_breaks_1 : decode cX5_breaks 1 = .ok (.getfield 11, 3) := by decide +kernel
theorem dX5_breaks_4 : decode cX5_breaks 4 = .ok (.iload_n 1, 1) := by decide +kernel
theorem dX5_breaks_5 : decode cX5_breaks 5 = .ok (.invokestatic 60, 3) := by decide +kernel
theorem dX5_breaks_8 : decode cX5_breaks 8 = .ok (.astore_n 2, 1) := by decide +kernel
theorem dX5_breaks_9 : decode cX5_breaks 9 = .ok (.aload_n 2, 1) := by decide +kernel
theorem dX5_breaks_10 : decode cX5_breaks 10 = .ok (.ifnonnull 6, 3) := by decide +kernel
theorem dX5_breaks_13 : decode cX5_breaks 13 = .ok (.bipush (-2), 2) := by decide +kernel
theorem dX5_breaks_15 : decode cX5_breaks 15 = .ok (.ireturn, 1) := by decide +kernel
theorem dX5_breaks_16 : decode cX5_breaks 16 = .ok (.iconst 0, 1) := by decide +kernel
theorem dX5_breaks_17 : decode cX5_breaks 17 = .ok (.istore_n 3, 1) := by decide +kernel
theorem dX5_breaks_18 : decode cX5_breaks 18 = .ok (.iload_n 3, 1) := by decide +kernel
theorem dX5_breaks_19 : decode cX5_breaks 19 = .ok (.aload_n 0, 1) := by decide +kernel
theorem dX5_breaks_20 : decode cX5_breaks 20 = .ok (.getfield 53, 3) := by decide +kernel
theorem dX5_breaks_23 : decode cX5_breaks 23 = .ok (.if_icmp .ge 24, 3) := by decide +kernel
theorem dX5_breaks_26 : decode cX5_breaks 26 = .ok (.aload_n 2, 1) := by decide +kernel
theorem dX5_breaks_27 : decode cX5_breaks 27 = .ok (.aload_n 0, 1) := by decide +kernel
theorem dX5_breaks_28 : decode cX5_breaks 28 = .ok (.iload_n 3, 1) := by decide +kernel
theorem dX5_breaks_29 : decode cX5_breaks 29 = .ok (.invokevirtual 109, 3) := by decide +kernel
theorem dX5_breaks_32 : decode cX5_breaks 32 = .ok (.invokestatic 113, 3) := by decide +kernel
theorem dX5_breaks_35 : decode cX5_breaks 35 = .ok (.iconst 2, 1) := by decide +kernel
theorem dX5_breaks_36 : decode cX5_breaks 36 = .ok (.if_icmp .ne 5, 3) := by decide +kernel
theorem dX5_breaks_39 : decode cX5_breaks 39 = .ok (.iload_n 3, 1) := by decide +kernel
theorem dX5_breaks_40 : decode cX5_breaks 40 = .ok (.ireturn, 1) := by decide +kernel
theorem dX5_breaks_41 : decode cX5_breaks 41 = .ok (.iinc 3 1, 3) := by decide +kernel
theorem dX5_breaks_44 : decode cX5_breaks 44 = .ok (.goto (-26), 3) := by decide +kernel
theorem dX5_breaks_47 : decode cX5_breaks 47 = .ok (.iconst (-1), 1) := by decide +kernel
theorem dX5_breaks_48 : decode cX5_breaks 48 = .ok (.ireturn, 1) := by decide +kernel
theorem dX5_hear_0 : decode cX5_hear 0 = .ok (.aload_n 0, 1) := by decide +kernel
theorem dX5_hear_1 : decode cX5_hear 1 = .ok (.getfield 15, 3) := by decide +kernel
theorem dX5_hear_4 : decode cX5_hear 4 = .ok (.iload_n 1, 1) := by decide +kernel
theorem dX5_hear_5 : decode cX5_hear 5 = .ok (.invokestatic 60, 3) := by decide +kernel
theorem dX5_hear_8 : decode cX5_hear 8 = .ok (.astore_n 3, 1) := by decide +kernel
theorem dX5_hear_9 : decode cX5_hear 9 = .ok (.aload_n 3, 1) := by decide +kernel
theorem dX5_hear_10 : decode cX5_hear 10 = .ok (.ifnull 15, 3) := by decide +kernel
theorem dX5_hear_13 : decode cX5_hear 13 = .ok (.iload_n 2, 1) := by decide +kernel
theorem dX5_hear_14 : decode cX5_hear 14 = .ok (.iconst (-1), 1) := by decide +kernel
theorem dX5_hear_15 : decode cX5_hear 15 = .ok (.if_icmp .eq 13, 3) := by decide +kernel
theorem dX5_hear_18 : decode cX5_hear 18 = .ok (.iload_n 2, 1) := by decide +kernel
theorem dX5_hear_19 : decode cX5_hear 19 = .ok (.invokestatic 67, 3) := by decide +kernel
theorem dX5_hear_22 : decode cX5_hear 22 = .ok (.ifCond .ne 6, 3) := by decide +kernel
theorem dX5_hear_25 : decode cX5_hear 25 = .ok (.bipush (-2), 2) := by decide +kernel
theorem dX5_hear_27 : decode cX5_hear 27 = .ok (.ireturn, 1) := by decide +kernel
theorem dX5_hear_28 : decode cX5_hear 28 = .ok (.aload_n 3, 1) := by decide +kernel
theorem dX5_hear_29 : decode cX5_hear 29 = .ok (.invokevirtual 71, 3) := by decide +kernel
theorem dX5_hear_32 : decode cX5_hear 32 = .ok (.ifCond .eq 6, 3) := by decide +kernel
theorem dX5_hear_35 : decode cX5_hear 35 = .ok (.bipush (-4), 2) := by decide +kernel
theorem dX5_hear_37 : decode cX5_hear 37 = .ok (.ireturn, 1) := by decide +kernel
theorem dX5_hear_38 : decode cX5_hear 38 = .ok (.aload_n 3, 1) := by decide +kernel
theorem dX5_hear_39 : decode cX5_hear 39 = .ok (.aload_n 3, 1) := by decide +kernel
theorem dX5_hear_40 : decode cX5_hear 40 = .ok (.getfield 64, 3) := by decide +kernel
theorem dX5_hear_43 : decode cX5_hear 43 = .ok (.iload_n 2, 1) := by decide +kernel
theorem dX5_hear_44 : decode cX5_hear 44 = .ok (.invokevirtual 75, 3) := by decide +kernel
theorem dX5_hear_47 : decode cX5_hear 47 = .ok (.aload_n 3, 1) := by decide +kernel
theorem dX5_hear_48 : decode cX5_hear 48 = .ok (.getfield 64, 3) := by decide +kernel
theorem dX5_hear_51 : decode cX5_hear 51 = .ok (.ireturn, 1) := by decide +kernel
theorem dX5_forget_0 : decode cX5_forget 0 = .ok (.aload_n 0, 1) := by decide +kernel
theorem dX5_forget_1 : decode cX5_forget 1 = .ok (.getfield 15, 3) := by decide +kernel
theorem dX5_forget_4 : decode cX5_forget 4 = .ok (.iload_n 1, 1) := by decide +kernel
theorem dX5_forget_5 : decode cX5_forget 5 = .ok (.invokestatic 60, 3) := by decide +kernel
theorem dX5_forget_8 : decode cX5_forget 8 = .ok (.astore_n 2, 1) := by decide +kernel
theorem dX5_forget_9 : decode cX5_forget 9 = .ok (.aload_n 2, 1) := by decide +kernel
theorem dX5_forget_10 : decode cX5_forget 10 = .ok (.ifnonnull 6, 3) := by decide +kernel
theorem dX5_forget_13 : decode cX5_forget 13 = .ok (.bipush (-2), 2) := by decide +kernel
theorem dX5_forget_15 : decode cX5_forget 15 = .ok (.ireturn, 1) := by decide +kernel
theorem dX5_forget_16 : decode cX5_forget 16 = .ok (.aload_n 2, 1) := by decide +kernel
theorem dX5_forget_17 : decode cX5_forget 17 = .ok (.getfield 64, 3) := by decide +kernel
theorem dX5_forget_20 : decode cX5_forget 20 = .ok (.istore_n 3, 1) := by decide +kernel
theorem dX5_forget_21 : decode cX5_forget 21 = .ok (.aload_n 2, 1) := by decide +kernel
theorem dX5_forget_22 : decode cX5_forget 22 = .ok (.invokevirtual 117, 3) := by decide +kernel
theorem dX5_forget_25 : decode cX5_forget 25 = .ok (.iload_n 3, 1) := by decide +kernel
theorem dX5_forget_26 : decode cX5_forget 26 = .ok (.ireturn, 1) := by decide +kernel
theorem dX5_heard_0 : decode cX5_heard 0 = .ok (.aload_n 0, 1) := by decide +kernel
theorem dX5_heard_1 : decode cX5_heard 1 = .ok (.getfield 15, 3) := by decide +kernel
theorem dX5_heard_4 : decode cX5_heard 4 = .ok (.iload_n 1, 1) := by decide +kernel
theorem dX5_heard_5 : decode cX5_heard 5 = .ok (.invokestatic 60, 3) := by decide +kernel
theorem dX5_heard_8 : decode cX5_heard 8 = .ok (.astore_n 3, 1) := by decide +kernel
theorem dX5_heard_9 : decode cX5_heard 9 = .ok (.aload_n 3, 1) := by decide +kernel
theorem dX5_heard_10 : decode cX5_heard 10 = .ok (.ifnull 11, 3) := by decide +kernel
theorem dX5_heard_13 : decode cX5_heard 13 = .ok (.aload_n 3, 1) := by decide +kernel
theorem dX5_heard_14 : decode cX5_heard 14 = .ok (.iload_n 2, 1) := by decide +kernel
theorem dX5_heard_15 : decode cX5_heard 15 = .ok (.invokevirtual 79, 3) := by decide +kernel
theorem dX5_heard_18 : decode cX5_heard 18 = .ok (.ifCond .ne 8, 3) := by decide +kernel
theorem dX5_heard_21 : decode cX5_heard 21 = .ok (.bipush (-2), 2) := by decide +kernel
theorem dX5_heard_23 : decode cX5_heard 23 = .ok (.goto 8, 3) := by decide +kernel
theorem dX5_heard_26 : decode cX5_heard 26 = .ok (.aload_n 3, 1) := by decide +kernel
theorem dX5_heard_27 : decode cX5_heard 27 = .ok (.iload_n 2, 1) := by decide +kernel
theorem dX5_heard_28 : decode cX5_heard 28 = .ok (.invokevirtual 82, 3) := by decide +kernel
theorem dX5_heard_31 : decode cX5_heard 31 = .ok (.ireturn, 1) := by decide +kernel
theorem dX5_judge_0 : decode cX5_judge 0 = .ok (.aload_n 0, 1) := by decide +kernel
theorem dX5_judge_1 : decode cX5_judge 1 = .ok (.getfield 15, 3) := by decide +kernel
theorem dX5_judge_4 : decode cX5_judge 4 = .ok (.iload_n 1, 1) := by decide +kernel
theorem dX5_judge_5 : decode cX5_judge 5 = .ok (.invokestatic 60, 3) := by decide +kernel
theorem dX5_judge_8 : decode cX5_judge 8 = .ok (.astore_n 3, 1) := by decide +kernel
theorem dX5_judge_9 : decode cX5_judge 9 = .ok (.aload_n 0, 1) := by decide +kernel
theorem dX5_judge_10 : decode cX5_judge 10 = .ok (.iload_n 2, 1) := by decide +kernel
theorem dX5_judge_11 : decode cX5_judge 11 = .ok (.invokevirtual 109, 3) := by decide +kernel
theorem dX5_judge_14 : decode cX5_judge 14 = .ok (.astore 4, 2) := by decide +kernel
theorem dX5_judge_16 : decode cX5_judge 16 = .ok (.aload_n 3, 1) := by decide +kernel
theorem dX5_judge_17 : decode cX5_judge 17 = .ok (.ifnull 8, 3) := by decide +kernel
theorem dX5_judge_20 : decode cX5_judge 20 = .ok (.aload 4, 2) := by decide +kernel
theorem dX5_judge_22 : decode cX5_judge 22 = .ok (.ifnonnull 8, 3) := by decide +kernel
theorem dX5_judge_25 : decode cX5_judge 25 = .ok (.bipush (-2), 2) := by decide +kernel
theorem dX5_judge_27 : decode cX5_judge 27 = .ok (.goto 9, 3) := by decide +kernel
theorem dX5_judge_30 : decode cX5_judge 30 = .ok (.aload_n 3, 1) := by decide +kernel
theorem dX5_judge_31 : decode cX5_judge 31 = .ok (.aload 4, 2) := by decide +kernel
theorem dX5_judge_33 : decode cX5_judge 33 = .ok (.invokestatic 113, 3) := by decide +kernel
theorem dX5_judge_36 : decode cX5_judge 36 = .ok (.ireturn, 1) := by decide +kernel
theorem dX5_verdict_0 : decode cX5_verdict 0 = .ok (.aload_n 0, 1) := by decide +kernel
theorem dX5_verdict_1 : decode cX5_verdict 1 = .ok (.getfield 15, 3) := by decide +kernel
theorem dX5_verdict_4 : decode cX5_verdict 4 = .ok (.iload_n 1, 1) := by decide +kernel
theorem dX5_verdict_5 : decode cX5_verdict 5 = .ok (.invokestatic 60, 3) := by decide +kernel
theorem dX5_verdict_8 : decode cX5_verdict 8 = .ok (.astore_n 2, 1) := by decide +kernel
theorem dX5_verdict_9 : decode cX5_verdict 9 = .ok (.aload_n 2, 1) := by decide +kernel
theorem dX5_verdict_10 : decode cX5_verdict 10 = .ok (.ifnonnull 6, 3) := by decide +kernel
theorem dX5_verdict_13 : decode cX5_verdict 13 = .ok (.bipush (-2), 2) := by decide +kernel
theorem dX5_verdict_15 : decode cX5_verdict 15 = .ok (.ireturn, 1) := by decide +kernel
theorem dX5_verdict_16 : decode cX5_verdict 16 = .ok (.iconst 0, 1) := by decide +kernel
theorem dX5_verdict_17 : decode cX5_verdict 17 = .ok (.istore_n 3, 1) := by decide +kernel
theorem dX5_verdict_18 : decode cX5_verdict 18 = .ok (.iconst 0, 1) := by decide +kernel
theorem dX5_verdict_19 : decode cX5_verdict 19 = .ok (.istore 4, 2) := by decide +kernel
theorem dX5_verdict_21 : decode cX5_verdict 21 = .ok (.iload 4, 2) := by decide +kernel
theorem dX5_verdict_23 : decode cX5_verdict 23 = .ok (.aload_n 0, 1) := by decide +kernel
theorem dX5_verdict_24 : decode cX5_verdict 24 = .ok (.getfield 53, 3) := by decide +kernel
theorem dX5_verdict_27 : decode cX5_verdict 27 = .ok (.if_icmp .ge 24, 3) := by decide +kernel
theorem dX5_verdict_30 : decode cX5_verdict 30 = .ok (.iload_n 3, 1) := by decide +kernel
theorem dX5_verdict_31 : decode cX5_verdict 31 = .ok (.aload_n 2, 1) := by decide +kernel
theorem dX5_verdict_32 : decode cX5_verdict 32 = .ok (.aload_n 0, 1) := by decide +kernel
theorem dX5_verdict_33 : decode cX5_verdict 33 = .ok (.iload 4, 2) := by decide +kernel
theorem dX5_verdict_35 : decode cX5_verdict 35 = .ok (.invokevirtual 109, 3) := by decide +kernel
theorem dX5_verdict_38 : decode cX5_verdict 38 = .ok (.invokestatic 113, 3) := by decide +kernel
theorem dX5_verdict_41 : decode cX5_verdict 41 = .ok (.invokestatic 120, 3) := by decide +kernel
theorem dX5_verdict_44 : decode cX5_verdict 44 = .ok (.istore_n 3, 1) := by decide +kernel
theorem dX5_verdict_45 : decode cX5_verdict 45 = .ok (.iinc 4 1, 3) := by decide +kernel
theorem dX5_verdict_48 : decode cX5_verdict 48 = .ok (.goto (-27), 3) := by decide +kernel
theorem dX5_verdict_51 : decode cX5_verdict 51 = .ok (.iload_n 3, 1) := by decide +kernel
theorem dX5_verdict_52 : decode cX5_verdict 52 = .ok (.ireturn, 1) := by decide +kernel
theorem dX5_both_0 : decode cX5_both 0 = .ok (.aload_n 0, 1) := by decide +kernel
theorem dX5_both_1 : decode cX5_both 1 = .ok (.getfield 15, 3) := by decide +kernel
theorem dX5_both_4 : decode cX5_both 4 = .ok (.iload_n 1, 1) := by decide +kernel
theorem dX5_both_5 : decode cX5_both 5 = .ok (.invokestatic 60, 3) := by decide +kernel
theorem dX5_both_8 : decode cX5_both 8 = .ok (.astore 4, 2) := by decide +kernel
theorem dX5_both_10 : decode cX5_both 10 = .ok (.aload_n 0, 1) := by decide +kernel
theorem dX5_both_11 : decode cX5_both 11 = .ok (.getfield 15, 3) := by decide +kernel
theorem dX5_both_14 : decode cX5_both 14 = .ok (.iload_n 2, 1) := by decide +kernel
theorem dX5_both_15 : decode cX5_both 15 = .ok (.invokestatic 60, 3) := by decide +kernel
theorem dX5_both_18 : decode cX5_both 18 = .ok (.astore 5, 2) := by decide +kernel
theorem dX5_both_20 : decode cX5_both 20 = .ok (.aload_n 0, 1) := by decide +kernel
theorem dX5_both_21 : decode cX5_both 21 = .ok (.getfield 15, 3) := by decide +kernel
theorem dX5_both_24 : decode cX5_both 24 = .ok (.iload_n 3, 1) := by decide +kernel
theorem dX5_both_25 : decode cX5_both 25 = .ok (.invokestatic 60, 3) := by decide +kernel
theorem dX5_both_28 : decode cX5_both 28 = .ok (.astore 6, 2) := by decide +kernel
theorem dX5_both_30 : decode cX5_both 30 = .ok (.aload 4, 2) := by decide +kernel
theorem dX5_both_32 : decode cX5_both 32 = .ok (.ifnull 13, 3) := by decide +kernel
theorem dX5_both_35 : decode cX5_both 35 = .ok (.aload 5, 2) := by decide +kernel
theorem dX5_both_37 : decode cX5_both 37 = .ok (.ifnull 8, 3) := by decide +kernel
theorem dX5_both_40 : decode cX5_both 40 = .ok (.aload 6, 2) := by decide +kernel
theorem dX5_both_42 : decode cX5_both 42 = .ok (.ifnonnull 6, 3) := by decide +kernel
theorem dX5_both_45 : decode cX5_both 45 = .ok (.bipush (-2), 2) := by decide +kernel
theorem dX5_both_47 : decode cX5_both 47 = .ok (.ireturn, 1) := by decide +kernel
theorem dX5_both_48 : decode cX5_both 48 = .ok (.aload 4, 2) := by decide +kernel
theorem dX5_both_50 : decode cX5_both 50 = .ok (.getfield 64, 3) := by decide +kernel
theorem dX5_both_53 : decode cX5_both 53 = .ok (.aload 5, 2) := by decide +kernel
theorem dX5_both_55 : decode cX5_both 55 = .ok (.getfield 64, 3) := by decide +kernel
theorem dX5_both_58 : decode cX5_both 58 = .ok (.if_icmp .eq 6, 3) := by decide +kernel
theorem dX5_both_61 : decode cX5_both 61 = .ok (.bipush (-3), 2) := by decide +kernel
theorem dX5_both_63 : decode cX5_both 63 = .ok (.ireturn, 1) := by decide +kernel
theorem dX5_both_64 : decode cX5_both 64 = .ok (.iconst 0, 1) := by decide +kernel
theorem dX5_both_65 : decode cX5_both 65 = .ok (.istore 7, 2) := by decide +kernel
theorem dX5_both_67 : decode cX5_both 67 = .ok (.aload_n 0, 1) := by decide +kernel
theorem dX5_both_68 : decode cX5_both 68 = .ok (.getfield 49, 3) := by decide +kernel
theorem dX5_both_71 : decode cX5_both 71 = .ok (.invokevirtual 117, 3) := by decide +kernel
theorem dX5_both_74 : decode cX5_both 74 = .ok (.iconst 0, 1) := by decide +kernel
theorem dX5_both_75 : decode cX5_both 75 = .ok (.istore 8, 2) := by decide +kernel
theorem dX5_both_77 : decode cX5_both 77 = .ok (.iload 8, 2) := by decide +kernel
theorem dX5_both_79 : decode cX5_both 79 = .ok (.aload 4, 2) := by decide +kernel
theorem dX5_both_81 : decode cX5_both 81 = .ok (.getfield 64, 3) := by decide +kernel
theorem dX5_both_84 : decode cX5_both 84 = .ok (.if_icmp .ge 58, 3) := by decide +kernel
theorem dX5_both_87 : decode cX5_both 87 = .ok (.aload 4, 2) := by decide +kernel
theorem dX5_both_89 : decode cX5_both 89 = .ok (.iload 8, 2) := by decide +kernel
theorem dX5_both_91 : decode cX5_both 91 = .ok (.invokevirtual 82, 3) := by decide +kernel
theorem dX5_both_94 : decode cX5_both 94 = .ok (.aload 5, 2) := by decide +kernel
theorem dX5_both_96 : decode cX5_both 96 = .ok (.iload 8, 2) := by decide +kernel
theorem dX5_both_98 : decode cX5_both 98 = .ok (.invokevirtual 82, 3) := by decide +kernel
theorem dX5_both_101 : decode cX5_both 101 = .ok (.invokestatic 126, 3) := by decide +kernel
theorem dX5_both_104 : decode cX5_both 104 = .ok (.ifCond .eq 6, 3) := by decide +kernel
theorem dX5_both_107 : decode cX5_both 107 = .ok (.iinc 7 1, 3) := by decide +kernel
theorem dX5_both_110 : decode cX5_both 110 = .ok (.aload_n 0, 1) := by decide +kernel
theorem dX5_both_111 : decode cX5_both 111 = .ok (.getfield 49, 3) := by decide +kernel
theorem dX5_both_114 : decode cX5_both 114 = .ok (.iload 8, 2) := by decide +kernel
theorem dX5_both_116 : decode cX5_both 116 = .ok (.aload 4, 2) := by decide +kernel
theorem dX5_both_118 : decode cX5_both 118 = .ok (.iload 8, 2) := by decide +kernel
theorem dX5_both_120 : decode cX5_both 120 = .ok (.invokevirtual 82, 3) := by decide +kernel
theorem dX5_both_123 : decode cX5_both 123 = .ok (.aload 5, 2) := by decide +kernel
theorem dX5_both_125 : decode cX5_both 125 = .ok (.iload 8, 2) := by decide +kernel
theorem dX5_both_127 : decode cX5_both 127 = .ok (.invokevirtual 82, 3) := by decide +kernel
theorem dX5_both_130 : decode cX5_both 130 = .ok (.invokestatic 130, 3) := by decide +kernel
theorem dX5_both_133 : decode cX5_both 133 = .ok (.invokevirtual 75, 3) := by decide +kernel
theorem dX5_both_136 : decode cX5_both 136 = .ok (.iinc 8 1, 3) := by decide +kernel
theorem dX5_both_139 : decode cX5_both 139 = .ok (.goto (-62), 3) := by decide +kernel
theorem dX5_both_142 : decode cX5_both 142 = .ok (.aload 6, 2) := by decide +kernel
theorem dX5_both_144 : decode cX5_both 144 = .ok (.aload_n 0, 1) := by decide +kernel
theorem dX5_both_145 : decode cX5_both 145 = .ok (.getfield 49, 3) := by decide +kernel
theorem dX5_both_148 : decode cX5_both 148 = .ok (.invokevirtual 90, 3) := by decide +kernel
theorem dX5_both_151 : decode cX5_both 151 = .ok (.iload 7, 2) := by decide +kernel
theorem dX5_both_153 : decode cX5_both 153 = .ok (.ireturn, 1) := by decide +kernel
theorem dX5_may_0 : decode cX5_may 0 = .ok (.aload_n 0, 1) := by decide +kernel
theorem dX5_may_1 : decode cX5_may 1 = .ok (.getfield 15, 3) := by decide +kernel
theorem dX5_may_4 : decode cX5_may 4 = .ok (.iload_n 1, 1) := by decide +kernel
theorem dX5_may_5 : decode cX5_may 5 = .ok (.invokestatic 60, 3) := by decide +kernel
theorem dX5_may_8 : decode cX5_may 8 = .ok (.astore_n 3, 1) := by decide +kernel
theorem dX5_may_9 : decode cX5_may 9 = .ok (.aload_n 0, 1) := by decide +kernel
theorem dX5_may_10 : decode cX5_may 10 = .ok (.getfield 11, 3) := by decide +kernel
theorem dX5_may_13 : decode cX5_may 13 = .ok (.iload_n 2, 1) := by decide +kernel
theorem dX5_may_14 : decode cX5_may 14 = .ok (.invokestatic 60, 3) := by decide +kernel
theorem dX5_may_17 : decode cX5_may 17 = .ok (.astore 4, 2) := by decide +kernel
theorem dX5_may_19 : decode cX5_may 19 = .ok (.aload_n 3, 1) := by decide +kernel
theorem dX5_may_20 : decode cX5_may 20 = .ok (.ifnull 8, 3) := by decide +kernel
theorem dX5_may_23 : decode cX5_may 23 = .ok (.aload 4, 2) := by decide +kernel
theorem dX5_may_25 : decode cX5_may 25 = .ok (.ifnonnull 6, 3) := by decide +kernel
theorem dX5_may_28 : decode cX5_may 28 = .ok (.bipush (-2), 2) := by decide +kernel
theorem dX5_may_30 : decode cX5_may 30 = .ok (.ireturn, 1) := by decide +kernel
theorem dX5_may_31 : decode cX5_may 31 = .ok (.aload_n 3, 1) := by decide +kernel
theorem dX5_may_32 : decode cX5_may 32 = .ok (.aload 4, 2) := by decide +kernel
theorem dX5_may_34 : decode cX5_may 34 = .ok (.invokestatic 133, 3) := by decide +kernel
theorem dX5_may_37 : decode cX5_may 37 = .ok (.lstore 5, 2) := by decide +kernel
theorem dX5_may_39 : decode cX5_may 39 = .ok (.lload 5, 2) := by decide +kernel
theorem dX5_may_41 : decode cX5_may 41 = .ok (.aload 4, 2) := by decide +kernel
theorem dX5_may_43 : decode cX5_may 43 = .ok (.getfield 64, 3) := by decide +kernel
theorem dX5_may_46 : decode cX5_may 46 = .ok (.invokestatic 137, 3) := by decide +kernel
theorem dX5_may_49 : decode cX5_may 49 = .ok (.ifCond .eq 7, 3) := by decide +kernel
theorem dX5_may_52 : decode cX5_may 52 = .ok (.iconst 1, 1) := by decide +kernel
theorem dX5_may_53 : decode cX5_may 53 = .ok (.goto 4, 3) := by decide +kernel
theorem dX5_may_56 : decode cX5_may 56 = .ok (.iconst 0, 1) := by decide +kernel
theorem dX5_may_57 : decode cX5_may 57 = .ok (.ireturn, 1) := by decide +kernel
theorem dX5_mark_0 : decode cX5_mark 0 = .ok (.iload_n 1, 1) := by decide +kernel
theorem dX5_mark_1 : decode cX5_mark 1 = .ok (.invokestatic 67, 3) := by decide +kernel
theorem dX5_mark_4 : decode cX5_mark 4 = .ok (.ifCond .eq 10, 3) := by decide +kernel
theorem dX5_mark_7 : decode cX5_mark 7 = .ok (.iload_n 2, 1) := by decide +kernel
theorem dX5_mark_8 : decode cX5_mark 8 = .ok (.invokestatic 141, 3) := by decide +kernel
theorem dX5_mark_11 : decode cX5_mark 11 = .ok (.ifCond .ne 6, 3) := by decide +kernel
theorem dX5_mark_14 : decode cX5_mark 14 = .ok (.bipush (-2), 2) := by decide +kernel
theorem dX5_mark_16 : decode cX5_mark 16 = .ok (.ireturn, 1) := by decide +kernel
theorem dX5_mark_17 : decode cX5_mark 17 = .ok (.aload_n 0, 1) := by decide +kernel
theorem dX5_mark_18 : decode cX5_mark 18 = .ok (.getfield 30, 3) := by decide +kernel
theorem dX5_mark_21 : decode cX5_mark 21 = .ok (.iload_n 1, 1) := by decide +kernel
theorem dX5_mark_22 : decode cX5_mark 22 = .ok (.iaload, 1) := by decide +kernel
theorem dX5_mark_23 : decode cX5_mark 23 = .ok (.istore_n 3, 1) := by decide +kernel
theorem dX5_mark_24 : decode cX5_mark 24 = .ok (.aload_n 0, 1) := by decide +kernel
theorem dX5_mark_25 : decode cX5_mark 25 = .ok (.getfield 30, 3) := by decide +kernel
theorem dX5_mark_28 : decode cX5_mark 28 = .ok (.iload_n 1, 1) := by decide +kernel
theorem dX5_mark_29 : decode cX5_mark 29 = .ok (.iload_n 2, 1) := by decide +kernel
theorem dX5_mark_30 : decode cX5_mark 30 = .ok (.iastore, 1) := by decide +kernel
theorem dX5_mark_31 : decode cX5_mark 31 = .ok (.iload_n 3, 1) := by decide +kernel
theorem dX5_mark_32 : decode cX5_mark 32 = .ok (.ireturn, 1) := by decide +kernel
theorem dX5_rule_0 : decode cX5_rule 0 = .ok (.iload_n 1, 1) := by decide +kernel
theorem dX5_rule_1 : decode cX5_rule 1 = .ok (.invokestatic 144, 3) := by decide +kernel
theorem dX5_rule_4 : decode cX5_rule 4 = .ok (.ifCond .eq 31, 3) := by decide +kernel
theorem dX5_rule_7 : decode cX5_rule 7 = .ok (.iload_n 2, 1) := by decide +kernel
theorem dX5_rule_8 : decode cX5_rule 8 = .ok (.invokestatic 141, 3) := by decide +kernel
theorem dX5_rule_11 : decode cX5_rule 11 = .ok (.ifCond .eq 24, 3) := by decide +kernel
theorem dX5_rule_14 : decode cX5_rule 14 = .ok (.iload_n 3, 1) := by decide +kernel
theorem dX5_rule_15 : decode cX5_rule 15 = .ok (.invokestatic 147, 3) := by decide +kernel
theorem dX5_rule_18 : decode cX5_rule 18 = .ok (.ifCond .eq 17, 3) := by decide +kernel
theorem dX5_rule_21 : decode cX5_rule 21 = .ok (.iload 4, 2) := by decide +kernel
theorem dX5_rule_23 : decode cX5_rule 23 = .ok (.invokestatic 147, 3) := by decide +kernel
theorem dX5_rule_26 : decode cX5_rule 26 = .ok (.ifCond .eq 9, 3) := by decide +kernel
theorem dX5_rule_29 : decode cX5_rule 29 = .ok (.iload_n 3, 1) := by decide +kernel
theorem dX5_rule_30 : decode cX5_rule 30 = .ok (.iload 4, 2) := by decide +kernel
theorem dX5_rule_32 : decode cX5_rule 32 = .ok (.if_icmp .le 6, 3) := by decide +kernel
theorem dX5_rule_35 : decode cX5_rule 35 = .ok (.bipush (-2), 2) := by decide +kernel
theorem dX5_rule_37 : decode cX5_rule 37 = .ok (.ireturn, 1) := by decide +kernel
theorem dX5_rule_38 : decode cX5_rule 38 = .ok (.aload_n 0, 1) := by decide +kernel
theorem dX5_rule_39 : decode cX5_rule 39 = .ok (.getfield 57, 3) := by decide +kernel
theorem dX5_rule_42 : decode cX5_rule 42 = .ok (.bipush 20, 2) := by decide +kernel
theorem dX5_rule_44 : decode cX5_rule 44 = .ok (.if_icmp .lt 6, 3) := by decide +kernel
theorem dX5_rule_47 : decode cX5_rule 47 = .ok (.bipush (-4), 2) := by decide +kernel
theorem dX5_rule_49 : decode cX5_rule 49 = .ok (.ireturn, 1) := by decide +kernel
theorem dX5_rule_50 : decode cX5_rule 50 = .ok (.aload_n 0, 1) := by decide +kernel
theorem dX5_rule_51 : decode cX5_rule 51 = .ok (.getfield 26, 3) := by decide +kernel
theorem dX5_rule_54 : decode cX5_rule 54 = .ok (.aload_n 0, 1) := by decide +kernel
theorem dX5_rule_55 : decode cX5_rule 55 = .ok (.getfield 57, 3) := by decide +kernel
theorem dX5_rule_58 : decode cX5_rule 58 = .ok (.new 24, 3) := by decide +kernel
theorem dX5_rule_61 : decode cX5_rule 61 = .ok (.dup, 1) := by decide +kernel
theorem dX5_rule_62 : decode cX5_rule 62 = .ok (.iload_n 1, 1) := by decide +kernel
theorem dX5_rule_63 : decode cX5_rule 63 = .ok (.iload_n 2, 1) := by decide +kernel
theorem dX5_rule_64 : decode cX5_rule 64 = .ok (.iload_n 3, 1) := by decide +kernel
theorem dX5_rule_65 : decode cX5_rule 65 = .ok (.iload 4, 2) := by decide +kernel
theorem dX5_rule_67 : decode cX5_rule 67 = .ok (.invokespecial 150, 3) := by decide +kernel
theorem dX5_rule_70 : decode cX5_rule 70 = .ok (.aastore, 1) := by decide +kernel
theorem dX5_rule_71 : decode cX5_rule 71 = .ok (.aload_n 0, 1) := by decide +kernel
theorem dX5_rule_72 : decode cX5_rule 72 = .ok (.dup, 1) := by decide +kernel
theorem dX5_rule_73 : decode cX5_rule 73 = .ok (.getfield 57, 3) := by decide +kernel
theorem dX5_rule_76 : decode cX5_rule 76 = .ok (.iconst 1, 1) := by decide +kernel
theorem dX5_rule_77 : decode cX5_rule 77 = .ok (.iadd, 1) := by decide +kernel
theorem dX5_rule_78 : decode cX5_rule 78 = .ok (.putfield 57, 3) := by decide +kernel
theorem dX5_rule_81 : decode cX5_rule 81 = .ok (.aload_n 0, 1) := by decide +kernel
theorem dX5_rule_82 : decode cX5_rule 82 = .ok (.getfield 57, 3) := by decide +kernel
theorem dX5_rule_85 : decode cX5_rule 85 = .ok (.iconst 1, 1) := by decide +kernel
theorem dX5_rule_86 : decode cX5_rule 86 = .ok (.isub, 1) := by decide +kernel
theorem dX5_rule_87 : decode cX5_rule 87 = .ok (.ireturn, 1) := by decide +kernel
theorem dX5_cut_0 : decode cX5_cut 0 = .ok (.aload_n 0, 1) := by decide +kernel
theorem dX5_cut_1 : decode cX5_cut 1 = .ok (.getfield 11, 3) := by decide +kernel
theorem dX5_cut_4 : decode cX5_cut 4 = .ok (.iload_n 1, 1) := by decide +kernel
theorem dX5_cut_5 : decode cX5_cut 5 = .ok (.invokestatic 60, 3) := by decide +kernel
theorem dX5_cut_8 : decode cX5_cut 8 = .ok (.astore 4, 2) := by decide +kernel
theorem dX5_cut_10 : decode cX5_cut 10 = .ok (.aload 4, 2) := by decide +kernel
theorem dX5_cut_12 : decode cX5_cut 12 = .ok (.ifnull 17, 3) := by decide +kernel
theorem dX5_cut_15 : decode cX5_cut 15 = .ok (.iload_n 2, 1) := by decide +kernel
theorem dX5_cut_16 : decode cX5_cut 16 = .ok (.invokestatic 144, 3) := by decide +kernel
theorem dX5_cut_19 : decode cX5_cut 19 = .ok (.ifCond .eq 10, 3) := by decide +kernel
theorem dX5_cut_22 : decode cX5_cut 22 = .ok (.iload_n 3, 1) := by decide +kernel
theorem dX5_cut_23 : decode cX5_cut 23 = .ok (.invokestatic 147, 3) := by decide +kernel
theorem dX5_cut_26 : decode cX5_cut 26 = .ok (.ifCond .ne 6, 3) := by decide +kernel
theorem dX5_cut_29 : decode cX5_cut 29 = .ok (.bipush (-2), 2) := by decide +kernel
theorem dX5_cut_31 : decode cX5_cut 31 = .ok (.ireturn, 1) := by decide +kernel
theorem dX5_cut_32 : decode cX5_cut 32 = .ok (.aload_n 0, 1) := by decide +kernel
theorem dX5_cut_33 : decode cX5_cut 33 = .ok (.aload 4, 2) := by decide +kernel
theorem dX5_cut_35 : decode cX5_cut 35 = .ok (.aload_n 0, 1) := by decide +kernel
theorem dX5_cut_36 : decode cX5_cut 36 = .ok (.iload_n 2, 1) := by decide +kernel
theorem dX5_cut_37 : decode cX5_cut 37 = .ok (.iload_n 3, 1) := by decide +kernel
theorem dX5_cut_38 : decode cX5_cut 38 = .ok (.invokevirtual 153, 3) := by decide +kernel
theorem dX5_cut_41 : decode cX5_cut 41 = .ok (.invokevirtual 156, 3) := by decide +kernel
theorem dX5_cut_44 : decode cX5_cut 44 = .ok (.ireturn, 1) := by decide +kernel
theorem dX5_fit_0 : decode cX5_fit 0 = .ok (.aload_n 0, 1) := by decide +kernel
theorem dX5_fit_1 : decode cX5_fit 1 = .ok (.getfield 11, 3) := by decide +kernel
theorem dX5_fit_4 : decode cX5_fit 4 = .ok (.iload_n 1, 1) := by decide +kernel
theorem dX5_fit_5 : decode cX5_fit 5 = .ok (.invokestatic 60, 3) := by decide +kernel
theorem dX5_fit_8 : decode cX5_fit 8 = .ok (.astore 5, 2) := by decide +kernel
theorem dX5_fit_10 : decode cX5_fit 10 = .ok (.aload_n 0, 1) := by decide +kernel
theorem dX5_fit_11 : decode cX5_fit 11 = .ok (.getfield 11, 3) := by decide +kernel
theorem dX5_fit_14 : decode cX5_fit 14 = .ok (.iload 4, 2) := by decide +kernel
theorem dX5_fit_16 : decode cX5_fit 16 = .ok (.invokestatic 60, 3) := by decide +kernel
theorem dX5_fit_19 : decode cX5_fit 19 = .ok (.astore 6, 2) := by decide +kernel
theorem dX5_fit_21 : decode cX5_fit 21 = .ok (.aload 5, 2) := by decide +kernel
theorem dX5_fit_23 : decode cX5_fit 23 = .ok (.ifnull 22, 3) := by decide +kernel
theorem dX5_fit_26 : decode cX5_fit 26 = .ok (.aload 6, 2) := by decide +kernel
theorem dX5_fit_28 : decode cX5_fit 28 = .ok (.ifnull 17, 3) := by decide +kernel
theorem dX5_fit_31 : decode cX5_fit 31 = .ok (.iload_n 2, 1) := by decide +kernel
theorem dX5_fit_32 : decode cX5_fit 32 = .ok (.invokestatic 144, 3) := by decide +kernel
theorem dX5_fit_35 : decode cX5_fit 35 = .ok (.ifCond .eq 10, 3) := by decide +kernel
theorem dX5_fit_38 : decode cX5_fit 38 = .ok (.iload_n 3, 1) := by decide +kernel
theorem dX5_fit_39 : decode cX5_fit 39 = .ok (.invokestatic 147, 3) := by decide +kernel
theorem dX5_fit_42 : decode cX5_fit 42 = .ok (.ifCond .ne 6, 3) := by decide +kernel
theorem dX5_fit_45 : decode cX5_fit 45 = .ok (.bipush (-2), 2) := by decide +kernel
theorem dX5_fit_47 : decode cX5_fit 47 = .ok (.ireturn, 1) := by decide +kernel
theorem dX5_fit_48 : decode cX5_fit 48 = .ok (.aload_n 0, 1) := by decide +kernel
theorem dX5_fit_49 : decode cX5_fit 49 = .ok (.iload_n 2, 1) := by decide +kernel
theorem dX5_fit_50 : decode cX5_fit 50 = .ok (.iload_n 3, 1) := by decide +kernel
theorem dX5_fit_51 : decode cX5_fit 51 = .ok (.invokevirtual 153, 3) := by decide +kernel
theorem dX5_fit_54 : decode cX5_fit 54 = .ok (.istore 7, 2) := by decide +kernel
theorem dX5_fit_56 : decode cX5_fit 56 = .ok (.aload 6, 2) := by decide +kernel
theorem dX5_fit_58 : decode cX5_fit 58 = .ok (.aload 5, 2) := by decide +kernel
theorem dX5_fit_60 : decode cX5_fit 60 = .ok (.invokevirtual 90, 3) := by decide +kernel
theorem dX5_fit_63 : decode cX5_fit 63 = .ok (.aload 6, 2) := by decide +kernel
theorem dX5_fit_65 : decode cX5_fit 65 = .ok (.getfield 64, 3) := by decide +kernel
theorem dX5_fit_68 : decode cX5_fit 68 = .ok (.iconst 1, 1) := by decide +kernel
theorem dX5_fit_69 : decode cX5_fit 69 = .ok (.isub, 1) := by decide +kernel
theorem dX5_fit_70 : decode cX5_fit 70 = .ok (.istore 8, 2) := by decide +kernel
theorem dX5_fit_72 : decode cX5_fit 72 = .ok (.iload 8, 2) := by decide +kernel
theorem dX5_fit_74 : decode cX5_fit 74 = .ok (.ifCond .lt 33, 3) := by decide +kernel
theorem dX5_fit_77 : decode cX5_fit 77 = .ok (.aload_n 0, 1) := by decide +kernel
theorem dX5_fit_78 : decode cX5_fit 78 = .ok (.aload 6, 2) := by decide +kernel
theorem dX5_fit_80 : decode cX5_fit 80 = .ok (.iload 8, 2) := by decide +kernel
theorem dX5_fit_82 : decode cX5_fit 82 = .ok (.invokevirtual 82, 3) := by decide +kernel
theorem dX5_fit_85 : decode cX5_fit 85 = .ok (.invokevirtual 160, 3) := by decide +kernel
theorem dX5_fit_88 : decode cX5_fit 88 = .ok (.iload 7, 2) := by decide +kernel
theorem dX5_fit_90 : decode cX5_fit 90 = .ok (.iand, 1) := by decide +kernel
theorem dX5_fit_91 : decode cX5_fit 91 = .ok (.ifCond .eq 10, 3) := by decide +kernel
theorem dX5_fit_94 : decode cX5_fit 94 = .ok (.aload 6, 2) := by decide +kernel
theorem dX5_fit_96 : decode cX5_fit 96 = .ok (.iload 8, 2) := by decide +kernel
theorem dX5_fit_98 : decode cX5_fit 98 = .ok (.invokevirtual 86, 3) := by decide +kernel
theorem dX5_fit_101 : decode cX5_fit 101 = .ok (.iinc 8 (-1), 3) := by decide +kernel
theorem dX5_fit_104 : decode cX5_fit 104 = .ok (.goto (-32), 3) := by decide +kernel
theorem dX5_fit_107 : decode cX5_fit 107 = .ok (.aload 6, 2) := by decide +kernel
theorem dX5_fit_109 : decode cX5_fit 109 = .ok (.getfield 64, 3) := by decide +kernel
theorem dX5_fit_112 : decode cX5_fit 112 = .ok (.ireturn, 1) := by decide +kernel
theorem dX5_tour_0 : decode cX5_tour 0 = .ok (.aload_n 0, 1) := by decide +kernel
theorem dX5_tour_1 : decode cX5_tour 1 = .ok (.getfield 11, 3) := by decide +kernel
theorem dX5_tour_4 : decode cX5_tour 4 = .ok (.iload_n 1, 1) := by decide +kernel
theorem dX5_tour_5 : decode cX5_tour 5 = .ok (.invokestatic 60, 3) := by decide +kernel
theorem dX5_tour_8 : decode cX5_tour 8 = .ok (.astore 5, 2) := by decide +kernel
theorem dX5_tour_10 : decode cX5_tour 10 = .ok (.aload 5, 2) := by decide +kernel
theorem dX5_tour_12 : decode cX5_tour 12 = .ok (.ifnull 34, 3) := by decide +kernel
theorem dX5_tour_15 : decode cX5_tour 15 = .ok (.iload_n 2, 1) := by decide +kernel
theorem dX5_tour_16 : decode cX5_tour 16 = .ok (.iconst 1, 1) := by decide +kernel
theorem dX5_tour_17 : decode cX5_tour 17 = .ok (.if_icmp .lt 29, 3) := by decide +kernel
theorem dX5_tour_20 : decode cX5_tour 20 = .ok (.iload_n 2, 1) := by decide +kernel
theorem dX5_tour_21 : decode cX5_tour 21 = .ok (.sipush 255, 3) := by decide +kernel
theorem dX5_tour_24 : decode cX5_tour 24 = .ok (.if_icmp .gt 22, 3) := by decide +kernel
theorem dX5_tour_27 : decode cX5_tour 27 = .ok (.iload_n 3, 1) := by decide +kernel
theorem dX5_tour_28 : decode cX5_tour 28 = .ok (.invokestatic 147, 3) := by decide +kernel
theorem dX5_tour_31 : decode cX5_tour 31 = .ok (.ifCond .eq 15, 3) := by decide +kernel
theorem dX5_tour_34 : decode cX5_tour 34 = .ok (.iload 4, 2) := by decide +kernel
theorem dX5_tour_36 : decode cX5_tour 36 = .ok (.ifCond .lt 10, 3) := by decide +kernel
theorem dX5_tour_39 : decode cX5_tour 39 = .ok (.iload 4, 2) := by decide +kernel
theorem dX5_tour_41 : decode cX5_tour 41 = .ok (.bipush 20, 2) := by decide +kernel
theorem dX5_tour_43 : decode cX5_tour 43 = .ok (.if_icmp .le 6, 3) := by decide +kernel
theorem dX5_tour_46 : decode cX5_tour 46 = .ok (.bipush (-2), 2) := by decide +kernel
theorem dX5_tour_48 : decode cX5_tour 48 = .ok (.ireturn, 1) := by decide +kernel
theorem dX5_tour_49 : decode cX5_tour 49 = .ok (.iload_n 2, 1) := by decide +kernel
theorem dX5_tour_50 : decode cX5_tour 50 = .ok (.invokestatic 163, 3) := by decide +kernel
theorem dX5_tour_53 : decode cX5_tour 53 = .ok (.istore 6, 2) := by decide +kernel
theorem dX5_tour_55 : decode cX5_tour 55 = .ok (.iload_n 3, 1) := by decide +kernel
theorem dX5_tour_56 : decode cX5_tour 56 = .ok (.iload 6, 2) := by decide +kernel
theorem dX5_tour_58 : decode cX5_tour 58 = .ok (.iconst 1, 1) := by decide +kernel
theorem dX5_tour_59 : decode cX5_tour 59 = .ok (.isub, 1) := by decide +kernel
theorem dX5_tour_60 : decode cX5_tour 60 = .ok (.iload 4, 2) := by decide +kernel
theorem dX5_tour_62 : decode cX5_tour 62 = .ok (.iconst 1, 1) := by decide +kernel
theorem dX5_tour_63 : decode cX5_tour 63 = .ok (.iadd, 1) := by decide +kernel
theorem dX5_tour_64 : decode cX5_tour 64 = .ok (.imul, 1) := by decide +kernel
theorem dX5_tour_65 : decode cX5_tour 65 = .ok (.iadd, 1) := by decide +kernel
theorem dX5_tour_66 : decode cX5_tour 66 = .ok (.sipush 999, 3) := by decide +kernel
theorem dX5_tour_69 : decode cX5_tour 69 = .ok (.if_icmp .le 6, 3) := by decide +kernel
theorem dX5_tour_72 : decode cX5_tour 72 = .ok (.bipush (-3), 2) := by decide +kernel
theorem dX5_tour_74 : decode cX5_tour 74 = .ok (.ireturn, 1) := by decide +kernel
theorem dX5_tour_75 : decode cX5_tour 75 = .ok (.iconst 0, 1) := by decide +kernel
theorem dX5_tour_76 : decode cX5_tour 76 = .ok (.istore 7, 2) := by decide +kernel
theorem dX5_tour_78 : decode cX5_tour 78 = .ok (.iload 7, 2) := by decide +kernel
theorem dX5_tour_80 : decode cX5_tour 80 = .ok (.bipush 8, 2) := by decide +kernel
theorem dX5_tour_82 : decode cX5_tour 82 = .ok (.if_icmp .ge 61, 3) := by decide +kernel
theorem dX5_tour_85 : decode cX5_tour 85 = .ok (.iconst 0, 1) := by decide +kernel
theorem dX5_tour_86 : decode cX5_tour 86 = .ok (.istore 8, 2) := by decide +kernel
theorem dX5_tour_88 : decode cX5_tour 88 = .ok (.iload 8, 2) := by decide +kernel
theorem dX5_tour_90 : decode cX5_tour 90 = .ok (.iload 6, 2) := by decide +kernel
theorem dX5_tour_92 : decode cX5_tour 92 = .ok (.if_icmp .ge 45, 3) := by decide +kernel
theorem dX5_tour_95 : decode cX5_tour 95 = .ok (.aload_n 0, 1) := by decide +kernel
theorem dX5_tour_96 : decode cX5_tour 96 = .ok (.aload 5, 2) := by decide +kernel
theorem dX5_tour_98 : decode cX5_tour 98 = .ok (.aload_n 0, 1) := by decide +kernel
theorem dX5_tour_99 : decode cX5_tour 99 = .ok (.iload 7, 2) := by decide +kernel
theorem dX5_tour_101 : decode cX5_tour 101 = .ok (.iload_n 3, 1) := by decide +kernel
theorem dX5_tour_102 : decode cX5_tour 102 = .ok (.iload 8, 2) := by decide +kernel
theorem dX5_tour_104 : decode cX5_tour 104 = .ok (.iload 4, 2) := by decide +kernel
theorem dX5_tour_106 : decode cX5_tour 106 = .ok (.iconst 1, 1) := by decide +kernel
theorem dX5_tour_107 : decode cX5_tour 107 = .ok (.iadd, 1) := by decide +kernel
theorem dX5_tour_108 : decode cX5_tour 108 = .ok (.imul, 1) := by decide +kernel
theorem dX5_tour_109 : decode cX5_tour 109 = .ok (.iadd, 1) := by decide +kernel
theorem dX5_tour_110 : decode cX5_tour 110 = .ok (.invokevirtual 153, 3) := by decide +kernel
theorem dX5_tour_113 : decode cX5_tour 113 = .ok (.invokevirtual 156, 3) := by decide +kernel
theorem dX5_tour_116 : decode cX5_tour 116 = .ok (.istore 9, 2) := by decide +kernel
theorem dX5_tour_118 : decode cX5_tour 118 = .ok (.aload_n 0, 1) := by decide +kernel
theorem dX5_tour_119 : decode cX5_tour 119 = .ok (.getfield 44, 3) := by decide +kernel
theorem dX5_tour_122 : decode cX5_tour 122 = .ok (.iload 7, 2) := by decide +kernel
theorem dX5_tour_124 : decode cX5_tour 124 = .ok (.iload 8, 2) := by decide +kernel
theorem dX5_tour_126 : decode cX5_tour 126 = .ok (.iload 9, 2) := by decide +kernel
theorem dX5_tour_128 : decode cX5_tour 128 = .ok (.invokevirtual 168, 3) := by decide +kernel
theorem dX5_tour_131 : decode cX5_tour 131 = .ok (.iinc 8 1, 3) := by decide +kernel
theorem dX5_tour_134 : decode cX5_tour 134 = .ok (.goto (-46), 3) := by decide +kernel
theorem dX5_tour_137 : decode cX5_tour 137 = .ok (.iinc 7 1, 3) := by decide +kernel
theorem dX5_tour_140 : decode cX5_tour 140 = .ok (.goto (-62), 3) := by decide +kernel
theorem dX5_tour_143 : decode cX5_tour 143 = .ok (.aload_n 0, 1) := by decide +kernel
theorem dX5_tour_144 : decode cX5_tour 144 = .ok (.getfield 44, 3) := by decide +kernel
theorem dX5_tour_147 : decode cX5_tour 147 = .ok (.iload_n 2, 1) := by decide +kernel
theorem dX5_tour_148 : decode cX5_tour 148 = .ok (.invokevirtual 171, 3) := by decide +kernel
theorem dX5_tour_151 : decode cX5_tour 151 = .ok (.ireturn, 1) := by decide +kernel
theorem dX5_town_0 : decode cX5_town 0 = .ok (.aload_n 0, 1) := by decide +kernel
theorem dX5_town_1 : decode cX5_town 1 = .ok (.getfield 44, 3) := by decide +kernel
theorem dX5_town_4 : decode cX5_town 4 = .ok (.getfield 174, 3) := by decide +kernel
theorem dX5_town_7 : decode cX5_town 7 = .ok (.iload_n 1, 1) := by decide +kernel
theorem dX5_town_8 : decode cX5_town 8 = .ok (.invokevirtual 82, 3) := by decide +kernel
theorem dX5_town_11 : decode cX5_town 11 = .ok (.ireturn, 1) := by decide +kernel
theorem dX5_free_0 : decode cX5_free 0 = .ok (.aload_n 0, 1) := by decide +kernel
theorem dX5_free_1 : decode cX5_free 1 = .ok (.getfield 11, 3) := by decide +kernel
theorem dX5_free_4 : decode cX5_free 4 = .ok (.iload_n 1, 1) := by decide +kernel
theorem dX5_free_5 : decode cX5_free 5 = .ok (.invokestatic 60, 3) := by decide +kernel
theorem dX5_free_8 : decode cX5_free 8 = .ok (.astore 4, 2) := by decide +kernel
theorem dX5_free_10 : decode cX5_free 10 = .ok (.aload 4, 2) := by decide +kernel
theorem dX5_free_12 : decode cX5_free 12 = .ok (.ifnull 17, 3) := by decide +kernel
theorem dX5_free_15 : decode cX5_free 15 = .ok (.iload_n 2, 1) := by decide +kernel
theorem dX5_free_16 : decode cX5_free 16 = .ok (.invokestatic 144, 3) := by decide +kernel
theorem dX5_free_19 : decode cX5_free 19 = .ok (.ifCond .eq 10, 3) := by decide +kernel
theorem dX5_free_22 : decode cX5_free 22 = .ok (.iload_n 3, 1) := by decide +kernel
theorem dX5_free_23 : decode cX5_free 23 = .ok (.invokestatic 147, 3) := by decide +kernel
theorem dX5_free_26 : decode cX5_free 26 = .ok (.ifCond .ne 6, 3) := by decide +kernel
theorem dX5_free_29 : decode cX5_free 29 = .ok (.bipush (-2), 2) := by decide +kernel
theorem dX5_free_31 : decode cX5_free 31 = .ok (.ireturn, 1) := by decide +kernel
theorem dX5_free_32 : decode cX5_free 32 = .ok (.aload_n 0, 1) := by decide +kernel
theorem dX5_free_33 : decode cX5_free 33 = .ok (.aload 4, 2) := by decide +kernel
theorem dX5_free_35 : decode cX5_free 35 = .ok (.invokevirtual 177, 3) := by decide +kernel
theorem dX5_free_38 : decode cX5_free 38 = .ok (.istore 5, 2) := by decide +kernel
theorem dX5_free_40 : decode cX5_free 40 = .ok (.iload_n 3, 1) := by decide +kernel
theorem dX5_free_41 : decode cX5_free 41 = .ok (.istore 6, 2) := by decide +kernel
theorem dX5_free_43 : decode cX5_free 43 = .ok (.iconst 0, 1) := by decide +kernel
theorem dX5_free_44 : decode cX5_free 44 = .ok (.istore 7, 2) := by decide +kernel
theorem dX5_free_46 : decode cX5_free 46 = .ok (.iload 7, 2) := by decide +kernel
theorem dX5_free_48 : decode cX5_free 48 = .ok (.aload_n 0, 1) := by decide +kernel
theorem dX5_free_49 : decode cX5_free 49 = .ok (.getfield 57, 3) := by decide +kernel
theorem dX5_free_52 : decode cX5_free 52 = .ok (.if_icmp .gt 43, 3) := by decide +kernel
theorem dX5_free_55 : decode cX5_free 55 = .ok (.iload 6, 2) := by decide +kernel
theorem dX5_free_57 : decode cX5_free 57 = .ok (.sipush 999, 3) := by decide +kernel
theorem dX5_free_60 : decode cX5_free 60 = .ok (.if_icmp .gt 35, 3) := by decide +kernel
theorem dX5_free_63 : decode cX5_free 63 = .ok (.aload_n 0, 1) := by decide +kernel
theorem dX5_free_64 : decode cX5_free 64 = .ok (.iload 5, 2) := by decide +kernel
theorem dX5_free_66 : decode cX5_free 66 = .ok (.iload_n 2, 1) := by decide +kernel
theorem dX5_free_67 : decode cX5_free 67 = .ok (.iload 6, 2) := by decide +kernel
theorem dX5_free_69 : decode cX5_free 69 = .ok (.invokevirtual 181, 3) := by decide +kernel
theorem dX5_free_72 : decode cX5_free 72 = .ok (.istore 8, 2) := by decide +kernel
theorem dX5_free_74 : decode cX5_free 74 = .ok (.iload 8, 2) := by decide +kernel
theorem dX5_free_76 : decode cX5_free 76 = .ok (.iconst (-1), 1) := by decide +kernel
theorem dX5_free_77 : decode cX5_free 77 = .ok (.if_icmp .ne 6, 3) := by decide +kernel
theorem dX5_free_80 : decode cX5_free 80 = .ok (.iload 6, 2) := by decide +kernel
theorem dX5_free_82 : decode cX5_free 82 = .ok (.ireturn, 1) := by decide +kernel
theorem dX5_free_83 : decode cX5_free 83 = .ok (.iload 8, 2) := by decide +kernel
theorem dX5_free_85 : decode cX5_free 85 = .ok (.iconst 1, 1) := by decide +kernel
theorem dX5_free_86 : decode cX5_free 86 = .ok (.iadd, 1) := by decide +kernel
theorem dX5_free_87 : decode cX5_free 87 = .ok (.istore 6, 2) := by decide +kernel
theorem dX5_free_89 : decode cX5_free 89 = .ok (.iinc 7 1, 3) := by decide +kernel
theorem dX5_free_92 : decode cX5_free 92 = .ok (.goto (-46), 3) := by decide +kernel
theorem dX5_free_95 : decode cX5_free 95 = .ok (.iconst (-1), 1) := by decide +kernel
theorem dX5_free_96 : decode cX5_free 96 = .ok (.ireturn, 1) := by decide +kernel
theorem dX5_count_0 : decode cX5_count 0 = .ok (.iload_n 1, 1) := by decide +kernel
theorem dX5_count_1 : decode cX5_count 1 = .ok (.tableswitch 66 0 4 #[35, 43, 48, 56, 61], 35) := by decide +kernel
theorem dX5_count_36 : decode cX5_count 36 = .ok (.aload_n 0, 1) := by decide +kernel
theorem dX5_count_37 : decode cX5_count 37 = .ok (.getfield 11, 3) := by decide +kernel
theorem dX5_count_40 : decode cX5_count 40 = .ok (.invokestatic 185, 3) := by decide +kernel
theorem dX5_count_43 : decode cX5_count 43 = .ok (.ireturn, 1) := by decide +kernel
theorem dX5_count_44 : decode cX5_count 44 = .ok (.aload_n 0, 1) := by decide +kernel
theorem dX5_count_45 : decode cX5_count 45 = .ok (.getfield 53, 3) := by decide +kernel
theorem dX5_count_48 : decode cX5_count 48 = .ok (.ireturn, 1) := by decide +kernel
theorem dX5_count_49 : decode cX5_count 49 = .ok (.aload_n 0, 1) := by decide +kernel
theorem dX5_count_50 : decode cX5_count 50 = .ok (.getfield 15, 3) := by decide +kernel
theorem dX5_count_53 : decode cX5_count 53 = .ok (.invokestatic 185, 3) := by decide +kernel
theorem dX5_count_56 : decode cX5_count 56 = .ok (.ireturn, 1) := by decide +kernel
theorem dX5_count_57 : decode cX5_count 57 = .ok (.aload_n 0, 1) := by decide +kernel
theorem dX5_count_58 : decode cX5_count 58 = .ok (.invokevirtual 189, 3) := by decide +kernel
theorem dX5_count_61 : decode cX5_count 61 = .ok (.ireturn, 1) := by decide +kernel
theorem dX5_count_62 : decode cX5_count 62 = .ok (.aload_n 0, 1) := by decide +kernel
theorem dX5_count_63 : decode cX5_count 63 = .ok (.getfield 57, 3) := by decide +kernel
theorem dX5_count_66 : decode cX5_count 66 = .ok (.ireturn, 1) := by decide +kernel
theorem dX5_count_67 : decode cX5_count 67 = .ok (.bipush (-2), 2) := by decide +kernel
theorem dX5_count_69 : decode cX5_count 69 = .ok (.ireturn, 1) := by decide +kernel
theorem dX5_digest_0 : decode cX5_digest 0 = .ok (.ldc2_w 192, 3) := by decide +kernel
theorem dX5_digest_3 : decode cX5_digest 3 = .ok (.lstore_n 1, 1) := by decide +kernel
theorem dX5_digest_4 : decode cX5_digest 4 = .ok (.iconst 0, 1) := by decide +kernel
theorem dX5_digest_5 : decode cX5_digest 5 = .ok (.istore_n 3, 1) := by decide +kernel
theorem dX5_digest_6 : decode cX5_digest 6 = .ok (.iload_n 3, 1) := by decide +kernel
theorem dX5_digest_7 : decode cX5_digest 7 = .ok (.iconst 4, 1) := by decide +kernel
theorem dX5_digest_8 : decode cX5_digest 8 = .ok (.if_icmp .gt 19, 3) := by decide +kernel
theorem dX5_digest_11 : decode cX5_digest 11 = .ok (.lload_n 1, 1) := by decide +kernel
theorem dX5_digest_12 : decode cX5_digest 12 = .ok (.aload_n 0, 1) := by decide +kernel
theorem dX5_digest_13 : decode cX5_digest 13 = .ok (.iload_n 3, 1) := by decide +kernel
theorem dX5_digest_14 : decode cX5_digest 14 = .ok (.invokevirtual 194, 3) := by decide +kernel
theorem dX5_digest_17 : decode cX5_digest 17 = .ok (.invokestatic 197, 3) := by decide +kernel
theorem dX5_digest_20 : decode cX5_digest 20 = .ok (.lstore_n 1, 1) := by decide +kernel
theorem dX5_digest_21 : decode cX5_digest 21 = .ok (.iinc 3 1, 3) := by decide +kernel
theorem dX5_digest_24 : decode cX5_digest 24 = .ok (.goto (-18), 3) := by decide +kernel
theorem dX5_digest_27 : decode cX5_digest 27 = .ok (.lload_n 1, 1) := by decide +kernel
theorem dX5_digest_28 : decode cX5_digest 28 = .ok (.aload_n 0, 1) := by decide +kernel
theorem dX5_digest_29 : decode cX5_digest 29 = .ok (.getfield 11, 3) := by decide +kernel
theorem dX5_digest_32 : decode cX5_digest 32 = .ok (.invokestatic 201, 3) := by decide +kernel
theorem dX5_digest_35 : decode cX5_digest 35 = .ok (.lstore_n 1, 1) := by decide +kernel
theorem dX5_digest_36 : decode cX5_digest 36 = .ok (.lload_n 1, 1) := by decide +kernel
theorem dX5_digest_37 : decode cX5_digest 37 = .ok (.aload_n 0, 1) := by decide +kernel
theorem dX5_digest_38 : decode cX5_digest 38 = .ok (.getfield 15, 3) := by decide +kernel
theorem dX5_digest_41 : decode cX5_digest 41 = .ok (.invokestatic 201, 3) := by decide +kernel
theorem dX5_digest_44 : decode cX5_digest 44 = .ok (.lstore_n 1, 1) := by decide +kernel
theorem dX5_digest_45 : decode cX5_digest 45 = .ok (.iconst 0, 1) := by decide +kernel
theorem dX5_digest_46 : decode cX5_digest 46 = .ok (.istore_n 3, 1) := by decide +kernel
theorem dX5_digest_47 : decode cX5_digest 47 = .ok (.iload_n 3, 1) := by decide +kernel
theorem dX5_digest_48 : decode cX5_digest 48 = .ok (.bipush 100, 2) := by decide +kernel
theorem dX5_digest_50 : decode cX5_digest 50 = .ok (.if_icmp .ge 19, 3) := by decide +kernel
theorem dX5_digest_53 : decode cX5_digest 53 = .ok (.lload_n 1, 1) := by decide +kernel
theorem dX5_digest_54 : decode cX5_digest 54 = .ok (.aload_n 0, 1) := by decide +kernel
theorem dX5_digest_55 : decode cX5_digest 55 = .ok (.iload_n 3, 1) := by decide +kernel
theorem dX5_digest_56 : decode cX5_digest 56 = .ok (.invokevirtual 160, 3) := by decide +kernel
theorem dX5_digest_59 : decode cX5_digest 59 = .ok (.invokestatic 197, 3) := by decide +kernel
theorem dX5_digest_62 : decode cX5_digest 62 = .ok (.lstore_n 1, 1) := by decide +kernel
theorem dX5_digest_63 : decode cX5_digest 63 = .ok (.iinc 3 1, 3) := by decide +kernel
theorem dX5_digest_66 : decode cX5_digest 66 = .ok (.goto (-19), 3) := by decide +kernel
theorem dX5_digest_69 : decode cX5_digest 69 = .ok (.aload_n 0, 1) := by decide +kernel
theorem dX5_digest_70 : decode cX5_digest 70 = .ok (.lload_n 1, 1) := by decide +kernel
theorem dX5_digest_71 : decode cX5_digest 71 = .ok (.invokevirtual 205, 3) := by decide +kernel
theorem dX5_digest_74 : decode cX5_digest 74 = .ok (.lstore_n 1, 1) := by decide +kernel
theorem dX5_digest_75 : decode cX5_digest 75 = .ok (.aload_n 0, 1) := by decide +kernel
theorem dX5_digest_76 : decode cX5_digest 76 = .ok (.lload_n 1, 1) := by decide +kernel
theorem dX5_digest_77 : decode cX5_digest 77 = .ok (.invokevirtual 209, 3) := by decide +kernel
theorem dX5_digest_80 : decode cX5_digest 80 = .ok (.lreturn, 1) := by decide +kernel
theorem dX5_isLine_0 : decode cX5_isLine 0 = .ok (.iload_n 0, 1) := by decide +kernel
theorem dX5_isLine_1 : decode cX5_isLine 1 = .ok (.ifCond .lt 13, 3) := by decide +kernel
theorem dX5_isLine_4 : decode cX5_isLine 4 = .ok (.iload_n 0, 1) := by decide +kernel
theorem dX5_isLine_5 : decode cX5_isLine 5 = .ok (.bipush 100, 2) := by decide +kernel
theorem dX5_isLine_7 : decode cX5_isLine 7 = .ok (.if_icmp .ge 7, 3) := by decide +kernel
theorem dX5_isLine_10 : decode cX5_isLine 10 = .ok (.iconst 1, 1) := by decide +kernel
theorem dX5_isLine_11 : decode cX5_isLine 11 = .ok (.goto 4, 3) := by decide +kernel
theorem dX5_isLine_14 : decode cX5_isLine 14 = .ok (.iconst 0, 1) := by decide +kernel
theorem dX5_isLine_15 : decode cX5_isLine 15 = .ok (.ireturn, 1) := by decide +kernel
theorem dX5_isTown_0 : decode cX5_isTown 0 = .ok (.iload_n 0, 1) := by decide +kernel
theorem dX5_isTown_1 : decode cX5_isTown 1 = .ok (.ifCond .lt 13, 3) := by decide +kernel
theorem dX5_isTown_4 : decode cX5_isTown 4 = .ok (.iload_n 0, 1) := by decide +kernel
theorem dX5_isTown_5 : decode cX5_isTown 5 = .ok (.bipush 8, 2) := by decide +kernel
theorem dX5_isTown_7 : decode cX5_isTown 7 = .ok (.if_icmp .ge 7, 3) := by decide +kernel
theorem dX5_isTown_10 : decode cX5_isTown 10 = .ok (.iconst 1, 1) := by decide +kernel
theorem dX5_isTown_11 : decode cX5_isTown 11 = .ok (.goto 4, 3) := by decide +kernel
theorem dX5_isTown_14 : decode cX5_isTown 14 = .ok (.iconst 0, 1) := by decide +kernel
theorem dX5_isTown_15 : decode cX5_isTown 15 = .ok (.ireturn, 1) := by decide +kernel
theorem dX5_isMarks_0 : decode cX5_isMarks 0 = .ok (.iload_n 0, 1) := by decide +kernel
theorem dX5_isMarks_1 : decode cX5_isMarks 1 = .ok (.ifCond .lt 14, 3) := by decide +kernel
theorem dX5_isMarks_4 : decode cX5_isMarks 4 = .ok (.iload_n 0, 1) := by decide +kernel
theorem dX5_isMarks_5 : decode cX5_isMarks 5 = .ok (.sipush 255, 3) := by decide +kernel
theorem dX5_isMarks_8 : decode cX5_isMarks 8 = .ok (.if_icmp .gt 7, 3) := by decide +kernel
theorem dX5_isMarks_11 : decode cX5_isMarks 11 = .ok (.iconst 1, 1) := by decide +kernel
theorem dX5_isMarks_12 : decode cX5_isMarks 12 = .ok (.goto 4, 3) := by decide +kernel
theorem dX5_isMarks_15 : decode cX5_isMarks 15 = .ok (.iconst 0, 1) := by decide +kernel
theorem dX5_isMarks_16 : decode cX5_isMarks 16 = .ok (.ireturn, 1) := by decide +kernel
theorem dX5_isDay_0 : decode cX5_isDay 0 = .ok (.iload_n 0, 1) := by decide +kernel
theorem dX5_isDay_1 : decode cX5_isDay 1 = .ok (.ifCond .lt 14, 3) := by decide +kernel
theorem dX5_isDay_4 : decode cX5_isDay 4 = .ok (.iload_n 0, 1) := by decide +kernel
theorem dX5_isDay_5 : decode cX5_isDay 5 = .ok (.sipush 999, 3) := by decide +kernel
theorem dX5_isDay_8 : decode cX5_isDay 8 = .ok (.if_icmp .gt 7, 3) := by decide +kernel
theorem dX5_isDay_11 : decode cX5_isDay 11 = .ok (.iconst 1, 1) := by decide +kernel
theorem dX5_isDay_12 : decode cX5_isDay 12 = .ok (.goto 4, 3) := by decide +kernel
theorem dX5_isDay_15 : decode cX5_isDay 15 = .ok (.iconst 0, 1) := by decide +kernel
theorem dX5_isDay_16 : decode cX5_isDay 16 = .ok (.ireturn, 1) := by decide +kernel
