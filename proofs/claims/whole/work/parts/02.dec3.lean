theorem dX5_rowOf_0 : decode cX5_rowOf 0 = .ok (.iload_n 1, 1) := by decide +kernel
theorem dX5_rowOf_1 : decode cX5_rowOf 1 = .ok (.ifCond .lt 15, 3) := by decide +kernel
theorem dX5_rowOf_4 : decode cX5_rowOf 4 = .ok (.iload_n 1, 1) := by decide +kernel
theorem dX5_rowOf_5 : decode cX5_rowOf 5 = .ok (.aload_n 0, 1) := by decide +kernel
theorem dX5_rowOf_6 : decode cX5_rowOf 6 = .ok (.arraylength, 1) := by decide +kernel
theorem dX5_rowOf_7 : decode cX5_rowOf 7 = .ok (.if_icmp .ge 9, 3) := by decide +kernel
theorem dX5_rowOf_10 : decode cX5_rowOf 10 = .ok (.aload_n 0, 1) := by decide +kernel
theorem dX5_rowOf_11 : decode cX5_rowOf 11 = .ok (.iload_n 1, 1) := by decide +kernel
theorem dX5_rowOf_12 : decode cX5_rowOf 12 = .ok (.aaload, 1) := by decide +kernel
theorem dX5_rowOf_13 : decode cX5_rowOf 13 = .ok (.goto 4, 3) := by decide +kernel
theorem dX5_rowOf_16 : decode cX5_rowOf 16 = .ok (.aconst_null, 1) := by decide +kernel
theorem dX5_rowOf_17 : decode cX5_rowOf 17 = .ok (.areturn, 1) := by decide +kernel
theorem dX5_conditionOf_0 : decode cX5_conditionOf 0 = .ok (.iload_n 1, 1) := by decide +kernel
theorem dX5_conditionOf_1 : decode cX5_conditionOf 1 = .ok (.ifCond .lt 29, 3) := by decide +kernel
theorem dX5_conditionOf_4 : decode cX5_conditionOf 4 = .ok (.iload_n 1, 1) := by decide +kernel
theorem dX5_conditionOf_5 : decode cX5_conditionOf 5 = .ok (.aload_n 0, 1) := by decide +kernel
theorem dX5_conditionOf_6 : decode cX5_conditionOf 6 = .ok (.getfield 53, 3) := by decide +kernel
theorem dX5_conditionOf_9 : decode cX5_conditionOf 9 = .ok (.if_icmp .ge 21, 3) := by decide +kernel
theorem dX5_conditionOf_12 : decode cX5_conditionOf 12 = .ok (.iload_n 1, 1) := by decide +kernel
theorem dX5_conditionOf_13 : decode cX5_conditionOf 13 = .ok (.aload_n 0, 1) := by decide +kernel
theorem dX5_conditionOf_14 : decode cX5_conditionOf 14 = .ok (.getfield 20, 3) := by decide +kernel
theorem dX5_conditionOf_17 : decode cX5_conditionOf 17 = .ok (.arraylength, 1) := by decide +kernel
theorem dX5_conditionOf_18 : decode cX5_conditionOf 18 = .ok (.if_icmp .ge 12, 3) := by decide +kernel
theorem dX5_conditionOf_21 : decode cX5_conditionOf 21 = .ok (.aload_n 0, 1) := by decide +kernel
theorem dX5_conditionOf_22 : decode cX5_conditionOf 22 = .ok (.getfield 20, 3) := by decide +kernel
theorem dX5_conditionOf_25 : decode cX5_conditionOf 25 = .ok (.iload_n 1, 1) := by decide +kernel
theorem dX5_conditionOf_26 : decode cX5_conditionOf 26 = .ok (.aaload, 1) := by decide +kernel
theorem dX5_conditionOf_27 : decode cX5_conditionOf 27 = .ok (.goto 4, 3) := by decide +kernel
theorem dX5_conditionOf_30 : decode cX5_conditionOf 30 = .ok (.aconst_null, 1) := by decide +kernel
theorem dX5_conditionOf_31 : decode cX5_conditionOf 31 = .ok (.areturn, 1) := by decide +kernel
theorem dX5_ruleOf_0 : decode cX5_ruleOf 0 = .ok (.iload_n 1, 1) := by decide +kernel
theorem dX5_ruleOf_1 : decode cX5_ruleOf 1 = .ok (.ifCond .lt 29, 3) := by decide +kernel
theorem dX5_ruleOf_4 : decode cX5_ruleOf 4 = .ok (.iload_n 1, 1) := by decide +kernel
theorem dX5_ruleOf_5 : decode cX5_ruleOf 5 = .ok (.aload_n 0, 1) := by decide +kernel
theorem dX5_ruleOf_6 : decode cX5_ruleOf 6 = .ok (.getfield 57, 3) := by decide +kernel
theorem dX5_ruleOf_9 : decode cX5_ruleOf 9 = .ok (.if_icmp .ge 21, 3) := by decide +kernel
theorem dX5_ruleOf_12 : decode cX5_ruleOf 12 = .ok (.iload_n 1, 1) := by decide +kernel
theorem dX5_ruleOf_13 : decode cX5_ruleOf 13 = .ok (.aload_n 0, 1) := by decide +kernel
theorem dX5_ruleOf_14 : decode cX5_ruleOf 14 = .ok (.getfield 26, 3) := by decide +kernel
theorem dX5_ruleOf_17 : decode cX5_ruleOf 17 = .ok (.arraylength, 1) := by decide +kernel
theorem dX5_ruleOf_18 : decode cX5_ruleOf 18 = .ok (.if_icmp .ge 12, 3) := by decide +kernel
theorem dX5_ruleOf_21 : decode cX5_ruleOf 21 = .ok (.aload_n 0, 1) := by decide +kernel
theorem dX5_ruleOf_22 : decode cX5_ruleOf 22 = .ok (.getfield 26, 3) := by decide +kernel
theorem dX5_ruleOf_25 : decode cX5_ruleOf 25 = .ok (.iload_n 1, 1) := by decide +kernel
theorem dX5_ruleOf_26 : decode cX5_ruleOf 26 = .ok (.aaload, 1) := by decide +kernel
theorem dX5_ruleOf_27 : decode cX5_ruleOf 27 = .ok (.goto 4, 3) := by decide +kernel
theorem dX5_ruleOf_30 : decode cX5_ruleOf 30 = .ok (.aconst_null, 1) := by decide +kernel
theorem dX5_ruleOf_31 : decode cX5_ruleOf 31 = .ok (.areturn, 1) := by decide +kernel
theorem dX5_hasBit_0 : decode cX5_hasBit 0 = .ok (.lload_n 0, 1) := by decide +kernel
theorem dX5_hasBit_1 : decode cX5_hasBit 1 = .ok (.iload_n 2, 1) := by decide +kernel
theorem dX5_hasBit_2 : decode cX5_hasBit 2 = .ok (.lshr, 1) := by decide +kernel
theorem dX5_hasBit_3 : decode cX5_hasBit 3 = .ok (.lconst 1, 1) := by decide +kernel
theorem dX5_hasBit_4 : decode cX5_hasBit 4 = .ok (.land, 1) := by decide +kernel
theorem dX5_hasBit_5 : decode cX5_hasBit 5 = .ok (.lconst 0, 1) := by decide +kernel
theorem dX5_hasBit_6 : decode cX5_hasBit 6 = .ok (.lcmp, 1) := by decide +kernel
theorem dX5_hasBit_7 : decode cX5_hasBit 7 = .ok (.ifCond .eq 7, 3) := by decide +kernel
theorem dX5_hasBit_10 : decode cX5_hasBit 10 = .ok (.iconst 1, 1) := by decide +kernel
theorem dX5_hasBit_11 : decode cX5_hasBit 11 = .ok (.goto 4, 3) := by decide +kernel
theorem dX5_hasBit_14 : decode cX5_hasBit 14 = .ok (.iconst 0, 1) := by decide +kernel
theorem dX5_hasBit_15 : decode cX5_hasBit 15 = .ok (.ireturn, 1) := by decide +kernel
theorem dX5_judgementOf_0 : decode cX5_judgementOf 0 = .ok (.aload_n 1, 1) := by decide +kernel
theorem dX5_judgementOf_1 : decode cX5_judgementOf 1 = .ok (.ifnonnull 7, 3) := by decide +kernel
theorem dX5_judgementOf_4 : decode cX5_judgementOf 4 = .ok (.iconst 0, 1) := by decide +kernel
theorem dX5_judgementOf_5 : decode cX5_judgementOf 5 = .ok (.goto 8, 3) := by decide +kernel
theorem dX5_judgementOf_8 : decode cX5_judgementOf 8 = .ok (.aload_n 1, 1) := by decide +kernel
theorem dX5_judgementOf_9 : decode cX5_judgementOf 9 = .ok (.aload_n 0, 1) := by decide +kernel
theorem dX5_judgementOf_10 : decode cX5_judgementOf 10 = .ok (.invokevirtual 212, 3) := by decide +kernel
theorem dX5_judgementOf_13 : decode cX5_judgementOf 13 = .ok (.ireturn, 1) := by decide +kernel
theorem dX5_isQuarrel_0 : decode cX5_isQuarrel 0 = .ok (.iload_n 0, 1) := by decide +kernel
theorem dX5_isQuarrel_1 : decode cX5_isQuarrel 1 = .ok (.iload_n 1, 1) := by decide +kernel
theorem dX5_isQuarrel_2 : decode cX5_isQuarrel 2 = .ok (.if_icmp .eq 17, 3) := by decide +kernel
theorem dX5_isQuarrel_5 : decode cX5_isQuarrel 5 = .ok (.iload_n 0, 1) := by decide +kernel
theorem dX5_isQuarrel_6 : decode cX5_isQuarrel 6 = .ok (.iconst (-1), 1) := by decide +kernel
theorem dX5_isQuarrel_7 : decode cX5_isQuarrel 7 = .ok (.if_icmp .eq 12, 3) := by decide +kernel
theorem dX5_isQuarrel_10 : decode cX5_isQuarrel 10 = .ok (.iload_n 1, 1) := by decide +kernel
theorem dX5_isQuarrel_11 : decode cX5_isQuarrel 11 = .ok (.iconst (-1), 1) := by decide +kernel
theorem dX5_isQuarrel_12 : decode cX5_isQuarrel 12 = .ok (.if_icmp .eq 7, 3) := by decide +kernel
theorem dX5_isQuarrel_15 : decode cX5_isQuarrel 15 = .ok (.iconst 1, 1) := by decide +kernel
theorem dX5_isQuarrel_16 : decode cX5_isQuarrel 16 = .ok (.goto 4, 3) := by decide +kernel
theorem dX5_isQuarrel_19 : decode cX5_isQuarrel 19 = .ok (.iconst 0, 1) := by decide +kernel
theorem dX5_isQuarrel_20 : decode cX5_isQuarrel 20 = .ok (.ireturn, 1) := by decide +kernel
theorem dX5_heardByTwo_0 : decode cX5_heardByTwo 0 = .ok (.iload_n 0, 1) := by decide +kernel
theorem dX5_heardByTwo_1 : decode cX5_heardByTwo 1 = .ok (.iload_n 1, 1) := by decide +kernel
theorem dX5_heardByTwo_2 : decode cX5_heardByTwo 2 = .ok (.if_icmp .eq 8, 3) := by decide +kernel
theorem dX5_heardByTwo_5 : decode cX5_heardByTwo 5 = .ok (.iload_n 1, 1) := by decide +kernel
theorem dX5_heardByTwo_6 : decode cX5_heardByTwo 6 = .ok (.iconst (-1), 1) := by decide +kernel
theorem dX5_heardByTwo_7 : decode cX5_heardByTwo 7 = .ok (.if_icmp .ne 5, 3) := by decide +kernel
theorem dX5_heardByTwo_10 : decode cX5_heardByTwo 10 = .ok (.iload_n 0, 1) := by decide +kernel
theorem dX5_heardByTwo_11 : decode cX5_heardByTwo 11 = .ok (.ireturn, 1) := by decide +kernel
theorem dX5_heardByTwo_12 : decode cX5_heardByTwo 12 = .ok (.iload_n 0, 1) := by decide +kernel
theorem dX5_heardByTwo_13 : decode cX5_heardByTwo 13 = .ok (.iconst (-1), 1) := by decide +kernel
theorem dX5_heardByTwo_14 : decode cX5_heardByTwo 14 = .ok (.if_icmp .ne 7, 3) := by decide +kernel
theorem dX5_heardByTwo_17 : decode cX5_heardByTwo 17 = .ok (.iload_n 1, 1) := by decide +kernel
theorem dX5_heardByTwo_18 : decode cX5_heardByTwo 18 = .ok (.goto 4, 3) := by decide +kernel
theorem dX5_heardByTwo_21 : decode cX5_heardByTwo 21 = .ok (.iconst (-1), 1) := by decide +kernel
theorem dX5_heardByTwo_22 : decode cX5_heardByTwo 22 = .ok (.ireturn, 1) := by decide +kernel
theorem dX5_placesBehind_0 : decode cX5_placesBehind 0 = .ok (.lconst 1, 1) := by decide +kernel
theorem dX5_placesBehind_1 : decode cX5_placesBehind 1 = .ok (.lstore_n 2, 1) := by decide +kernel
theorem dX5_placesBehind_2 : decode cX5_placesBehind 2 = .ok (.iconst 0, 1) := by decide +kernel
theorem dX5_placesBehind_3 : decode cX5_placesBehind 3 = .ok (.istore 4, 2) := by decide +kernel
theorem dX5_placesBehind_5 : decode cX5_placesBehind 5 = .ok (.iload 4, 2) := by decide +kernel
theorem dX5_placesBehind_7 : decode cX5_placesBehind 7 = .ok (.aload_n 0, 1) := by decide +kernel
theorem dX5_placesBehind_8 : decode cX5_placesBehind 8 = .ok (.getfield 64, 3) := by decide +kernel
theorem dX5_placesBehind_11 : decode cX5_placesBehind 11 = .ok (.if_icmp .ge 39, 3) := by decide +kernel
theorem dX5_placesBehind_14 : decode cX5_placesBehind 14 = .ok (.aload_n 0, 1) := by decide +kernel
theorem dX5_placesBehind_15 : decode cX5_placesBehind 15 = .ok (.iload 4, 2) := by decide +kernel
theorem dX5_placesBehind_17 : decode cX5_placesBehind 17 = .ok (.invokevirtual 82, 3) := by decide +kernel
theorem dX5_placesBehind_20 : decode cX5_placesBehind 20 = .ok (.istore 5, 2) := by decide +kernel
theorem dX5_placesBehind_22 : decode cX5_placesBehind 22 = .ok (.iload 5, 2) := by decide +kernel
theorem dX5_placesBehind_24 : decode cX5_placesBehind 24 = .ok (.iconst (-1), 1) := by decide +kernel
theorem dX5_placesBehind_25 : decode cX5_placesBehind 25 = .ok (.if_icmp .ne 11, 3) := by decide +kernel
theorem dX5_placesBehind_28 : decode cX5_placesBehind 28 = .ok (.lload_n 2, 1) := by decide +kernel
theorem dX5_placesBehind_29 : decode cX5_placesBehind 29 = .ok (.aload_n 1, 1) := by decide +kernel
theorem dX5_placesBehind_30 : decode cX5_placesBehind 30 = .ok (.invokestatic 215, 3) := by decide +kernel
theorem dX5_placesBehind_33 : decode cX5_placesBehind 33 = .ok (.goto 10, 3) := by decide +kernel
theorem dX5_placesBehind_36 : decode cX5_placesBehind 36 = .ok (.lload_n 2, 1) := by decide +kernel
theorem dX5_placesBehind_37 : decode cX5_placesBehind 37 = .ok (.aload_n 1, 1) := by decide +kernel
theorem dX5_placesBehind_38 : decode cX5_placesBehind 38 = .ok (.iload 5, 2) := by decide +kernel
theorem dX5_placesBehind_40 : decode cX5_placesBehind 40 = .ok (.invokestatic 219, 3) := by decide +kernel
theorem dX5_placesBehind_43 : decode cX5_placesBehind 43 = .ok (.lstore_n 2, 1) := by decide +kernel
theorem dX5_placesBehind_44 : decode cX5_placesBehind 44 = .ok (.iinc 4 1, 3) := by decide +kernel
theorem dX5_placesBehind_47 : decode cX5_placesBehind 47 = .ok (.goto (-42), 3) := by decide +kernel
theorem dX5_placesBehind_50 : decode cX5_placesBehind 50 = .ok (.lload_n 2, 1) := by decide +kernel
theorem dX5_placesBehind_51 : decode cX5_placesBehind 51 = .ok (.lreturn, 1) := by decide +kernel
theorem dX5_placesBehindLine_0 : decode cX5_placesBehindLine 0 = .ok (.lconst 0, 1) := by decide +kernel
theorem dX5_placesBehindLine_1 : decode cX5_placesBehindLine 1 = .ok (.lstore 4, 2) := by decide +kernel
theorem dX5_placesBehindLine_3 : decode cX5_placesBehindLine 3 = .ok (.iconst 0, 1) := by decide +kernel
theorem dX5_placesBehindLine_4 : decode cX5_placesBehindLine 4 = .ok (.istore 6, 2) := by decide +kernel
theorem dX5_placesBehindLine_6 : decode cX5_placesBehindLine 6 = .ok (.iload 6, 2) := by decide +kernel
theorem dX5_placesBehindLine_8 : decode cX5_placesBehindLine 8 = .ok (.aload_n 2, 1) := by decide +kernel
theorem dX5_placesBehindLine_9 : decode cX5_placesBehindLine 9 = .ok (.getfield 64, 3) := by decide +kernel
theorem dX5_placesBehindLine_12 : decode cX5_placesBehindLine 12 = .ok (.if_icmp .ge 39, 3) := by decide +kernel
theorem dX5_placesBehindLine_15 : decode cX5_placesBehindLine 15 = .ok (.lload_n 0, 1) := by decide +kernel
theorem dX5_placesBehindLine_16 : decode cX5_placesBehindLine 16 = .ok (.iload 6, 2) := by decide +kernel
theorem dX5_placesBehindLine_18 : decode cX5_placesBehindLine 18 = .ok (.invokestatic 137, 3) := by decide +kernel
theorem dX5_placesBehindLine_21 : decode cX5_placesBehindLine 21 = .ok (.ifCond .eq 24, 3) := by decide +kernel
theorem dX5_placesBehindLine_24 : decode cX5_placesBehindLine 24 = .ok (.aload_n 2, 1) := by decide +kernel
theorem dX5_placesBehindLine_25 : decode cX5_placesBehindLine 25 = .ok (.iload 6, 2) := by decide +kernel
theorem dX5_placesBehindLine_27 : decode cX5_placesBehindLine 27 = .ok (.invokevirtual 82, 3) := by decide +kernel
theorem dX5_placesBehindLine_30 : decode cX5_placesBehindLine 30 = .ok (.iload_n 3, 1) := by decide +kernel
theorem dX5_placesBehindLine_31 : decode cX5_placesBehindLine 31 = .ok (.if_icmp .ne 14, 3) := by decide +kernel
theorem dX5_placesBehindLine_34 : decode cX5_placesBehindLine 34 = .ok (.lload 4, 2) := by decide +kernel
theorem dX5_placesBehindLine_36 : decode cX5_placesBehindLine 36 = .ok (.lconst 1, 1) := by decide +kernel
theorem dX5_placesBehindLine_37 : decode cX5_placesBehindLine 37 = .ok (.iload 6, 2) := by decide +kernel
theorem dX5_placesBehindLine_39 : decode cX5_placesBehindLine 39 = .ok (.iconst 1, 1) := by decide +kernel
theorem dX5_placesBehindLine_40 : decode cX5_placesBehindLine 40 = .ok (.iadd, 1) := by decide +kernel
theorem dX5_placesBehindLine_41 : decode cX5_placesBehindLine 41 = .ok (.lshl, 1) := by decide +kernel
theorem dX5_placesBehindLine_42 : decode cX5_placesBehindLine 42 = .ok (.lor, 1) := by decide +kernel
theorem dX5_placesBehindLine_43 : decode cX5_placesBehindLine 43 = .ok (.lstore 4, 2) := by decide +kernel
theorem dX5_placesBehindLine_45 : decode cX5_placesBehindLine 45 = .ok (.iinc 6 1, 3) := by decide +kernel
theorem dX5_placesBehindLine_48 : decode cX5_placesBehindLine 48 = .ok (.goto (-42), 3) := by decide +kernel
theorem dX5_placesBehindLine_51 : decode cX5_placesBehindLine 51 = .ok (.lload 4, 2) := by decide +kernel
theorem dX5_placesBehindLine_53 : decode cX5_placesBehindLine 53 = .ok (.lreturn, 1) := by decide +kernel
theorem dX5_placesBehindGap_0 : decode cX5_placesBehindGap 0 = .ok (.lload_n 0, 1) := by decide +kernel
theorem dX5_placesBehindGap_1 : decode cX5_placesBehindGap 1 = .ok (.lstore_n 3, 1) := by decide +kernel
theorem dX5_placesBehindGap_2 : decode cX5_placesBehindGap 2 = .ok (.iconst 0, 1) := by decide +kernel
theorem dX5_placesBehindGap_3 : decode cX5_placesBehindGap 3 = .ok (.istore 5, 2) := by decide +kernel
theorem dX5_placesBehindGap_5 : decode cX5_placesBehindGap 5 = .ok (.iload 5, 2) := by decide +kernel
theorem dX5_placesBehindGap_7 : decode cX5_placesBehindGap 7 = .ok (.aload_n 2, 1) := by decide +kernel
theorem dX5_placesBehindGap_8 : decode cX5_placesBehindGap 8 = .ok (.getfield 64, 3) := by decide +kernel
theorem dX5_placesBehindGap_11 : decode cX5_placesBehindGap 11 = .ok (.if_icmp .ge 27, 3) := by decide +kernel
theorem dX5_placesBehindGap_14 : decode cX5_placesBehindGap 14 = .ok (.lload_n 3, 1) := by decide +kernel
theorem dX5_placesBehindGap_15 : decode cX5_placesBehindGap 15 = .ok (.iload 5, 2) := by decide +kernel
theorem dX5_placesBehindGap_17 : decode cX5_placesBehindGap 17 = .ok (.invokestatic 137, 3) := by decide +kernel
theorem dX5_placesBehindGap_20 : decode cX5_placesBehindGap 20 = .ok (.ifCond .eq 12, 3) := by decide +kernel
theorem dX5_placesBehindGap_23 : decode cX5_placesBehindGap 23 = .ok (.lload_n 3, 1) := by decide +kernel
theorem dX5_placesBehindGap_24 : decode cX5_placesBehindGap 24 = .ok (.lconst 1, 1) := by decide +kernel
theorem dX5_placesBehindGap_25 : decode cX5_placesBehindGap 25 = .ok (.iload 5, 2) := by decide +kernel
theorem dX5_placesBehindGap_27 : decode cX5_placesBehindGap 27 = .ok (.iconst 1, 1) := by decide +kernel
theorem dX5_placesBehindGap_28 : decode cX5_placesBehindGap 28 = .ok (.iadd, 1) := by decide +kernel
theorem dX5_placesBehindGap_29 : decode cX5_placesBehindGap 29 = .ok (.lshl, 1) := by decide +kernel
theorem dX5_placesBehindGap_30 : decode cX5_placesBehindGap 30 = .ok (.lor, 1) := by decide +kernel
theorem dX5_placesBehindGap_31 : decode cX5_placesBehindGap 31 = .ok (.lstore_n 3, 1) := by decide +kernel
theorem dX5_placesBehindGap_32 : decode cX5_placesBehindGap 32 = .ok (.iinc 5 1, 3) := by decide +kernel
theorem dX5_placesBehindGap_35 : decode cX5_placesBehindGap 35 = .ok (.goto (-30), 3) := by decide +kernel
theorem dX5_placesBehindGap_38 : decode cX5_placesBehindGap 38 = .ok (.lload_n 3, 1) := by decide +kernel
theorem dX5_placesBehindGap_39 : decode cX5_placesBehindGap 39 = .ok (.lreturn, 1) := by decide +kernel
theorem dX5_gapsHeard_0 : decode cX5_gapsHeard 0 = .ok (.iconst 0, 1) := by decide +kernel
theorem dX5_gapsHeard_1 : decode cX5_gapsHeard 1 = .ok (.istore_n 1, 1) := by decide +kernel
theorem dX5_gapsHeard_2 : decode cX5_gapsHeard 2 = .ok (.iconst 0, 1) := by decide +kernel
theorem dX5_gapsHeard_3 : decode cX5_gapsHeard 3 = .ok (.istore_n 2, 1) := by decide +kernel
theorem dX5_gapsHeard_4 : decode cX5_gapsHeard 4 = .ok (.iload_n 2, 1) := by decide +kernel
theorem dX5_gapsHeard_5 : decode cX5_gapsHeard 5 = .ok (.iconst 4, 1) := by decide +kernel
theorem dX5_gapsHeard_6 : decode cX5_gapsHeard 6 = .ok (.if_icmp .ge 53, 3) := by decide +kernel
theorem dX5_gapsHeard_9 : decode cX5_gapsHeard 9 = .ok (.aload_n 0, 1) := by decide +kernel
theorem dX5_gapsHeard_10 : decode cX5_gapsHeard 10 = .ok (.getfield 15, 3) := by decide +kernel
theorem dX5_gapsHeard_13 : decode cX5_gapsHeard 13 = .ok (.iload_n 2, 1) := by decide +kernel
theorem dX5_gapsHeard_14 : decode cX5_gapsHeard 14 = .ok (.invokestatic 60, 3) := by decide +kernel
theorem dX5_gapsHeard_17 : decode cX5_gapsHeard 17 = .ok (.astore_n 3, 1) := by decide +kernel
theorem dX5_gapsHeard_18 : decode cX5_gapsHeard 18 = .ok (.iconst 0, 1) := by decide +kernel
theorem dX5_gapsHeard_19 : decode cX5_gapsHeard 19 = .ok (.istore 4, 2) := by decide +kernel
theorem dX5_gapsHeard_21 : decode cX5_gapsHeard 21 = .ok (.aload_n 3, 1) := by decide +kernel
theorem dX5_gapsHeard_22 : decode cX5_gapsHeard 22 = .ok (.ifnull 31, 3) := by decide +kernel
theorem dX5_gapsHeard_25 : decode cX5_gapsHeard 25 = .ok (.iload 4, 2) := by decide +kernel
theorem dX5_gapsHeard_27 : decode cX5_gapsHeard 27 = .ok (.aload_n 3, 1) := by decide +kernel
theorem dX5_gapsHeard_28 : decode cX5_gapsHeard 28 = .ok (.getfield 64, 3) := by decide +kernel
theorem dX5_gapsHeard_31 : decode cX5_gapsHeard 31 = .ok (.if_icmp .ge 22, 3) := by decide +kernel
theorem dX5_gapsHeard_34 : decode cX5_gapsHeard 34 = .ok (.aload_n 3, 1) := by decide +kernel
theorem dX5_gapsHeard_35 : decode cX5_gapsHeard 35 = .ok (.iload 4, 2) := by decide +kernel
theorem dX5_gapsHeard_37 : decode cX5_gapsHeard 37 = .ok (.invokevirtual 82, 3) := by decide +kernel
theorem dX5_gapsHeard_40 : decode cX5_gapsHeard 40 = .ok (.iconst (-1), 1) := by decide +kernel
theorem dX5_gapsHeard_41 : decode cX5_gapsHeard 41 = .ok (.if_icmp .ne 6, 3) := by decide +kernel
theorem dX5_gapsHeard_44 : decode cX5_gapsHeard 44 = .ok (.iinc 1 1, 3) := by decide +kernel
theorem dX5_gapsHeard_47 : decode cX5_gapsHeard 47 = .ok (.iinc 4 1, 3) := by decide +kernel
theorem dX5_gapsHeard_50 : decode cX5_gapsHeard 50 = .ok (.goto (-29), 3) := by decide +kernel
theorem dX5_gapsHeard_53 : decode cX5_gapsHeard 53 = .ok (.iinc 2 1, 3) := by decide +kernel
theorem dX5_gapsHeard_56 : decode cX5_gapsHeard 56 = .ok (.goto (-52), 3) := by decide +kernel
theorem dX5_gapsHeard_59 : decode cX5_gapsHeard 59 = .ok (.iload_n 1, 1) := by decide +kernel
theorem dX5_gapsHeard_60 : decode cX5_gapsHeard 60 = .ok (.ireturn, 1) := by decide +kernel
theorem dX5_thingsIn_0 : decode cX5_thingsIn 0 = .ok (.iconst 0, 1) := by decide +kernel
theorem dX5_thingsIn_1 : decode cX5_thingsIn 1 = .ok (.istore_n 1, 1) := by decide +kernel
theorem dX5_thingsIn_2 : decode cX5_thingsIn 2 = .ok (.iconst 0, 1) := by decide +kernel
theorem dX5_thingsIn_3 : decode cX5_thingsIn 3 = .ok (.istore_n 2, 1) := by decide +kernel
theorem dX5_thingsIn_4 : decode cX5_thingsIn 4 = .ok (.iload_n 2, 1) := by decide +kernel
theorem dX5_thingsIn_5 : decode cX5_thingsIn 5 = .ok (.aload_n 0, 1) := by decide +kernel
theorem dX5_thingsIn_6 : decode cX5_thingsIn 6 = .ok (.arraylength, 1) := by decide +kernel
theorem dX5_thingsIn_7 : decode cX5_thingsIn 7 = .ok (.if_icmp .ge 26, 3) := by decide +kernel
theorem dX5_thingsIn_10 : decode cX5_thingsIn 10 = .ok (.aload_n 0, 1) := by decide +kernel
theorem dX5_thingsIn_11 : decode cX5_thingsIn 11 = .ok (.iload_n 2, 1) := by decide +kernel
theorem dX5_thingsIn_12 : decode cX5_thingsIn 12 = .ok (.invokestatic 60, 3) := by decide +kernel
theorem dX5_thingsIn_15 : decode cX5_thingsIn 15 = .ok (.astore_n 3, 1) := by decide +kernel
theorem dX5_thingsIn_16 : decode cX5_thingsIn 16 = .ok (.aload_n 3, 1) := by decide +kernel
theorem dX5_thingsIn_17 : decode cX5_thingsIn 17 = .ok (.ifnull 10, 3) := by decide +kernel
theorem dX5_thingsIn_20 : decode cX5_thingsIn 20 = .ok (.iload_n 1, 1) := by decide +kernel
theorem dX5_thingsIn_21 : decode cX5_thingsIn 21 = .ok (.aload_n 3, 1) := by decide +kernel
theorem dX5_thingsIn_22 : decode cX5_thingsIn 22 = .ok (.getfield 64, 3) := by decide +kernel
theorem dX5_thingsIn_25 : decode cX5_thingsIn 25 = .ok (.iadd, 1) := by decide +kernel
theorem dX5_thingsIn_26 : decode cX5_thingsIn 26 = .ok (.istore_n 1, 1) := by decide +kernel
theorem dX5_thingsIn_27 : decode cX5_thingsIn 27 = .ok (.iinc 2 1, 3) := by decide +kernel
theorem dX5_thingsIn_30 : decode cX5_thingsIn 30 = .ok (.goto (-26), 3) := by decide +kernel
theorem dX5_thingsIn_33 : decode cX5_thingsIn 33 = .ok (.iload_n 1, 1) := by decide +kernel
theorem dX5_thingsIn_34 : decode cX5_thingsIn 34 = .ok (.ireturn, 1) := by decide +kernel
theorem dX5_marksOf_0 : decode cX5_marksOf 0 = .ok (.iload_n 1, 1) := by decide +kernel
theorem dX5_marksOf_1 : decode cX5_marksOf 1 = .ok (.invokestatic 67, 3) := by decide +kernel
theorem dX5_marksOf_4 : decode cX5_marksOf 4 = .ok (.ifCond .eq 12, 3) := by decide +kernel
theorem dX5_marksOf_7 : decode cX5_marksOf 7 = .ok (.aload_n 0, 1) := by decide +kernel
theorem dX5_marksOf_8 : decode cX5_marksOf 8 = .ok (.getfield 30, 3) := by decide +kernel
theorem dX5_marksOf_11 : decode cX5_marksOf 11 = .ok (.iload_n 1, 1) := by decide +kernel
theorem dX5_marksOf_12 : decode cX5_marksOf 12 = .ok (.iaload, 1) := by decide +kernel
theorem dX5_marksOf_13 : decode cX5_marksOf 13 = .ok (.goto 4, 3) := by decide +kernel
theorem dX5_marksOf_16 : decode cX5_marksOf 16 = .ok (.iconst 0, 1) := by decide +kernel
theorem dX5_marksOf_17 : decode cX5_marksOf 17 = .ok (.ireturn, 1) := by decide +kernel
theorem dX5_marksOfAll_0 : decode cX5_marksOfAll 0 = .ok (.iconst 0, 1) := by decide +kernel
theorem dX5_marksOfAll_1 : decode cX5_marksOfAll 1 = .ok (.istore_n 2, 1) := by decide +kernel
theorem dX5_marksOfAll_2 : decode cX5_marksOfAll 2 = .ok (.iconst 0, 1) := by decide +kernel
theorem dX5_marksOfAll_3 : decode cX5_marksOfAll 3 = .ok (.istore_n 3, 1) := by decide +kernel
theorem dX5_marksOfAll_4 : decode cX5_marksOfAll 4 = .ok (.iload_n 3, 1) := by decide +kernel
theorem dX5_marksOfAll_5 : decode cX5_marksOfAll 5 = .ok (.aload_n 1, 1) := by decide +kernel
theorem dX5_marksOfAll_6 : decode cX5_marksOfAll 6 = .ok (.getfield 64, 3) := by decide +kernel
theorem dX5_marksOfAll_9 : decode cX5_marksOfAll 9 = .ok (.if_icmp .ge 21, 3) := by decide +kernel
theorem dX5_marksOfAll_12 : decode cX5_marksOfAll 12 = .ok (.iload_n 2, 1) := by decide +kernel
theorem dX5_marksOfAll_13 : decode cX5_marksOfAll 13 = .ok (.aload_n 0, 1) := by decide +kernel
theorem dX5_marksOfAll_14 : decode cX5_marksOfAll 14 = .ok (.aload_n 1, 1) := by decide +kernel
theorem dX5_marksOfAll_15 : decode cX5_marksOfAll 15 = .ok (.iload_n 3, 1) := by decide +kernel
theorem dX5_marksOfAll_16 : decode cX5_marksOfAll 16 = .ok (.invokevirtual 82, 3) := by decide +kernel
theorem dX5_marksOfAll_19 : decode cX5_marksOfAll 19 = .ok (.invokevirtual 160, 3) := by decide +kernel
theorem dX5_marksOfAll_22 : decode cX5_marksOfAll 22 = .ok (.ior, 1) := by decide +kernel
theorem dX5_marksOfAll_23 : decode cX5_marksOfAll 23 = .ok (.istore_n 2, 1) := by decide +kernel
theorem dX5_marksOfAll_24 : decode cX5_marksOfAll 24 = .ok (.iinc 3 1, 3) := by decide +kernel
theorem dX5_marksOfAll_27 : decode cX5_marksOfAll 27 = .ok (.goto (-23), 3) := by decide +kernel
theorem dX5_marksOfAll_30 : decode cX5_marksOfAll 30 = .ok (.iload_n 2, 1) := by decide +kernel
theorem dX5_marksOfAll_31 : decode cX5_marksOfAll 31 = .ok (.ireturn, 1) := by decide +kernel
theorem dX5_linesWith_0 : decode cX5_linesWith 0 = .ok (.iconst 0, 1) := by decide +kernel
theorem dX5_linesWith_1 : decode cX5_linesWith 1 = .ok (.istore_n 3, 1) := by decide +kernel
theorem dX5_linesWith_2 : decode cX5_linesWith 2 = .ok (.iconst 0, 1) := by decide +kernel
theorem dX5_linesWith_3 : decode cX5_linesWith 3 = .ok (.istore 4, 2) := by decide +kernel
theorem dX5_linesWith_5 : decode cX5_linesWith 5 = .ok (.iload 4, 2) := by decide +kernel
theorem dX5_linesWith_7 : decode cX5_linesWith 7 = .ok (.aload_n 1, 1) := by decide +kernel
theorem dX5_linesWith_8 : decode cX5_linesWith 8 = .ok (.getfield 64, 3) := by decide +kernel
theorem dX5_linesWith_11 : decode cX5_linesWith 11 = .ok (.if_icmp .ge 27, 3) := by decide +kernel
theorem dX5_linesWith_14 : decode cX5_linesWith 14 = .ok (.aload_n 0, 1) := by decide +kernel
theorem dX5_linesWith_15 : decode cX5_linesWith 15 = .ok (.aload_n 1, 1) := by decide +kernel
theorem dX5_linesWith_16 : decode cX5_linesWith 16 = .ok (.iload 4, 2) := by decide +kernel
theorem dX5_linesWith_18 : decode cX5_linesWith 18 = .ok (.invokevirtual 82, 3) := by decide +kernel
theorem dX5_linesWith_21 : decode cX5_linesWith 21 = .ok (.invokevirtual 160, 3) := by decide +kernel
theorem dX5_linesWith_24 : decode cX5_linesWith 24 = .ok (.iload_n 2, 1) := by decide +kernel
theorem dX5_linesWith_25 : decode cX5_linesWith 25 = .ok (.iand, 1) := by decide +kernel
theorem dX5_linesWith_26 : decode cX5_linesWith 26 = .ok (.ifCond .eq 6, 3) := by decide +kernel
theorem dX5_linesWith_29 : decode cX5_linesWith 29 = .ok (.iinc 3 1, 3) := by decide +kernel
theorem dX5_linesWith_32 : decode cX5_linesWith 32 = .ok (.iinc 4 1, 3) := by decide +kernel
theorem dX5_linesWith_35 : decode cX5_linesWith 35 = .ok (.goto (-30), 3) := by decide +kernel
theorem dX5_linesWith_38 : decode cX5_linesWith 38 = .ok (.iload_n 3, 1) := by decide +kernel
theorem dX5_linesWith_39 : decode cX5_linesWith 39 = .ok (.ireturn, 1) := by decide +kernel
theorem dX5_forbiddenMarks_0 : decode cX5_forbiddenMarks 0 = .ok (.iconst 0, 1) := by decide +kernel
theorem dX5_forbiddenMarks_1 : decode cX5_forbiddenMarks 1 = .ok (.istore_n 3, 1) := by decide +kernel
theorem dX5_forbiddenMarks_2 : decode cX5_forbiddenMarks 2 = .ok (.iconst 0, 1) := by decide +kernel
theorem dX5_forbiddenMarks_3 : decode cX5_forbiddenMarks 3 = .ok (.istore 4, 2) := by decide +kernel
theorem dX5_forbiddenMarks_5 : decode cX5_forbiddenMarks 5 = .ok (.iload 4, 2) := by decide +kernel
theorem dX5_forbiddenMarks_7 : decode cX5_forbiddenMarks 7 = .ok (.aload_n 0, 1) := by decide +kernel
theorem dX5_forbiddenMarks_8 : decode cX5_forbiddenMarks 8 = .ok (.getfield 57, 3) := by decide +kernel
theorem dX5_forbiddenMarks_11 : decode cX5_forbiddenMarks 11 = .ok (.if_icmp .ge 40, 3) := by decide +kernel
theorem dX5_forbiddenMarks_14 : decode cX5_forbiddenMarks 14 = .ok (.aload_n 0, 1) := by decide +kernel
theorem dX5_forbiddenMarks_15 : decode cX5_forbiddenMarks 15 = .ok (.iload 4, 2) := by decide +kernel
theorem dX5_forbiddenMarks_17 : decode cX5_forbiddenMarks 17 = .ok (.invokevirtual 223, 3) := by decide +kernel
theorem dX5_forbiddenMarks_20 : decode cX5_forbiddenMarks 20 = .ok (.astore 5, 2) := by decide +kernel
theorem dX5_forbiddenMarks_22 : decode cX5_forbiddenMarks 22 = .ok (.aload 5, 2) := by decide +kernel
theorem dX5_forbiddenMarks_24 : decode cX5_forbiddenMarks 24 = .ok (.ifnull 21, 3) := by decide +kernel
theorem dX5_forbiddenMarks_27 : decode cX5_forbiddenMarks 27 = .ok (.aload 5, 2) := by decide +kernel
theorem dX5_forbiddenMarks_29 : decode cX5_forbiddenMarks 29 = .ok (.iload_n 1, 1) := by decide +kernel
theorem dX5_forbiddenMarks_30 : decode cX5_forbiddenMarks 30 = .ok (.iload_n 2, 1) := by decide +kernel
theorem dX5_forbiddenMarks_31 : decode cX5_forbiddenMarks 31 = .ok (.invokevirtual 227, 3) := by decide +kernel
theorem dX5_forbiddenMarks_34 : decode cX5_forbiddenMarks 34 = .ok (.ifCond .eq 11, 3) := by decide +kernel
theorem dX5_forbiddenMarks_37 : decode cX5_forbiddenMarks 37 = .ok (.iload_n 3, 1) := by decide +kernel
theorem dX5_forbiddenMarks_38 : decode cX5_forbiddenMarks 38 = .ok (.aload 5, 2) := by decide +kernel
theorem dX5_forbiddenMarks_40 : decode cX5_forbiddenMarks 40 = .ok (.getfield 230, 3) := by decide +kernel
theorem dX5_forbiddenMarks_43 : decode cX5_forbiddenMarks 43 = .ok (.ior, 1) := by decide +kernel
theorem dX5_forbiddenMarks_44 : decode cX5_forbiddenMarks 44 = .ok (.istore_n 3, 1) := by decide +kernel
theorem dX5_forbiddenMarks_45 : decode cX5_forbiddenMarks 45 = .ok (.iinc 4 1, 3) := by decide +kernel
theorem dX5_forbiddenMarks_48 : decode cX5_forbiddenMarks 48 = .ok (.goto (-43), 3) := by decide +kernel
theorem dX5_forbiddenMarks_51 : decode cX5_forbiddenMarks 51 = .ok (.iload_n 3, 1) := by decide +kernel
theorem dX5_forbiddenMarks_52 : decode cX5_forbiddenMarks 52 = .ok (.ireturn, 1) := by decide +kernel
theorem dX5_lastForbiddenDay_0 : decode cX5_lastForbiddenDay 0 = .ok (.iconst (-1), 1) := by decide +kernel
theorem dX5_lastForbiddenDay_1 : decode cX5_lastForbiddenDay 1 = .ok (.istore 4, 2) := by decide +kernel
theorem dX5_lastForbiddenDay_3 : decode cX5_lastForbiddenDay 3 = .ok (.iconst 0, 1) := by decide +kernel
theorem dX5_lastForbiddenDay_4 : decode cX5_lastForbiddenDay 4 = .ok (.istore 5, 2) := by decide +kernel
theorem dX5_lastForbiddenDay_6 : decode cX5_lastForbiddenDay 6 = .ok (.iload 5, 2) := by decide +kernel
theorem dX5_lastForbiddenDay_8 : decode cX5_lastForbiddenDay 8 = .ok (.aload_n 0, 1) := by decide +kernel
theorem dX5_lastForbiddenDay_9 : decode cX5_lastForbiddenDay 9 = .ok (.getfield 57, 3) := by decide +kernel
theorem dX5_lastForbiddenDay_12 : decode cX5_lastForbiddenDay 12 = .ok (.if_icmp .ge 54, 3) := by decide +kernel
theorem dX5_lastForbiddenDay_15 : decode cX5_lastForbiddenDay 15 = .ok (.aload_n 0, 1) := by decide +kernel
theorem dX5_lastForbiddenDay_16 : decode cX5_lastForbiddenDay 16 = .ok (.iload 5, 2) := by decide +kernel
theorem dX5_lastForbiddenDay_18 : decode cX5_lastForbiddenDay 18 = .ok (.invokevirtual 223, 3) := by decide +kernel
theorem dX5_lastForbiddenDay_21 : decode cX5_lastForbiddenDay 21 = .ok (.astore 6, 2) := by decide +kernel
theorem dX5_lastForbiddenDay_23 : decode cX5_lastForbiddenDay 23 = .ok (.aload 6, 2) := by decide +kernel
theorem dX5_lastForbiddenDay_25 : decode cX5_lastForbiddenDay 25 = .ok (.ifnull 35, 3) := by decide +kernel
theorem dX5_lastForbiddenDay_28 : decode cX5_lastForbiddenDay 28 = .ok (.aload 6, 2) := by decide +kernel
theorem dX5_lastForbiddenDay_30 : decode cX5_lastForbiddenDay 30 = .ok (.iload_n 2, 1) := by decide +kernel
theorem dX5_lastForbiddenDay_31 : decode cX5_lastForbiddenDay 31 = .ok (.iload_n 3, 1) := by decide +kernel
theorem dX5_lastForbiddenDay_32 : decode cX5_lastForbiddenDay 32 = .ok (.invokevirtual 227, 3) := by decide +kernel
theorem dX5_lastForbiddenDay_35 : decode cX5_lastForbiddenDay 35 = .ok (.ifCond .eq 25, 3) := by decide +kernel
theorem dX5_lastForbiddenDay_38 : decode cX5_lastForbiddenDay 38 = .ok (.aload 6, 2) := by decide +kernel
theorem dX5_lastForbiddenDay_40 : decode cX5_lastForbiddenDay 40 = .ok (.getfield 230, 3) := by decide +kernel
theorem dX5_lastForbiddenDay_43 : decode cX5_lastForbiddenDay 43 = .ok (.iload_n 1, 1) := by decide +kernel
theorem dX5_lastForbiddenDay_44 : decode cX5_lastForbiddenDay 44 = .ok (.iand, 1) := by decide +kernel
theorem dX5_lastForbiddenDay_45 : decode cX5_lastForbiddenDay 45 = .ok (.ifCond .eq 15, 3) := by decide +kernel
theorem dX5_lastForbiddenDay_48 : decode cX5_lastForbiddenDay 48 = .ok (.iload 4, 2) := by decide +kernel
theorem dX5_lastForbiddenDay_50 : decode cX5_lastForbiddenDay 50 = .ok (.aload 6, 2) := by decide +kernel
theorem dX5_lastForbiddenDay_52 : decode cX5_lastForbiddenDay 52 = .ok (.getfield 232, 3) := by decide +kernel
theorem dX5_lastForbiddenDay_55 : decode cX5_lastForbiddenDay 55 = .ok (.invokestatic 120, 3) := by decide +kernel
theorem dX5_lastForbiddenDay_58 : decode cX5_lastForbiddenDay 58 = .ok (.istore 4, 2) := by decide +kernel
theorem dX5_lastForbiddenDay_60 : decode cX5_lastForbiddenDay 60 = .ok (.iinc 5 1, 3) := by decide +kernel
theorem dX5_lastForbiddenDay_63 : decode cX5_lastForbiddenDay 63 = .ok (.goto (-57), 3) := by decide +kernel
theorem dX5_lastForbiddenDay_66 : decode cX5_lastForbiddenDay 66 = .ok (.iload 4, 2) := by decide +kernel
theorem dX5_lastForbiddenDay_68 : decode cX5_lastForbiddenDay 68 = .ok (.ireturn, 1) := by decide +kernel
theorem dX5_mixed_0 : decode cX5_mixed 0 = .ok (.ldc2_w 235, 3) := by decide +kernel
theorem dX5_mixed_3 : decode cX5_mixed 3 = .ok (.lload_n 0, 1) := by decide +kernel
theorem dX5_mixed_4 : decode cX5_mixed 4 = .ok (.lmul, 1) := by decide +kernel
theorem dX5_mixed_5 : decode cX5_mixed 5 = .ok (.iload_n 2, 1) := by decide +kernel
theorem dX5_mixed_6 : decode cX5_mixed 6 = .ok (.i2l, 1) := by decide +kernel
theorem dX5_mixed_7 : decode cX5_mixed 7 = .ok (.ladd, 1) := by decide +kernel
theorem dX5_mixed_8 : decode cX5_mixed 8 = .ok (.lreturn, 1) := by decide +kernel
theorem dX5_mixedRows_0 : decode cX5_mixedRows 0 = .ok (.lload_n 0, 1) := by decide +kernel
theorem dX5_mixedRows_1 : decode cX5_mixedRows 1 = .ok (.lstore_n 3, 1) := by decide +kernel
theorem dX5_mixedRows_2 : decode cX5_mixedRows 2 = .ok (.iconst 0, 1) := by decide +kernel
theorem dX5_mixedRows_3 : decode cX5_mixedRows 3 = .ok (.istore 5, 2) := by decide +kernel
theorem dX5_mixedRows_5 : decode cX5_mixedRows 5 = .ok (.iload 5, 2) := by decide +kernel
theorem dX5_mixedRows_7 : decode cX5_mixedRows 7 = .ok (.aload_n 2, 1) := by decide +kernel
theorem dX5_mixedRows_8 : decode cX5_mixedRows 8 = .ok (.arraylength, 1) := by decide +kernel
theorem dX5_mixedRows_9 : decode cX5_mixedRows 9 = .ok (.if_icmp .ge 63, 3) := by decide +kernel
theorem dX5_mixedRows_12 : decode cX5_mixedRows 12 = .ok (.aload_n 2, 1) := by decide +kernel
theorem dX5_mixedRows_13 : decode cX5_mixedRows 13 = .ok (.iload 5, 2) := by decide +kernel
theorem dX5_mixedRows_15 : decode cX5_mixedRows 15 = .ok (.invokestatic 60, 3) := by decide +kernel
theorem dX5_mixedRows_18 : decode cX5_mixedRows 18 = .ok (.astore 6, 2) := by decide +kernel
theorem dX5_mixedRows_20 : decode cX5_mixedRows 20 = .ok (.aload 6, 2) := by decide +kernel
theorem dX5_mixedRows_22 : decode cX5_mixedRows 22 = .ok (.ifnull 44, 3) := by decide +kernel
theorem dX5_mixedRows_25 : decode cX5_mixedRows 25 = .ok (.lload_n 3, 1) := by decide +kernel
theorem dX5_mixedRows_26 : decode cX5_mixedRows 26 = .ok (.aload 6, 2) := by decide +kernel
theorem dX5_mixedRows_28 : decode cX5_mixedRows 28 = .ok (.getfield 64, 3) := by decide +kernel
theorem dX5_mixedRows_31 : decode cX5_mixedRows 31 = .ok (.invokestatic 197, 3) := by decide +kernel
theorem dX5_mixedRows_34 : decode cX5_mixedRows 34 = .ok (.lstore_n 3, 1) := by decide +kernel
theorem dX5_mixedRows_35 : decode cX5_mixedRows 35 = .ok (.iconst 0, 1) := by decide +kernel
theorem dX5_mixedRows_36 : decode cX5_mixedRows 36 = .ok (.istore 7, 2) := by decide +kernel
theorem dX5_mixedRows_38 : decode cX5_mixedRows 38 = .ok (.iload 7, 2) := by decide +kernel
theorem dX5_mixedRows_40 : decode cX5_mixedRows 40 = .ok (.aload 6, 2) := by decide +kernel
theorem dX5_mixedRows_42 : decode cX5_mixedRows 42 = .ok (.getfield 64, 3) := by decide +kernel
theorem dX5_mixedRows_45 : decode cX5_mixedRows 45 = .ok (.if_icmp .ge 21, 3) := by decide +kernel
theorem dX5_mixedRows_48 : decode cX5_mixedRows 48 = .ok (.lload_n 3, 1) := by decide +kernel
theorem dX5_mixedRows_49 : decode cX5_mixedRows 49 = .ok (.aload 6, 2) := by decide +kernel
theorem dX5_mixedRows_51 : decode cX5_mixedRows 51 = .ok (.iload 7, 2) := by decide +kernel
theorem dX5_mixedRows_53 : decode cX5_mixedRows 53 = .ok (.invokevirtual 82, 3) := by decide +kernel
theorem dX5_mixedRows_56 : decode cX5_mixedRows 56 = .ok (.invokestatic 197, 3) := by decide +kernel
theorem dX5_mixedRows_59 : decode cX5_mixedRows 59 = .ok (.lstore_n 3, 1) := by decide +kernel
theorem dX5_mixedRows_60 : decode cX5_mixedRows 60 = .ok (.iinc 7 1, 3) := by decide +kernel
theorem dX5_mixedRows_63 : decode cX5_mixedRows 63 = .ok (.goto (-25), 3) := by decide +kernel
theorem dX5_mixedRows_66 : decode cX5_mixedRows 66 = .ok (.iinc 5 1, 3) := by decide +kernel
theorem dX5_mixedRows_69 : decode cX5_mixedRows 69 = .ok (.goto (-64), 3) := by decide +kernel
theorem dX5_mixedRows_72 : decode cX5_mixedRows 72 = .ok (.lload_n 3, 1) := by decide +kernel
theorem dX5_mixedRows_73 : decode cX5_mixedRows 73 = .ok (.lreturn, 1) := by decide +kernel
theorem dX5_mixedRules_0 : decode cX5_mixedRules 0 = .ok (.lload_n 1, 1) := by decide +kernel
theorem dX5_mixedRules_1 : decode cX5_mixedRules 1 = .ok (.lstore_n 3, 1) := by decide +kernel
theorem dX5_mixedRules_2 : decode cX5_mixedRules 2 = .ok (.iconst 0, 1) := by decide +kernel
theorem dX5_mixedRules_3 : decode cX5_mixedRules 3 = .ok (.istore 5, 2) := by decide +kernel
theorem dX5_mixedRules_5 : decode cX5_mixedRules 5 = .ok (.iload 5, 2) := by decide +kernel
theorem dX5_mixedRules_7 : decode cX5_mixedRules 7 = .ok (.aload_n 0, 1) := by decide +kernel
theorem dX5_mixedRules_8 : decode cX5_mixedRules 8 = .ok (.getfield 57, 3) := by decide +kernel
theorem dX5_mixedRules_11 : decode cX5_mixedRules 11 = .ok (.if_icmp .ge 62, 3) := by decide +kernel
theorem dX5_mixedRules_14 : decode cX5_mixedRules 14 = .ok (.aload_n 0, 1) := by decide +kernel
theorem dX5_mixedRules_15 : decode cX5_mixedRules 15 = .ok (.iload 5, 2) := by decide +kernel
theorem dX5_mixedRules_17 : decode cX5_mixedRules 17 = .ok (.invokevirtual 223, 3) := by decide +kernel
theorem dX5_mixedRules_20 : decode cX5_mixedRules 20 = .ok (.astore 6, 2) := by decide +kernel
theorem dX5_mixedRules_22 : decode cX5_mixedRules 22 = .ok (.aload 6, 2) := by decide +kernel
theorem dX5_mixedRules_24 : decode cX5_mixedRules 24 = .ok (.ifnull 43, 3) := by decide +kernel
theorem dX5_mixedRules_27 : decode cX5_mixedRules 27 = .ok (.lload_n 3, 1) := by decide +kernel
theorem dX5_mixedRules_28 : decode cX5_mixedRules 28 = .ok (.aload 6, 2) := by decide +kernel
theorem dX5_mixedRules_30 : decode cX5_mixedRules 30 = .ok (.getfield 237, 3) := by decide +kernel
theorem dX5_mixedRules_33 : decode cX5_mixedRules 33 = .ok (.invokestatic 197, 3) := by decide +kernel
theorem dX5_mixedRules_36 : decode cX5_mixedRules 36 = .ok (.lstore_n 3, 1) := by decide +kernel
theorem dX5_mixedRules_37 : decode cX5_mixedRules 37 = .ok (.lload_n 3, 1) := by decide +kernel
theorem dX5_mixedRules_38 : decode cX5_mixedRules 38 = .ok (.aload 6, 2) := by decide +kernel
theorem dX5_mixedRules_40 : decode cX5_mixedRules 40 = .ok (.getfield 230, 3) := by decide +kernel
theorem dX5_mixedRules_43 : decode cX5_mixedRules 43 = .ok (.invokestatic 197, 3) := by decide +kernel
theorem dX5_mixedRules_46 : decode cX5_mixedRules 46 = .ok (.lstore_n 3, 1) := by decide +kernel
theorem dX5_mixedRules_47 : decode cX5_mixedRules 47 = .ok (.lload_n 3, 1) := by decide +kernel
theorem dX5_mixedRules_48 : decode cX5_mixedRules 48 = .ok (.aload 6, 2) := by decide +kernel
theorem dX5_mixedRules_50 : decode cX5_mixedRules 50 = .ok (.getfield 240, 3) := by decide +kernel
theorem dX5_mixedRules_53 : decode cX5_mixedRules 53 = .ok (.invokestatic 197, 3) := by decide +kernel
theorem dX5_mixedRules_56 : decode cX5_mixedRules 56 = .ok (.lstore_n 3, 1) := by decide +kernel
theorem dX5_mixedRules_57 : decode cX5_mixedRules 57 = .ok (.lload_n 3, 1) := by decide +kernel
theorem dX5_mixedRules_58 : decode cX5_mixedRules 58 = .ok (.aload 6, 2) := by decide +kernel
theorem dX5_mixedRules_60 : decode cX5_mixedRules 60 = .ok (.getfield 232, 3) := by decide +kernel
theorem dX5_mixedRules_63 : decode cX5_mixedRules 63 = .ok (.invokestatic 197, 3) := by decide +kernel
theorem dX5_mixedRules_66 : decode cX5_mixedRules 66 = .ok (.lstore_n 3, 1) := by decide +kernel
theorem dX5_mixedRules_67 : decode cX5_mixedRules 67 = .ok (.iinc 5 1, 3) := by decide +kernel
theorem dX5_mixedRules_70 : decode cX5_mixedRules 70 = .ok (.goto (-65), 3) := by decide +kernel
theorem dX5_mixedRules_73 : decode cX5_mixedRules 73 = .ok (.lload_n 3, 1) := by decide +kernel
theorem dX5_mixedRules_74 : decode cX5_mixedRules 74 = .ok (.lreturn, 1) := by decide +kernel
theorem dX5_mixedConditions_0 : decode cX5_mixedConditions 0 = .ok (.lload_n 1, 1) := by decide +kernel
theorem dX5_mixedConditions_1 : decode cX5_mixedConditions 1 = .ok (.lstore_n 3, 1) := by decide +kernel
theorem dX5_mixedConditions_2 : decode cX5_mixedConditions 2 = .ok (.iconst 0, 1) := by decide +kernel
theorem dX5_mixedConditions_3 : decode cX5_mixedConditions 3 = .ok (.istore 5, 2) := by decide +kernel
theorem dX5_mixedConditions_5 : decode cX5_mixedConditions 5 = .ok (.iload 5, 2) := by decide +kernel
theorem dX5_mixedConditions_7 : decode cX5_mixedConditions 7 = .ok (.aload_n 0, 1) := by decide +kernel
theorem dX5_mixedConditions_8 : decode cX5_mixedConditions 8 = .ok (.getfield 53, 3) := by decide +kernel
theorem dX5_mixedConditions_11 : decode cX5_mixedConditions 11 = .ok (.if_icmp .ge 52, 3) := by decide +kernel
theorem dX5_mixedConditions_14 : decode cX5_mixedConditions 14 = .ok (.aload_n 0, 1) := by decide +kernel
theorem dX5_mixedConditions_15 : decode cX5_mixedConditions 15 = .ok (.iload 5, 2) := by decide +kernel
theorem dX5_mixedConditions_17 : decode cX5_mixedConditions 17 = .ok (.invokevirtual 109, 3) := by decide +kernel
theorem dX5_mixedConditions_20 : decode cX5_mixedConditions 20 = .ok (.astore 6, 2) := by decide +kernel
theorem dX5_mixedConditions_22 : decode cX5_mixedConditions 22 = .ok (.aload 6, 2) := by decide +kernel
theorem dX5_mixedConditions_24 : decode cX5_mixedConditions 24 = .ok (.ifnull 33, 3) := by decide +kernel
theorem dX5_mixedConditions_27 : decode cX5_mixedConditions 27 = .ok (.lload_n 3, 1) := by decide +kernel
theorem dX5_mixedConditions_28 : decode cX5_mixedConditions 28 = .ok (.aload 6, 2) := by decide +kernel
theorem dX5_mixedConditions_30 : decode cX5_mixedConditions 30 = .ok (.getfield 243, 3) := by decide +kernel
theorem dX5_mixedConditions_33 : decode cX5_mixedConditions 33 = .ok (.invokestatic 197, 3) := by decide +kernel
theorem dX5_mixedConditions_36 : decode cX5_mixedConditions 36 = .ok (.lstore_n 3, 1) := by decide +kernel
theorem dX5_mixedConditions_37 : decode cX5_mixedConditions 37 = .ok (.lload_n 3, 1) := by decide +kernel
theorem dX5_mixedConditions_38 : decode cX5_mixedConditions 38 = .ok (.aload 6, 2) := by decide +kernel
theorem dX5_mixedConditions_40 : decode cX5_mixedConditions 40 = .ok (.getfield 246, 3) := by decide +kernel
theorem dX5_mixedConditions_43 : decode cX5_mixedConditions 43 = .ok (.invokestatic 197, 3) := by decide +kernel
theorem dX5_mixedConditions_46 : decode cX5_mixedConditions 46 = .ok (.lstore_n 3, 1) := by decide +kernel
theorem dX5_mixedConditions_47 : decode cX5_mixedConditions 47 = .ok (.lload_n 3, 1) := by decide +kernel
theorem dX5_mixedConditions_48 : decode cX5_mixedConditions 48 = .ok (.aload 6, 2) := by decide +kernel
theorem dX5_mixedConditions_50 : decode cX5_mixedConditions 50 = .ok (.getfield 249, 3) := by decide +kernel
theorem dX5_mixedConditions_53 : decode cX5_mixedConditions 53 = .ok (.invokestatic 197, 3) := by decide +kernel
theorem dX5_mixedConditions_56 : decode cX5_mixedConditions 56 = .ok (.lstore_n 3, 1) := by decide +kernel
theorem dX5_mixedConditions_57 : decode cX5_mixedConditions 57 = .ok (.iinc 5 1, 3) := by decide +kernel
theorem dX5_mixedConditions_60 : decode cX5_mixedConditions 60 = .ok (.goto (-55), 3) := by decide +kernel
theorem dX5_mixedConditions_63 : decode cX5_mixedConditions 63 = .ok (.lload_n 3, 1) := by decide +kernel
theorem dX5_mixedConditions_64 : decode cX5_mixedConditions 64 = .ok (.lreturn, 1) := by decide +kernel
theorem dX6_init_0 : decode cX6_init 0 = .ok (.aload_n 0, 1) := by decide +kernel
theorem dX6_init_1 : decode cX6_init 1 = .ok (.invokespecial 1, 3) := by decide +kernel
theorem dX6_init_4 : decode cX6_init 4 = .ok (.aload_n 0, 1) := by decide +kernel
theorem dX6_init_5 : decode cX6_init 5 = .ok (.sipush 320, 3) := by decide +kernel
theorem dX6_init_8 : decode cX6_init 8 = .ok (.newarray .int, 2) := by decide +kernel
theorem dX6_init_10 : decode cX6_init 10 = .ok (.putfield 7, 3) := by decide +kernel
theorem dX6_init_13 : decode cX6_init 13 = .ok (.aload_n 0, 1) := by decide +kernel
theorem dX6_init_14 : decode cX6_init 14 = .ok (.bipush 8, 2) := by decide +kernel
theorem dX6_init_16 : decode cX6_init 16 = .ok (.newarray .int, 2) := by decide +kernel
theorem dX6_init_18 : decode cX6_init 18 = .ok (.putfield 13, 3) := by decide +kernel
theorem dX6_init_21 : decode cX6_init 21 = .ok (.aload_n 0, 1) := by decide +kernel
theorem dX6_init_22 : decode cX6_init 22 = .ok (.sipush 160, 3) := by decide +kernel
theorem dX6_init_25 : decode cX6_init 25 = .ok (.newarray .int, 2) := by decide +kernel
theorem dX6_init_27 : decode cX6_init 27 = .ok (.putfield 16, 3) := by decide +kernel
theorem dX6_init_30 : decode cX6_init 30 = .ok (.aload_n 0, 1) := by decide +kernel
theorem dX6_init_31 : decode cX6_init 31 = .ok (.iconst 4, 1) := by decide +kernel
theorem dX6_init_32 : decode cX6_init 32 = .ok (.newarray .int, 2) := by decide +kernel
theorem dX6_init_34 : decode cX6_init 34 = .ok (.putfield 19, 3) := by decide +kernel
theorem dX6_init_37 : decode cX6_init 37 = .ok (.aload_n 0, 1) := by decide +kernel
theorem dX6_init_38 : decode cX6_init 38 = .ok (.bipush 12, 2) := by decide +kernel
theorem dX6_init_40 : decode cX6_init 40 = .ok (.newarray .int, 2) := by decide +kernel
theorem dX6_init_42 : decode cX6_init 42 = .ok (.putfield 22, 3) := by decide +kernel
theorem dX6_init_45 : decode cX6_init 45 = .ok (.aload_n 0, 1) := by decide +kernel
theorem dX6_init_46 : decode cX6_init 46 = .ok (.bipush 12, 2) := by decide +kernel
theorem dX6_init_48 : decode cX6_init 48 = .ok (.newarray .int, 2) := by decide +kernel
theorem dX6_init_50 : decode cX6_init 50 = .ok (.putfield 25, 3) := by decide +kernel
theorem dX6_init_53 : decode cX6_init 53 = .ok (.aload_n 0, 1) := by decide +kernel
theorem dX6_init_54 : decode cX6_init 54 = .ok (.bipush 12, 2) := by decide +kernel
theorem dX6_init_56 : decode cX6_init 56 = .ok (.newarray .int, 2) := by decide +kernel
theorem dX6_init_58 : decode cX6_init 58 = .ok (.putfield 28, 3) := by decide +kernel
theorem dX6_init_61 : decode cX6_init 61 = .ok (.aload_n 0, 1) := by decide +kernel
theorem dX6_init_62 : decode cX6_init 62 = .ok (.bipush 100, 2) := by decide +kernel
theorem dX6_init_64 : decode cX6_init 64 = .ok (.newarray .int, 2) := by decide +kernel
theorem dX6_init_66 : decode cX6_init 66 = .ok (.putfield 31, 3) := by decide +kernel
theorem dX6_init_69 : decode cX6_init 69 = .ok (.aload_n 0, 1) := by decide +kernel
theorem dX6_init_70 : decode cX6_init 70 = .ok (.bipush 20, 2) := by decide +kernel
theorem dX6_init_72 : decode cX6_init 72 = .ok (.newarray .int, 2) := by decide +kernel
theorem dX6_init_74 : decode cX6_init 74 = .ok (.putfield 34, 3) := by decide +kernel
theorem dX6_init_77 : decode cX6_init 77 = .ok (.aload_n 0, 1) := by decide +kernel
theorem dX6_init_78 : decode cX6_init 78 = .ok (.bipush 20, 2) := by decide +kernel
theorem dX6_init_80 : decode cX6_init 80 = .ok (.newarray .int, 2) := by decide +kernel
theorem dX6_init_82 : decode cX6_init 82 = .ok (.putfield 37, 3) := by decide +kernel
theorem dX6_init_85 : decode cX6_init 85 = .ok (.aload_n 0, 1) := by decide +kernel
theorem dX6_init_86 : decode cX6_init 86 = .ok (.bipush 20, 2) := by decide +kernel
theorem dX6_init_88 : decode cX6_init 88 = .ok (.newarray .int, 2) := by decide +kernel
theorem dX6_init_90 : decode cX6_init 90 = .ok (.putfield 40, 3) := by decide +kernel
theorem dX6_init_93 : decode cX6_init 93 = .ok (.aload_n 0, 1) := by decide +kernel
theorem dX6_init_94 : decode cX6_init 94 = .ok (.bipush 20, 2) := by decide +kernel
theorem dX6_init_96 : decode cX6_init 96 = .ok (.newarray .int, 2) := by decide +kernel
theorem dX6_init_98 : decode cX6_init 98 = .ok (.putfield 43, 3) := by decide +kernel
theorem dX6_init_101 : decode cX6_init 101 = .ok (.aload_n 0, 1) := by decide +kernel
theorem dX6_init_102 : decode cX6_init 102 = .ok (.sipush 1681, 3) := by decide +kernel
theorem dX6_init_105 : decode cX6_init 105 = .ok (.newarray .int, 2) := by decide +kernel
theorem dX6_init_107 : decode cX6_init 107 = .ok (.putfield 46, 3) := by decide +kernel
theorem dX6_init_110 : decode cX6_init 110 = .ok (.aload_n 0, 1) := by decide +kernel
theorem dX6_init_111 : decode cX6_init 111 = .ok (.sipush 256, 3) := by decide +kernel
theorem dX6_init_114 : decode cX6_init 114 = .ok (.newarray .int, 2) := by decide +kernel
theorem dX6_init_116 : decode cX6_init 116 = .ok (.putfield 49, 3) := by decide +kernel
theorem dX6_init_119 : decode cX6_init 119 = .ok (.aload_n 0, 1) := by decide +kernel
theorem dX6_init_120 : decode cX6_init 120 = .ok (.bipush 64, 2) := by decide +kernel
theorem dX6_init_122 : decode cX6_init 122 = .ok (.newarray .int, 2) := by decide +kernel
theorem dX6_init_124 : decode cX6_init 124 = .ok (.putfield 52, 3) := by decide +kernel
theorem dX6_init_127 : decode cX6_init 127 = .ok (.aload_n 0, 1) := by decide +kernel
theorem dX6_init_128 : decode cX6_init 128 = .ok (.bipush 8, 2) := by decide +kernel
theorem dX6_init_130 : decode cX6_init 130 = .ok (.newarray .int, 2) := by decide +kernel
theorem dX6_init_132 : decode cX6_init 132 = .ok (.putfield 55, 3) := by decide +kernel
theorem dX6_init_135 : decode cX6_init 135 = .ok (.aload_n 0, 1) := by decide +kernel
theorem dX6_init_136 : decode cX6_init 136 = .ok (.sipush 1681, 3) := by decide +kernel
theorem dX6_init_139 : decode cX6_init 139 = .ok (.newarray .boolean, 2) := by decide +kernel
theorem dX6_init_141 : decode cX6_init 141 = .ok (.putfield 58, 3) := by decide +kernel
theorem dX6_init_144 : decode cX6_init 144 = .ok (.return_, 1) := by decide +kernel
theorem dX6_in_0 : decode cX6_in 0 = .ok (.iload_n 0, 1) := by decide +kernel
theorem dX6_in_1 : decode cX6_in 1 = .ok (.iload_n 1, 1) := by decide +kernel
theorem dX6_in_2 : decode cX6_in 2 = .ok (.if_icmp .lt 12, 3) := by decide +kernel
theorem dX6_in_5 : decode cX6_in 5 = .ok (.iload_n 0, 1) := by decide +kernel
theorem dX6_in_6 : decode cX6_in 6 = .ok (.iload_n 2, 1) := by decide +kernel
theorem dX6_in_7 : decode cX6_in 7 = .ok (.if_icmp .gt 7, 3) := by decide +kernel
theorem dX6_in_10 : decode cX6_in 10 = .ok (.iconst 1, 1) := by decide +kernel
theorem dX6_in_11 : decode cX6_in 11 = .ok (.goto 4, 3) := by decide +kernel
theorem dX6_in_14 : decode cX6_in 14 = .ok (.iconst 0, 1) := by decide +kernel
theorem dX6_in_15 : decode cX6_in 15 = .ok (.ireturn, 1) := by decide +kernel
theorem dX6_isVersion_0 : decode cX6_isVersion 0 = .ok (.iload_n 0, 1) := by decide +kernel
theorem dX6_isVersion_1 : decode cX6_isVersion 1 = .ok (.iconst 0, 1) := by decide +kernel
theorem dX6_isVersion_2 : decode cX6_isVersion 2 = .ok (.bipush 7, 2) := by decide +kernel
theorem dX6_isVersion_4 : decode cX6_isVersion 4 = .ok (.invokestatic 62, 3) := by decide +kernel
theorem dX6_isVersion_7 : decode cX6_isVersion 7 = .ok (.ireturn, 1) := by decide +kernel
theorem dX6_isLine_0 : decode cX6_isLine 0 = .ok (.iload_n 0, 1) := by decide +kernel
theorem dX6_isLine_1 : decode cX6_isLine 1 = .ok (.iconst 0, 1) := by decide +kernel
theorem dX6_isLine_2 : decode cX6_isLine 2 = .ok (.bipush 99, 2) := by decide +kernel
theorem dX6_isLine_4 : decode cX6_isLine 4 = .ok (.invokestatic 62, 3) := by decide +kernel
theorem dX6_isLine_7 : decode cX6_isLine 7 = .ok (.ireturn, 1) := by decide +kernel
theorem dX6_isHeard_0 : decode cX6_isHeard 0 = .ok (.iload_n 0, 1) := by decide +kernel
theorem dX6_isHeard_1 : decode cX6_isHeard 1 = .ok (.iconst 0, 1) := by decide +kernel
theorem dX6_isHeard_2 : decode cX6_isHeard 2 = .ok (.iconst 3, 1) := by decide +kernel
theorem dX6_isHeard_3 : decode cX6_isHeard 3 = .ok (.invokestatic 62, 3) := by decide +kernel
theorem dX6_isHeard_6 : decode cX6_isHeard 6 = .ok (.ireturn, 1) := by decide +kernel
theorem dX6_put_0 : decode cX6_put 0 = .ok (.iload_n 1, 1) := by decide +kernel
theorem dX6_put_1 : decode cX6_put 1 = .ok (.invokestatic 66, 3) := by decide +kernel
theorem dX6_put_4 : decode cX6_put 4 = .ok (.ifCond .eq 24, 3) := by decide +kernel
theorem dX6_put_7 : decode cX6_put 7 = .ok (.iload_n 2, 1) := by decide +kernel
theorem dX6_put_8 : decode cX6_put 8 = .ok (.iconst 0, 1) := by decide +kernel
theorem dX6_put_9 : decode cX6_put 9 = .ok (.aload_n 0, 1) := by decide +kernel
theorem dX6_put_10 : decode cX6_put 10 = .ok (.getfield 13, 3) := by decide +kernel
theorem dX6_put_13 : decode cX6_put 13 = .ok (.iload_n 1, 1) := by decide +kernel
theorem dX6_put_14 : decode cX6_put 14 = .ok (.iaload, 1) := by decide +kernel
theorem dX6_put_15 : decode cX6_put 15 = .ok (.invokestatic 62, 3) := by decide +kernel
theorem dX6_put_18 : decode cX6_put 18 = .ok (.ifCond .eq 10, 3) := by decide +kernel
theorem dX6_put_21 : decode cX6_put 21 = .ok (.iload_n 3, 1) := by decide +kernel
theorem dX6_put_22 : decode cX6_put 22 = .ok (.invokestatic 70, 3) := by decide +kernel
theorem dX6_put_25 : decode cX6_put 25 = .ok (.ifCond .ne 6, 3) := by decide +kernel
theorem dX6_put_28 : decode cX6_put 28 = .ok (.bipush (-2), 2) := by decide +kernel
theorem dX6_put_30 : decode cX6_put 30 = .ok (.ireturn, 1) := by decide +kernel
theorem dX6_put_31 : decode cX6_put 31 = .ok (.aload_n 0, 1) := by decide +kernel
theorem dX6_put_32 : decode cX6_put 32 = .ok (.getfield 13, 3) := by decide +kernel
theorem dX6_put_35 : decode cX6_put 35 = .ok (.iload_n 1, 1) := by decide +kernel
theorem dX6_put_36 : decode cX6_put 36 = .ok (.iaload, 1) := by decide +kernel
theorem dX6_put_37 : decode cX6_put 37 = .ok (.bipush 40, 2) := by decide +kernel
theorem dX6_put_39 : decode cX6_put 39 = .ok (.if_icmp .ne 6, 3) := by decide +kernel
theorem dX6_put_42 : decode cX6_put 42 = .ok (.bipush (-4), 2) := by decide +kernel
theorem dX6_put_44 : decode cX6_put 44 = .ok (.ireturn, 1) := by decide +kernel
theorem dX6_put_45 : decode cX6_put 45 = .ok (.aload_n 0, 1) := by decide +kernel
theorem dX6_put_46 : decode cX6_put 46 = .ok (.getfield 13, 3) := by decide +kernel
theorem dX6_put_49 : decode cX6_put 49 = .ok (.iload_n 1, 1) := by decide +kernel
theorem dX6_put_50 : decode cX6_put 50 = .ok (.iaload, 1) := by decide +kernel
theorem dX6_put_51 : decode cX6_put 51 = .ok (.istore 4, 2) := by decide +kernel
theorem dX6_put_53 : decode cX6_put 53 = .ok (.iload 4, 2) := by decide +kernel
theorem dX6_put_55 : decode cX6_put 55 = .ok (.iload_n 2, 1) := by decide +kernel
theorem dX6_put_56 : decode cX6_put 56 = .ok (.if_icmp .le 35, 3) := by decide +kernel
theorem dX6_put_59 : decode cX6_put 59 = .ok (.aload_n 0, 1) := by decide +kernel
theorem dX6_put_60 : decode cX6_put 60 = .ok (.getfield 7, 3) := by decide +kernel
theorem dX6_put_63 : decode cX6_put 63 = .ok (.bipush 40, 2) := by decide +kernel
theorem dX6_put_65 : decode cX6_put 65 = .ok (.iload_n 1, 1) := by decide +kernel
theorem dX6_put_66 : decode cX6_put 66 = .ok (.imul, 1) := by decide +kernel
theorem dX6_put_67 : decode cX6_put 67 = .ok (.iload 4, 2) := by decide +kernel
theorem dX6_put_69 : decode cX6_put 69 = .ok (.iadd, 1) := by decide +kernel
theorem dX6_put_70 : decode cX6_put 70 = .ok (.aload_n 0, 1) := by decide +kernel
theorem dX6_put_71 : decode cX6_put 71 = .ok (.getfield 7, 3) := by decide +kernel
theorem dX6_put_74 : decode cX6_put 74 = .ok (.bipush 40, 2) := by decide +kernel
theorem dX6_put_76 : decode cX6_put 76 = .ok (.iload_n 1, 1) := by decide +kernel
theorem dX6_put_77 : decode cX6_put 77 = .ok (.imul, 1) := by decide +kernel
theorem dX6_put_78 : decode cX6_put 78 = .ok (.iload 4, 2) := by decide +kernel
theorem dX6_put_80 : decode cX6_put 80 = .ok (.iadd, 1) := by decide +kernel
theorem dX6_put_81 : decode cX6_put 81 = .ok (.iconst 1, 1) := by decide +kernel
theorem dX6_put_82 : decode cX6_put 82 = .ok (.isub, 1) := by decide +kernel
theorem dX6_put_83 : decode cX6_put 83 = .ok (.iaload, 1) := by decide +kernel
theorem dX6_put_84 : decode cX6_put 84 = .ok (.iastore, 1) := by decide +kernel
theorem dX6_put_85 : decode cX6_put 85 = .ok (.iinc 4 (-1), 3) := by decide +kernel
theorem dX6_put_88 : decode cX6_put 88 = .ok (.goto (-35), 3) := by decide +kernel
theorem dX6_put_91 : decode cX6_put 91 = .ok (.aload_n 0, 1) := by decide +kernel
theorem dX6_put_92 : decode cX6_put 92 = .ok (.getfield 7, 3) := by decide +kernel
theorem dX6_put_95 : decode cX6_put 95 = .ok (.bipush 40, 2) := by decide +kernel
theorem dX6_put_97 : decode cX6_put 97 = .ok (.iload_n 1, 1) := by decide +kernel
theorem dX6_put_98 : decode cX6_put 98 = .ok (.imul, 1) := by decide +kernel
theorem dX6_put_99 : decode cX6_put 99 = .ok (.iload_n 2, 1) := by decide +kernel
theorem dX6_put_100 : decode cX6_put 100 = .ok (.iadd, 1) := by decide +kernel
theorem dX6_put_101 : decode cX6_put 101 = .ok (.iload_n 3, 1) := by decide +kernel
theorem dX6_put_102 : decode cX6_put 102 = .ok (.iastore, 1) := by decide +kernel
theorem dX6_put_103 : decode cX6_put 103 = .ok (.aload_n 0, 1) := by decide +kernel
theorem dX6_put_104 : decode cX6_put 104 = .ok (.getfield 13, 3) := by decide +kernel
theorem dX6_put_107 : decode cX6_put 107 = .ok (.iload_n 1, 1) := by decide +kernel
theorem dX6_put_108 : decode cX6_put 108 = .ok (.dup2, 1) := by decide +kernel
theorem dX6_put_109 : decode cX6_put 109 = .ok (.iaload, 1) := by decide +kernel
theorem dX6_put_110 : decode cX6_put 110 = .ok (.iconst 1, 1) := by decide +kernel
theorem dX6_put_111 : decode cX6_put 111 = .ok (.iadd, 1) := by decide +kernel
theorem dX6_put_112 : decode cX6_put 112 = .ok (.iastore, 1) := by decide +kernel
theorem dX6_put_113 : decode cX6_put 113 = .ok (.aload_n 0, 1) := by decide +kernel
theorem dX6_put_114 : decode cX6_put 114 = .ok (.getfield 13, 3) := by decide +kernel
theorem dX6_put_117 : decode cX6_put 117 = .ok (.iload_n 1, 1) := by decide +kernel
theorem dX6_put_118 : decode cX6_put 118 = .ok (.iaload, 1) := by decide +kernel
theorem dX6_put_119 : decode cX6_put 119 = .ok (.ireturn, 1) := by decide +kernel
theorem dX6_take_0 : decode cX6_take 0 = .ok (.iload_n 1, 1) := by decide +kernel
theorem dX6_take_1 : decode cX6_take 1 = .ok (.invokestatic 66, 3) := by decide +kernel
theorem dX6_take_4 : decode cX6_take 4 = .ok (.ifCond .eq 19, 3) := by decide +kernel
theorem dX6_take_7 : decode cX6_take 7 = .ok (.iload_n 2, 1) := by decide +kernel
theorem dX6_take_8 : decode cX6_take 8 = .ok (.iconst 0, 1) := by decide +kernel
theorem dX6_take_9 : decode cX6_take 9 = .ok (.aload_n 0, 1) := by decide +kernel
theorem dX6_take_10 : decode cX6_take 10 = .ok (.getfield 13, 3) := by decide +kernel
theorem dX6_take_13 : decode cX6_take 13 = .ok (.iload_n 1, 1) := by decide +kernel
theorem dX6_take_14 : decode cX6_take 14 = .ok (.iaload, 1) := by decide +kernel
theorem dX6_take_15 : decode cX6_take 15 = .ok (.iconst 1, 1) := by decide +kernel
theorem dX6_take_16 : decode cX6_take 16 = .ok (.isub, 1) := by decide +kernel
theorem dX6_take_17 : decode cX6_take 17 = .ok (.invokestatic 62, 3) := by decide +kernel
theorem dX6_take_20 : decode cX6_take 20 = .ok (.ifCond .ne 6, 3) := by decide +kernel
theorem dX6_take_23 : decode cX6_take 23 = .ok (.bipush (-2), 2) := by decide +kernel
theorem dX6_take_25 : decode cX6_take 25 = .ok (.ireturn, 1) := by decide +kernel
theorem dX6_take_26 : decode cX6_take 26 = .ok (.aload_n 0, 1) := by decide +kernel
theorem dX6_take_27 : decode cX6_take 27 = .ok (.getfield 7, 3) := by decide +kernel
theorem dX6_take_30 : decode cX6_take 30 = .ok (.bipush 40, 2) := by decide +kernel
theorem dX6_take_32 : decode cX6_take 32 = .ok (.iload_n 1, 1) := by decide +kernel
theorem dX6_take_33 : decode cX6_take 33 = .ok (.imul, 1) := by decide +kernel
theorem dX6_take_34 : decode cX6_take 34 = .ok (.iload_n 2, 1) := by decide +kernel
theorem dX6_take_35 : decode cX6_take 35 = .ok (.iadd, 1) := by decide +kernel
theorem dX6_take_36 : decode cX6_take 36 = .ok (.iaload, 1) := by decide +kernel
theorem dX6_take_37 : decode cX6_take 37 = .ok (.istore_n 3, 1) := by decide +kernel
theorem dX6_take_38 : decode cX6_take 38 = .ok (.aload_n 0, 1) := by decide +kernel
theorem dX6_take_39 : decode cX6_take 39 = .ok (.getfield 13, 3) := by decide +kernel
theorem dX6_take_42 : decode cX6_take 42 = .ok (.iload_n 1, 1) := by decide +kernel
theorem dX6_take_43 : decode cX6_take 43 = .ok (.dup2, 1) := by decide +kernel
theorem dX6_take_44 : decode cX6_take 44 = .ok (.iaload, 1) := by decide +kernel
theorem dX6_take_45 : decode cX6_take 45 = .ok (.iconst 1, 1) := by decide +kernel
theorem dX6_take_46 : decode cX6_take 46 = .ok (.isub, 1) := by decide +kernel
theorem dX6_take_47 : decode cX6_take 47 = .ok (.iastore, 1) := by decide +kernel
theorem dX6_take_48 : decode cX6_take 48 = .ok (.iload_n 2, 1) := by decide +kernel
theorem dX6_take_49 : decode cX6_take 49 = .ok (.istore 4, 2) := by decide +kernel
theorem dX6_take_51 : decode cX6_take 51 = .ok (.iload 4, 2) := by decide +kernel
theorem dX6_take_53 : decode cX6_take 53 = .ok (.aload_n 0, 1) := by decide +kernel
theorem dX6_take_54 : decode cX6_take 54 = .ok (.getfield 13, 3) := by decide +kernel
theorem dX6_take_57 : decode cX6_take 57 = .ok (.iload_n 1, 1) := by decide +kernel
theorem dX6_take_58 : decode cX6_take 58 = .ok (.iaload, 1) := by decide +kernel
theorem dX6_take_59 : decode cX6_take 59 = .ok (.if_icmp .ge 35, 3) := by decide +kernel
theorem dX6_take_62 : decode cX6_take 62 = .ok (.aload_n 0, 1) := by decide +kernel
theorem dX6_take_63 : decode cX6_take 63 = .ok (.getfield 7, 3) := by decide +kernel
theorem dX6_take_66 : decode cX6_take 66 = .ok (.bipush 40, 2) := by decide +kernel
theorem dX6_take_68 : decode cX6_take 68 = .ok (.iload_n 1, 1) := by decide +kernel
theorem dX6_take_69 : decode cX6_take 69 = .ok (.imul, 1) := by decide +kernel
theorem dX6_take_70 : decode cX6_take 70 = .ok (.iload 4, 2) := by decide +kernel
theorem dX6_take_72 : decode cX6_take 72 = .ok (.iadd, 1) := by decide +kernel
theorem dX6_take_73 : decode cX6_take 73 = .ok (.aload_n 0, 1) := by decide +kernel
theorem dX6_take_74 : decode cX6_take 74 = .ok (.getfield 7, 3) := by decide +kernel
theorem dX6_take_77 : decode cX6_take 77 = .ok (.bipush 40, 2) := by decide +kernel
theorem dX6_take_79 : decode cX6_take 79 = .ok (.iload_n 1, 1) := by decide +kernel
theorem dX6_take_80 : decode cX6_take 80 = .ok (.imul, 1) := by decide +kernel
theorem dX6_take_81 : decode cX6_take 81 = .ok (.iload 4, 2) := by decide +kernel
theorem dX6_take_83 : decode cX6_take 83 = .ok (.iadd, 1) := by decide +kernel
theorem dX6_take_84 : decode cX6_take 84 = .ok (.iconst 1, 1) := by decide +kernel
theorem dX6_take_85 : decode cX6_take 85 = .ok (.iadd, 1) := by decide +kernel
theorem dX6_take_86 : decode cX6_take 86 = .ok (.iaload, 1) := by decide +kernel
theorem dX6_take_87 : decode cX6_take 87 = .ok (.iastore, 1) := by decide +kernel
theorem dX6_take_88 : decode cX6_take 88 = .ok (.iinc 4 1, 3) := by decide +kernel
theorem dX6_take_91 : decode cX6_take 91 = .ok (.goto (-40), 3) := by decide +kernel
theorem dX6_take_94 : decode cX6_take 94 = .ok (.iload_n 3, 1) := by decide +kernel
theorem dX6_take_95 : decode cX6_take 95 = .ok (.ireturn, 1) := by decide +kernel
theorem dX6_copy_0 : decode cX6_copy 0 = .ok (.iload_n 1, 1) := by decide +kernel
theorem dX6_copy_1 : decode cX6_copy 1 = .ok (.invokestatic 66, 3) := by decide +kernel
theorem dX6_copy_4 : decode cX6_copy 4 = .ok (.ifCond .eq 10, 3) := by decide +kernel
theorem dX6_copy_7 : decode cX6_copy 7 = .ok (.iload_n 2, 1) := by decide +kernel
theorem dX6_copy_8 : decode cX6_copy 8 = .ok (.invokestatic 66, 3) := by decide +kernel
theorem dX6_copy_11 : decode cX6_copy 11 = .ok (.ifCond .ne 6, 3) := by decide +kernel
theorem dX6_copy_14 : decode cX6_copy 14 = .ok (.bipush (-2), 2) := by decide +kernel
theorem dX6_copy_16 : decode cX6_copy 16 = .ok (.ireturn, 1) := by decide +kernel
theorem dX6_copy_17 : decode cX6_copy 17 = .ok (.iconst 0, 1) := by decide +kernel
theorem dX6_copy_18 : decode cX6_copy 18 = .ok (.istore_n 3, 1) := by decide +kernel
theorem dX6_copy_19 : decode cX6_copy 19 = .ok (.iload_n 3, 1) := by decide +kernel
theorem dX6_copy_20 : decode cX6_copy 20 = .ok (.aload_n 0, 1) := by decide +kernel
theorem dX6_copy_21 : decode cX6_copy 21 = .ok (.getfield 13, 3) := by decide +kernel
theorem dX6_copy_24 : decode cX6_copy 24 = .ok (.iload_n 1, 1) := by decide +kernel
theorem dX6_copy_25 : decode cX6_copy 25 = .ok (.iaload, 1) := by decide +kernel
theorem dX6_copy_26 : decode cX6_copy 26 = .ok (.if_icmp .ge 31, 3) := by decide +kernel
theorem dX6_copy_29 : decode cX6_copy 29 = .ok (.aload_n 0, 1) := by decide +kernel
theorem dX6_copy_30 : decode cX6_copy 30 = .ok (.getfield 7, 3) := by decide +kernel
theorem dX6_copy_33 : decode cX6_copy 33 = .ok (.bipush 40, 2) := by decide +kernel
theorem dX6_copy_35 : decode cX6_copy 35 = .ok (.iload_n 2, 1) := by decide +kernel
theorem dX6_copy_36 : decode cX6_copy 36 = .ok (.imul, 1) := by decide +kernel
theorem dX6_copy_37 : decode cX6_copy 37 = .ok (.iload_n 3, 1) := by decide +kernel
theorem dX6_copy_38 : decode cX6_copy 38 = .ok (.iadd, 1) := by decide +kernel
theorem dX6_copy_39 : decode cX6_copy 39 = .ok (.aload_n 0, 1) := by decide +kernel
theorem dX6_copy_40 : decode cX6_copy 40 = .ok (.getfield 7, 3) := by decide +kernel
theorem dX6_copy_43 : decode cX6_copy 43 = .ok (.bipush 40, 2) := by decide +kernel
theorem dX6_copy_45 : decode cX6_copy 45 = .ok (.iload_n 1, 1) := by decide +kernel
theorem dX6_copy_46 : decode cX6_copy 46 = .ok (.imul, 1) := by decide +kernel
theorem dX6_copy_47 : decode cX6_copy 47 = .ok (.iload_n 3, 1) := by decide +kernel
theorem dX6_copy_48 : decode cX6_copy 48 = .ok (.iadd, 1) := by decide +kernel
theorem dX6_copy_49 : decode cX6_copy 49 = .ok (.iaload, 1) := by decide +kernel
theorem dX6_copy_50 : decode cX6_copy 50 = .ok (.iastore, 1) := by decide +kernel
theorem dX6_copy_51 : decode cX6_copy 51 = .ok (.iinc 3 1, 3) := by decide +kernel
theorem dX6_copy_54 : decode cX6_copy 54 = .ok (.goto (-35), 3) := by decide +kernel
theorem dX6_copy_57 : decode cX6_copy 57 = .ok (.aload_n 0, 1) := by decide +kernel
theorem dX6_copy_58 : decode cX6_copy 58 = .ok (.getfield 13, 3) := by decide +kernel
theorem dX6_copy_61 : decode cX6_copy 61 = .ok (.iload_n 2, 1) := by decide +kernel
theorem dX6_copy_62 : decode cX6_copy 62 = .ok (.aload_n 0, 1) := by decide +kernel
theorem dX6_copy_63 : decode cX6_copy 63 = .ok (.getfield 13, 3) := by decide +kernel
theorem dX6_copy_66 : decode cX6_copy 66 = .ok (.iload_n 1, 1) := by decide +kernel
theorem dX6_copy_67 : decode cX6_copy 67 = .ok (.iaload, 1) := by decide +kernel
theorem dX6_copy_68 : decode cX6_copy 68 = .ok (.iastore, 1) := by decide +kernel
theorem dX6_copy_69 : decode cX6_copy 69 = .ok (.aload_n 0, 1) := by decide +kernel
theorem dX6_copy_70 : decode cX6_copy 70 = .ok (.getfield 13, 3) := by decide +kernel
theorem dX6_copy_73 : decode cX6_copy 73 = .ok (.iload_n 2, 1) := by decide +kernel
theorem dX6_copy_74 : decode cX6_copy 74 = .ok (.iaload, 1) := by decide +kernel
theorem dX6_copy_75 : decode cX6_copy 75 = .ok (.ireturn, 1) := by decide +kernel
theorem dX6_lineAt_0 : decode cX6_lineAt 0 = .ok (.iload_n 1, 1) := by decide +kernel
theorem dX6_lineAt_1 : decode cX6_lineAt 1 = .ok (.invokestatic 66, 3) := by decide +kernel
theorem dX6_lineAt_4 : decode cX6_lineAt 4 = .ok (.ifCond .ne 6, 3) := by decide +kernel
theorem dX6_lineAt_7 : decode cX6_lineAt 7 = .ok (.bipush (-2), 2) := by decide +kernel
theorem dX6_lineAt_9 : decode cX6_lineAt 9 = .ok (.ireturn, 1) := by decide +kernel
theorem dX6_lineAt_10 : decode cX6_lineAt 10 = .ok (.iload_n 2, 1) := by decide +kernel
theorem dX6_lineAt_11 : decode cX6_lineAt 11 = .ok (.iconst 0, 1) := by decide +kernel
theorem dX6_lineAt_12 : decode cX6_lineAt 12 = .ok (.aload_n 0, 1) := by decide +kernel
theorem dX6_lineAt_13 : decode cX6_lineAt 13 = .ok (.getfield 13, 3) := by decide +kernel
theorem dX6_lineAt_16 : decode cX6_lineAt 16 = .ok (.iload_n 1, 1) := by decide +kernel
theorem dX6_lineAt_17 : decode cX6_lineAt 17 = .ok (.iaload, 1) := by decide +kernel
theorem dX6_lineAt_18 : decode cX6_lineAt 18 = .ok (.iconst 1, 1) := by decide +kernel
theorem dX6_lineAt_19 : decode cX6_lineAt 19 = .ok (.isub, 1) := by decide +kernel
theorem dX6_lineAt_20 : decode cX6_lineAt 20 = .ok (.invokestatic 62, 3) := by decide +kernel
theorem dX6_lineAt_23 : decode cX6_lineAt 23 = .ok (.ifCond .eq 17, 3) := by decide +kernel
theorem dX6_lineAt_26 : decode cX6_lineAt 26 = .ok (.aload_n 0, 1) := by decide +kernel
theorem dX6_lineAt_27 : decode cX6_lineAt 27 = .ok (.getfield 7, 3) := by decide +kernel
theorem dX6_lineAt_30 : decode cX6_lineAt 30 = .ok (.bipush 40, 2) := by decide +kernel
theorem dX6_lineAt_32 : decode cX6_lineAt 32 = .ok (.iload_n 1, 1) := by decide +kernel
theorem dX6_lineAt_33 : decode cX6_lineAt 33 = .ok (.imul, 1) := by decide +kernel
theorem dX6_lineAt_34 : decode cX6_lineAt 34 = .ok (.iload_n 2, 1) := by decide +kernel
theorem dX6_lineAt_35 : decode cX6_lineAt 35 = .ok (.iadd, 1) := by decide +kernel
theorem dX6_lineAt_36 : decode cX6_lineAt 36 = .ok (.iaload, 1) := by decide +kernel
theorem dX6_lineAt_37 : decode cX6_lineAt 37 = .ok (.goto 4, 3) := by decide +kernel
theorem dX6_lineAt_40 : decode cX6_lineAt 40 = .ok (.iconst (-1), 1) := by decide +kernel
theorem dX6_lineAt_41 : decode cX6_lineAt 41 = .ok (.ireturn, 1) := by decide +kernel
theorem dX6_isAlike_0 : decode cX6_isAlike 0 = .ok (.iload_n 2, 1) := by decide +kernel
theorem dX6_isAlike_1 : decode cX6_isAlike 1 = .ok (.aload_n 0, 1) := by decide +kernel
theorem dX6_isAlike_2 : decode cX6_isAlike 2 = .ok (.getfield 13, 3) := by decide +kernel
theorem dX6_isAlike_5 : decode cX6_isAlike 5 = .ok (.iload_n 1, 1) := by decide +kernel
theorem dX6_isAlike_6 : decode cX6_isAlike 6 = .ok (.iaload, 1) := by decide +kernel
theorem dX6_isAlike_7 : decode cX6_isAlike 7 = .ok (.if_icmp .ge 44, 3) := by decide +kernel
theorem dX6_isAlike_10 : decode cX6_isAlike 10 = .ok (.iload 4, 2) := by decide +kernel
theorem dX6_isAlike_12 : decode cX6_isAlike 12 = .ok (.aload_n 0, 1) := by decide +kernel
theorem dX6_isAlike_13 : decode cX6_isAlike 13 = .ok (.getfield 13, 3) := by decide +kernel
theorem dX6_isAlike_16 : decode cX6_isAlike 16 = .ok (.iload_n 3, 1) := by decide +kernel
theorem dX6_isAlike_17 : decode cX6_isAlike 17 = .ok (.iaload, 1) := by decide +kernel
theorem dX6_isAlike_18 : decode cX6_isAlike 18 = .ok (.if_icmp .ge 33, 3) := by decide +kernel
theorem dX6_isAlike_21 : decode cX6_isAlike 21 = .ok (.aload_n 0, 1) := by decide +kernel
theorem dX6_isAlike_22 : decode cX6_isAlike 22 = .ok (.getfield 7, 3) := by decide +kernel
theorem dX6_isAlike_25 : decode cX6_isAlike 25 = .ok (.bipush 40, 2) := by decide +kernel
theorem dX6_isAlike_27 : decode cX6_isAlike 27 = .ok (.iload_n 1, 1) := by decide +kernel
theorem dX6_isAlike_28 : decode cX6_isAlike 28 = .ok (.imul, 1) := by decide +kernel
theorem dX6_isAlike_29 : decode cX6_isAlike 29 = .ok (.iload_n 2, 1) := by decide +kernel
theorem dX6_isAlike_30 : decode cX6_isAlike 30 = .ok (.iadd, 1) := by decide +kernel
theorem dX6_isAlike_31 : decode cX6_isAlike 31 = .ok (.iaload, 1) := by decide +kernel
theorem dX6_isAlike_32 : decode cX6_isAlike 32 = .ok (.aload_n 0, 1) := by decide +kernel
theorem dX6_isAlike_33 : decode cX6_isAlike 33 = .ok (.getfield 7, 3) := by decide +kernel
theorem dX6_isAlike_36 : decode cX6_isAlike 36 = .ok (.bipush 40, 2) := by decide +kernel
theorem dX6_isAlike_38 : decode cX6_isAlike 38 = .ok (.iload_n 3, 1) := by decide +kernel
theorem dX6_isAlike_39 : decode cX6_isAlike 39 = .ok (.imul, 1) := by decide +kernel
theorem dX6_isAlike_40 : decode cX6_isAlike 40 = .ok (.iload 4, 2) := by decide +kernel
theorem dX6_isAlike_42 : decode cX6_isAlike 42 = .ok (.iadd, 1) := by decide +kernel
theorem dX6_isAlike_43 : decode cX6_isAlike 43 = .ok (.iaload, 1) := by decide +kernel
theorem dX6_isAlike_44 : decode cX6_isAlike 44 = .ok (.if_icmp .ne 7, 3) := by decide +kernel
theorem dX6_isAlike_47 : decode cX6_isAlike 47 = .ok (.iconst 1, 1) := by decide +kernel
theorem dX6_isAlike_48 : decode cX6_isAlike 48 = .ok (.goto 4, 3) := by decide +kernel
theorem dX6_isAlike_51 : decode cX6_isAlike 51 = .ok (.iconst 0, 1) := by decide +kernel
theorem dX6_isAlike_52 : decode cX6_isAlike 52 = .ok (.ireturn, 1) := by decide +kernel
