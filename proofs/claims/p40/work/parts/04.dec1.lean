theorem dX8_isNumber_0 : decode cX8_isNumber 0 = .ok (.iload_n 0, 1) := by decide +kernel
theorem dX8_isNumber_1 : decode cX8_isNumber 1 = .ok (.iconst 2, 1) := by decide +kernel
theorem dX8_isNumber_2 : decode cX8_isNumber 2 = .ok (.if_icmp .lt 13, 3) := by decide +kernel
theorem dX8_isNumber_5 : decode cX8_isNumber 5 = .ok (.iload_n 0, 1) := by decide +kernel
theorem dX8_isNumber_6 : decode cX8_isNumber 6 = .ok (.bipush 60, 2) := by decide +kernel
theorem dX8_isNumber_8 : decode cX8_isNumber 8 = .ok (.if_icmp .gt 7, 3) := by decide +kernel
theorem dX8_isNumber_11 : decode cX8_isNumber 11 = .ok (.iconst 1, 1) := by decide +kernel
theorem dX8_isNumber_12 : decode cX8_isNumber 12 = .ok (.goto 4, 3) := by decide +kernel
theorem dX8_isNumber_15 : decode cX8_isNumber 15 = .ok (.iconst 0, 1) := by decide +kernel
theorem dX8_isNumber_16 : decode cX8_isNumber 16 = .ok (.ireturn, 1) := by decide +kernel
theorem dX8_requireNumber_0 : decode cX8_requireNumber 0 = .ok (.iload_n 0, 1) := by decide +kernel
theorem dX8_requireNumber_1 : decode cX8_requireNumber 1 = .ok (.invokestatic 235, 3) := by decide +kernel
theorem dX8_requireNumber_4 : decode cX8_requireNumber 4 = .ok (.ifCond .ne 13, 3) := by decide +kernel
theorem dX8_requireNumber_7 : decode cX8_requireNumber 7 = .ok (.new 99, 3) := by decide +kernel
theorem dX8_requireNumber_10 : decode cX8_requireNumber 10 = .ok (.dup, 1) := by decide +kernel
theorem dX8_requireNumber_11 : decode cX8_requireNumber 11 = .ok (.ldc 238, 2) := by decide +kernel
theorem dX8_requireNumber_13 : decode cX8_requireNumber 13 = .ok (.invokespecial 103, 3) := by decide +kernel
theorem dX8_requireNumber_16 : decode cX8_requireNumber 16 = .ok (.athrow, 1) := by decide +kernel
theorem dX8_requireNumber_17 : decode cX8_requireNumber 17 = .ok (.return_, 1) := by decide +kernel
theorem dX8_requireRoot_0 : decode cX8_requireRoot 0 = .ok (.iload_n 1, 1) := by decide +kernel
theorem dX8_requireRoot_1 : decode cX8_requireRoot 1 = .ok (.invokestatic 86, 3) := by decide +kernel
theorem dX8_requireRoot_4 : decode cX8_requireRoot 4 = .ok (.aload_n 0, 1) := by decide +kernel
theorem dX8_requireRoot_5 : decode cX8_requireRoot 5 = .ok (.getfield 12, 3) := by decide +kernel
theorem dX8_requireRoot_8 : decode cX8_requireRoot 8 = .ok (.iload_n 1, 1) := by decide +kernel
theorem dX8_requireRoot_9 : decode cX8_requireRoot 9 = .ok (.invokevirtual 240, 3) := by decide +kernel
theorem dX8_requireRoot_12 : decode cX8_requireRoot 12 = .ok (.ifCond .eq 13, 3) := by decide +kernel
theorem dX8_requireRoot_15 : decode cX8_requireRoot 15 = .ok (.new 126, 3) := by decide +kernel
theorem dX8_requireRoot_18 : decode cX8_requireRoot 18 = .ok (.dup, 1) := by decide +kernel
theorem dX8_requireRoot_19 : decode cX8_requireRoot 19 = .ok (.ldc 243, 2) := by decide +kernel
theorem dX8_requireRoot_21 : decode cX8_requireRoot 21 = .ok (.invokespecial 130, 3) := by decide +kernel
theorem dX8_requireRoot_24 : decode cX8_requireRoot 24 = .ok (.athrow, 1) := by decide +kernel
theorem dX8_requireRoot_25 : decode cX8_requireRoot 25 = .ok (.return_, 1) := by decide +kernel
theorem dX8_requireLaid_0 : decode cX8_requireLaid 0 = .ok (.iload_n 1, 1) := by decide +kernel
theorem dX8_requireLaid_1 : decode cX8_requireLaid 1 = .ok (.invokestatic 86, 3) := by decide +kernel
theorem dX8_requireLaid_4 : decode cX8_requireLaid 4 = .ok (.aload_n 0, 1) := by decide +kernel
theorem dX8_requireLaid_5 : decode cX8_requireLaid 5 = .ok (.getfield 42, 3) := by decide +kernel
theorem dX8_requireLaid_8 : decode cX8_requireLaid 8 = .ok (.iload_n 1, 1) := by decide +kernel
theorem dX8_requireLaid_9 : decode cX8_requireLaid 9 = .ok (.invokevirtual 122, 3) := by decide +kernel
theorem dX8_requireLaid_12 : decode cX8_requireLaid 12 = .ok (.ifCond .ne 13, 3) := by decide +kernel
theorem dX8_requireLaid_15 : decode cX8_requireLaid 15 = .ok (.new 126, 3) := by decide +kernel
theorem dX8_requireLaid_18 : decode cX8_requireLaid 18 = .ok (.dup, 1) := by decide +kernel
theorem dX8_requireLaid_19 : decode cX8_requireLaid 19 = .ok (.ldc 245, 2) := by decide +kernel
theorem dX8_requireLaid_21 : decode cX8_requireLaid 21 = .ok (.invokespecial 130, 3) := by decide +kernel
theorem dX8_requireLaid_24 : decode cX8_requireLaid 24 = .ok (.athrow, 1) := by decide +kernel
theorem dX8_requireLaid_25 : decode cX8_requireLaid 25 = .ok (.return_, 1) := by decide +kernel
theorem dX8_requireFault_0 : decode cX8_requireFault 0 = .ok (.aload_n 0, 1) := by decide +kernel
theorem dX8_requireFault_1 : decode cX8_requireFault 1 = .ok (.getfield 62, 3) := by decide +kernel
theorem dX8_requireFault_4 : decode cX8_requireFault 4 = .ok (.aload_n 0, 1) := by decide +kernel
theorem dX8_requireFault_5 : decode cX8_requireFault 5 = .ok (.getfield 42, 3) := by decide +kernel
theorem dX8_requireFault_8 : decode cX8_requireFault 8 = .ok (.aload_n 0, 1) := by decide +kernel
theorem dX8_requireFault_9 : decode cX8_requireFault 9 = .ok (.getfield 46, 3) := by decide +kernel
theorem dX8_requireFault_12 : decode cX8_requireFault 12 = .ok (.invokevirtual 226, 3) := by decide +kernel
theorem dX8_requireFault_15 : decode cX8_requireFault 15 = .ok (.ifCond .ne 13, 3) := by decide +kernel
theorem dX8_requireFault_18 : decode cX8_requireFault 18 = .ok (.new 126, 3) := by decide +kernel
theorem dX8_requireFault_21 : decode cX8_requireFault 21 = .ok (.dup, 1) := by decide +kernel
theorem dX8_requireFault_22 : decode cX8_requireFault 22 = .ok (.ldc 247, 2) := by decide +kernel
theorem dX8_requireFault_24 : decode cX8_requireFault 24 = .ok (.invokespecial 130, 3) := by decide +kernel
theorem dX8_requireFault_27 : decode cX8_requireFault 27 = .ok (.athrow, 1) := by decide +kernel
theorem dX8_requireFault_28 : decode cX8_requireFault 28 = .ok (.return_, 1) := by decide +kernel
theorem dX8_change_0 : decode cX8_change 0 = .ok (.aload_n 0, 1) := by decide +kernel
theorem dX8_change_1 : decode cX8_change 1 = .ok (.getfield 42, 3) := by decide +kernel
theorem dX8_change_4 : decode cX8_change 4 = .ok (.iload_n 1, 1) := by decide +kernel
theorem dX8_change_5 : decode cX8_change 5 = .ok (.iload_n 2, 1) := by decide +kernel
theorem dX8_change_6 : decode cX8_change 6 = .ok (.invokevirtual 249, 3) := by decide +kernel
theorem dX8_change_9 : decode cX8_change 9 = .ok (.istore_n 3, 1) := by decide +kernel
theorem dX8_change_10 : decode cX8_change 10 = .ok (.iload_n 3, 1) := by decide +kernel
theorem dX8_change_11 : decode cX8_change 11 = .ok (.iconst 1, 1) := by decide +kernel
theorem dX8_change_12 : decode cX8_change 12 = .ok (.if_icmp .ne 13, 3) := by decide +kernel
theorem dX8_change_15 : decode cX8_change 15 = .ok (.new 99, 3) := by decide +kernel
theorem dX8_change_18 : decode cX8_change 18 = .ok (.dup, 1) := by decide +kernel
theorem dX8_change_19 : decode cX8_change 19 = .ok (.ldc 238, 2) := by decide +kernel
theorem dX8_change_21 : decode cX8_change 21 = .ok (.invokespecial 103, 3) := by decide +kernel
theorem dX8_change_24 : decode cX8_change 24 = .ok (.athrow, 1) := by decide +kernel
theorem dX8_change_25 : decode cX8_change 25 = .ok (.iload_n 3, 1) := by decide +kernel
theorem dX8_change_26 : decode cX8_change 26 = .ok (.ifCond .eq 13, 3) := by decide +kernel
theorem dX8_change_29 : decode cX8_change 29 = .ok (.new 188, 3) := by decide +kernel
theorem dX8_change_32 : decode cX8_change 32 = .ok (.dup, 1) := by decide +kernel
theorem dX8_change_33 : decode cX8_change 33 = .ok (.ldc 253, 2) := by decide +kernel
theorem dX8_change_35 : decode cX8_change 35 = .ok (.invokespecial 192, 3) := by decide +kernel
theorem dX8_change_38 : decode cX8_change 38 = .ok (.athrow, 1) := by decide +kernel
theorem dX8_change_39 : decode cX8_change 39 = .ok (.aload_n 0, 1) := by decide +kernel
theorem dX8_change_40 : decode cX8_change 40 = .ok (.getfield 55, 3) := by decide +kernel
theorem dX8_change_43 : decode cX8_change 43 = .ok (.aload_n 0, 1) := by decide +kernel
theorem dX8_change_44 : decode cX8_change 44 = .ok (.getfield 42, 3) := by decide +kernel
theorem dX8_change_47 : decode cX8_change 47 = .ok (.invokevirtual 193, 3) := by decide +kernel
theorem dX8_change_50 : decode cX8_change 50 = .ok (.aload_n 0, 1) := by decide +kernel
theorem dX8_change_51 : decode cX8_change 51 = .ok (.getfield 42, 3) := by decide +kernel
theorem dX8_change_54 : decode cX8_change 54 = .ok (.iload_n 1, 1) := by decide +kernel
theorem dX8_change_55 : decode cX8_change 55 = .ok (.iload_n 2, 1) := by decide +kernel
theorem dX8_change_56 : decode cX8_change 56 = .ok (.invokevirtual 255, 3) := by decide +kernel
theorem dX8_change_59 : decode cX8_change 59 = .ok (.return_, 1) := by decide +kernel
theorem dX8_powerOfLaid_0 : decode cX8_powerOfLaid 0 = .ok (.aload_n 0, 1) := by decide +kernel
theorem dX8_powerOfLaid_1 : decode cX8_powerOfLaid 1 = .ok (.getfield 42, 3) := by decide +kernel
theorem dX8_powerOfLaid_4 : decode cX8_powerOfLaid 4 = .ok (.iload_n 1, 1) := by decide +kernel
theorem dX8_powerOfLaid_5 : decode cX8_powerOfLaid 5 = .ok (.invokevirtual 74, 3) := by decide +kernel
theorem dX8_powerOfLaid_8 : decode cX8_powerOfLaid 8 = .ok (.istore_n 2, 1) := by decide +kernel
theorem dX8_powerOfLaid_9 : decode cX8_powerOfLaid 9 = .ok (.aload_n 0, 1) := by decide +kernel
theorem dX8_powerOfLaid_10 : decode cX8_powerOfLaid 10 = .ok (.getfield 12, 3) := by decide +kernel
theorem dX8_powerOfLaid_13 : decode cX8_powerOfLaid 13 = .ok (.aload_n 0, 1) := by decide +kernel
theorem dX8_powerOfLaid_14 : decode cX8_powerOfLaid 14 = .ok (.getfield 19, 3) := by decide +kernel
theorem dX8_powerOfLaid_17 : decode cX8_powerOfLaid 17 = .ok (.iload_n 1, 1) := by decide +kernel
theorem dX8_powerOfLaid_18 : decode cX8_powerOfLaid 18 = .ok (.invokevirtual 258, 3) := by decide +kernel
theorem dX8_powerOfLaid_21 : decode cX8_powerOfLaid 21 = .ok (.iconst 0, 1) := by decide +kernel
theorem dX8_powerOfLaid_22 : decode cX8_powerOfLaid 22 = .ok (.istore_n 3, 1) := by decide +kernel
theorem dX8_powerOfLaid_23 : decode cX8_powerOfLaid 23 = .ok (.iload_n 3, 1) := by decide +kernel
theorem dX8_powerOfLaid_24 : decode cX8_powerOfLaid 24 = .ok (.iload_n 2, 1) := by decide +kernel
theorem dX8_powerOfLaid_25 : decode cX8_powerOfLaid 25 = .ok (.if_icmp .ge 24, 3) := by decide +kernel
theorem dX8_powerOfLaid_28 : decode cX8_powerOfLaid 28 = .ok (.iload_n 3, 1) := by decide +kernel
theorem dX8_powerOfLaid_29 : decode cX8_powerOfLaid 29 = .ok (.ldc_w 262, 3) := by decide +kernel
theorem dX8_powerOfLaid_32 : decode cX8_powerOfLaid 32 = .ok (.if_icmp .ge 17, 3) := by decide +kernel
theorem dX8_powerOfLaid_35 : decode cX8_powerOfLaid 35 = .ok (.aload_n 0, 1) := by decide +kernel
theorem dX8_powerOfLaid_36 : decode cX8_powerOfLaid 36 = .ok (.getfield 19, 3) := by decide +kernel
theorem dX8_powerOfLaid_39 : decode cX8_powerOfLaid 39 = .ok (.invokevirtual 263, 3) := by decide +kernel
theorem dX8_powerOfLaid_42 : decode cX8_powerOfLaid 42 = .ok (.pop, 1) := by decide +kernel
theorem dX8_powerOfLaid_43 : decode cX8_powerOfLaid 43 = .ok (.iinc 3 1, 3) := by decide +kernel
theorem dX8_powerOfLaid_46 : decode cX8_powerOfLaid 46 = .ok (.goto (-23), 3) := by decide +kernel
theorem dX8_powerOfLaid_49 : decode cX8_powerOfLaid 49 = .ok (.aload_n 0, 1) := by decide +kernel
theorem dX8_powerOfLaid_50 : decode cX8_powerOfLaid 50 = .ok (.getfield 19, 3) := by decide +kernel
theorem dX8_powerOfLaid_53 : decode cX8_powerOfLaid 53 = .ok (.areturn, 1) := by decide +kernel
theorem dX8_solutionByQueue_0 : decode cX8_solutionByQueue 0 = .ok (.iload_n 1, 1) := by decide +kernel
theorem dX8_solutionByQueue_1 : decode cX8_solutionByQueue 1 = .ok (.ifCond .ge 13, 3) := by decide +kernel
theorem dX8_solutionByQueue_4 : decode cX8_solutionByQueue 4 = .ok (.new 99, 3) := by decide +kernel
theorem dX8_solutionByQueue_7 : decode cX8_solutionByQueue 7 = .ok (.dup, 1) := by decide +kernel
theorem dX8_solutionByQueue_8 : decode cX8_solutionByQueue 8 = .ok (.ldc 159, 2) := by decide +kernel
theorem dX8_solutionByQueue_10 : decode cX8_solutionByQueue 10 = .ok (.invokespecial 103, 3) := by decide +kernel
theorem dX8_solutionByQueue_13 : decode cX8_solutionByQueue 13 = .ok (.athrow, 1) := by decide +kernel
theorem dX8_solutionByQueue_14 : decode cX8_solutionByQueue 14 = .ok (.aload_n 0, 1) := by decide +kernel
theorem dX8_solutionByQueue_15 : decode cX8_solutionByQueue 15 = .ok (.getfield 28, 3) := by decide +kernel
theorem dX8_solutionByQueue_18 : decode cX8_solutionByQueue 18 = .ok (.aload_n 0, 1) := by decide +kernel
theorem dX8_solutionByQueue_19 : decode cX8_solutionByQueue 19 = .ok (.getfield 42, 3) := by decide +kernel
theorem dX8_solutionByQueue_22 : decode cX8_solutionByQueue 22 = .ok (.invokevirtual 267, 3) := by decide +kernel
theorem dX8_solutionByQueue_25 : decode cX8_solutionByQueue 25 = .ok (.aload_n 0, 1) := by decide +kernel
theorem dX8_solutionByQueue_26 : decode cX8_solutionByQueue 26 = .ok (.getfield 28, 3) := by decide +kernel
theorem dX8_solutionByQueue_29 : decode cX8_solutionByQueue 29 = .ok (.iload_n 1, 1) := by decide +kernel
theorem dX8_solutionByQueue_30 : decode cX8_solutionByQueue 30 = .ok (.invokevirtual 268, 3) := by decide +kernel
theorem dX8_solutionByQueue_33 : decode cX8_solutionByQueue 33 = .ok (.aload_n 0, 1) := by decide +kernel
theorem dX8_solutionByQueue_34 : decode cX8_solutionByQueue 34 = .ok (.getfield 28, 3) := by decide +kernel
theorem dX8_solutionByQueue_37 : decode cX8_solutionByQueue 37 = .ok (.invokevirtual 271, 3) := by decide +kernel
theorem dX8_solutionByQueue_40 : decode cX8_solutionByQueue 40 = .ok (.astore_n 2, 1) := by decide +kernel
theorem dX8_solutionByQueue_41 : decode cX8_solutionByQueue 41 = .ok (.aload_n 2, 1) := by decide +kernel
theorem dX8_solutionByQueue_42 : decode cX8_solutionByQueue 42 = .ok (.ifnonnull 13, 3) := by decide +kernel
theorem dX8_solutionByQueue_45 : decode cX8_solutionByQueue 45 = .ok (.new 126, 3) := by decide +kernel
theorem dX8_solutionByQueue_48 : decode cX8_solutionByQueue 48 = .ok (.dup, 1) := by decide +kernel
theorem dX8_solutionByQueue_49 : decode cX8_solutionByQueue 49 = .ok (.ldc 168, 2) := by decide +kernel
theorem dX8_solutionByQueue_51 : decode cX8_solutionByQueue 51 = .ok (.invokespecial 130, 3) := by decide +kernel
theorem dX8_solutionByQueue_54 : decode cX8_solutionByQueue 54 = .ok (.athrow, 1) := by decide +kernel
theorem dX8_solutionByQueue_55 : decode cX8_solutionByQueue 55 = .ok (.aload_n 2, 1) := by decide +kernel
theorem dX8_solutionByQueue_56 : decode cX8_solutionByQueue 56 = .ok (.areturn, 1) := by decide +kernel
theorem dX8_countUpTo_0 : decode cX8_countUpTo 0 = .ok (.iconst 0, 1) := by decide +kernel
theorem dX8_countUpTo_1 : decode cX8_countUpTo 1 = .ok (.istore_n 3, 1) := by decide +kernel
theorem dX8_countUpTo_2 : decode cX8_countUpTo 2 = .ok (.iconst 2, 1) := by decide +kernel
theorem dX8_countUpTo_3 : decode cX8_countUpTo 3 = .ok (.istore 4, 2) := by decide +kernel
theorem dX8_countUpTo_5 : decode cX8_countUpTo 5 = .ok (.iload 4, 2) := by decide +kernel
theorem dX8_countUpTo_7 : decode cX8_countUpTo 7 = .ok (.bipush 60, 2) := by decide +kernel
theorem dX8_countUpTo_9 : decode cX8_countUpTo 9 = .ok (.if_icmp .gt 31, 3) := by decide +kernel
theorem dX8_countUpTo_12 : decode cX8_countUpTo 12 = .ok (.aload_n 0, 1) := by decide +kernel
theorem dX8_countUpTo_13 : decode cX8_countUpTo 13 = .ok (.getfield 42, 3) := by decide +kernel
theorem dX8_countUpTo_16 : decode cX8_countUpTo 16 = .ok (.iload 4, 2) := by decide +kernel
theorem dX8_countUpTo_18 : decode cX8_countUpTo 18 = .ok (.invokevirtual 122, 3) := by decide +kernel
theorem dX8_countUpTo_21 : decode cX8_countUpTo 21 = .ok (.ifCond .eq 13, 3) := by decide +kernel
theorem dX8_countUpTo_24 : decode cX8_countUpTo 24 = .ok (.iload_n 3, 1) := by decide +kernel
theorem dX8_countUpTo_25 : decode cX8_countUpTo 25 = .ok (.aload_n 0, 1) := by decide +kernel
theorem dX8_countUpTo_26 : decode cX8_countUpTo 26 = .ok (.iload 4, 2) := by decide +kernel
theorem dX8_countUpTo_28 : decode cX8_countUpTo 28 = .ok (.lload_n 1, 1) := by decide +kernel
theorem dX8_countUpTo_29 : decode cX8_countUpTo 29 = .ok (.invokevirtual 275, 3) := by decide +kernel
theorem dX8_countUpTo_32 : decode cX8_countUpTo 32 = .ok (.iadd, 1) := by decide +kernel
theorem dX8_countUpTo_33 : decode cX8_countUpTo 33 = .ok (.istore_n 3, 1) := by decide +kernel
theorem dX8_countUpTo_34 : decode cX8_countUpTo 34 = .ok (.iinc 4 1, 3) := by decide +kernel
theorem dX8_countUpTo_37 : decode cX8_countUpTo 37 = .ok (.goto (-32), 3) := by decide +kernel
theorem dX8_countUpTo_40 : decode cX8_countUpTo 40 = .ok (.iload_n 3, 1) := by decide +kernel
theorem dX8_countUpTo_41 : decode cX8_countUpTo 41 = .ok (.ireturn, 1) := by decide +kernel
theorem dX8_countPowersUpTo_0 : decode cX8_countPowersUpTo 0 = .ok (.aload_n 0, 1) := by decide +kernel
theorem dX8_countPowersUpTo_1 : decode cX8_countPowersUpTo 1 = .ok (.getfield 12, 3) := by decide +kernel
theorem dX8_countPowersUpTo_4 : decode cX8_countPowersUpTo 4 = .ok (.aload_n 0, 1) := by decide +kernel
theorem dX8_countPowersUpTo_5 : decode cX8_countPowersUpTo 5 = .ok (.getfield 19, 3) := by decide +kernel
theorem dX8_countPowersUpTo_8 : decode cX8_countPowersUpTo 8 = .ok (.iload_n 1, 1) := by decide +kernel
theorem dX8_countPowersUpTo_9 : decode cX8_countPowersUpTo 9 = .ok (.invokevirtual 258, 3) := by decide +kernel
theorem dX8_countPowersUpTo_12 : decode cX8_countPowersUpTo 12 = .ok (.iconst 0, 1) := by decide +kernel
theorem dX8_countPowersUpTo_13 : decode cX8_countPowersUpTo 13 = .ok (.istore 4, 2) := by decide +kernel
theorem dX8_countPowersUpTo_15 : decode cX8_countPowersUpTo 15 = .ok (.iload 4, 2) := by decide +kernel
theorem dX8_countPowersUpTo_17 : decode cX8_countPowersUpTo 17 = .ok (.ldc_w 262, 3) := by decide +kernel
theorem dX8_countPowersUpTo_20 : decode cX8_countPowersUpTo 20 = .ok (.if_icmp .ge 34, 3) := by decide +kernel
theorem dX8_countPowersUpTo_23 : decode cX8_countPowersUpTo 23 = .ok (.aload_n 0, 1) := by decide +kernel
theorem dX8_countPowersUpTo_24 : decode cX8_countPowersUpTo 24 = .ok (.getfield 19, 3) := by decide +kernel
theorem dX8_countPowersUpTo_27 : decode cX8_countPowersUpTo 27 = .ok (.invokevirtual 263, 3) := by decide +kernel
theorem dX8_countPowersUpTo_30 : decode cX8_countPowersUpTo 30 = .ok (.ifCond .eq 15, 3) := by decide +kernel
theorem dX8_countPowersUpTo_33 : decode cX8_countPowersUpTo 33 = .ok (.aload_n 0, 1) := by decide +kernel
theorem dX8_countPowersUpTo_34 : decode cX8_countPowersUpTo 34 = .ok (.getfield 19, 3) := by decide +kernel
theorem dX8_countPowersUpTo_37 : decode cX8_countPowersUpTo 37 = .ok (.getfield 82, 3) := by decide +kernel
theorem dX8_countPowersUpTo_40 : decode cX8_countPowersUpTo 40 = .ok (.lload_n 2, 1) := by decide +kernel
theorem dX8_countPowersUpTo_41 : decode cX8_countPowersUpTo 41 = .ok (.lcmp, 1) := by decide +kernel
theorem dX8_countPowersUpTo_42 : decode cX8_countPowersUpTo 42 = .ok (.ifCond .le 6, 3) := by decide +kernel
theorem dX8_countPowersUpTo_45 : decode cX8_countPowersUpTo 45 = .ok (.iload 4, 2) := by decide +kernel
theorem dX8_countPowersUpTo_47 : decode cX8_countPowersUpTo 47 = .ok (.ireturn, 1) := by decide +kernel
theorem dX8_countPowersUpTo_48 : decode cX8_countPowersUpTo 48 = .ok (.iinc 4 1, 3) := by decide +kernel
theorem dX8_countPowersUpTo_51 : decode cX8_countPowersUpTo 51 = .ok (.goto (-36), 3) := by decide +kernel
theorem dX8_countPowersUpTo_54 : decode cX8_countPowersUpTo 54 = .ok (.ldc_w 262, 3) := by decide +kernel
theorem dX8_countPowersUpTo_57 : decode cX8_countPowersUpTo 57 = .ok (.ireturn, 1) := by decide +kernel
theorem dX8_searchLeastY_0 : decode cX8_searchLeastY 0 = .ok (.iload_n 0, 1) := by decide +kernel
theorem dX8_searchLeastY_1 : decode cX8_searchLeastY 1 = .ok (.invokestatic 279, 3) := by decide +kernel
theorem dX8_searchLeastY_4 : decode cX8_searchLeastY 4 = .ok (.istore_n 1, 1) := by decide +kernel
theorem dX8_searchLeastY_5 : decode cX8_searchLeastY 5 = .ok (.iload_n 1, 1) := by decide +kernel
theorem dX8_searchLeastY_6 : decode cX8_searchLeastY 6 = .ok (.i2l, 1) := by decide +kernel
theorem dX8_searchLeastY_7 : decode cX8_searchLeastY 7 = .ok (.lstore_n 2, 1) := by decide +kernel
theorem dX8_searchLeastY_8 : decode cX8_searchLeastY 8 = .ok (.iconst 1, 1) := by decide +kernel
theorem dX8_searchLeastY_9 : decode cX8_searchLeastY 9 = .ok (.istore 4, 2) := by decide +kernel
theorem dX8_searchLeastY_11 : decode cX8_searchLeastY 11 = .ok (.iload 4, 2) := by decide +kernel
theorem dX8_searchLeastY_13 : decode cX8_searchLeastY 13 = .ok (.ldc_w 262, 3) := by decide +kernel
theorem dX8_searchLeastY_16 : decode cX8_searchLeastY 16 = .ok (.if_icmp .ge 61, 3) := by decide +kernel
theorem dX8_searchLeastY_19 : decode cX8_searchLeastY 19 = .ok (.iload_n 0, 1) := by decide +kernel
theorem dX8_searchLeastY_20 : decode cX8_searchLeastY 20 = .ok (.i2l, 1) := by decide +kernel
theorem dX8_searchLeastY_21 : decode cX8_searchLeastY 21 = .ok (.iload 4, 2) := by decide +kernel
theorem dX8_searchLeastY_23 : decode cX8_searchLeastY 23 = .ok (.i2l, 1) := by decide +kernel
theorem dX8_searchLeastY_24 : decode cX8_searchLeastY 24 = .ok (.lmul, 1) := by decide +kernel
theorem dX8_searchLeastY_25 : decode cX8_searchLeastY 25 = .ok (.iload 4, 2) := by decide +kernel
theorem dX8_searchLeastY_27 : decode cX8_searchLeastY 27 = .ok (.i2l, 1) := by decide +kernel
theorem dX8_searchLeastY_28 : decode cX8_searchLeastY 28 = .ok (.lmul, 1) := by decide +kernel
theorem dX8_searchLeastY_29 : decode cX8_searchLeastY 29 = .ok (.lconst 1, 1) := by decide +kernel
theorem dX8_searchLeastY_30 : decode cX8_searchLeastY 30 = .ok (.ladd, 1) := by decide +kernel
theorem dX8_searchLeastY_31 : decode cX8_searchLeastY 31 = .ok (.lstore 5, 2) := by decide +kernel
theorem dX8_searchLeastY_33 : decode cX8_searchLeastY 33 = .ok (.lload_n 2, 1) := by decide +kernel
theorem dX8_searchLeastY_34 : decode cX8_searchLeastY 34 = .ok (.lconst 1, 1) := by decide +kernel
theorem dX8_searchLeastY_35 : decode cX8_searchLeastY 35 = .ok (.ladd, 1) := by decide +kernel
theorem dX8_searchLeastY_36 : decode cX8_searchLeastY 36 = .ok (.lload_n 2, 1) := by decide +kernel
theorem dX8_searchLeastY_37 : decode cX8_searchLeastY 37 = .ok (.lconst 1, 1) := by decide +kernel
theorem dX8_searchLeastY_38 : decode cX8_searchLeastY 38 = .ok (.ladd, 1) := by decide +kernel
theorem dX8_searchLeastY_39 : decode cX8_searchLeastY 39 = .ok (.lmul, 1) := by decide +kernel
theorem dX8_searchLeastY_40 : decode cX8_searchLeastY 40 = .ok (.lload 5, 2) := by decide +kernel
theorem dX8_searchLeastY_42 : decode cX8_searchLeastY 42 = .ok (.lcmp, 1) := by decide +kernel
theorem dX8_searchLeastY_43 : decode cX8_searchLeastY 43 = .ok (.ifCond .ge 7, 3) := by decide +kernel
theorem dX8_searchLeastY_46 : decode cX8_searchLeastY 46 = .ok (.lload_n 2, 1) := by decide +kernel
theorem dX8_searchLeastY_47 : decode cX8_searchLeastY 47 = .ok (.lconst 1, 1) := by decide +kernel
theorem dX8_searchLeastY_48 : decode cX8_searchLeastY 48 = .ok (.ladd, 1) := by decide +kernel
theorem dX8_searchLeastY_49 : decode cX8_searchLeastY 49 = .ok (.lstore_n 2, 1) := by decide +kernel
theorem dX8_searchLeastY_50 : decode cX8_searchLeastY 50 = .ok (.lload_n 2, 1) := by decide +kernel
theorem dX8_searchLeastY_51 : decode cX8_searchLeastY 51 = .ok (.lconst 1, 1) := by decide +kernel
theorem dX8_searchLeastY_52 : decode cX8_searchLeastY 52 = .ok (.ladd, 1) := by decide +kernel
theorem dX8_searchLeastY_53 : decode cX8_searchLeastY 53 = .ok (.lload_n 2, 1) := by decide +kernel
theorem dX8_searchLeastY_54 : decode cX8_searchLeastY 54 = .ok (.lconst 1, 1) := by decide +kernel
theorem dX8_searchLeastY_55 : decode cX8_searchLeastY 55 = .ok (.ladd, 1) := by decide +kernel
theorem dX8_searchLeastY_56 : decode cX8_searchLeastY 56 = .ok (.lmul, 1) := by decide +kernel
theorem dX8_searchLeastY_57 : decode cX8_searchLeastY 57 = .ok (.lload 5, 2) := by decide +kernel
theorem dX8_searchLeastY_59 : decode cX8_searchLeastY 59 = .ok (.lcmp, 1) := by decide +kernel
theorem dX8_searchLeastY_60 : decode cX8_searchLeastY 60 = .ok (.ifCond .ne 6, 3) := by decide +kernel
theorem dX8_searchLeastY_63 : decode cX8_searchLeastY 63 = .ok (.iload 4, 2) := by decide +kernel
theorem dX8_searchLeastY_65 : decode cX8_searchLeastY 65 = .ok (.ireturn, 1) := by decide +kernel
theorem dX8_searchLeastY_66 : decode cX8_searchLeastY 66 = .ok (.lload_n 2, 1) := by decide +kernel
theorem dX8_searchLeastY_67 : decode cX8_searchLeastY 67 = .ok (.iload_n 1, 1) := by decide +kernel
theorem dX8_searchLeastY_68 : decode cX8_searchLeastY 68 = .ok (.i2l, 1) := by decide +kernel
theorem dX8_searchLeastY_69 : decode cX8_searchLeastY 69 = .ok (.ladd, 1) := by decide +kernel
theorem dX8_searchLeastY_70 : decode cX8_searchLeastY 70 = .ok (.lstore_n 2, 1) := by decide +kernel
theorem dX8_searchLeastY_71 : decode cX8_searchLeastY 71 = .ok (.iinc 4 1, 3) := by decide +kernel
theorem dX8_searchLeastY_74 : decode cX8_searchLeastY 74 = .ok (.goto (-63), 3) := by decide +kernel
theorem dX8_searchLeastY_77 : decode cX8_searchLeastY 77 = .ok (.ldc_w 262, 3) := by decide +kernel
theorem dX8_searchLeastY_80 : decode cX8_searchLeastY 80 = .ok (.ireturn, 1) := by decide +kernel
theorem dX8_wholeRoot_0 : decode cX8_wholeRoot 0 = .ok (.iconst 1, 1) := by decide +kernel
theorem dX8_wholeRoot_1 : decode cX8_wholeRoot 1 = .ok (.istore_n 1, 1) := by decide +kernel
theorem dX8_wholeRoot_2 : decode cX8_wholeRoot 2 = .ok (.iconst 2, 1) := by decide +kernel
theorem dX8_wholeRoot_3 : decode cX8_wholeRoot 3 = .ok (.istore_n 2, 1) := by decide +kernel
theorem dX8_wholeRoot_4 : decode cX8_wholeRoot 4 = .ok (.iload_n 2, 1) := by decide +kernel
theorem dX8_wholeRoot_5 : decode cX8_wholeRoot 5 = .ok (.bipush 60, 2) := by decide +kernel
theorem dX8_wholeRoot_7 : decode cX8_wholeRoot 7 = .ok (.if_icmp .gt 18, 3) := by decide +kernel
theorem dX8_wholeRoot_10 : decode cX8_wholeRoot 10 = .ok (.iload_n 2, 1) := by decide +kernel
theorem dX8_wholeRoot_11 : decode cX8_wholeRoot 11 = .ok (.iload_n 2, 1) := by decide +kernel
theorem dX8_wholeRoot_12 : decode cX8_wholeRoot 12 = .ok (.imul, 1) := by decide +kernel
theorem dX8_wholeRoot_13 : decode cX8_wholeRoot 13 = .ok (.iload_n 0, 1) := by decide +kernel
theorem dX8_wholeRoot_14 : decode cX8_wholeRoot 14 = .ok (.if_icmp .gt 11, 3) := by decide +kernel
theorem dX8_wholeRoot_17 : decode cX8_wholeRoot 17 = .ok (.iload_n 2, 1) := by decide +kernel
theorem dX8_wholeRoot_18 : decode cX8_wholeRoot 18 = .ok (.istore_n 1, 1) := by decide +kernel
theorem dX8_wholeRoot_19 : decode cX8_wholeRoot 19 = .ok (.iinc 2 1, 3) := by decide +kernel
theorem dX8_wholeRoot_22 : decode cX8_wholeRoot 22 = .ok (.goto (-18), 3) := by decide +kernel
theorem dX8_wholeRoot_25 : decode cX8_wholeRoot 25 = .ok (.iload_n 1, 1) := by decide +kernel
theorem dX8_wholeRoot_26 : decode cX8_wholeRoot 26 = .ok (.ireturn, 1) := by decide +kernel
theorem dJ9_floorMod_f86c9_0 : decode cJ9_floorMod_f86c9 0 = .ok (.lload_n 0, 1) := by decide +kernel
theorem dJ9_floorMod_f86c9_1 : decode cJ9_floorMod_f86c9 1 = .ok (.lload_n 2, 1) := by decide +kernel
theorem dJ9_floorMod_f86c9_2 : decode cJ9_floorMod_f86c9 2 = .ok (.lrem, 1) := by decide +kernel
theorem dJ9_floorMod_f86c9_3 : decode cJ9_floorMod_f86c9 3 = .ok (.lstore 4, 2) := by decide +kernel
theorem dJ9_floorMod_f86c9_5 : decode cJ9_floorMod_f86c9 5 = .ok (.lload_n 0, 1) := by decide +kernel
theorem dJ9_floorMod_f86c9_6 : decode cJ9_floorMod_f86c9 6 = .ok (.lload_n 2, 1) := by decide +kernel
theorem dJ9_floorMod_f86c9_7 : decode cJ9_floorMod_f86c9 7 = .ok (.lxor, 1) := by decide +kernel
theorem dJ9_floorMod_f86c9_8 : decode cJ9_floorMod_f86c9 8 = .ok (.lconst 0, 1) := by decide +kernel
theorem dJ9_floorMod_f86c9_9 : decode cJ9_floorMod_f86c9 9 = .ok (.lcmp, 1) := by decide +kernel
theorem dJ9_floorMod_f86c9_10 : decode cJ9_floorMod_f86c9 10 = .ok (.ifCond .ge 15, 3) := by decide +kernel
theorem dJ9_floorMod_f86c9_13 : decode cJ9_floorMod_f86c9 13 = .ok (.lload 4, 2) := by decide +kernel
theorem dJ9_floorMod_f86c9_15 : decode cJ9_floorMod_f86c9 15 = .ok (.lconst 0, 1) := by decide +kernel
theorem dJ9_floorMod_f86c9_16 : decode cJ9_floorMod_f86c9 16 = .ok (.lcmp, 1) := by decide +kernel
theorem dJ9_floorMod_f86c9_17 : decode cJ9_floorMod_f86c9 17 = .ok (.ifCond .eq 8, 3) := by decide +kernel
theorem dJ9_floorMod_f86c9_20 : decode cJ9_floorMod_f86c9 20 = .ok (.lload 4, 2) := by decide +kernel
theorem dJ9_floorMod_f86c9_22 : decode cJ9_floorMod_f86c9 22 = .ok (.lload_n 2, 1) := by decide +kernel
theorem dJ9_floorMod_f86c9_23 : decode cJ9_floorMod_f86c9 23 = .ok (.ladd, 1) := by decide +kernel
theorem dJ9_floorMod_f86c9_24 : decode cJ9_floorMod_f86c9 24 = .ok (.lreturn, 1) := by decide +kernel
theorem dJ9_floorMod_f86c9_25 : decode cJ9_floorMod_f86c9 25 = .ok (.lload 4, 2) := by decide +kernel
theorem dJ9_floorMod_f86c9_27 : decode cJ9_floorMod_f86c9 27 = .ok (.lreturn, 1) := by decide +kernel
theorem dJ7_fill_53178_0 : decode cJ7_fill_53178 0 = .ok (.iconst 0, 1) := by decide +kernel
theorem dJ7_fill_53178_1 : decode cJ7_fill_53178 1 = .ok (.istore_n 2, 1) := by decide +kernel
theorem dJ7_fill_53178_2 : decode cJ7_fill_53178 2 = .ok (.aload_n 0, 1) := by decide +kernel
theorem dJ7_fill_53178_3 : decode cJ7_fill_53178 3 = .ok (.arraylength, 1) := by decide +kernel
theorem dJ7_fill_53178_4 : decode cJ7_fill_53178 4 = .ok (.istore_n 3, 1) := by decide +kernel
theorem dJ7_fill_53178_5 : decode cJ7_fill_53178 5 = .ok (.iload_n 2, 1) := by decide +kernel
theorem dJ7_fill_53178_6 : decode cJ7_fill_53178 6 = .ok (.iload_n 3, 1) := by decide +kernel
theorem dJ7_fill_53178_7 : decode cJ7_fill_53178 7 = .ok (.if_icmp .ge 13, 3) := by decide +kernel
theorem dJ7_fill_53178_10 : decode cJ7_fill_53178 10 = .ok (.aload_n 0, 1) := by decide +kernel
theorem dJ7_fill_53178_11 : decode cJ7_fill_53178 11 = .ok (.iload_n 2, 1) := by decide +kernel
theorem dJ7_fill_53178_12 : decode cJ7_fill_53178 12 = .ok (.iload_n 1, 1) := by decide +kernel
theorem dJ7_fill_53178_13 : decode cJ7_fill_53178 13 = .ok (.iastore, 1) := by decide +kernel
theorem dJ7_fill_53178_14 : decode cJ7_fill_53178 14 = .ok (.iinc 2 1, 3) := by decide +kernel
theorem dJ7_fill_53178_17 : decode cJ7_fill_53178 17 = .ok (.goto (-12), 3) := by decide +kernel
theorem dJ7_fill_53178_20 : decode cJ7_fill_53178 20 = .ok (.return_, 1) := by decide +kernel
theorem dL_lot_0 : decode cL_lot 0 = .ok (.iload_n 1, 1) := by decide +kernel
theorem dL_lot_1 : decode cL_lot 1 = .ok (.aload_n 0, 1) := by decide +kernel
theorem dL_lot_2 : decode cL_lot 2 = .ok (.arraylength, 1) := by decide +kernel
theorem dL_lot_3 : decode cL_lot 3 = .ok (.if_icmp .ge 9, 3) := by decide +kernel
theorem dL_lot_6 : decode cL_lot 6 = .ok (.aload_n 0, 1) := by decide +kernel
theorem dL_lot_7 : decode cL_lot 7 = .ok (.iload_n 1, 1) := by decide +kernel
theorem dL_lot_8 : decode cL_lot 8 = .ok (.iaload, 1) := by decide +kernel
theorem dL_lot_9 : decode cL_lot 9 = .ok (.goto 15, 3) := by decide +kernel
theorem dL_lot_12 : decode cL_lot 12 = .ok (.ldc 7, 2) := by decide +kernel
theorem dL_lot_14 : decode cL_lot 14 = .ok (.iload_n 1, 1) := by decide +kernel
theorem dL_lot_15 : decode cL_lot 15 = .ok (.sipush 6151, 3) := by decide +kernel
theorem dL_lot_18 : decode cL_lot 18 = .ok (.iadd, 1) := by decide +kernel
theorem dL_lot_19 : decode cL_lot 19 = .ok (.imul, 1) := by decide +kernel
theorem dL_lot_20 : decode cL_lot 20 = .ok (.sipush 5897, 3) := by decide +kernel
theorem dL_lot_23 : decode cL_lot 23 = .ok (.iadd, 1) := by decide +kernel
theorem dL_lot_24 : decode cL_lot 24 = .ok (.ireturn, 1) := by decide +kernel
theorem dL_low_0 : decode cL_low 0 = .ok (.iload_n 0, 1) := by decide +kernel
theorem dL_low_1 : decode cL_low 1 = .ok (.ldc 8, 2) := by decide +kernel
theorem dL_low_3 : decode cL_low 3 = .ok (.iand, 1) := by decide +kernel
theorem dL_low_4 : decode cL_low 4 = .ok (.iload_n 1, 1) := by decide +kernel
theorem dL_low_5 : decode cL_low 5 = .ok (.irem, 1) := by decide +kernel
theorem dL_low_6 : decode cL_low 6 = .ok (.ireturn, 1) := by decide +kernel
theorem dL_lay_0 : decode cL_lay 0 = .ok (.aload_n 0, 1) := by decide +kernel
theorem dL_lay_1 : decode cL_lay 1 = .ok (.iload_n 1, 1) := by decide +kernel
theorem dL_lay_2 : decode cL_lay 2 = .ok (.invokevirtual 9, 3) := by decide +kernel
theorem dL_lay_5 : decode cL_lay 5 = .ok (.ireturn, 1) := by decide +kernel
theorem dL_lay_6 : decode cL_lay 6 = .ok (.astore_n 2, 1) := by decide +kernel
theorem dL_lay_7 : decode cL_lay 7 = .ok (.bipush (-102), 2) := by decide +kernel
theorem dL_lay_9 : decode cL_lay 9 = .ok (.ireturn, 1) := by decide +kernel
theorem dL_lay_10 : decode cL_lay 10 = .ok (.astore_n 2, 1) := by decide +kernel
theorem dL_lay_11 : decode cL_lay 11 = .ok (.bipush (-103), 2) := by decide +kernel
theorem dL_lay_13 : decode cL_lay 13 = .ok (.ireturn, 1) := by decide +kernel
theorem dL_take_0 : decode cL_take 0 = .ok (.aload_n 0, 1) := by decide +kernel
theorem dL_take_1 : decode cL_take 1 = .ok (.iload_n 1, 1) := by decide +kernel
theorem dL_take_2 : decode cL_take 2 = .ok (.invokevirtual 19, 3) := by decide +kernel
theorem dL_take_5 : decode cL_take 5 = .ok (.ireturn, 1) := by decide +kernel
theorem dL_take_6 : decode cL_take 6 = .ok (.astore_n 2, 1) := by decide +kernel
theorem dL_take_7 : decode cL_take 7 = .ok (.bipush (-102), 2) := by decide +kernel
theorem dL_take_9 : decode cL_take 9 = .ok (.ireturn, 1) := by decide +kernel
theorem dL_take_10 : decode cL_take 10 = .ok (.astore_n 2, 1) := by decide +kernel
theorem dL_take_11 : decode cL_take 11 = .ok (.bipush (-103), 2) := by decide +kernel
theorem dL_take_13 : decode cL_take 13 = .ok (.ireturn, 1) := by decide +kernel
theorem dL_mill_0 : decode cL_mill 0 = .ok (.aload_n 0, 1) := by decide +kernel
theorem dL_mill_1 : decode cL_mill 1 = .ok (.iload_n 1, 1) := by decide +kernel
theorem dL_mill_2 : decode cL_mill 2 = .ok (.invokevirtual 22, 3) := by decide +kernel
theorem dL_mill_5 : decode cL_mill 5 = .ok (.lreturn, 1) := by decide +kernel
theorem dL_mill_6 : decode cL_mill 6 = .ok (.astore_n 2, 1) := by decide +kernel
theorem dL_mill_7 : decode cL_mill 7 = .ok (.ldc2_w 26, 3) := by decide +kernel
theorem dL_mill_10 : decode cL_mill 10 = .ok (.lreturn, 1) := by decide +kernel
theorem dL_mill_11 : decode cL_mill 11 = .ok (.astore_n 2, 1) := by decide +kernel
theorem dL_mill_12 : decode cL_mill 12 = .ok (.ldc2_w 28, 3) := by decide +kernel
theorem dL_mill_15 : decode cL_mill 15 = .ok (.lreturn, 1) := by decide +kernel
theorem dL_millBack_0 : decode cL_millBack 0 = .ok (.aload_n 0, 1) := by decide +kernel
theorem dL_millBack_1 : decode cL_millBack 1 = .ok (.iload_n 1, 1) := by decide +kernel
theorem dL_millBack_2 : decode cL_millBack 2 = .ok (.invokevirtual 30, 3) := by decide +kernel
theorem dL_millBack_5 : decode cL_millBack 5 = .ok (.lreturn, 1) := by decide +kernel
theorem dL_millBack_6 : decode cL_millBack 6 = .ok (.astore_n 2, 1) := by decide +kernel
theorem dL_millBack_7 : decode cL_millBack 7 = .ok (.ldc2_w 26, 3) := by decide +kernel
theorem dL_millBack_10 : decode cL_millBack 10 = .ok (.lreturn, 1) := by decide +kernel
theorem dL_millBack_11 : decode cL_millBack 11 = .ok (.astore_n 2, 1) := by decide +kernel
theorem dL_millBack_12 : decode cL_millBack 12 = .ok (.ldc2_w 28, 3) := by decide +kernel
theorem dL_millBack_15 : decode cL_millBack 15 = .ok (.lreturn, 1) := by decide +kernel
theorem dL_whyNot_0 : decode cL_whyNot 0 = .ok (.aload_n 0, 1) := by decide +kernel
theorem dL_whyNot_1 : decode cL_whyNot 1 = .ok (.iload_n 1, 1) := by decide +kernel
theorem dL_whyNot_2 : decode cL_whyNot 2 = .ok (.invokevirtual 33, 3) := by decide +kernel
theorem dL_whyNot_5 : decode cL_whyNot 5 = .ok (.ireturn, 1) := by decide +kernel
theorem dL_whyNot_6 : decode cL_whyNot 6 = .ok (.astore_n 2, 1) := by decide +kernel
theorem dL_whyNot_7 : decode cL_whyNot 7 = .ok (.bipush (-102), 2) := by decide +kernel
theorem dL_whyNot_9 : decode cL_whyNot 9 = .ok (.ireturn, 1) := by decide +kernel
theorem dL_termAt_0 : decode cL_termAt 0 = .ok (.aload_n 0, 1) := by decide +kernel
theorem dL_termAt_1 : decode cL_termAt 1 = .ok (.iload_n 1, 1) := by decide +kernel
theorem dL_termAt_2 : decode cL_termAt 2 = .ok (.iload_n 2, 1) := by decide +kernel
theorem dL_termAt_3 : decode cL_termAt 3 = .ok (.invokevirtual 36, 3) := by decide +kernel
theorem dL_termAt_6 : decode cL_termAt 6 = .ok (.ireturn, 1) := by decide +kernel
theorem dL_termAt_7 : decode cL_termAt 7 = .ok (.astore_n 3, 1) := by decide +kernel
theorem dL_termAt_8 : decode cL_termAt 8 = .ok (.bipush (-102), 2) := by decide +kernel
theorem dL_termAt_10 : decode cL_termAt 10 = .ok (.ireturn, 1) := by decide +kernel
theorem dL_termAt_11 : decode cL_termAt 11 = .ok (.astore_n 3, 1) := by decide +kernel
theorem dL_termAt_12 : decode cL_termAt 12 = .ok (.bipush (-104), 2) := by decide +kernel
theorem dL_termAt_14 : decode cL_termAt 14 = .ok (.ireturn, 1) := by decide +kernel
theorem dL_solutionsUpTo_0 : decode cL_solutionsUpTo 0 = .ok (.aload_n 0, 1) := by decide +kernel
theorem dL_solutionsUpTo_1 : decode cL_solutionsUpTo 1 = .ok (.lload_n 1, 1) := by decide +kernel
theorem dL_solutionsUpTo_2 : decode cL_solutionsUpTo 2 = .ok (.invokevirtual 46, 3) := by decide +kernel
theorem dL_solutionsUpTo_5 : decode cL_solutionsUpTo 5 = .ok (.ireturn, 1) := by decide +kernel
theorem dL_solutionsUpTo_6 : decode cL_solutionsUpTo 6 = .ok (.astore_n 3, 1) := by decide +kernel
theorem dL_solutionsUpTo_7 : decode cL_solutionsUpTo 7 = .ok (.bipush (-102), 2) := by decide +kernel
theorem dL_solutionsUpTo_9 : decode cL_solutionsUpTo 9 = .ok (.ireturn, 1) := by decide +kernel
theorem dL_xAt_0 : decode cL_xAt 0 = .ok (.aload_n 0, 1) := by decide +kernel
theorem dL_xAt_1 : decode cL_xAt 1 = .ok (.iload_n 1, 1) := by decide +kernel
theorem dL_xAt_2 : decode cL_xAt 2 = .ok (.invokevirtual 50, 3) := by decide +kernel
theorem dL_xAt_5 : decode cL_xAt 5 = .ok (.lreturn, 1) := by decide +kernel
theorem dL_xAt_6 : decode cL_xAt 6 = .ok (.astore_n 2, 1) := by decide +kernel
theorem dL_xAt_7 : decode cL_xAt 7 = .ok (.ldc2_w 26, 3) := by decide +kernel
theorem dL_xAt_10 : decode cL_xAt 10 = .ok (.lreturn, 1) := by decide +kernel
theorem dL_xAt_11 : decode cL_xAt 11 = .ok (.astore_n 2, 1) := by decide +kernel
theorem dL_xAt_12 : decode cL_xAt 12 = .ok (.ldc2_w 53, 3) := by decide +kernel
theorem dL_xAt_15 : decode cL_xAt 15 = .ok (.lreturn, 1) := by decide +kernel
theorem dL_xAtBySet_0 : decode cL_xAtBySet 0 = .ok (.aload_n 0, 1) := by decide +kernel
theorem dL_xAtBySet_1 : decode cL_xAtBySet 1 = .ok (.iload_n 1, 1) := by decide +kernel
theorem dL_xAtBySet_2 : decode cL_xAtBySet 2 = .ok (.invokevirtual 55, 3) := by decide +kernel
theorem dL_xAtBySet_5 : decode cL_xAtBySet 5 = .ok (.lreturn, 1) := by decide +kernel
theorem dL_xAtBySet_6 : decode cL_xAtBySet 6 = .ok (.astore_n 2, 1) := by decide +kernel
theorem dL_xAtBySet_7 : decode cL_xAtBySet 7 = .ok (.ldc2_w 26, 3) := by decide +kernel
theorem dL_xAtBySet_10 : decode cL_xAtBySet 10 = .ok (.lreturn, 1) := by decide +kernel
theorem dL_xAtBySet_11 : decode cL_xAtBySet 11 = .ok (.astore_n 2, 1) := by decide +kernel
theorem dL_xAtBySet_12 : decode cL_xAtBySet 12 = .ok (.ldc2_w 53, 3) := by decide +kernel
theorem dL_xAtBySet_15 : decode cL_xAtBySet 15 = .ok (.lreturn, 1) := by decide +kernel
theorem dL_stoneAt_0 : decode cL_stoneAt 0 = .ok (.aload_n 0, 1) := by decide +kernel
theorem dL_stoneAt_1 : decode cL_stoneAt 1 = .ok (.iload_n 1, 1) := by decide +kernel
theorem dL_stoneAt_2 : decode cL_stoneAt 2 = .ok (.invokevirtual 58, 3) := by decide +kernel
theorem dL_stoneAt_5 : decode cL_stoneAt 5 = .ok (.ireturn, 1) := by decide +kernel
theorem dL_stoneAt_6 : decode cL_stoneAt 6 = .ok (.astore_n 2, 1) := by decide +kernel
theorem dL_stoneAt_7 : decode cL_stoneAt 7 = .ok (.bipush (-102), 2) := by decide +kernel
theorem dL_stoneAt_9 : decode cL_stoneAt 9 = .ok (.ireturn, 1) := by decide +kernel
theorem dL_stoneAt_10 : decode cL_stoneAt 10 = .ok (.astore_n 2, 1) := by decide +kernel
theorem dL_stoneAt_11 : decode cL_stoneAt 11 = .ok (.bipush (-104), 2) := by decide +kernel
theorem dL_stoneAt_13 : decode cL_stoneAt 13 = .ok (.ireturn, 1) := by decide +kernel
theorem dL_goBack_0 : decode cL_goBack 0 = .ok (.aload_n 0, 1) := by decide +kernel
theorem dL_goBack_1 : decode cL_goBack 1 = .ok (.invokevirtual 61, 3) := by decide +kernel
theorem dL_goBack_4 : decode cL_goBack 4 = .ok (.ireturn, 1) := by decide +kernel
theorem dL_goBack_5 : decode cL_goBack 5 = .ok (.astore_n 1, 1) := by decide +kernel
theorem dL_goBack_6 : decode cL_goBack 6 = .ok (.bipush (-103), 2) := by decide +kernel
theorem dL_goBack_8 : decode cL_goBack 8 = .ok (.ireturn, 1) := by decide +kernel
theorem dL_undo_0 : decode cL_undo 0 = .ok (.aload_n 0, 1) := by decide +kernel
theorem dL_undo_1 : decode cL_undo 1 = .ok (.invokevirtual 65, 3) := by decide +kernel
theorem dL_undo_4 : decode cL_undo 4 = .ok (.ireturn, 1) := by decide +kernel
theorem dL_undo_5 : decode cL_undo 5 = .ok (.astore_n 1, 1) := by decide +kernel
theorem dL_undo_6 : decode cL_undo 6 = .ok (.bipush (-103), 2) := by decide +kernel
theorem dL_undo_8 : decode cL_undo 8 = .ok (.ireturn, 1) := by decide +kernel
theorem dL_faultPosition_0 : decode cL_faultPosition 0 = .ok (.aload_n 0, 1) := by decide +kernel
theorem dL_faultPosition_1 : decode cL_faultPosition 1 = .ok (.invokevirtual 71, 3) := by decide +kernel
theorem dL_faultPosition_4 : decode cL_faultPosition 4 = .ok (.ireturn, 1) := by decide +kernel
theorem dL_faultPosition_5 : decode cL_faultPosition 5 = .ok (.astore_n 1, 1) := by decide +kernel
theorem dL_faultPosition_6 : decode cL_faultPosition 6 = .ok (.bipush (-104), 2) := by decide +kernel
theorem dL_faultPosition_8 : decode cL_faultPosition 8 = .ok (.ireturn, 1) := by decide +kernel
theorem dL_faultReason_0 : decode cL_faultReason 0 = .ok (.aload_n 0, 1) := by decide +kernel
theorem dL_faultReason_1 : decode cL_faultReason 1 = .ok (.invokevirtual 74, 3) := by decide +kernel
theorem dL_faultReason_4 : decode cL_faultReason 4 = .ok (.ireturn, 1) := by decide +kernel
theorem dL_faultReason_5 : decode cL_faultReason 5 = .ok (.astore_n 1, 1) := by decide +kernel
theorem dL_faultReason_6 : decode cL_faultReason 6 = .ok (.bipush (-104), 2) := by decide +kernel
theorem dL_faultReason_8 : decode cL_faultReason 8 = .ok (.ireturn, 1) := by decide +kernel
theorem dL_faultCause_0 : decode cL_faultCause 0 = .ok (.aload_n 0, 1) := by decide +kernel
theorem dL_faultCause_1 : decode cL_faultCause 1 = .ok (.invokevirtual 77, 3) := by decide +kernel
theorem dL_faultCause_4 : decode cL_faultCause 4 = .ok (.ireturn, 1) := by decide +kernel
theorem dL_faultCause_5 : decode cL_faultCause 5 = .ok (.astore_n 1, 1) := by decide +kernel
theorem dL_faultCause_6 : decode cL_faultCause 6 = .ok (.bipush (-104), 2) := by decide +kernel
theorem dL_faultCause_8 : decode cL_faultCause 8 = .ok (.ireturn, 1) := by decide +kernel
theorem dL_play_0 : decode cL_play 0 = .ok (.aload_n 0, 1) := by decide +kernel
theorem dL_play_1 : decode cL_play 1 = .ok (.invokevirtual 80, 3) := by decide +kernel
theorem dL_play_4 : decode cL_play 4 = .ok (.ireturn, 1) := by decide +kernel
theorem dL_play_5 : decode cL_play 5 = .ok (.astore_n 1, 1) := by decide +kernel
theorem dL_play_6 : decode cL_play 6 = .ok (.bipush (-103), 2) := by decide +kernel
theorem dL_play_8 : decode cL_play 8 = .ok (.ireturn, 1) := by decide +kernel
theorem dL_periodOf_0 : decode cL_periodOf 0 = .ok (.aload_n 0, 1) := by decide +kernel
theorem dL_periodOf_1 : decode cL_periodOf 1 = .ok (.iload_n 1, 1) := by decide +kernel
theorem dL_periodOf_2 : decode cL_periodOf 2 = .ok (.invokevirtual 83, 3) := by decide +kernel
theorem dL_periodOf_5 : decode cL_periodOf 5 = .ok (.ireturn, 1) := by decide +kernel
theorem dL_periodOf_6 : decode cL_periodOf 6 = .ok (.astore_n 2, 1) := by decide +kernel
theorem dL_periodOf_7 : decode cL_periodOf 7 = .ok (.bipush (-102), 2) := by decide +kernel
theorem dL_periodOf_9 : decode cL_periodOf 9 = .ok (.ireturn, 1) := by decide +kernel
theorem dL_periodOf_10 : decode cL_periodOf 10 = .ok (.astore_n 2, 1) := by decide +kernel
theorem dL_periodOf_11 : decode cL_periodOf 11 = .ok (.bipush (-104), 2) := by decide +kernel
theorem dL_periodOf_13 : decode cL_periodOf 13 = .ok (.ireturn, 1) := by decide +kernel
theorem dL_unitX_0 : decode cL_unitX 0 = .ok (.aload_n 0, 1) := by decide +kernel
theorem dL_unitX_1 : decode cL_unitX 1 = .ok (.iload_n 1, 1) := by decide +kernel
theorem dL_unitX_2 : decode cL_unitX 2 = .ok (.invokevirtual 86, 3) := by decide +kernel
theorem dL_unitX_5 : decode cL_unitX 5 = .ok (.ireturn, 1) := by decide +kernel
theorem dL_unitX_6 : decode cL_unitX 6 = .ok (.astore_n 2, 1) := by decide +kernel
theorem dL_unitX_7 : decode cL_unitX 7 = .ok (.bipush (-102), 2) := by decide +kernel
theorem dL_unitX_9 : decode cL_unitX 9 = .ok (.ireturn, 1) := by decide +kernel
theorem dL_unitX_10 : decode cL_unitX 10 = .ok (.astore_n 2, 1) := by decide +kernel
theorem dL_unitX_11 : decode cL_unitX 11 = .ok (.bipush (-104), 2) := by decide +kernel
theorem dL_unitX_13 : decode cL_unitX 13 = .ok (.ireturn, 1) := by decide +kernel
theorem dL_unitY_0 : decode cL_unitY 0 = .ok (.aload_n 0, 1) := by decide +kernel
theorem dL_unitY_1 : decode cL_unitY 1 = .ok (.iload_n 1, 1) := by decide +kernel
theorem dL_unitY_2 : decode cL_unitY 2 = .ok (.invokevirtual 89, 3) := by decide +kernel
theorem dL_unitY_5 : decode cL_unitY 5 = .ok (.ireturn, 1) := by decide +kernel
theorem dL_unitY_6 : decode cL_unitY 6 = .ok (.astore_n 2, 1) := by decide +kernel
theorem dL_unitY_7 : decode cL_unitY 7 = .ok (.bipush (-102), 2) := by decide +kernel
theorem dL_unitY_9 : decode cL_unitY 9 = .ok (.ireturn, 1) := by decide +kernel
theorem dL_unitY_10 : decode cL_unitY 10 = .ok (.astore_n 2, 1) := by decide +kernel
theorem dL_unitY_11 : decode cL_unitY 11 = .ok (.bipush (-104), 2) := by decide +kernel
theorem dL_unitY_13 : decode cL_unitY 13 = .ok (.ireturn, 1) := by decide +kernel
theorem dL_leastY_0 : decode cL_leastY 0 = .ok (.aload_n 0, 1) := by decide +kernel
theorem dL_leastY_1 : decode cL_leastY 1 = .ok (.iload_n 1, 1) := by decide +kernel
theorem dL_leastY_2 : decode cL_leastY 2 = .ok (.invokevirtual 92, 3) := by decide +kernel
theorem dL_leastY_5 : decode cL_leastY 5 = .ok (.ireturn, 1) := by decide +kernel
theorem dL_leastY_6 : decode cL_leastY 6 = .ok (.astore_n 2, 1) := by decide +kernel
theorem dL_leastY_7 : decode cL_leastY 7 = .ok (.bipush (-102), 2) := by decide +kernel
theorem dL_leastY_9 : decode cL_leastY 9 = .ok (.ireturn, 1) := by decide +kernel
theorem dL_leastY_10 : decode cL_leastY 10 = .ok (.astore_n 2, 1) := by decide +kernel
theorem dL_leastY_11 : decode cL_leastY 11 = .ok (.bipush (-104), 2) := by decide +kernel
theorem dL_leastY_13 : decode cL_leastY 13 = .ok (.ireturn, 1) := by decide +kernel
theorem dL_leastYBySearch_0 : decode cL_leastYBySearch 0 = .ok (.aload_n 0, 1) := by decide +kernel
theorem dL_leastYBySearch_1 : decode cL_leastYBySearch 1 = .ok (.iload_n 1, 1) := by decide +kernel
theorem dL_leastYBySearch_2 : decode cL_leastYBySearch 2 = .ok (.invokevirtual 95, 3) := by decide +kernel
theorem dL_leastYBySearch_5 : decode cL_leastYBySearch 5 = .ok (.ireturn, 1) := by decide +kernel
theorem dL_leastYBySearch_6 : decode cL_leastYBySearch 6 = .ok (.astore_n 2, 1) := by decide +kernel
theorem dL_leastYBySearch_7 : decode cL_leastYBySearch 7 = .ok (.bipush (-102), 2) := by decide +kernel
theorem dL_leastYBySearch_9 : decode cL_leastYBySearch 9 = .ok (.ireturn, 1) := by decide +kernel
theorem dL_leastYBySearch_10 : decode cL_leastYBySearch 10 = .ok (.astore_n 2, 1) := by decide +kernel
theorem dL_leastYBySearch_11 : decode cL_leastYBySearch 11 = .ok (.bipush (-104), 2) := by decide +kernel
theorem dL_leastYBySearch_13 : decode cL_leastYBySearch 13 = .ok (.ireturn, 1) := by decide +kernel
theorem dL_stoneFrom_0 : decode cL_stoneFrom 0 = .ok (.aload_n 0, 1) := by decide +kernel
theorem dL_stoneFrom_1 : decode cL_stoneFrom 1 = .ok (.iload_n 1, 1) := by decide +kernel
theorem dL_stoneFrom_2 : decode cL_stoneFrom 2 = .ok (.invokevirtual 98, 3) := by decide +kernel
theorem dL_stoneFrom_5 : decode cL_stoneFrom 5 = .ok (.ireturn, 1) := by decide +kernel
theorem dL_stoneFrom_6 : decode cL_stoneFrom 6 = .ok (.astore_n 2, 1) := by decide +kernel
theorem dL_stoneFrom_7 : decode cL_stoneFrom 7 = .ok (.bipush (-102), 2) := by decide +kernel
theorem dL_stoneFrom_9 : decode cL_stoneFrom 9 = .ok (.ireturn, 1) := by decide +kernel
theorem dL_stoneFrom_10 : decode cL_stoneFrom 10 = .ok (.astore_n 2, 1) := by decide +kernel
theorem dL_stoneFrom_11 : decode cL_stoneFrom 11 = .ok (.bipush (-104), 2) := by decide +kernel
theorem dL_stoneFrom_13 : decode cL_stoneFrom 13 = .ok (.ireturn, 1) := by decide +kernel
theorem dL_powerOf_0 : decode cL_powerOf 0 = .ok (.aload_n 0, 1) := by decide +kernel
theorem dL_powerOf_1 : decode cL_powerOf 1 = .ok (.iload_n 1, 1) := by decide +kernel
theorem dL_powerOf_2 : decode cL_powerOf 2 = .ok (.invokevirtual 101, 3) := by decide +kernel
theorem dL_powerOf_5 : decode cL_powerOf 5 = .ok (.ireturn, 1) := by decide +kernel
theorem dL_powerOf_6 : decode cL_powerOf 6 = .ok (.astore_n 2, 1) := by decide +kernel
theorem dL_powerOf_7 : decode cL_powerOf 7 = .ok (.bipush (-102), 2) := by decide +kernel
theorem dL_powerOf_9 : decode cL_powerOf 9 = .ok (.ireturn, 1) := by decide +kernel
theorem dL_powerOf_10 : decode cL_powerOf 10 = .ok (.astore_n 2, 1) := by decide +kernel
theorem dL_powerOf_11 : decode cL_powerOf 11 = .ok (.bipush (-104), 2) := by decide +kernel
theorem dL_powerOf_13 : decode cL_powerOf 13 = .ok (.ireturn, 1) := by decide +kernel
theorem dL_xOf_0 : decode cL_xOf 0 = .ok (.aload_n 0, 1) := by decide +kernel
theorem dL_xOf_1 : decode cL_xOf 1 = .ok (.iload_n 1, 1) := by decide +kernel
theorem dL_xOf_2 : decode cL_xOf 2 = .ok (.invokevirtual 110, 3) := by decide +kernel
theorem dL_xOf_5 : decode cL_xOf 5 = .ok (.lreturn, 1) := by decide +kernel
theorem dL_xOf_6 : decode cL_xOf 6 = .ok (.astore_n 2, 1) := by decide +kernel
theorem dL_xOf_7 : decode cL_xOf 7 = .ok (.ldc2_w 26, 3) := by decide +kernel
theorem dL_xOf_10 : decode cL_xOf 10 = .ok (.lreturn, 1) := by decide +kernel
theorem dL_xOf_11 : decode cL_xOf 11 = .ok (.astore_n 2, 1) := by decide +kernel
theorem dL_xOf_12 : decode cL_xOf 12 = .ok (.ldc2_w 53, 3) := by decide +kernel
theorem dL_xOf_15 : decode cL_xOf 15 = .ok (.lreturn, 1) := by decide +kernel
theorem dL_nearRoot_0 : decode cL_nearRoot 0 = .ok (.aload_n 0, 1) := by decide +kernel
theorem dL_nearRoot_1 : decode cL_nearRoot 1 = .ok (.iload_n 1, 1) := by decide +kernel
theorem dL_nearRoot_2 : decode cL_nearRoot 2 = .ok (.invokevirtual 116, 3) := by decide +kernel
theorem dL_nearRoot_5 : decode cL_nearRoot 5 = .ok (.freturn, 1) := by decide +kernel
theorem dL_nearRoot_6 : decode cL_nearRoot 6 = .ok (.astore_n 2, 1) := by decide +kernel
theorem dL_nearRoot_7 : decode cL_nearRoot 7 = .ok (.ldc 120, 2) := by decide +kernel
theorem dL_nearRoot_9 : decode cL_nearRoot 9 = .ok (.freturn, 1) := by decide +kernel
theorem dL_nearRoot_10 : decode cL_nearRoot 10 = .ok (.astore_n 2, 1) := by decide +kernel
theorem dL_nearRoot_11 : decode cL_nearRoot 11 = .ok (.ldc 121, 2) := by decide +kernel
theorem dL_nearRoot_13 : decode cL_nearRoot 13 = .ok (.freturn, 1) := by decide +kernel
theorem dL_look_0 : decode cL_look 0 = .ok (.ldc2_w 122, 3) := by decide +kernel
theorem dL_look_3 : decode cL_look 3 = .ok (.aload_n 0, 1) := by decide +kernel
theorem dL_look_4 : decode cL_look 4 = .ok (.invokevirtual 124, 3) := by decide +kernel
theorem dL_look_7 : decode cL_look 7 = .ok (.i2l, 1) := by decide +kernel
theorem dL_look_8 : decode cL_look 8 = .ok (.ladd, 1) := by decide +kernel
theorem dL_look_9 : decode cL_look 9 = .ok (.lstore_n 1, 1) := by decide +kernel
theorem dL_look_10 : decode cL_look 10 = .ok (.iconst 2, 1) := by decide +kernel
theorem dL_look_11 : decode cL_look 11 = .ok (.istore_n 3, 1) := by decide +kernel
theorem dL_look_12 : decode cL_look 12 = .ok (.iload_n 3, 1) := by decide +kernel
theorem dL_look_13 : decode cL_look 13 = .ok (.bipush 61, 2) := by decide +kernel
theorem dL_look_15 : decode cL_look 15 = .ok (.if_icmp .ge 22, 3) := by decide +kernel
theorem dL_look_18 : decode cL_look 18 = .ok (.ldc2_w 127, 3) := by decide +kernel
theorem dL_look_21 : decode cL_look 21 = .ok (.lload_n 1, 1) := by decide +kernel
theorem dL_look_22 : decode cL_look 22 = .ok (.lmul, 1) := by decide +kernel
theorem dL_look_23 : decode cL_look 23 = .ok (.aload_n 0, 1) := by decide +kernel
theorem dL_look_24 : decode cL_look 24 = .ok (.iload_n 3, 1) := by decide +kernel
theorem dL_look_25 : decode cL_look 25 = .ok (.invokestatic 129, 3) := by decide +kernel
theorem dL_look_28 : decode cL_look 28 = .ok (.i2l, 1) := by decide +kernel
theorem dL_look_29 : decode cL_look 29 = .ok (.ladd, 1) := by decide +kernel
theorem dL_look_30 : decode cL_look 30 = .ok (.lstore_n 1, 1) := by decide +kernel
theorem dL_look_31 : decode cL_look 31 = .ok (.iinc 3 1, 3) := by decide +kernel
theorem dL_look_34 : decode cL_look 34 = .ok (.goto (-22), 3) := by decide +kernel
theorem dL_look_37 : decode cL_look 37 = .ok (.lload_n 1, 1) := by decide +kernel
theorem dL_look_38 : decode cL_look 38 = .ok (.lreturn, 1) := by decide +kernel
theorem dL_square_0 : decode cL_square 0 = .ok (.iload_n 0, 1) := by decide +kernel
theorem dL_square_1 : decode cL_square 1 = .ok (.iconst 4, 1) := by decide +kernel
theorem dL_square_2 : decode cL_square 2 = .ok (.if_icmp .eq 33, 3) := by decide +kernel
theorem dL_square_5 : decode cL_square 5 = .ok (.iload_n 0, 1) := by decide +kernel
theorem dL_square_6 : decode cL_square 6 = .ok (.bipush 9, 2) := by decide +kernel
theorem dL_square_8 : decode cL_square 8 = .ok (.if_icmp .eq 27, 3) := by decide +kernel
theorem dL_square_11 : decode cL_square 11 = .ok (.iload_n 0, 1) := by decide +kernel
theorem dL_square_12 : decode cL_square 12 = .ok (.bipush 16, 2) := by decide +kernel
theorem dL_square_14 : decode cL_square 14 = .ok (.if_icmp .eq 21, 3) := by decide +kernel
theorem dL_square_17 : decode cL_square 17 = .ok (.iload_n 0, 1) := by decide +kernel
theorem dL_square_18 : decode cL_square 18 = .ok (.bipush 25, 2) := by decide +kernel
theorem dL_square_20 : decode cL_square 20 = .ok (.if_icmp .eq 15, 3) := by decide +kernel
theorem dL_square_23 : decode cL_square 23 = .ok (.iload_n 0, 1) := by decide +kernel
theorem dL_square_24 : decode cL_square 24 = .ok (.bipush 36, 2) := by decide +kernel
theorem dL_square_26 : decode cL_square 26 = .ok (.if_icmp .eq 9, 3) := by decide +kernel
theorem dL_square_29 : decode cL_square 29 = .ok (.iload_n 0, 1) := by decide +kernel
theorem dL_square_30 : decode cL_square 30 = .ok (.bipush 49, 2) := by decide +kernel
theorem dL_square_32 : decode cL_square 32 = .ok (.if_icmp .ne 7, 3) := by decide +kernel
theorem dL_square_35 : decode cL_square 35 = .ok (.iconst 1, 1) := by decide +kernel
theorem dL_square_36 : decode cL_square 36 = .ok (.goto 4, 3) := by decide +kernel
theorem dL_square_39 : decode cL_square 39 = .ok (.iconst 0, 1) := by decide +kernel
theorem dL_square_40 : decode cL_square 40 = .ok (.ireturn, 1) := by decide +kernel
theorem dL_next_0 : decode cL_next 0 = .ok (.aload_n 0, 1) := by decide +kernel
theorem dL_next_1 : decode cL_next 1 = .ok (.iload_n 1, 1) := by decide +kernel
theorem dL_next_2 : decode cL_next 2 = .ok (.invokevirtual 86, 3) := by decide +kernel
theorem dL_next_5 : decode cL_next 5 = .ok (.i2l, 1) := by decide +kernel
theorem dL_next_6 : decode cL_next 6 = .ok (.lstore 6, 2) := by decide +kernel
theorem dL_next_8 : decode cL_next 8 = .ok (.aload_n 0, 1) := by decide +kernel
theorem dL_next_9 : decode cL_next 9 = .ok (.iload_n 1, 1) := by decide +kernel
theorem dL_next_10 : decode cL_next 10 = .ok (.invokevirtual 89, 3) := by decide +kernel
theorem dL_next_13 : decode cL_next 13 = .ok (.i2l, 1) := by decide +kernel
theorem dL_next_14 : decode cL_next 14 = .ok (.lstore 8, 2) := by decide +kernel
theorem dL_next_16 : decode cL_next 16 = .ok (.lload_n 2, 1) := by decide +kernel
theorem dL_next_17 : decode cL_next 17 = .ok (.ldc2_w 134, 3) := by decide +kernel
theorem dL_next_20 : decode cL_next 20 = .ok (.lload 6, 2) := by decide +kernel
theorem dL_next_22 : decode cL_next 22 = .ok (.ldiv, 1) := by decide +kernel
theorem dL_next_23 : decode cL_next 23 = .ok (.lcmp, 1) := by decide +kernel
theorem dL_next_24 : decode cL_next 24 = .ok (.ifCond .gt 23, 3) := by decide +kernel
theorem dL_next_27 : decode cL_next 27 = .ok (.lload_n 2, 1) := by decide +kernel
theorem dL_next_28 : decode cL_next 28 = .ok (.lload 6, 2) := by decide +kernel
theorem dL_next_30 : decode cL_next 30 = .ok (.lmul, 1) := by decide +kernel
theorem dL_next_31 : decode cL_next 31 = .ok (.iload_n 1, 1) := by decide +kernel
theorem dL_next_32 : decode cL_next 32 = .ok (.i2l, 1) := by decide +kernel
theorem dL_next_33 : decode cL_next 33 = .ok (.lload 4, 2) := by decide +kernel
theorem dL_next_35 : decode cL_next 35 = .ok (.lmul, 1) := by decide +kernel
theorem dL_next_36 : decode cL_next 36 = .ok (.lload 8, 2) := by decide +kernel
theorem dL_next_38 : decode cL_next 38 = .ok (.lmul, 1) := by decide +kernel
theorem dL_next_39 : decode cL_next 39 = .ok (.ladd, 1) := by decide +kernel
theorem dL_next_40 : decode cL_next 40 = .ok (.ldc2_w 134, 3) := by decide +kernel
theorem dL_next_43 : decode cL_next 43 = .ok (.lcmp, 1) := by decide +kernel
theorem dL_next_44 : decode cL_next 44 = .ok (.ifCond .le 9, 3) := by decide +kernel
theorem dL_next_47 : decode cL_next 47 = .ok (.ldc2_w 136, 3) := by decide +kernel
theorem dL_next_50 : decode cL_next 50 = .ok (.goto 16, 3) := by decide +kernel
theorem dL_next_53 : decode cL_next 53 = .ok (.lload_n 2, 1) := by decide +kernel
theorem dL_next_54 : decode cL_next 54 = .ok (.lload 6, 2) := by decide +kernel
theorem dL_next_56 : decode cL_next 56 = .ok (.lmul, 1) := by decide +kernel
theorem dL_next_57 : decode cL_next 57 = .ok (.iload_n 1, 1) := by decide +kernel
theorem dL_next_58 : decode cL_next 58 = .ok (.i2l, 1) := by decide +kernel
theorem dL_next_59 : decode cL_next 59 = .ok (.lload 4, 2) := by decide +kernel
theorem dL_next_61 : decode cL_next 61 = .ok (.lmul, 1) := by decide +kernel
theorem dL_next_62 : decode cL_next 62 = .ok (.lload 8, 2) := by decide +kernel
theorem dL_next_64 : decode cL_next 64 = .ok (.lmul, 1) := by decide +kernel
theorem dL_next_65 : decode cL_next 65 = .ok (.ladd, 1) := by decide +kernel
theorem dL_next_66 : decode cL_next 66 = .ok (.lreturn, 1) := by decide +kernel
theorem dL_root_0 : decode cL_root 0 = .ok (.iload_n 1, 1) := by decide +kernel
theorem dL_root_1 : decode cL_root 1 = .ok (.invokestatic 138, 3) := by decide +kernel
theorem dL_root_4 : decode cL_root 4 = .ok (.ifCond .eq 79, 3) := by decide +kernel
theorem dL_root_7 : decode cL_root 7 = .ok (.aload_n 0, 1) := by decide +kernel
theorem dL_root_8 : decode cL_root 8 = .ok (.iload_n 1, 1) := by decide +kernel
theorem dL_root_9 : decode cL_root 9 = .ok (.invokevirtual 33, 3) := by decide +kernel
theorem dL_root_12 : decode cL_root 12 = .ok (.iconst 1, 1) := by decide +kernel
theorem dL_root_13 : decode cL_root 13 = .ok (.if_icmp .ne 68, 3) := by decide +kernel
theorem dL_root_16 : decode cL_root 16 = .ok (.aload_n 0, 1) := by decide +kernel
theorem dL_root_17 : decode cL_root 17 = .ok (.iload_n 1, 1) := by decide +kernel
theorem dL_root_18 : decode cL_root 18 = .ok (.invokestatic 141, 3) := by decide +kernel
theorem dL_root_21 : decode cL_root 21 = .ok (.bipush (-104), 2) := by decide +kernel
theorem dL_root_23 : decode cL_root 23 = .ok (.if_icmp .ne 58, 3) := by decide +kernel
theorem dL_root_26 : decode cL_root 26 = .ok (.aload_n 0, 1) := by decide +kernel
theorem dL_root_27 : decode cL_root 27 = .ok (.iload_n 1, 1) := by decide +kernel
theorem dL_root_28 : decode cL_root 28 = .ok (.iconst 5, 1) := by decide +kernel
theorem dL_root_29 : decode cL_root 29 = .ok (.invokestatic 143, 3) := by decide +kernel
theorem dL_root_32 : decode cL_root 32 = .ok (.bipush (-104), 2) := by decide +kernel
theorem dL_root_34 : decode cL_root 34 = .ok (.if_icmp .ne 47, 3) := by decide +kernel
theorem dL_root_37 : decode cL_root 37 = .ok (.aload_n 0, 1) := by decide +kernel
theorem dL_root_38 : decode cL_root 38 = .ok (.iload_n 1, 1) := by decide +kernel
theorem dL_root_39 : decode cL_root 39 = .ok (.invokestatic 146, 3) := by decide +kernel
theorem dL_root_42 : decode cL_root 42 = .ok (.bipush (-104), 2) := by decide +kernel
theorem dL_root_44 : decode cL_root 44 = .ok (.if_icmp .ne 37, 3) := by decide +kernel
theorem dL_root_47 : decode cL_root 47 = .ok (.aload_n 0, 1) := by decide +kernel
theorem dL_root_48 : decode cL_root 48 = .ok (.iload_n 1, 1) := by decide +kernel
theorem dL_root_49 : decode cL_root 49 = .ok (.invokestatic 148, 3) := by decide +kernel
theorem dL_root_52 : decode cL_root 52 = .ok (.bipush (-104), 2) := by decide +kernel
theorem dL_root_54 : decode cL_root 54 = .ok (.if_icmp .ne 27, 3) := by decide +kernel
theorem dL_root_57 : decode cL_root 57 = .ok (.aload_n 0, 1) := by decide +kernel
theorem dL_root_58 : decode cL_root 58 = .ok (.iload_n 1, 1) := by decide +kernel
theorem dL_root_59 : decode cL_root 59 = .ok (.invokestatic 150, 3) := by decide +kernel
theorem dL_root_62 : decode cL_root 62 = .ok (.bipush (-104), 2) := by decide +kernel
theorem dL_root_64 : decode cL_root 64 = .ok (.if_icmp .ne 17, 3) := by decide +kernel
theorem dL_root_67 : decode cL_root 67 = .ok (.aload_n 0, 1) := by decide +kernel
theorem dL_root_68 : decode cL_root 68 = .ok (.iload_n 1, 1) := by decide +kernel
theorem dL_root_69 : decode cL_root 69 = .ok (.invokestatic 152, 3) := by decide +kernel
theorem dL_root_72 : decode cL_root 72 = .ok (.bipush (-104), 2) := by decide +kernel
theorem dL_root_74 : decode cL_root 74 = .ok (.if_icmp .ne 7, 3) := by decide +kernel
theorem dL_root_77 : decode cL_root 77 = .ok (.iconst 1, 1) := by decide +kernel
theorem dL_root_78 : decode cL_root 78 = .ok (.goto 4, 3) := by decide +kernel
theorem dL_root_81 : decode cL_root 81 = .ok (.iconst 0, 1) := by decide +kernel
theorem dL_root_82 : decode cL_root 82 = .ok (.ireturn, 1) := by decide +kernel
theorem dL_root_83 : decode cL_root 83 = .ok (.aload_n 0, 1) := by decide +kernel
theorem dL_root_84 : decode cL_root 84 = .ok (.iload_n 1, 1) := by decide +kernel
theorem dL_root_85 : decode cL_root 85 = .ok (.iconst 0, 1) := by decide +kernel
theorem dL_root_86 : decode cL_root 86 = .ok (.invokevirtual 36, 3) := by decide +kernel
theorem dL_root_89 : decode cL_root 89 = .ok (.istore_n 3, 1) := by decide +kernel
theorem dL_root_90 : decode cL_root 90 = .ok (.aload_n 0, 1) := by decide +kernel
theorem dL_root_91 : decode cL_root 91 = .ok (.iload_n 1, 1) := by decide +kernel
theorem dL_root_92 : decode cL_root 92 = .ok (.invokevirtual 83, 3) := by decide +kernel
theorem dL_root_95 : decode cL_root 95 = .ok (.istore 4, 2) := by decide +kernel
theorem dL_root_97 : decode cL_root 97 = .ok (.aload_n 0, 1) := by decide +kernel
theorem dL_root_98 : decode cL_root 98 = .ok (.iload_n 1, 1) := by decide +kernel
theorem dL_root_99 : decode cL_root 99 = .ok (.invokevirtual 86, 3) := by decide +kernel
theorem dL_root_102 : decode cL_root 102 = .ok (.istore 5, 2) := by decide +kernel
theorem dL_root_104 : decode cL_root 104 = .ok (.aload_n 0, 1) := by decide +kernel
theorem dL_root_105 : decode cL_root 105 = .ok (.iload_n 1, 1) := by decide +kernel
theorem dL_root_106 : decode cL_root 106 = .ok (.invokevirtual 89, 3) := by decide +kernel
theorem dL_root_109 : decode cL_root 109 = .ok (.istore 6, 2) := by decide +kernel
theorem dL_root_111 : decode cL_root 111 = .ok (.aload_n 0, 1) := by decide +kernel
theorem dL_root_112 : decode cL_root 112 = .ok (.iload_n 1, 1) := by decide +kernel
theorem dL_root_113 : decode cL_root 113 = .ok (.invokevirtual 92, 3) := by decide +kernel
theorem dL_root_116 : decode cL_root 116 = .ok (.i2l, 1) := by decide +kernel
theorem dL_root_117 : decode cL_root 117 = .ok (.lstore 7, 2) := by decide +kernel
theorem dL_root_119 : decode cL_root 119 = .ok (.lconst 1, 1) := by decide +kernel
theorem dL_root_120 : decode cL_root 120 = .ok (.iload_n 1, 1) := by decide +kernel
theorem dL_root_121 : decode cL_root 121 = .ok (.i2l, 1) := by decide +kernel
theorem dL_root_122 : decode cL_root 122 = .ok (.lload 7, 2) := by decide +kernel
theorem dL_root_124 : decode cL_root 124 = .ok (.lmul, 1) := by decide +kernel
theorem dL_root_125 : decode cL_root 125 = .ok (.lload 7, 2) := by decide +kernel
theorem dL_root_127 : decode cL_root 127 = .ok (.lmul, 1) := by decide +kernel
theorem dL_root_128 : decode cL_root 128 = .ok (.ladd, 1) := by decide +kernel
theorem dL_root_129 : decode cL_root 129 = .ok (.lstore 9, 2) := by decide +kernel
theorem dL_root_131 : decode cL_root 131 = .ok (.iload 5, 2) := by decide +kernel
theorem dL_root_133 : decode cL_root 133 = .ok (.i2l, 1) := by decide +kernel
theorem dL_root_134 : decode cL_root 134 = .ok (.lstore 11, 2) := by decide +kernel
theorem dL_root_136 : decode cL_root 136 = .ok (.iload 4, 2) := by decide +kernel
theorem dL_root_138 : decode cL_root 138 = .ok (.iconst 2, 1) := by decide +kernel
theorem dL_root_139 : decode cL_root 139 = .ok (.irem, 1) := by decide +kernel
theorem dL_root_140 : decode cL_root 140 = .ok (.ifCond .ne 8, 3) := by decide +kernel
theorem dL_root_143 : decode cL_root 143 = .ok (.lload 11, 2) := by decide +kernel
theorem dL_root_145 : decode cL_root 145 = .ok (.goto 14, 3) := by decide +kernel
theorem dL_root_148 : decode cL_root 148 = .ok (.ldc2_w 154, 3) := by decide +kernel
theorem dL_root_151 : decode cL_root 151 = .ok (.lload 11, 2) := by decide +kernel
theorem dL_root_153 : decode cL_root 153 = .ok (.lmul, 1) := by decide +kernel
theorem dL_root_154 : decode cL_root 154 = .ok (.lload 11, 2) := by decide +kernel
theorem dL_root_156 : decode cL_root 156 = .ok (.lmul, 1) := by decide +kernel
theorem dL_root_157 : decode cL_root 157 = .ok (.lconst 1, 1) := by decide +kernel
theorem dL_root_158 : decode cL_root 158 = .ok (.ladd, 1) := by decide +kernel
theorem dL_root_159 : decode cL_root 159 = .ok (.lstore 11, 2) := by decide +kernel
theorem dL_root_161 : decode cL_root 161 = .ok (.iload_n 3, 1) := by decide +kernel
theorem dL_root_162 : decode cL_root 162 = .ok (.iload_n 3, 1) := by decide +kernel
theorem dL_root_163 : decode cL_root 163 = .ok (.imul, 1) := by decide +kernel
theorem dL_root_164 : decode cL_root 164 = .ok (.iload_n 1, 1) := by decide +kernel
theorem dL_root_165 : decode cL_root 165 = .ok (.if_icmp .ge 129, 3) := by decide +kernel
theorem dL_root_168 : decode cL_root 168 = .ok (.iload_n 3, 1) := by decide +kernel
theorem dL_root_169 : decode cL_root 169 = .ok (.iconst 1, 1) := by decide +kernel
theorem dL_root_170 : decode cL_root 170 = .ok (.iadd, 1) := by decide +kernel
theorem dL_root_171 : decode cL_root 171 = .ok (.iload_n 3, 1) := by decide +kernel
theorem dL_root_172 : decode cL_root 172 = .ok (.iconst 1, 1) := by decide +kernel
theorem dL_root_173 : decode cL_root 173 = .ok (.iadd, 1) := by decide +kernel
theorem dL_root_174 : decode cL_root 174 = .ok (.imul, 1) := by decide +kernel
theorem dL_root_175 : decode cL_root 175 = .ok (.iload_n 1, 1) := by decide +kernel
theorem dL_root_176 : decode cL_root 176 = .ok (.if_icmp .le 118, 3) := by decide +kernel
theorem dL_root_179 : decode cL_root 179 = .ok (.iload 4, 2) := by decide +kernel
theorem dL_root_181 : decode cL_root 181 = .ok (.ifCond .le 113, 3) := by decide +kernel
theorem dL_root_184 : decode cL_root 184 = .ok (.aload_n 0, 1) := by decide +kernel
theorem dL_root_185 : decode cL_root 185 = .ok (.iload_n 1, 1) := by decide +kernel
theorem dL_root_186 : decode cL_root 186 = .ok (.iload 4, 2) := by decide +kernel
theorem dL_root_188 : decode cL_root 188 = .ok (.invokevirtual 36, 3) := by decide +kernel
theorem dL_root_191 : decode cL_root 191 = .ok (.iconst 2, 1) := by decide +kernel
theorem dL_root_192 : decode cL_root 192 = .ok (.iload_n 3, 1) := by decide +kernel
theorem dL_root_193 : decode cL_root 193 = .ok (.imul, 1) := by decide +kernel
theorem dL_root_194 : decode cL_root 194 = .ok (.if_icmp .ne 100, 3) := by decide +kernel
theorem dL_root_197 : decode cL_root 197 = .ok (.iload 5, 2) := by decide +kernel
theorem dL_root_199 : decode cL_root 199 = .ok (.ifCond .le 95, 3) := by decide +kernel
theorem dL_root_202 : decode cL_root 202 = .ok (.iload 6, 2) := by decide +kernel
theorem dL_root_204 : decode cL_root 204 = .ok (.ifCond .le 90, 3) := by decide +kernel
theorem dL_root_207 : decode cL_root 207 = .ok (.iload 5, 2) := by decide +kernel
theorem dL_root_209 : decode cL_root 209 = .ok (.iload 5, 2) := by decide +kernel
theorem dL_root_211 : decode cL_root 211 = .ok (.imul, 1) := by decide +kernel
theorem dL_root_212 : decode cL_root 212 = .ok (.iload_n 1, 1) := by decide +kernel
theorem dL_root_213 : decode cL_root 213 = .ok (.iload 6, 2) := by decide +kernel
theorem dL_root_215 : decode cL_root 215 = .ok (.imul, 1) := by decide +kernel
theorem dL_root_216 : decode cL_root 216 = .ok (.iload 6, 2) := by decide +kernel
theorem dL_root_218 : decode cL_root 218 = .ok (.imul, 1) := by decide +kernel
theorem dL_root_219 : decode cL_root 219 = .ok (.isub, 1) := by decide +kernel
theorem dL_root_220 : decode cL_root 220 = .ok (.iload 4, 2) := by decide +kernel
theorem dL_root_222 : decode cL_root 222 = .ok (.iconst 2, 1) := by decide +kernel
theorem dL_root_223 : decode cL_root 223 = .ok (.irem, 1) := by decide +kernel
theorem dL_root_224 : decode cL_root 224 = .ok (.ifCond .ne 7, 3) := by decide +kernel
theorem dL_root_227 : decode cL_root 227 = .ok (.iconst 1, 1) := by decide +kernel
theorem dL_root_228 : decode cL_root 228 = .ok (.goto 4, 3) := by decide +kernel
theorem dL_root_231 : decode cL_root 231 = .ok (.iconst (-1), 1) := by decide +kernel
theorem dL_root_232 : decode cL_root 232 = .ok (.if_icmp .ne 62, 3) := by decide +kernel
theorem dL_root_235 : decode cL_root 235 = .ok (.lload 11, 2) := by decide +kernel
theorem dL_root_237 : decode cL_root 237 = .ok (.lload 11, 2) := by decide +kernel
theorem dL_root_239 : decode cL_root 239 = .ok (.lmul, 1) := by decide +kernel
theorem dL_root_240 : decode cL_root 240 = .ok (.lload 9, 2) := by decide +kernel
theorem dL_root_242 : decode cL_root 242 = .ok (.lcmp, 1) := by decide +kernel
theorem dL_root_243 : decode cL_root 243 = .ok (.ifCond .ne 51, 3) := by decide +kernel
theorem dL_root_246 : decode cL_root 246 = .ok (.lload 7, 2) := by decide +kernel
theorem dL_root_248 : decode cL_root 248 = .ok (.iload 4, 2) := by decide +kernel
theorem dL_root_250 : decode cL_root 250 = .ok (.iconst 2, 1) := by decide +kernel
theorem dL_root_251 : decode cL_root 251 = .ok (.irem, 1) := by decide +kernel
theorem dL_root_252 : decode cL_root 252 = .ok (.ifCond .ne 8, 3) := by decide +kernel
theorem dL_root_255 : decode cL_root 255 = .ok (.iload 6, 2) := by decide +kernel
theorem dL_root_257 : decode cL_root 257 = .ok (.goto 10, 3) := by decide +kernel
theorem dL_root_260 : decode cL_root 260 = .ok (.iconst 2, 1) := by decide +kernel
theorem dL_root_261 : decode cL_root 261 = .ok (.iload 5, 2) := by decide +kernel
theorem dL_root_263 : decode cL_root 263 = .ok (.imul, 1) := by decide +kernel
theorem dL_root_264 : decode cL_root 264 = .ok (.iload 6, 2) := by decide +kernel
theorem dL_root_266 : decode cL_root 266 = .ok (.imul, 1) := by decide +kernel
theorem dL_root_267 : decode cL_root 267 = .ok (.i2l, 1) := by decide +kernel
theorem dL_root_268 : decode cL_root 268 = .ok (.lcmp, 1) := by decide +kernel
theorem dL_root_269 : decode cL_root 269 = .ok (.ifCond .ne 25, 3) := by decide +kernel
theorem dL_root_272 : decode cL_root 272 = .ok (.iload_n 2, 1) := by decide +kernel
theorem dL_root_273 : decode cL_root 273 = .ok (.iconst 4, 1) := by decide +kernel
theorem dL_root_274 : decode cL_root 274 = .ok (.irem, 1) := by decide +kernel
theorem dL_root_275 : decode cL_root 275 = .ok (.ifCond .gt 15, 3) := by decide +kernel
theorem dL_root_278 : decode cL_root 278 = .ok (.aload_n 0, 1) := by decide +kernel
theorem dL_root_279 : decode cL_root 279 = .ok (.iload_n 1, 1) := by decide +kernel
theorem dL_root_280 : decode cL_root 280 = .ok (.invokevirtual 95, 3) := by decide +kernel
theorem dL_root_283 : decode cL_root 283 = .ok (.i2l, 1) := by decide +kernel
theorem dL_root_284 : decode cL_root 284 = .ok (.lload 7, 2) := by decide +kernel
theorem dL_root_286 : decode cL_root 286 = .ok (.lcmp, 1) := by decide +kernel
theorem dL_root_287 : decode cL_root 287 = .ok (.ifCond .ne 7, 3) := by decide +kernel
theorem dL_root_290 : decode cL_root 290 = .ok (.iconst 1, 1) := by decide +kernel
theorem dL_root_291 : decode cL_root 291 = .ok (.goto 4, 3) := by decide +kernel
theorem dL_root_294 : decode cL_root 294 = .ok (.iconst 0, 1) := by decide +kernel
theorem dL_root_295 : decode cL_root 295 = .ok (.istore 13, 2) := by decide +kernel
theorem dL_root_297 : decode cL_root 297 = .ok (.lconst 1, 1) := by decide +kernel
theorem dL_root_298 : decode cL_root 298 = .ok (.lstore 14, 2) := by decide +kernel
theorem dL_root_300 : decode cL_root 300 = .ok (.lconst 0, 1) := by decide +kernel
theorem dL_root_301 : decode cL_root 301 = .ok (.lstore 16, 2) := by decide +kernel
theorem dL_root_303 : decode cL_root 303 = .ok (.lconst 0, 1) := by decide +kernel
theorem dL_root_304 : decode cL_root 304 = .ok (.lstore 18, 2) := by decide +kernel
theorem dL_root_306 : decode cL_root 306 = .ok (.lconst 1, 1) := by decide +kernel
theorem dL_root_307 : decode cL_root 307 = .ok (.lstore 20, 2) := by decide +kernel
theorem dL_root_309 : decode cL_root 309 = .ok (.iconst 0, 1) := by decide +kernel
theorem dL_root_310 : decode cL_root 310 = .ok (.istore 22, 2) := by decide +kernel
theorem dL_root_312 : decode cL_root 312 = .ok (.iload 22, 2) := by decide +kernel
theorem dL_root_314 : decode cL_root 314 = .ok (.iload 4, 2) := by decide +kernel
theorem dL_root_316 : decode cL_root 316 = .ok (.if_icmp .ge 97, 3) := by decide +kernel
theorem dL_root_319 : decode cL_root 319 = .ok (.iload 13, 2) := by decide +kernel
theorem dL_root_321 : decode cL_root 321 = .ok (.ifCond .eq 92, 3) := by decide +kernel
theorem dL_root_324 : decode cL_root 324 = .ok (.aload_n 0, 1) := by decide +kernel
theorem dL_root_325 : decode cL_root 325 = .ok (.iload_n 1, 1) := by decide +kernel
theorem dL_root_326 : decode cL_root 326 = .ok (.iload 22, 2) := by decide +kernel
theorem dL_root_328 : decode cL_root 328 = .ok (.invokevirtual 36, 3) := by decide +kernel
theorem dL_root_331 : decode cL_root 331 = .ok (.i2l, 1) := by decide +kernel
theorem dL_root_332 : decode cL_root 332 = .ok (.lload 14, 2) := by decide +kernel
theorem dL_root_334 : decode cL_root 334 = .ok (.lmul, 1) := by decide +kernel
theorem dL_root_335 : decode cL_root 335 = .ok (.lload 18, 2) := by decide +kernel
theorem dL_root_337 : decode cL_root 337 = .ok (.ladd, 1) := by decide +kernel
theorem dL_root_338 : decode cL_root 338 = .ok (.lstore 23, 2) := by decide +kernel
theorem dL_root_340 : decode cL_root 340 = .ok (.aload_n 0, 1) := by decide +kernel
theorem dL_root_341 : decode cL_root 341 = .ok (.iload_n 1, 1) := by decide +kernel
theorem dL_root_342 : decode cL_root 342 = .ok (.iload 22, 2) := by decide +kernel
theorem dL_root_344 : decode cL_root 344 = .ok (.invokevirtual 36, 3) := by decide +kernel
theorem dL_root_347 : decode cL_root 347 = .ok (.i2l, 1) := by decide +kernel
theorem dL_root_348 : decode cL_root 348 = .ok (.lload 16, 2) := by decide +kernel
theorem dL_root_350 : decode cL_root 350 = .ok (.lmul, 1) := by decide +kernel
theorem dL_root_351 : decode cL_root 351 = .ok (.lload 20, 2) := by decide +kernel
theorem dL_root_353 : decode cL_root 353 = .ok (.ladd, 1) := by decide +kernel
theorem dL_root_354 : decode cL_root 354 = .ok (.lstore 25, 2) := by decide +kernel
theorem dL_root_356 : decode cL_root 356 = .ok (.lload 14, 2) := by decide +kernel
theorem dL_root_358 : decode cL_root 358 = .ok (.lstore 18, 2) := by decide +kernel
theorem dL_root_360 : decode cL_root 360 = .ok (.lload 16, 2) := by decide +kernel
theorem dL_root_362 : decode cL_root 362 = .ok (.lstore 20, 2) := by decide +kernel
theorem dL_root_364 : decode cL_root 364 = .ok (.lload 23, 2) := by decide +kernel
theorem dL_root_366 : decode cL_root 366 = .ok (.lstore 14, 2) := by decide +kernel
theorem dL_root_368 : decode cL_root 368 = .ok (.lload 25, 2) := by decide +kernel
theorem dL_root_370 : decode cL_root 370 = .ok (.lstore 16, 2) := by decide +kernel
theorem dL_root_372 : decode cL_root 372 = .ok (.iload 22, 2) := by decide +kernel
theorem dL_root_374 : decode cL_root 374 = .ok (.ifCond .eq 26, 3) := by decide +kernel
theorem dL_root_377 : decode cL_root 377 = .ok (.aload_n 0, 1) := by decide +kernel
theorem dL_root_378 : decode cL_root 378 = .ok (.iload_n 1, 1) := by decide +kernel
theorem dL_root_379 : decode cL_root 379 = .ok (.iload 22, 2) := by decide +kernel
theorem dL_root_381 : decode cL_root 381 = .ok (.invokevirtual 36, 3) := by decide +kernel
theorem dL_root_384 : decode cL_root 384 = .ok (.ifCond .le 20, 3) := by decide +kernel
theorem dL_root_387 : decode cL_root 387 = .ok (.aload_n 0, 1) := by decide +kernel
theorem dL_root_388 : decode cL_root 388 = .ok (.iload_n 1, 1) := by decide +kernel
theorem dL_root_389 : decode cL_root 389 = .ok (.iload 22, 2) := by decide +kernel
theorem dL_root_391 : decode cL_root 391 = .ok (.invokevirtual 36, 3) := by decide +kernel
theorem dL_root_394 : decode cL_root 394 = .ok (.iconst 2, 1) := by decide +kernel
theorem dL_root_395 : decode cL_root 395 = .ok (.iload_n 3, 1) := by decide +kernel
theorem dL_root_396 : decode cL_root 396 = .ok (.imul, 1) := by decide +kernel
theorem dL_root_397 : decode cL_root 397 = .ok (.if_icmp .ge 7, 3) := by decide +kernel
theorem dL_root_400 : decode cL_root 400 = .ok (.iconst 1, 1) := by decide +kernel
theorem dL_root_401 : decode cL_root 401 = .ok (.goto 4, 3) := by decide +kernel
theorem dL_root_404 : decode cL_root 404 = .ok (.iconst 0, 1) := by decide +kernel
theorem dL_root_405 : decode cL_root 405 = .ok (.istore 13, 2) := by decide +kernel
theorem dL_root_407 : decode cL_root 407 = .ok (.iinc 22 1, 3) := by decide +kernel
theorem dL_root_410 : decode cL_root 410 = .ok (.goto (-98), 3) := by decide +kernel
theorem dL_root_413 : decode cL_root 413 = .ok (.iload_n 2, 1) := by decide +kernel
theorem dL_root_414 : decode cL_root 414 = .ok (.bipush 80, 2) := by decide +kernel
theorem dL_root_416 : decode cL_root 416 = .ok (.invokestatic 156, 3) := by decide +kernel
theorem dL_root_419 : decode cL_root 419 = .ok (.istore 22, 2) := by decide +kernel
theorem dL_root_421 : decode cL_root 421 = .ok (.iload 13, 2) := by decide +kernel
theorem dL_root_423 : decode cL_root 423 = .ok (.ifCond .eq 68, 3) := by decide +kernel
theorem dL_root_426 : decode cL_root 426 = .ok (.lload 14, 2) := by decide +kernel
theorem dL_root_428 : decode cL_root 428 = .ok (.iload 5, 2) := by decide +kernel
theorem dL_root_430 : decode cL_root 430 = .ok (.i2l, 1) := by decide +kernel
theorem dL_root_431 : decode cL_root 431 = .ok (.lcmp, 1) := by decide +kernel
theorem dL_root_432 : decode cL_root 432 = .ok (.ifCond .ne 59, 3) := by decide +kernel
theorem dL_root_435 : decode cL_root 435 = .ok (.lload 16, 2) := by decide +kernel
theorem dL_root_437 : decode cL_root 437 = .ok (.iload 6, 2) := by decide +kernel
theorem dL_root_439 : decode cL_root 439 = .ok (.i2l, 1) := by decide +kernel
theorem dL_root_440 : decode cL_root 440 = .ok (.lcmp, 1) := by decide +kernel
theorem dL_root_441 : decode cL_root 441 = .ok (.ifCond .ne 50, 3) := by decide +kernel
theorem dL_root_444 : decode cL_root 444 = .ok (.aload_n 0, 1) := by decide +kernel
theorem dL_root_445 : decode cL_root 445 = .ok (.iload_n 1, 1) := by decide +kernel
theorem dL_root_446 : decode cL_root 446 = .ok (.iload 22, 2) := by decide +kernel
theorem dL_root_448 : decode cL_root 448 = .ok (.iload 4, 2) := by decide +kernel
theorem dL_root_450 : decode cL_root 450 = .ok (.iadd, 1) := by decide +kernel
theorem dL_root_451 : decode cL_root 451 = .ok (.invokevirtual 36, 3) := by decide +kernel
theorem dL_root_454 : decode cL_root 454 = .ok (.iload 22, 2) := by decide +kernel
theorem dL_root_456 : decode cL_root 456 = .ok (.ifCond .ne 9, 3) := by decide +kernel
theorem dL_root_459 : decode cL_root 459 = .ok (.iconst 2, 1) := by decide +kernel
theorem dL_root_460 : decode cL_root 460 = .ok (.iload_n 3, 1) := by decide +kernel
theorem dL_root_461 : decode cL_root 461 = .ok (.imul, 1) := by decide +kernel
theorem dL_root_462 : decode cL_root 462 = .ok (.goto 10, 3) := by decide +kernel
theorem dL_root_465 : decode cL_root 465 = .ok (.aload_n 0, 1) := by decide +kernel
theorem dL_root_466 : decode cL_root 466 = .ok (.iload_n 1, 1) := by decide +kernel
theorem dL_root_467 : decode cL_root 467 = .ok (.iload 22, 2) := by decide +kernel
theorem dL_root_469 : decode cL_root 469 = .ok (.invokevirtual 36, 3) := by decide +kernel
theorem dL_root_472 : decode cL_root 472 = .ok (.if_icmp .ne 19, 3) := by decide +kernel
theorem dL_root_475 : decode cL_root 475 = .ok (.aload_n 0, 1) := by decide +kernel
theorem dL_root_476 : decode cL_root 476 = .ok (.iload_n 1, 1) := by decide +kernel
theorem dL_root_477 : decode cL_root 477 = .ok (.bipush 100, 2) := by decide +kernel
theorem dL_root_479 : decode cL_root 479 = .ok (.invokestatic 143, 3) := by decide +kernel
theorem dL_root_482 : decode cL_root 482 = .ok (.bipush (-102), 2) := by decide +kernel
theorem dL_root_484 : decode cL_root 484 = .ok (.if_icmp .ne 7, 3) := by decide +kernel
theorem dL_root_487 : decode cL_root 487 = .ok (.iconst 1, 1) := by decide +kernel
theorem dL_root_488 : decode cL_root 488 = .ok (.goto 4, 3) := by decide +kernel
theorem dL_root_491 : decode cL_root 491 = .ok (.iconst 0, 1) := by decide +kernel
theorem dL_root_492 : decode cL_root 492 = .ok (.ireturn, 1) := by decide +kernel
theorem dL_holds_0 : decode cL_holds 0 = .ok (.iconst 0, 1) := by decide +kernel
theorem dL_holds_1 : decode cL_holds 1 = .ok (.istore_n 2, 1) := by decide +kernel
theorem dL_holds_2 : decode cL_holds 2 = .ok (.iconst 0, 1) := by decide +kernel
theorem dL_holds_3 : decode cL_holds 3 = .ok (.istore_n 3, 1) := by decide +kernel
theorem dL_holds_4 : decode cL_holds 4 = .ok (.bipush (-104), 2) := by decide +kernel
theorem dL_holds_6 : decode cL_holds 6 = .ok (.istore 4, 2) := by decide +kernel
theorem dL_holds_8 : decode cL_holds 8 = .ok (.aload_n 0, 1) := by decide +kernel
theorem dL_holds_9 : decode cL_holds 9 = .ok (.invokevirtual 159, 3) := by decide +kernel
theorem dL_holds_12 : decode cL_holds 12 = .ok (.istore 5, 2) := by decide +kernel
theorem dL_holds_14 : decode cL_holds 14 = .ok (.iconst 0, 1) := by decide +kernel
theorem dL_holds_15 : decode cL_holds 15 = .ok (.istore 6, 2) := by decide +kernel
theorem dL_holds_17 : decode cL_holds 17 = .ok (.aload_n 0, 1) := by decide +kernel
theorem dL_holds_18 : decode cL_holds 18 = .ok (.invokevirtual 162, 3) := by decide +kernel
theorem dL_holds_21 : decode cL_holds 21 = .ok (.ifCond .lt 97, 3) := by decide +kernel
theorem dL_holds_24 : decode cL_holds 24 = .ok (.aload_n 0, 1) := by decide +kernel
theorem dL_holds_25 : decode cL_holds 25 = .ok (.invokevirtual 162, 3) := by decide +kernel
theorem dL_holds_28 : decode cL_holds 28 = .ok (.iconst 4, 1) := by decide +kernel
theorem dL_holds_29 : decode cL_holds 29 = .ok (.if_icmp .gt 89, 3) := by decide +kernel
theorem dL_holds_32 : decode cL_holds 32 = .ok (.aload_n 0, 1) := by decide +kernel
theorem dL_holds_33 : decode cL_holds 33 = .ok (.bipush 61, 2) := by decide +kernel
theorem dL_holds_35 : decode cL_holds 35 = .ok (.invokestatic 165, 3) := by decide +kernel
theorem dL_holds_38 : decode cL_holds 38 = .ok (.bipush (-102), 2) := by decide +kernel
theorem dL_holds_40 : decode cL_holds 40 = .ok (.if_icmp .ne 78, 3) := by decide +kernel
theorem dL_holds_43 : decode cL_holds 43 = .ok (.aload_n 0, 1) := by decide +kernel
theorem dL_holds_44 : decode cL_holds 44 = .ok (.iconst 1, 1) := by decide +kernel
theorem dL_holds_45 : decode cL_holds 45 = .ok (.invokestatic 167, 3) := by decide +kernel
theorem dL_holds_48 : decode cL_holds 48 = .ok (.bipush (-102), 2) := by decide +kernel
theorem dL_holds_50 : decode cL_holds 50 = .ok (.if_icmp .ne 68, 3) := by decide +kernel
theorem dL_holds_53 : decode cL_holds 53 = .ok (.aload_n 0, 1) := by decide +kernel
theorem dL_holds_54 : decode cL_holds 54 = .ok (.bipush 61, 2) := by decide +kernel
theorem dL_holds_56 : decode cL_holds 56 = .ok (.invokestatic 169, 3) := by decide +kernel
theorem dL_holds_59 : decode cL_holds 59 = .ok (.ldc2_w 26, 3) := by decide +kernel
theorem dL_holds_62 : decode cL_holds 62 = .ok (.lcmp, 1) := by decide +kernel
theorem dL_holds_63 : decode cL_holds 63 = .ok (.ifCond .ne 55, 3) := by decide +kernel
theorem dL_holds_66 : decode cL_holds 66 = .ok (.aload_n 0, 1) := by decide +kernel
theorem dL_holds_67 : decode cL_holds 67 = .ok (.iconst (-1), 1) := by decide +kernel
theorem dL_holds_68 : decode cL_holds 68 = .ok (.invokestatic 172, 3) := by decide +kernel
theorem dL_holds_71 : decode cL_holds 71 = .ok (.ldc2_w 26, 3) := by decide +kernel
theorem dL_holds_74 : decode cL_holds 74 = .ok (.lcmp, 1) := by decide +kernel
theorem dL_holds_75 : decode cL_holds 75 = .ok (.ifCond .ne 43, 3) := by decide +kernel
theorem dL_holds_78 : decode cL_holds 78 = .ok (.aload_n 0, 1) := by decide +kernel
theorem dL_holds_79 : decode cL_holds 79 = .ok (.iload 5, 2) := by decide +kernel
theorem dL_holds_81 : decode cL_holds 81 = .ok (.invokestatic 174, 3) := by decide +kernel
theorem dL_holds_84 : decode cL_holds 84 = .ok (.bipush (-104), 2) := by decide +kernel
theorem dL_holds_86 : decode cL_holds 86 = .ok (.if_icmp .ne 32, 3) := by decide +kernel
theorem dL_holds_89 : decode cL_holds 89 = .ok (.aload_n 0, 1) := by decide +kernel
theorem dL_holds_90 : decode cL_holds 90 = .ok (.iload 5, 2) := by decide +kernel
theorem dL_holds_92 : decode cL_holds 92 = .ok (.invokestatic 176, 3) := by decide +kernel
theorem dL_holds_95 : decode cL_holds 95 = .ok (.ldc2_w 53, 3) := by decide +kernel
theorem dL_holds_98 : decode cL_holds 98 = .ok (.lcmp, 1) := by decide +kernel
theorem dL_holds_99 : decode cL_holds 99 = .ok (.ifCond .ne 19, 3) := by decide +kernel
theorem dL_holds_102 : decode cL_holds 102 = .ok (.aload_n 0, 1) := by decide +kernel
theorem dL_holds_103 : decode cL_holds 103 = .ok (.ldc2_w 136, 3) := by decide +kernel
theorem dL_holds_106 : decode cL_holds 106 = .ok (.invokestatic 178, 3) := by decide +kernel
theorem dL_holds_109 : decode cL_holds 109 = .ok (.bipush (-102), 2) := by decide +kernel
theorem dL_holds_111 : decode cL_holds 111 = .ok (.if_icmp .ne 7, 3) := by decide +kernel
theorem dL_holds_114 : decode cL_holds 114 = .ok (.iconst 1, 1) := by decide +kernel
theorem dL_holds_115 : decode cL_holds 115 = .ok (.goto 4, 3) := by decide +kernel
theorem dL_holds_118 : decode cL_holds 118 = .ok (.iconst 0, 1) := by decide +kernel
theorem dL_holds_119 : decode cL_holds 119 = .ok (.istore 7, 2) := by decide +kernel
theorem dL_holds_121 : decode cL_holds 121 = .ok (.iload_n 1, 1) := by decide +kernel
theorem dL_holds_122 : decode cL_holds 122 = .ok (.iconst 5, 1) := by decide +kernel
theorem dL_holds_123 : decode cL_holds 123 = .ok (.invokestatic 156, 3) := by decide +kernel
theorem dL_holds_126 : decode cL_holds 126 = .ok (.ifCond .ne 9, 3) := by decide +kernel
theorem dL_holds_129 : decode cL_holds 129 = .ok (.ldc2_w 134, 3) := by decide +kernel
theorem dL_holds_132 : decode cL_holds 132 = .ok (.goto 10, 3) := by decide +kernel
theorem dL_holds_135 : decode cL_holds 135 = .ok (.iload_n 1, 1) := by decide +kernel
theorem dL_holds_136 : decode cL_holds 136 = .ok (.ldc 181, 2) := by decide +kernel
theorem dL_holds_138 : decode cL_holds 138 = .ok (.invokestatic 156, 3) := by decide +kernel
theorem dL_holds_141 : decode cL_holds 141 = .ok (.i2l, 1) := by decide +kernel
theorem dL_holds_142 : decode cL_holds 142 = .ok (.lstore 8, 2) := by decide +kernel
theorem dL_holds_144 : decode cL_holds 144 = .ok (.iconst 0, 1) := by decide +kernel
theorem dL_holds_145 : decode cL_holds 145 = .ok (.istore 10, 2) := by decide +kernel
theorem dL_holds_147 : decode cL_holds 147 = .ok (.bipush 60, 2) := by decide +kernel
theorem dL_holds_149 : decode cL_holds 149 = .ok (.istore 11, 2) := by decide +kernel
theorem dL_holds_151 : decode cL_holds 151 = .ok (.iload 11, 2) := by decide +kernel
theorem dL_holds_153 : decode cL_holds 153 = .ok (.iconst 1, 1) := by decide +kernel
theorem dL_holds_154 : decode cL_holds 154 = .ok (.if_icmp .le 420, 3) := by decide +kernel
theorem dL_holds_157 : decode cL_holds 157 = .ok (.iload 7, 2) := by decide +kernel
theorem dL_holds_159 : decode cL_holds 159 = .ok (.ifCond .eq 415, 3) := by decide +kernel
theorem dL_holds_162 : decode cL_holds 162 = .ok (.aload_n 0, 1) := by decide +kernel
theorem dL_holds_163 : decode cL_holds 163 = .ok (.iload 11, 2) := by decide +kernel
theorem dL_holds_165 : decode cL_holds 165 = .ok (.invokevirtual 42, 3) := by decide +kernel
theorem dL_holds_168 : decode cL_holds 168 = .ok (.istore 12, 2) := by decide +kernel
theorem dL_holds_170 : decode cL_holds 170 = .ok (.iload 12, 2) := by decide +kernel
theorem dL_holds_172 : decode cL_holds 172 = .ok (.ifCond .eq 8, 3) := by decide +kernel
theorem dL_holds_175 : decode cL_holds 175 = .ok (.iload 11, 2) := by decide +kernel
theorem dL_holds_177 : decode cL_holds 177 = .ok (.goto 5, 3) := by decide +kernel
theorem dL_holds_180 : decode cL_holds 180 = .ok (.iload 4, 2) := by decide +kernel
theorem dL_holds_182 : decode cL_holds 182 = .ok (.istore 4, 2) := by decide +kernel
theorem dL_holds_184 : decode cL_holds 184 = .ok (.iload_n 2, 1) := by decide +kernel
theorem dL_holds_185 : decode cL_holds 185 = .ok (.iload 12, 2) := by decide +kernel
theorem dL_holds_187 : decode cL_holds 187 = .ok (.ifCond .eq 7, 3) := by decide +kernel
theorem dL_holds_190 : decode cL_holds 190 = .ok (.iconst 1, 1) := by decide +kernel
theorem dL_holds_191 : decode cL_holds 191 = .ok (.goto 4, 3) := by decide +kernel
theorem dL_holds_194 : decode cL_holds 194 = .ok (.iconst 0, 1) := by decide +kernel
theorem dL_holds_195 : decode cL_holds 195 = .ok (.iadd, 1) := by decide +kernel
theorem dL_holds_196 : decode cL_holds 196 = .ok (.istore_n 2, 1) := by decide +kernel
theorem dL_holds_197 : decode cL_holds 197 = .ok (.aload_n 0, 1) := by decide +kernel
theorem dL_holds_198 : decode cL_holds 198 = .ok (.iload 11, 2) := by decide +kernel
theorem dL_holds_200 : decode cL_holds 200 = .ok (.invokestatic 167, 3) := by decide +kernel
theorem dL_holds_203 : decode cL_holds 203 = .ok (.iload 4, 2) := by decide +kernel
theorem dL_holds_205 : decode cL_holds 205 = .ok (.if_icmp .ne 36, 3) := by decide +kernel
theorem dL_holds_208 : decode cL_holds 208 = .ok (.iload 12, 2) := by decide +kernel
theorem dL_holds_210 : decode cL_holds 210 = .ok (.ifCond .ne 14, 3) := by decide +kernel
theorem dL_holds_213 : decode cL_holds 213 = .ok (.aload_n 0, 1) := by decide +kernel
theorem dL_holds_214 : decode cL_holds 214 = .ok (.iload 11, 2) := by decide +kernel
theorem dL_holds_216 : decode cL_holds 216 = .ok (.invokestatic 129, 3) := by decide +kernel
theorem dL_holds_219 : decode cL_holds 219 = .ok (.bipush (-104), 2) := by decide +kernel
theorem dL_holds_221 : decode cL_holds 221 = .ok (.if_icmp .ne 20, 3) := by decide +kernel
theorem dL_holds_224 : decode cL_holds 224 = .ok (.iload 11, 2) := by decide +kernel
theorem dL_holds_226 : decode cL_holds 226 = .ok (.invokestatic 138, 3) := by decide +kernel
theorem dL_holds_229 : decode cL_holds 229 = .ok (.ifCond .eq 8, 3) := by decide +kernel
theorem dL_holds_232 : decode cL_holds 232 = .ok (.iload 12, 2) := by decide +kernel
theorem dL_holds_234 : decode cL_holds 234 = .ok (.ifCond .ne 7, 3) := by decide +kernel
theorem dL_holds_237 : decode cL_holds 237 = .ok (.iconst 1, 1) := by decide +kernel
theorem dL_holds_238 : decode cL_holds 238 = .ok (.goto 4, 3) := by decide +kernel
theorem dL_holds_241 : decode cL_holds 241 = .ok (.iconst 0, 1) := by decide +kernel
theorem dL_holds_242 : decode cL_holds 242 = .ok (.istore 7, 2) := by decide +kernel
theorem dL_holds_244 : decode cL_holds 244 = .ok (.iload 7, 2) := by decide +kernel
theorem dL_holds_246 : decode cL_holds 246 = .ok (.ifCond .eq 322, 3) := by decide +kernel
theorem dL_holds_249 : decode cL_holds 249 = .ok (.iload 12, 2) := by decide +kernel
theorem dL_holds_251 : decode cL_holds 251 = .ok (.ifCond .eq 317, 3) := by decide +kernel
theorem dL_holds_254 : decode cL_holds 254 = .ok (.aload_n 0, 1) := by decide +kernel
theorem dL_holds_255 : decode cL_holds 255 = .ok (.iload 11, 2) := by decide +kernel
theorem dL_holds_257 : decode cL_holds 257 = .ok (.invokevirtual 101, 3) := by decide +kernel
theorem dL_holds_260 : decode cL_holds 260 = .ok (.istore 13, 2) := by decide +kernel
theorem dL_holds_262 : decode cL_holds 262 = .ok (.lconst 1, 1) := by decide +kernel
theorem dL_holds_263 : decode cL_holds 263 = .ok (.lstore 14, 2) := by decide +kernel
theorem dL_holds_265 : decode cL_holds 265 = .ok (.lconst 0, 1) := by decide +kernel
theorem dL_holds_266 : decode cL_holds 266 = .ok (.lstore 16, 2) := by decide +kernel
theorem dL_holds_268 : decode cL_holds 268 = .ok (.iconst 0, 1) := by decide +kernel
theorem dL_holds_269 : decode cL_holds 269 = .ok (.istore 18, 2) := by decide +kernel
theorem dL_holds_271 : decode cL_holds 271 = .ok (.lconst 1, 1) := by decide +kernel
theorem dL_holds_272 : decode cL_holds 272 = .ok (.lstore 19, 2) := by decide +kernel
theorem dL_holds_274 : decode cL_holds 274 = .ok (.lload 19, 2) := by decide +kernel
theorem dL_holds_276 : decode cL_holds 276 = .ok (.lconst 0, 1) := by decide +kernel
theorem dL_holds_277 : decode cL_holds 277 = .ok (.lcmp, 1) := by decide +kernel
theorem dL_holds_278 : decode cL_holds 278 = .ok (.ifCond .lt 171, 3) := by decide +kernel
theorem dL_holds_281 : decode cL_holds 281 = .ok (.iload 7, 2) := by decide +kernel
theorem dL_holds_283 : decode cL_holds 283 = .ok (.ifCond .eq 38, 3) := by decide +kernel
theorem dL_holds_286 : decode cL_holds 286 = .ok (.iload 18, 2) := by decide +kernel
theorem dL_holds_288 : decode cL_holds 288 = .ok (.iload 13, 2) := by decide +kernel
theorem dL_holds_290 : decode cL_holds 290 = .ok (.if_icmp .ne 27, 3) := by decide +kernel
theorem dL_holds_293 : decode cL_holds 293 = .ok (.aload_n 0, 1) := by decide +kernel
theorem dL_holds_294 : decode cL_holds 294 = .ok (.iload 11, 2) := by decide +kernel
theorem dL_holds_296 : decode cL_holds 296 = .ok (.invokevirtual 110, 3) := by decide +kernel
theorem dL_holds_299 : decode cL_holds 299 = .ok (.lload 14, 2) := by decide +kernel
theorem dL_holds_301 : decode cL_holds 301 = .ok (.lcmp, 1) := by decide +kernel
theorem dL_holds_302 : decode cL_holds 302 = .ok (.ifCond .ne 19, 3) := by decide +kernel
theorem dL_holds_305 : decode cL_holds 305 = .ok (.aload_n 0, 1) := by decide +kernel
theorem dL_holds_306 : decode cL_holds 306 = .ok (.iload 11, 2) := by decide +kernel
theorem dL_holds_308 : decode cL_holds 308 = .ok (.invokevirtual 113, 3) := by decide +kernel
theorem dL_holds_311 : decode cL_holds 311 = .ok (.lload 16, 2) := by decide +kernel
theorem dL_holds_313 : decode cL_holds 313 = .ok (.lcmp, 1) := by decide +kernel
theorem dL_holds_314 : decode cL_holds 314 = .ok (.ifCond .ne 7, 3) := by decide +kernel
theorem dL_holds_317 : decode cL_holds 317 = .ok (.iconst 1, 1) := by decide +kernel
theorem dL_holds_318 : decode cL_holds 318 = .ok (.goto 4, 3) := by decide +kernel
theorem dL_holds_321 : decode cL_holds 321 = .ok (.iconst 0, 1) := by decide +kernel
theorem dL_holds_322 : decode cL_holds 322 = .ok (.istore 7, 2) := by decide +kernel
theorem dL_holds_324 : decode cL_holds 324 = .ok (.aload_n 0, 1) := by decide +kernel
theorem dL_holds_325 : decode cL_holds 325 = .ok (.iload 11, 2) := by decide +kernel
theorem dL_holds_327 : decode cL_holds 327 = .ok (.lload 14, 2) := by decide +kernel
theorem dL_holds_329 : decode cL_holds 329 = .ok (.lload 16, 2) := by decide +kernel
theorem dL_holds_331 : decode cL_holds 331 = .ok (.invokestatic 182, 3) := by decide +kernel
theorem dL_holds_334 : decode cL_holds 334 = .ok (.lstore 19, 2) := by decide +kernel
theorem dL_holds_336 : decode cL_holds 336 = .ok (.lload 19, 2) := by decide +kernel
theorem dL_holds_338 : decode cL_holds 338 = .ok (.lconst 0, 1) := by decide +kernel
theorem dL_holds_339 : decode cL_holds 339 = .ok (.lcmp, 1) := by decide +kernel
theorem dL_holds_340 : decode cL_holds 340 = .ok (.ifCond .ge 8, 3) := by decide +kernel
theorem dL_holds_343 : decode cL_holds 343 = .ok (.lload 16, 2) := by decide +kernel
theorem dL_holds_345 : decode cL_holds 345 = .ok (.goto 24, 3) := by decide +kernel
theorem dL_holds_348 : decode cL_holds 348 = .ok (.lload 14, 2) := by decide +kernel
theorem dL_holds_350 : decode cL_holds 350 = .ok (.aload_n 0, 1) := by decide +kernel
theorem dL_holds_351 : decode cL_holds 351 = .ok (.iload 11, 2) := by decide +kernel
theorem dL_holds_353 : decode cL_holds 353 = .ok (.invokevirtual 89, 3) := by decide +kernel
theorem dL_holds_356 : decode cL_holds 356 = .ok (.i2l, 1) := by decide +kernel
theorem dL_holds_357 : decode cL_holds 357 = .ok (.lmul, 1) := by decide +kernel
theorem dL_holds_358 : decode cL_holds 358 = .ok (.lload 16, 2) := by decide +kernel
theorem dL_holds_360 : decode cL_holds 360 = .ok (.aload_n 0, 1) := by decide +kernel
theorem dL_holds_361 : decode cL_holds 361 = .ok (.iload 11, 2) := by decide +kernel
theorem dL_holds_363 : decode cL_holds 363 = .ok (.invokevirtual 86, 3) := by decide +kernel
theorem dL_holds_366 : decode cL_holds 366 = .ok (.i2l, 1) := by decide +kernel
theorem dL_holds_367 : decode cL_holds 367 = .ok (.lmul, 1) := by decide +kernel
theorem dL_holds_368 : decode cL_holds 368 = .ok (.ladd, 1) := by decide +kernel
theorem dL_holds_369 : decode cL_holds 369 = .ok (.lstore 16, 2) := by decide +kernel
theorem dL_holds_371 : decode cL_holds 371 = .ok (.lload 19, 2) := by decide +kernel
theorem dL_holds_373 : decode cL_holds 373 = .ok (.lconst 0, 1) := by decide +kernel
theorem dL_holds_374 : decode cL_holds 374 = .ok (.lcmp, 1) := by decide +kernel
theorem dL_holds_375 : decode cL_holds 375 = .ok (.ifCond .ge 8, 3) := by decide +kernel
theorem dL_holds_378 : decode cL_holds 378 = .ok (.lload 14, 2) := by decide +kernel
theorem dL_holds_380 : decode cL_holds 380 = .ok (.goto 5, 3) := by decide +kernel
theorem dL_holds_383 : decode cL_holds 383 = .ok (.lload 19, 2) := by decide +kernel
theorem dL_holds_385 : decode cL_holds 385 = .ok (.lstore 14, 2) := by decide +kernel
theorem dL_holds_387 : decode cL_holds 387 = .ok (.iload 18, 2) := by decide +kernel
theorem dL_holds_389 : decode cL_holds 389 = .ok (.lload 19, 2) := by decide +kernel
theorem dL_holds_391 : decode cL_holds 391 = .ok (.lconst 0, 1) := by decide +kernel
theorem dL_holds_392 : decode cL_holds 392 = .ok (.lcmp, 1) := by decide +kernel
theorem dL_holds_393 : decode cL_holds 393 = .ok (.ifCond .ge 7, 3) := by decide +kernel
theorem dL_holds_396 : decode cL_holds 396 = .ok (.iconst 0, 1) := by decide +kernel
theorem dL_holds_397 : decode cL_holds 397 = .ok (.goto 4, 3) := by decide +kernel
theorem dL_holds_400 : decode cL_holds 400 = .ok (.iconst 1, 1) := by decide +kernel
theorem dL_holds_401 : decode cL_holds 401 = .ok (.iadd, 1) := by decide +kernel
theorem dL_holds_402 : decode cL_holds 402 = .ok (.istore 18, 2) := by decide +kernel
theorem dL_holds_404 : decode cL_holds 404 = .ok (.iload 6, 2) := by decide +kernel
theorem dL_holds_406 : decode cL_holds 406 = .ok (.lload 19, 2) := by decide +kernel
theorem dL_holds_408 : decode cL_holds 408 = .ok (.lconst 0, 1) := by decide +kernel
theorem dL_holds_409 : decode cL_holds 409 = .ok (.lcmp, 1) := by decide +kernel
theorem dL_holds_410 : decode cL_holds 410 = .ok (.ifCond .ge 7, 3) := by decide +kernel
theorem dL_holds_413 : decode cL_holds 413 = .ok (.iconst 0, 1) := by decide +kernel
theorem dL_holds_414 : decode cL_holds 414 = .ok (.goto 4, 3) := by decide +kernel
theorem dL_holds_417 : decode cL_holds 417 = .ok (.iconst 1, 1) := by decide +kernel
theorem dL_holds_418 : decode cL_holds 418 = .ok (.iadd, 1) := by decide +kernel
theorem dL_holds_419 : decode cL_holds 419 = .ok (.istore 6, 2) := by decide +kernel
theorem dL_holds_421 : decode cL_holds 421 = .ok (.iload 10, 2) := by decide +kernel
theorem dL_holds_423 : decode cL_holds 423 = .ok (.lload 19, 2) := by decide +kernel
theorem dL_holds_425 : decode cL_holds 425 = .ok (.lconst 0, 1) := by decide +kernel
theorem dL_holds_426 : decode cL_holds 426 = .ok (.lcmp, 1) := by decide +kernel
theorem dL_holds_427 : decode cL_holds 427 = .ok (.ifCond .lt 15, 3) := by decide +kernel
theorem dL_holds_430 : decode cL_holds 430 = .ok (.lload 19, 2) := by decide +kernel
theorem dL_holds_432 : decode cL_holds 432 = .ok (.lload 8, 2) := by decide +kernel
theorem dL_holds_434 : decode cL_holds 434 = .ok (.lcmp, 1) := by decide +kernel
theorem dL_holds_435 : decode cL_holds 435 = .ok (.ifCond .gt 7, 3) := by decide +kernel
theorem dL_holds_438 : decode cL_holds 438 = .ok (.iconst 1, 1) := by decide +kernel
theorem dL_holds_439 : decode cL_holds 439 = .ok (.goto 4, 3) := by decide +kernel
theorem dL_holds_442 : decode cL_holds 442 = .ok (.iconst 0, 1) := by decide +kernel
theorem dL_holds_443 : decode cL_holds 443 = .ok (.iadd, 1) := by decide +kernel
theorem dL_holds_444 : decode cL_holds 444 = .ok (.istore 10, 2) := by decide +kernel
theorem dL_holds_446 : decode cL_holds 446 = .ok (.goto (-172), 3) := by decide +kernel
theorem dL_holds_449 : decode cL_holds 449 = .ok (.iload 13, 2) := by decide +kernel
theorem dL_holds_451 : decode cL_holds 451 = .ok (.iconst 2, 1) := by decide +kernel
theorem dL_holds_452 : decode cL_holds 452 = .ok (.irem, 1) := by decide +kernel
theorem dL_holds_453 : decode cL_holds 453 = .ok (.ifCond .eq 14, 3) := by decide +kernel
theorem dL_holds_456 : decode cL_holds 456 = .ok (.aload_n 0, 1) := by decide +kernel
theorem dL_holds_457 : decode cL_holds 457 = .ok (.iload 11, 2) := by decide +kernel
theorem dL_holds_459 : decode cL_holds 459 = .ok (.invokevirtual 83, 3) := by decide +kernel
theorem dL_holds_462 : decode cL_holds 462 = .ok (.iconst 2, 1) := by decide +kernel
theorem dL_holds_463 : decode cL_holds 463 = .ok (.irem, 1) := by decide +kernel
theorem dL_holds_464 : decode cL_holds 464 = .ok (.ifCond .ne 7, 3) := by decide +kernel
theorem dL_holds_467 : decode cL_holds 467 = .ok (.iconst 1, 1) := by decide +kernel
theorem dL_holds_468 : decode cL_holds 468 = .ok (.goto 4, 3) := by decide +kernel
theorem dL_holds_471 : decode cL_holds 471 = .ok (.iconst (-1), 1) := by decide +kernel
theorem dL_holds_472 : decode cL_holds 472 = .ok (.istore 21, 2) := by decide +kernel
theorem dL_holds_474 : decode cL_holds 474 = .ok (.iload_n 3, 1) := by decide +kernel
theorem dL_holds_475 : decode cL_holds 475 = .ok (.iload 21, 2) := by decide +kernel
theorem dL_holds_477 : decode cL_holds 477 = .ok (.ifCond .ge 7, 3) := by decide +kernel
theorem dL_holds_480 : decode cL_holds 480 = .ok (.iconst 1, 1) := by decide +kernel
theorem dL_holds_481 : decode cL_holds 481 = .ok (.goto 4, 3) := by decide +kernel
theorem dL_holds_484 : decode cL_holds 484 = .ok (.iconst 0, 1) := by decide +kernel
theorem dL_holds_485 : decode cL_holds 485 = .ok (.iadd, 1) := by decide +kernel
theorem dL_holds_486 : decode cL_holds 486 = .ok (.istore_n 3, 1) := by decide +kernel
theorem dL_holds_487 : decode cL_holds 487 = .ok (.iload 7, 2) := by decide +kernel
theorem dL_holds_489 : decode cL_holds 489 = .ok (.ifCond .eq 76, 3) := by decide +kernel
theorem dL_holds_492 : decode cL_holds 492 = .ok (.iload 13, 2) := by decide +kernel
theorem dL_holds_494 : decode cL_holds 494 = .ok (.iload 18, 2) := by decide +kernel
theorem dL_holds_496 : decode cL_holds 496 = .ok (.if_icmp .gt 69, 3) := by decide +kernel
theorem dL_holds_499 : decode cL_holds 499 = .ok (.iload 13, 2) := by decide +kernel
theorem dL_holds_501 : decode cL_holds 501 = .ok (.ifCond .lt 64, 3) := by decide +kernel
theorem dL_holds_504 : decode cL_holds 504 = .ok (.aload_n 0, 1) := by decide +kernel
theorem dL_holds_505 : decode cL_holds 505 = .ok (.iload 11, 2) := by decide +kernel
theorem dL_holds_507 : decode cL_holds 507 = .ok (.invokevirtual 104, 3) := by decide +kernel
theorem dL_holds_510 : decode cL_holds 510 = .ok (.iload 21, 2) := by decide +kernel
theorem dL_holds_512 : decode cL_holds 512 = .ok (.if_icmp .ne 53, 3) := by decide +kernel
theorem dL_holds_515 : decode cL_holds 515 = .ok (.aload_n 0, 1) := by decide +kernel
theorem dL_holds_516 : decode cL_holds 516 = .ok (.iload 11, 2) := by decide +kernel
theorem dL_holds_518 : decode cL_holds 518 = .ok (.invokevirtual 107, 3) := by decide +kernel
theorem dL_holds_521 : decode cL_holds 521 = .ok (.iload 21, 2) := by decide +kernel
theorem dL_holds_523 : decode cL_holds 523 = .ok (.if_icmp .ne 42, 3) := by decide +kernel
theorem dL_holds_526 : decode cL_holds 526 = .ok (.aload_n 0, 1) := by decide +kernel
theorem dL_holds_527 : decode cL_holds 527 = .ok (.iload 11, 2) := by decide +kernel
theorem dL_holds_529 : decode cL_holds 529 = .ok (.invokestatic 186, 3) := by decide +kernel
theorem dL_holds_532 : decode cL_holds 532 = .ok (.iload 13, 2) := by decide +kernel
theorem dL_holds_534 : decode cL_holds 534 = .ok (.ifCond .ne 8, 3) := by decide +kernel
theorem dL_holds_537 : decode cL_holds 537 = .ok (.ldc 121, 2) := by decide +kernel
theorem dL_holds_539 : decode cL_holds 539 = .ok (.goto 18, 3) := by decide +kernel
theorem dL_holds_542 : decode cL_holds 542 = .ok (.aload_n 0, 1) := by decide +kernel
theorem dL_holds_543 : decode cL_holds 543 = .ok (.iload 11, 2) := by decide +kernel
theorem dL_holds_545 : decode cL_holds 545 = .ok (.invokevirtual 110, 3) := by decide +kernel
theorem dL_holds_548 : decode cL_holds 548 = .ok (.l2f, 1) := by decide +kernel
theorem dL_holds_549 : decode cL_holds 549 = .ok (.aload_n 0, 1) := by decide +kernel
theorem dL_holds_550 : decode cL_holds 550 = .ok (.iload 11, 2) := by decide +kernel
theorem dL_holds_552 : decode cL_holds 552 = .ok (.invokevirtual 113, 3) := by decide +kernel
theorem dL_holds_555 : decode cL_holds 555 = .ok (.l2f, 1) := by decide +kernel
theorem dL_holds_556 : decode cL_holds 556 = .ok (.fdiv, 1) := by decide +kernel
theorem dL_holds_557 : decode cL_holds 557 = .ok (.fcmp .l, 1) := by decide +kernel
theorem dL_holds_558 : decode cL_holds 558 = .ok (.ifCond .ne 7, 3) := by decide +kernel
theorem dL_holds_561 : decode cL_holds 561 = .ok (.iconst 1, 1) := by decide +kernel
theorem dL_holds_562 : decode cL_holds 562 = .ok (.goto 4, 3) := by decide +kernel
theorem dL_holds_565 : decode cL_holds 565 = .ok (.iconst 0, 1) := by decide +kernel
theorem dL_holds_566 : decode cL_holds 566 = .ok (.istore 7, 2) := by decide +kernel
theorem dL_holds_568 : decode cL_holds 568 = .ok (.iinc 11 (-1), 3) := by decide +kernel
theorem dL_holds_571 : decode cL_holds 571 = .ok (.goto (-420), 3) := by decide +kernel
theorem dL_holds_574 : decode cL_holds 574 = .ok (.iload 5, 2) := by decide +kernel
theorem dL_holds_576 : decode cL_holds 576 = .ok (.ifCond .ne 7, 3) := by decide +kernel
theorem dL_holds_579 : decode cL_holds 579 = .ok (.iconst 0, 1) := by decide +kernel
theorem dL_holds_580 : decode cL_holds 580 = .ok (.goto 11, 3) := by decide +kernel
theorem dL_holds_583 : decode cL_holds 583 = .ok (.iload_n 1, 1) := by decide +kernel
theorem dL_holds_584 : decode cL_holds 584 = .ok (.iconst 5, 1) := by decide +kernel
theorem dL_holds_585 : decode cL_holds 585 = .ok (.ishr, 1) := by decide +kernel
theorem dL_holds_586 : decode cL_holds 586 = .ok (.iload 5, 2) := by decide +kernel
theorem dL_holds_588 : decode cL_holds 588 = .ok (.invokestatic 156, 3) := by decide +kernel
theorem dL_holds_591 : decode cL_holds 591 = .ok (.istore 11, 2) := by decide +kernel
theorem dL_holds_593 : decode cL_holds 593 = .ok (.iload 7, 2) := by decide +kernel
theorem dL_holds_595 : decode cL_holds 595 = .ok (.ifCond .eq 126, 3) := by decide +kernel
theorem dL_holds_598 : decode cL_holds 598 = .ok (.iload 5, 2) := by decide +kernel
theorem dL_holds_600 : decode cL_holds 600 = .ok (.ifCond .le 121, 3) := by decide +kernel
theorem dL_holds_603 : decode cL_holds 603 = .ok (.aload_n 0, 1) := by decide +kernel
theorem dL_holds_604 : decode cL_holds 604 = .ok (.iload 11, 2) := by decide +kernel
theorem dL_holds_606 : decode cL_holds 606 = .ok (.invokevirtual 50, 3) := by decide +kernel
theorem dL_holds_609 : decode cL_holds 609 = .ok (.lstore 12, 2) := by decide +kernel
theorem dL_holds_611 : decode cL_holds 611 = .ok (.lload 12, 2) := by decide +kernel
theorem dL_holds_613 : decode cL_holds 613 = .ok (.aload_n 0, 1) := by decide +kernel
theorem dL_holds_614 : decode cL_holds 614 = .ok (.iload 11, 2) := by decide +kernel
theorem dL_holds_616 : decode cL_holds 616 = .ok (.invokevirtual 55, 3) := by decide +kernel
theorem dL_holds_619 : decode cL_holds 619 = .ok (.lcmp, 1) := by decide +kernel
theorem dL_holds_620 : decode cL_holds 620 = .ok (.ifCond .ne 98, 3) := by decide +kernel
theorem dL_holds_623 : decode cL_holds 623 = .ok (.aload_n 0, 1) := by decide +kernel
theorem dL_holds_624 : decode cL_holds 624 = .ok (.aload_n 0, 1) := by decide +kernel
theorem dL_holds_625 : decode cL_holds 625 = .ok (.iload 11, 2) := by decide +kernel
theorem dL_holds_627 : decode cL_holds 627 = .ok (.invokevirtual 58, 3) := by decide +kernel
theorem dL_holds_630 : decode cL_holds 630 = .ok (.invokevirtual 42, 3) := by decide +kernel
theorem dL_holds_633 : decode cL_holds 633 = .ok (.ifCond .eq 85, 3) := by decide +kernel
theorem dL_holds_636 : decode cL_holds 636 = .ok (.aload_n 0, 1) := by decide +kernel
theorem dL_holds_637 : decode cL_holds 637 = .ok (.lload 12, 2) := by decide +kernel
theorem dL_holds_639 : decode cL_holds 639 = .ok (.invokevirtual 46, 3) := by decide +kernel
theorem dL_holds_642 : decode cL_holds 642 = .ok (.iload 11, 2) := by decide +kernel
theorem dL_holds_644 : decode cL_holds 644 = .ok (.if_icmp .le 74, 3) := by decide +kernel
theorem dL_holds_647 : decode cL_holds 647 = .ok (.aload_n 0, 1) := by decide +kernel
theorem dL_holds_648 : decode cL_holds 648 = .ok (.lload 12, 2) := by decide +kernel
theorem dL_holds_650 : decode cL_holds 650 = .ok (.lconst 1, 1) := by decide +kernel
theorem dL_holds_651 : decode cL_holds 651 = .ok (.lsub, 1) := by decide +kernel
theorem dL_holds_652 : decode cL_holds 652 = .ok (.invokevirtual 46, 3) := by decide +kernel
theorem dL_holds_655 : decode cL_holds 655 = .ok (.iload 11, 2) := by decide +kernel
theorem dL_holds_657 : decode cL_holds 657 = .ok (.if_icmp .gt 61, 3) := by decide +kernel
theorem dL_holds_660 : decode cL_holds 660 = .ok (.iload 11, 2) := by decide +kernel
theorem dL_holds_662 : decode cL_holds 662 = .ok (.iload 5, 2) := by decide +kernel
theorem dL_holds_664 : decode cL_holds 664 = .ok (.iconst 1, 1) := by decide +kernel
theorem dL_holds_665 : decode cL_holds 665 = .ok (.isub, 1) := by decide +kernel
theorem dL_holds_666 : decode cL_holds 666 = .ok (.if_icmp .eq 48, 3) := by decide +kernel
theorem dL_holds_669 : decode cL_holds 669 = .ok (.aload_n 0, 1) := by decide +kernel
theorem dL_holds_670 : decode cL_holds 670 = .ok (.iload 11, 2) := by decide +kernel
theorem dL_holds_672 : decode cL_holds 672 = .ok (.iconst 1, 1) := by decide +kernel
theorem dL_holds_673 : decode cL_holds 673 = .ok (.iadd, 1) := by decide +kernel
theorem dL_holds_674 : decode cL_holds 674 = .ok (.invokevirtual 50, 3) := by decide +kernel
theorem dL_holds_677 : decode cL_holds 677 = .ok (.lload 12, 2) := by decide +kernel
theorem dL_holds_679 : decode cL_holds 679 = .ok (.lcmp, 1) := by decide +kernel
theorem dL_holds_680 : decode cL_holds 680 = .ok (.ifCond .gt 34, 3) := by decide +kernel
theorem dL_holds_683 : decode cL_holds 683 = .ok (.aload_n 0, 1) := by decide +kernel
theorem dL_holds_684 : decode cL_holds 684 = .ok (.iload 11, 2) := by decide +kernel
theorem dL_holds_686 : decode cL_holds 686 = .ok (.iconst 1, 1) := by decide +kernel
theorem dL_holds_687 : decode cL_holds 687 = .ok (.iadd, 1) := by decide +kernel
theorem dL_holds_688 : decode cL_holds 688 = .ok (.invokevirtual 50, 3) := by decide +kernel
theorem dL_holds_691 : decode cL_holds 691 = .ok (.lload 12, 2) := by decide +kernel
theorem dL_holds_693 : decode cL_holds 693 = .ok (.lcmp, 1) := by decide +kernel
theorem dL_holds_694 : decode cL_holds 694 = .ok (.ifCond .ne 24, 3) := by decide +kernel
theorem dL_holds_697 : decode cL_holds 697 = .ok (.aload_n 0, 1) := by decide +kernel
theorem dL_holds_698 : decode cL_holds 698 = .ok (.iload 11, 2) := by decide +kernel
theorem dL_holds_700 : decode cL_holds 700 = .ok (.iconst 1, 1) := by decide +kernel
theorem dL_holds_701 : decode cL_holds 701 = .ok (.iadd, 1) := by decide +kernel
theorem dL_holds_702 : decode cL_holds 702 = .ok (.invokevirtual 58, 3) := by decide +kernel
theorem dL_holds_705 : decode cL_holds 705 = .ok (.aload_n 0, 1) := by decide +kernel
theorem dL_holds_706 : decode cL_holds 706 = .ok (.iload 11, 2) := by decide +kernel
theorem dL_holds_708 : decode cL_holds 708 = .ok (.invokevirtual 58, 3) := by decide +kernel
theorem dL_holds_711 : decode cL_holds 711 = .ok (.if_icmp .le 7, 3) := by decide +kernel
theorem dL_holds_714 : decode cL_holds 714 = .ok (.iconst 1, 1) := by decide +kernel
theorem dL_holds_715 : decode cL_holds 715 = .ok (.goto 4, 3) := by decide +kernel
theorem dL_holds_718 : decode cL_holds 718 = .ok (.iconst 0, 1) := by decide +kernel
theorem dL_holds_719 : decode cL_holds 719 = .ok (.istore 7, 2) := by decide +kernel
theorem dL_holds_721 : decode cL_holds 721 = .ok (.iconst 2, 1) := by decide +kernel
theorem dL_holds_722 : decode cL_holds 722 = .ok (.iload_n 1, 1) := by decide +kernel
theorem dL_holds_723 : decode cL_holds 723 = .ok (.iconst 3, 1) := by decide +kernel
theorem dL_holds_724 : decode cL_holds 724 = .ok (.ishr, 1) := by decide +kernel
theorem dL_holds_725 : decode cL_holds 725 = .ok (.bipush 59, 2) := by decide +kernel
theorem dL_holds_727 : decode cL_holds 727 = .ok (.invokestatic 156, 3) := by decide +kernel
theorem dL_holds_730 : decode cL_holds 730 = .ok (.iadd, 1) := by decide +kernel
theorem dL_holds_731 : decode cL_holds 731 = .ok (.istore 12, 2) := by decide +kernel
theorem dL_holds_733 : decode cL_holds 733 = .ok (.iload 7, 2) := by decide +kernel
theorem dL_holds_735 : decode cL_holds 735 = .ok (.ifCond .eq 114, 3) := by decide +kernel
theorem dL_holds_738 : decode cL_holds 738 = .ok (.iload 5, 2) := by decide +kernel
theorem dL_holds_740 : decode cL_holds 740 = .ok (.iload 6, 2) := by decide +kernel
theorem dL_holds_742 : decode cL_holds 742 = .ok (.if_icmp .ne 107, 3) := by decide +kernel
theorem dL_holds_745 : decode cL_holds 745 = .ok (.aload_n 0, 1) := by decide +kernel
theorem dL_holds_746 : decode cL_holds 746 = .ok (.lload 8, 2) := by decide +kernel
theorem dL_holds_748 : decode cL_holds 748 = .ok (.invokevirtual 46, 3) := by decide +kernel
theorem dL_holds_751 : decode cL_holds 751 = .ok (.iload 10, 2) := by decide +kernel
theorem dL_holds_753 : decode cL_holds 753 = .ok (.if_icmp .ne 96, 3) := by decide +kernel
theorem dL_holds_756 : decode cL_holds 756 = .ok (.aload_n 0, 1) := by decide +kernel
theorem dL_holds_757 : decode cL_holds 757 = .ok (.ldc2_w 134, 3) := by decide +kernel
theorem dL_holds_760 : decode cL_holds 760 = .ok (.invokevirtual 46, 3) := by decide +kernel
theorem dL_holds_763 : decode cL_holds 763 = .ok (.iload 5, 2) := by decide +kernel
theorem dL_holds_765 : decode cL_holds 765 = .ok (.if_icmp .ne 84, 3) := by decide +kernel
theorem dL_holds_768 : decode cL_holds 768 = .ok (.iload_n 2, 1) := by decide +kernel
theorem dL_holds_769 : decode cL_holds 769 = .ok (.aload_n 0, 1) := by decide +kernel
theorem dL_holds_770 : decode cL_holds 770 = .ok (.invokevirtual 189, 3) := by decide +kernel
theorem dL_holds_773 : decode cL_holds 773 = .ok (.if_icmp .ne 76, 3) := by decide +kernel
theorem dL_holds_776 : decode cL_holds 776 = .ok (.iload_n 2, 1) := by decide +kernel
theorem dL_holds_777 : decode cL_holds 777 = .ok (.bipush 8, 2) := by decide +kernel
theorem dL_holds_779 : decode cL_holds 779 = .ok (.if_icmp .gt 70, 3) := by decide +kernel
theorem dL_holds_782 : decode cL_holds 782 = .ok (.iload_n 3, 1) := by decide +kernel
theorem dL_holds_783 : decode cL_holds 783 = .ok (.aload_n 0, 1) := by decide +kernel
theorem dL_holds_784 : decode cL_holds 784 = .ok (.invokevirtual 192, 3) := by decide +kernel
theorem dL_holds_787 : decode cL_holds 787 = .ok (.if_icmp .ne 62, 3) := by decide +kernel
theorem dL_holds_790 : decode cL_holds 790 = .ok (.aload_n 0, 1) := by decide +kernel
theorem dL_holds_791 : decode cL_holds 791 = .ok (.iload 12, 2) := by decide +kernel
theorem dL_holds_793 : decode cL_holds 793 = .ok (.invokevirtual 33, 3) := by decide +kernel
theorem dL_holds_796 : decode cL_holds 796 = .ok (.iload 12, 2) := by decide +kernel
theorem dL_holds_798 : decode cL_holds 798 = .ok (.invokestatic 138, 3) := by decide +kernel
theorem dL_holds_801 : decode cL_holds 801 = .ok (.ifCond .eq 7, 3) := by decide +kernel
theorem dL_holds_804 : decode cL_holds 804 = .ok (.iconst 1, 1) := by decide +kernel
theorem dL_holds_805 : decode cL_holds 805 = .ok (.goto 27, 3) := by decide +kernel
theorem dL_holds_808 : decode cL_holds 808 = .ok (.aload_n 0, 1) := by decide +kernel
theorem dL_holds_809 : decode cL_holds 809 = .ok (.iload 12, 2) := by decide +kernel
theorem dL_holds_811 : decode cL_holds 811 = .ok (.invokevirtual 42, 3) := by decide +kernel
theorem dL_holds_814 : decode cL_holds 814 = .ok (.ifCond .eq 7, 3) := by decide +kernel
theorem dL_holds_817 : decode cL_holds 817 = .ok (.iconst 2, 1) := by decide +kernel
theorem dL_holds_818 : decode cL_holds 818 = .ok (.goto 14, 3) := by decide +kernel
theorem dL_holds_821 : decode cL_holds 821 = .ok (.iload_n 2, 1) := by decide +kernel
theorem dL_holds_822 : decode cL_holds 822 = .ok (.bipush 8, 2) := by decide +kernel
theorem dL_holds_824 : decode cL_holds 824 = .ok (.if_icmp .ne 7, 3) := by decide +kernel
theorem dL_holds_827 : decode cL_holds 827 = .ok (.iconst 3, 1) := by decide +kernel
theorem dL_holds_828 : decode cL_holds 828 = .ok (.goto 4, 3) := by decide +kernel
theorem dL_holds_831 : decode cL_holds 831 = .ok (.iconst 0, 1) := by decide +kernel
theorem dL_holds_832 : decode cL_holds 832 = .ok (.if_icmp .ne 17, 3) := by decide +kernel
theorem dL_holds_835 : decode cL_holds 835 = .ok (.aload_n 0, 1) := by decide +kernel
theorem dL_holds_836 : decode cL_holds 836 = .ok (.iload 12, 2) := by decide +kernel
theorem dL_holds_838 : decode cL_holds 838 = .ok (.iload_n 1, 1) := by decide +kernel
theorem dL_holds_839 : decode cL_holds 839 = .ok (.invokestatic 195, 3) := by decide +kernel
theorem dL_holds_842 : decode cL_holds 842 = .ok (.ifCond .eq 7, 3) := by decide +kernel
theorem dL_holds_845 : decode cL_holds 845 = .ok (.iconst 1, 1) := by decide +kernel
theorem dL_holds_846 : decode cL_holds 846 = .ok (.goto 4, 3) := by decide +kernel
theorem dL_holds_849 : decode cL_holds 849 = .ok (.iconst 0, 1) := by decide +kernel
theorem dL_holds_850 : decode cL_holds 850 = .ok (.ireturn, 1) := by decide +kernel
theorem dL_reads_0 : decode cL_reads 0 = .ok (.iload_n 1, 1) := by decide +kernel
theorem dL_reads_1 : decode cL_reads 1 = .ok (.bipush 13, 2) := by decide +kernel
theorem dL_reads_3 : decode cL_reads 3 = .ok (.invokestatic 156, 3) := by decide +kernel
theorem dL_reads_6 : decode cL_reads 6 = .ok (.istore_n 3, 1) := by decide +kernel
theorem dL_reads_7 : decode cL_reads 7 = .ok (.aload_n 0, 1) := by decide +kernel
theorem dL_reads_8 : decode cL_reads 8 = .ok (.invokevirtual 199, 3) := by decide +kernel
theorem dL_reads_11 : decode cL_reads 11 = .ok (.ifCond .lt 7, 3) := by decide +kernel
theorem dL_reads_14 : decode cL_reads 14 = .ok (.iconst 1, 1) := by decide +kernel
theorem dL_reads_15 : decode cL_reads 15 = .ok (.goto 4, 3) := by decide +kernel
theorem dL_reads_18 : decode cL_reads 18 = .ok (.iconst 0, 1) := by decide +kernel
theorem dL_reads_19 : decode cL_reads 19 = .ok (.istore 4, 2) := by decide +kernel
theorem dL_reads_21 : decode cL_reads 21 = .ok (.iload_n 1, 1) := by decide +kernel
theorem dL_reads_22 : decode cL_reads 22 = .ok (.bipush 21, 2) := by decide +kernel
theorem dL_reads_24 : decode cL_reads 24 = .ok (.ishr, 1) := by decide +kernel
theorem dL_reads_25 : decode cL_reads 25 = .ok (.bipush 9, 2) := by decide +kernel
theorem dL_reads_27 : decode cL_reads 27 = .ok (.invokestatic 156, 3) := by decide +kernel
theorem dL_reads_30 : decode cL_reads 30 = .ok (.ifCond .ne 7, 3) := by decide +kernel
theorem dL_reads_33 : decode cL_reads 33 = .ok (.iconst 1, 1) := by decide +kernel
theorem dL_reads_34 : decode cL_reads 34 = .ok (.goto 4, 3) := by decide +kernel
theorem dL_reads_37 : decode cL_reads 37 = .ok (.iconst 0, 1) := by decide +kernel
theorem dL_reads_38 : decode cL_reads 38 = .ok (.istore 5, 2) := by decide +kernel
theorem dL_reads_40 : decode cL_reads 40 = .ok (.iconst 2, 1) := by decide +kernel
theorem dL_reads_41 : decode cL_reads 41 = .ok (.iload_n 2, 1) := by decide +kernel
theorem dL_reads_42 : decode cL_reads 42 = .ok (.bipush 59, 2) := by decide +kernel
theorem dL_reads_44 : decode cL_reads 44 = .ok (.invokestatic 156, 3) := by decide +kernel
theorem dL_reads_47 : decode cL_reads 47 = .ok (.iadd, 1) := by decide +kernel
theorem dL_reads_48 : decode cL_reads 48 = .ok (.istore 6, 2) := by decide +kernel
theorem dL_reads_50 : decode cL_reads 50 = .ok (.iconst 0, 1) := by decide +kernel
theorem dL_reads_51 : decode cL_reads 51 = .ok (.istore 7, 2) := by decide +kernel
theorem dL_reads_53 : decode cL_reads 53 = .ok (.iload 7, 2) := by decide +kernel
theorem dL_reads_55 : decode cL_reads 55 = .ok (.iload_n 3, 1) := by decide +kernel
theorem dL_reads_56 : decode cL_reads 56 = .ok (.if_icmp .ge 248, 3) := by decide +kernel
theorem dL_reads_59 : decode cL_reads 59 = .ok (.iload 4, 2) := by decide +kernel
theorem dL_reads_61 : decode cL_reads 61 = .ok (.ifCond .eq 243, 3) := by decide +kernel
theorem dL_reads_64 : decode cL_reads 64 = .ok (.iload_n 1, 1) := by decide +kernel
theorem dL_reads_65 : decode cL_reads 65 = .ok (.iload 7, 2) := by decide +kernel
theorem dL_reads_67 : decode cL_reads 67 = .ok (.ishr, 1) := by decide +kernel
theorem dL_reads_68 : decode cL_reads 68 = .ok (.iload_n 2, 1) := by decide +kernel
theorem dL_reads_69 : decode cL_reads 69 = .ok (.bipush 13, 2) := by decide +kernel
theorem dL_reads_71 : decode cL_reads 71 = .ok (.iload 7, 2) := by decide +kernel
theorem dL_reads_73 : decode cL_reads 73 = .ok (.isub, 1) := by decide +kernel
theorem dL_reads_74 : decode cL_reads 74 = .ok (.ishr, 1) := by decide +kernel
theorem dL_reads_75 : decode cL_reads 75 = .ok (.iadd, 1) := by decide +kernel
theorem dL_reads_76 : decode cL_reads 76 = .ok (.sipush 16383, 3) := by decide +kernel
theorem dL_reads_79 : decode cL_reads 79 = .ok (.iand, 1) := by decide +kernel
theorem dL_reads_80 : decode cL_reads 80 = .ok (.istore 8, 2) := by decide +kernel
theorem dL_reads_82 : decode cL_reads 82 = .ok (.iload 8, 2) := by decide +kernel
theorem dL_reads_84 : decode cL_reads 84 = .ok (.bipush 13, 2) := by decide +kernel
theorem dL_reads_86 : decode cL_reads 86 = .ok (.irem, 1) := by decide +kernel
theorem dL_reads_87 : decode cL_reads 87 = .ok (.istore 9, 2) := by decide +kernel
theorem dL_reads_89 : decode cL_reads 89 = .ok (.iload 8, 2) := by decide +kernel
theorem dL_reads_91 : decode cL_reads 91 = .ok (.iconst 5, 1) := by decide +kernel
theorem dL_reads_92 : decode cL_reads 92 = .ok (.irem, 1) := by decide +kernel
theorem dL_reads_93 : decode cL_reads 93 = .ok (.ifCond .ne 26, 3) := by decide +kernel
theorem dL_reads_96 : decode cL_reads 96 = .ok (.iload 5, 2) := by decide +kernel
theorem dL_reads_98 : decode cL_reads 98 = .ok (.ifCond .eq 11, 3) := by decide +kernel
theorem dL_reads_101 : decode cL_reads 101 = .ok (.iload 8, 2) := by decide +kernel
theorem dL_reads_103 : decode cL_reads 103 = .ok (.bipush 64, 2) := by decide +kernel
theorem dL_reads_105 : decode cL_reads 105 = .ok (.irem, 1) := by decide +kernel
theorem dL_reads_106 : decode cL_reads 106 = .ok (.goto 69, 3) := by decide +kernel
theorem dL_reads_109 : decode cL_reads 109 = .ok (.iconst 2, 1) := by decide +kernel
theorem dL_reads_110 : decode cL_reads 110 = .ok (.iload 8, 2) := by decide +kernel
theorem dL_reads_112 : decode cL_reads 112 = .ok (.bipush 59, 2) := by decide +kernel
theorem dL_reads_114 : decode cL_reads 114 = .ok (.irem, 1) := by decide +kernel
theorem dL_reads_115 : decode cL_reads 115 = .ok (.iadd, 1) := by decide +kernel
theorem dL_reads_116 : decode cL_reads 116 = .ok (.goto 59, 3) := by decide +kernel
theorem dL_reads_119 : decode cL_reads 119 = .ok (.aload_n 0, 1) := by decide +kernel
theorem dL_reads_120 : decode cL_reads 120 = .ok (.iload 6, 2) := by decide +kernel
theorem dL_reads_122 : decode cL_reads 122 = .ok (.iconst 2, 1) := by decide +kernel
theorem dL_reads_123 : decode cL_reads 123 = .ok (.if_icmp .lt 10, 3) := by decide +kernel
theorem dL_reads_126 : decode cL_reads 126 = .ok (.iload 6, 2) := by decide +kernel
theorem dL_reads_128 : decode cL_reads 128 = .ok (.bipush 60, 2) := by decide +kernel
theorem dL_reads_130 : decode cL_reads 130 = .ok (.if_icmp .le 7, 3) := by decide +kernel
theorem dL_reads_133 : decode cL_reads 133 = .ok (.iconst 2, 1) := by decide +kernel
theorem dL_reads_134 : decode cL_reads 134 = .ok (.goto 5, 3) := by decide +kernel
theorem dL_reads_137 : decode cL_reads 137 = .ok (.iload 6, 2) := by decide +kernel
theorem dL_reads_139 : decode cL_reads 139 = .ok (.invokestatic 167, 3) := by decide +kernel
theorem dL_reads_142 : decode cL_reads 142 = .ok (.bipush (-104), 2) := by decide +kernel
theorem dL_reads_144 : decode cL_reads 144 = .ok (.if_icmp .ne 8, 3) := by decide +kernel
theorem dL_reads_147 : decode cL_reads 147 = .ok (.iload 6, 2) := by decide +kernel
theorem dL_reads_149 : decode cL_reads 149 = .ok (.goto 26, 3) := by decide +kernel
theorem dL_reads_152 : decode cL_reads 152 = .ok (.aload_n 0, 1) := by decide +kernel
theorem dL_reads_153 : decode cL_reads 153 = .ok (.iload 6, 2) := by decide +kernel
theorem dL_reads_155 : decode cL_reads 155 = .ok (.iconst 2, 1) := by decide +kernel
theorem dL_reads_156 : decode cL_reads 156 = .ok (.if_icmp .lt 10, 3) := by decide +kernel
theorem dL_reads_159 : decode cL_reads 159 = .ok (.iload 6, 2) := by decide +kernel
theorem dL_reads_161 : decode cL_reads 161 = .ok (.bipush 60, 2) := by decide +kernel
theorem dL_reads_163 : decode cL_reads 163 = .ok (.if_icmp .le 7, 3) := by decide +kernel
theorem dL_reads_166 : decode cL_reads 166 = .ok (.iconst 2, 1) := by decide +kernel
theorem dL_reads_167 : decode cL_reads 167 = .ok (.goto 5, 3) := by decide +kernel
theorem dL_reads_170 : decode cL_reads 170 = .ok (.iload 6, 2) := by decide +kernel
theorem dL_reads_172 : decode cL_reads 172 = .ok (.invokevirtual 98, 3) := by decide +kernel
theorem dL_reads_175 : decode cL_reads 175 = .ok (.istore 6, 2) := by decide +kernel
theorem dL_reads_177 : decode cL_reads 177 = .ok (.aload_n 0, 1) := by decide +kernel
theorem dL_reads_178 : decode cL_reads 178 = .ok (.iload 9, 2) := by decide +kernel
theorem dL_reads_180 : decode cL_reads 180 = .ok (.iconst 3, 1) := by decide +kernel
theorem dL_reads_181 : decode cL_reads 181 = .ok (.if_icmp .ge 8, 3) := by decide +kernel
theorem dL_reads_184 : decode cL_reads 184 = .ok (.bipush 108, 2) := by decide +kernel
theorem dL_reads_186 : decode cL_reads 186 = .ok (.goto 28, 3) := by decide +kernel
theorem dL_reads_189 : decode cL_reads 189 = .ok (.iload 9, 2) := by decide +kernel
theorem dL_reads_191 : decode cL_reads 191 = .ok (.iconst 4, 1) := by decide +kernel
theorem dL_reads_192 : decode cL_reads 192 = .ok (.if_icmp .ge 8, 3) := by decide +kernel
theorem dL_reads_195 : decode cL_reads 195 = .ok (.bipush 116, 2) := by decide +kernel
theorem dL_reads_197 : decode cL_reads 197 = .ok (.goto 17, 3) := by decide +kernel
theorem dL_reads_200 : decode cL_reads 200 = .ok (.iload 9, 2) := by decide +kernel
theorem dL_reads_202 : decode cL_reads 202 = .ok (.bipush 10, 2) := by decide +kernel
theorem dL_reads_204 : decode cL_reads 204 = .ok (.if_icmp .ge 8, 3) := by decide +kernel
theorem dL_reads_207 : decode cL_reads 207 = .ok (.bipush 109, 2) := by decide +kernel
theorem dL_reads_209 : decode cL_reads 209 = .ok (.goto 5, 3) := by decide +kernel
theorem dL_reads_212 : decode cL_reads 212 = .ok (.bipush 98, 2) := by decide +kernel
theorem dL_reads_214 : decode cL_reads 214 = .ok (.invokevirtual 68, 3) := by decide +kernel
theorem dL_reads_217 : decode cL_reads 217 = .ok (.ifCond .le 78, 3) := by decide +kernel
theorem dL_reads_220 : decode cL_reads 220 = .ok (.iload 6, 2) := by decide +kernel
theorem dL_reads_222 : decode cL_reads 222 = .ok (.bipush 10, 2) := by decide +kernel
theorem dL_reads_224 : decode cL_reads 224 = .ok (.if_icmp .lt 18, 3) := by decide +kernel
theorem dL_reads_227 : decode cL_reads 227 = .ok (.aload_n 0, 1) := by decide +kernel
theorem dL_reads_228 : decode cL_reads 228 = .ok (.bipush 48, 2) := by decide +kernel
theorem dL_reads_230 : decode cL_reads 230 = .ok (.iload 6, 2) := by decide +kernel
theorem dL_reads_232 : decode cL_reads 232 = .ok (.bipush 10, 2) := by decide +kernel
theorem dL_reads_234 : decode cL_reads 234 = .ok (.idiv, 1) := by decide +kernel
theorem dL_reads_235 : decode cL_reads 235 = .ok (.iadd, 1) := by decide +kernel
theorem dL_reads_236 : decode cL_reads 236 = .ok (.invokevirtual 68, 3) := by decide +kernel
theorem dL_reads_239 : decode cL_reads 239 = .ok (.ifCond .le 56, 3) := by decide +kernel
theorem dL_reads_242 : decode cL_reads 242 = .ok (.aload_n 0, 1) := by decide +kernel
theorem dL_reads_243 : decode cL_reads 243 = .ok (.bipush 48, 2) := by decide +kernel
theorem dL_reads_245 : decode cL_reads 245 = .ok (.iload 6, 2) := by decide +kernel
theorem dL_reads_247 : decode cL_reads 247 = .ok (.bipush 10, 2) := by decide +kernel
theorem dL_reads_249 : decode cL_reads 249 = .ok (.irem, 1) := by decide +kernel
theorem dL_reads_250 : decode cL_reads 250 = .ok (.iadd, 1) := by decide +kernel
theorem dL_reads_251 : decode cL_reads 251 = .ok (.invokevirtual 68, 3) := by decide +kernel
theorem dL_reads_254 : decode cL_reads 254 = .ok (.ifCond .le 41, 3) := by decide +kernel
theorem dL_reads_257 : decode cL_reads 257 = .ok (.aload_n 0, 1) := by decide +kernel
theorem dL_reads_258 : decode cL_reads 258 = .ok (.iload 7, 2) := by decide +kernel
theorem dL_reads_260 : decode cL_reads 260 = .ok (.iload_n 3, 1) := by decide +kernel
theorem dL_reads_261 : decode cL_reads 261 = .ok (.iconst 1, 1) := by decide +kernel
theorem dL_reads_262 : decode cL_reads 262 = .ok (.isub, 1) := by decide +kernel
theorem dL_reads_263 : decode cL_reads 263 = .ok (.if_icmp .ne 20, 3) := by decide +kernel
theorem dL_reads_266 : decode cL_reads 266 = .ok (.iload_n 1, 1) := by decide +kernel
theorem dL_reads_267 : decode cL_reads 267 = .ok (.bipush 26, 2) := by decide +kernel
theorem dL_reads_269 : decode cL_reads 269 = .ok (.ishr, 1) := by decide +kernel
theorem dL_reads_270 : decode cL_reads 270 = .ok (.bipush 7, 2) := by decide +kernel
theorem dL_reads_272 : decode cL_reads 272 = .ok (.invokestatic 156, 3) := by decide +kernel
theorem dL_reads_275 : decode cL_reads 275 = .ok (.ifCond .ne 8, 3) := by decide +kernel
theorem dL_reads_278 : decode cL_reads 278 = .ok (.bipush 46, 2) := by decide +kernel
theorem dL_reads_280 : decode cL_reads 280 = .ok (.goto 5, 3) := by decide +kernel
theorem dL_reads_283 : decode cL_reads 283 = .ok (.bipush 59, 2) := by decide +kernel
theorem dL_reads_285 : decode cL_reads 285 = .ok (.invokevirtual 68, 3) := by decide +kernel
theorem dL_reads_288 : decode cL_reads 288 = .ok (.ifCond .le 7, 3) := by decide +kernel
theorem dL_reads_291 : decode cL_reads 291 = .ok (.iconst 1, 1) := by decide +kernel
theorem dL_reads_292 : decode cL_reads 292 = .ok (.goto 4, 3) := by decide +kernel
theorem dL_reads_295 : decode cL_reads 295 = .ok (.iconst 0, 1) := by decide +kernel
theorem dL_reads_296 : decode cL_reads 296 = .ok (.istore 4, 2) := by decide +kernel
theorem dL_reads_298 : decode cL_reads 298 = .ok (.iinc 7 1, 3) := by decide +kernel
theorem dL_reads_301 : decode cL_reads 301 = .ok (.goto (-248), 3) := by decide +kernel
theorem dL_reads_304 : decode cL_reads 304 = .ok (.aload_n 0, 1) := by decide +kernel
theorem dL_reads_305 : decode cL_reads 305 = .ok (.invokevirtual 162, 3) := by decide +kernel
theorem dL_reads_308 : decode cL_reads 308 = .ok (.istore 7, 2) := by decide +kernel
theorem dL_reads_310 : decode cL_reads 310 = .ok (.aload_n 0, 1) := by decide +kernel
theorem dL_reads_311 : decode cL_reads 311 = .ok (.invokestatic 202, 3) := by decide +kernel
theorem dL_reads_314 : decode cL_reads 314 = .ok (.istore 8, 2) := by decide +kernel
theorem dL_reads_316 : decode cL_reads 316 = .ok (.aload_n 0, 1) := by decide +kernel
theorem dL_reads_317 : decode cL_reads 317 = .ok (.invokestatic 205, 3) := by decide +kernel
theorem dL_reads_320 : decode cL_reads 320 = .ok (.istore 9, 2) := by decide +kernel
theorem dL_reads_322 : decode cL_reads 322 = .ok (.aload_n 0, 1) := by decide +kernel
theorem dL_reads_323 : decode cL_reads 323 = .ok (.invokestatic 207, 3) := by decide +kernel
theorem dL_reads_326 : decode cL_reads 326 = .ok (.istore 10, 2) := by decide +kernel
theorem dL_reads_328 : decode cL_reads 328 = .ok (.aload_n 0, 1) := by decide +kernel
theorem dL_reads_329 : decode cL_reads 329 = .ok (.invokestatic 209, 3) := by decide +kernel
theorem dL_reads_332 : decode cL_reads 332 = .ok (.istore 11, 2) := by decide +kernel
theorem dL_reads_334 : decode cL_reads 334 = .ok (.aload_n 0, 1) := by decide +kernel
theorem dL_reads_335 : decode cL_reads 335 = .ok (.invokevirtual 199, 3) := by decide +kernel
theorem dL_reads_338 : decode cL_reads 338 = .ok (.istore 12, 2) := by decide +kernel
theorem dL_reads_340 : decode cL_reads 340 = .ok (.iload 4, 2) := by decide +kernel
theorem dL_reads_342 : decode cL_reads 342 = .ok (.ifCond .eq 86, 3) := by decide +kernel
theorem dL_reads_345 : decode cL_reads 345 = .ok (.iload 8, 2) := by decide +kernel
theorem dL_reads_347 : decode cL_reads 347 = .ok (.bipush (-104), 2) := by decide +kernel
theorem dL_reads_349 : decode cL_reads 349 = .ok (.if_icmp .ne 7, 3) := by decide +kernel
theorem dL_reads_352 : decode cL_reads 352 = .ok (.iconst 1, 1) := by decide +kernel
theorem dL_reads_353 : decode cL_reads 353 = .ok (.goto 4, 3) := by decide +kernel
theorem dL_reads_356 : decode cL_reads 356 = .ok (.iconst 0, 1) := by decide +kernel
theorem dL_reads_357 : decode cL_reads 357 = .ok (.iload 9, 2) := by decide +kernel
theorem dL_reads_359 : decode cL_reads 359 = .ok (.bipush (-104), 2) := by decide +kernel
theorem dL_reads_361 : decode cL_reads 361 = .ok (.if_icmp .ne 7, 3) := by decide +kernel
theorem dL_reads_364 : decode cL_reads 364 = .ok (.iconst 1, 1) := by decide +kernel
theorem dL_reads_365 : decode cL_reads 365 = .ok (.goto 4, 3) := by decide +kernel
theorem dL_reads_368 : decode cL_reads 368 = .ok (.iconst 0, 1) := by decide +kernel
theorem dL_reads_369 : decode cL_reads 369 = .ok (.if_icmp .ne 59, 3) := by decide +kernel
theorem dL_reads_372 : decode cL_reads 372 = .ok (.iload 8, 2) := by decide +kernel
theorem dL_reads_374 : decode cL_reads 374 = .ok (.bipush (-104), 2) := by decide +kernel
theorem dL_reads_376 : decode cL_reads 376 = .ok (.if_icmp .ne 7, 3) := by decide +kernel
theorem dL_reads_379 : decode cL_reads 379 = .ok (.iconst 1, 1) := by decide +kernel
theorem dL_reads_380 : decode cL_reads 380 = .ok (.goto 4, 3) := by decide +kernel
theorem dL_reads_383 : decode cL_reads 383 = .ok (.iconst 0, 1) := by decide +kernel
theorem dL_reads_384 : decode cL_reads 384 = .ok (.iload 10, 2) := by decide +kernel
theorem dL_reads_386 : decode cL_reads 386 = .ok (.bipush (-104), 2) := by decide +kernel
theorem dL_reads_388 : decode cL_reads 388 = .ok (.if_icmp .ne 7, 3) := by decide +kernel
theorem dL_reads_391 : decode cL_reads 391 = .ok (.iconst 1, 1) := by decide +kernel
theorem dL_reads_392 : decode cL_reads 392 = .ok (.goto 4, 3) := by decide +kernel
theorem dL_reads_395 : decode cL_reads 395 = .ok (.iconst 0, 1) := by decide +kernel
theorem dL_reads_396 : decode cL_reads 396 = .ok (.if_icmp .ne 32, 3) := by decide +kernel
theorem dL_reads_399 : decode cL_reads 399 = .ok (.iload 11, 2) := by decide +kernel
theorem dL_reads_401 : decode cL_reads 401 = .ok (.bipush (-103), 2) := by decide +kernel
theorem dL_reads_403 : decode cL_reads 403 = .ok (.if_icmp .ne 7, 3) := by decide +kernel
theorem dL_reads_406 : decode cL_reads 406 = .ok (.iconst 1, 1) := by decide +kernel
theorem dL_reads_407 : decode cL_reads 407 = .ok (.goto 4, 3) := by decide +kernel
theorem dL_reads_410 : decode cL_reads 410 = .ok (.iconst 0, 1) := by decide +kernel
theorem dL_reads_411 : decode cL_reads 411 = .ok (.iload 8, 2) := by decide +kernel
theorem dL_reads_413 : decode cL_reads 413 = .ok (.ifCond .lt 7, 3) := by decide +kernel
theorem dL_reads_416 : decode cL_reads 416 = .ok (.iconst 1, 1) := by decide +kernel
theorem dL_reads_417 : decode cL_reads 417 = .ok (.goto 4, 3) := by decide +kernel
theorem dL_reads_420 : decode cL_reads 420 = .ok (.iconst 0, 1) := by decide +kernel
theorem dL_reads_421 : decode cL_reads 421 = .ok (.if_icmp .ne 7, 3) := by decide +kernel
theorem dL_reads_424 : decode cL_reads 424 = .ok (.iconst 1, 1) := by decide +kernel
theorem dL_reads_425 : decode cL_reads 425 = .ok (.goto 4, 3) := by decide +kernel
theorem dL_reads_428 : decode cL_reads 428 = .ok (.iconst 0, 1) := by decide +kernel
theorem dL_reads_429 : decode cL_reads 429 = .ok (.istore 13, 2) := by decide +kernel
theorem dL_reads_431 : decode cL_reads 431 = .ok (.iload 13, 2) := by decide +kernel
theorem dL_reads_433 : decode cL_reads 433 = .ok (.ifCond .eq 100, 3) := by decide +kernel
theorem dL_reads_436 : decode cL_reads 436 = .ok (.iload 8, 2) := by decide +kernel
theorem dL_reads_438 : decode cL_reads 438 = .ok (.ifCond .lt 64, 3) := by decide +kernel
theorem dL_reads_441 : decode cL_reads 441 = .ok (.iload 8, 2) := by decide +kernel
theorem dL_reads_443 : decode cL_reads 443 = .ok (.iload 12, 2) := by decide +kernel
theorem dL_reads_445 : decode cL_reads 445 = .ok (.if_icmp .ge 88, 3) := by decide +kernel
theorem dL_reads_448 : decode cL_reads 448 = .ok (.iload 9, 2) := by decide +kernel
theorem dL_reads_450 : decode cL_reads 450 = .ok (.iconst 1, 1) := by decide +kernel
theorem dL_reads_451 : decode cL_reads 451 = .ok (.if_icmp .ne 21, 3) := by decide +kernel
theorem dL_reads_454 : decode cL_reads 454 = .ok (.iload 10, 2) := by decide +kernel
theorem dL_reads_456 : decode cL_reads 456 = .ok (.ifCond .lt 77, 3) := by decide +kernel
theorem dL_reads_459 : decode cL_reads 459 = .ok (.iload 8, 2) := by decide +kernel
theorem dL_reads_461 : decode cL_reads 461 = .ok (.iload 10, 2) := by decide +kernel
theorem dL_reads_463 : decode cL_reads 463 = .ok (.iadd, 1) := by decide +kernel
theorem dL_reads_464 : decode cL_reads 464 = .ok (.iload 12, 2) := by decide +kernel
theorem dL_reads_466 : decode cL_reads 466 = .ok (.if_icmp .gt 67, 3) := by decide +kernel
theorem dL_reads_469 : decode cL_reads 469 = .ok (.goto 21, 3) := by decide +kernel
theorem dL_reads_472 : decode cL_reads 472 = .ok (.iload 9, 2) := by decide +kernel
theorem dL_reads_474 : decode cL_reads 474 = .ok (.iconst 2, 1) := by decide +kernel
theorem dL_reads_475 : decode cL_reads 475 = .ok (.if_icmp .ne 58, 3) := by decide +kernel
theorem dL_reads_478 : decode cL_reads 478 = .ok (.iload 10, 2) := by decide +kernel
theorem dL_reads_480 : decode cL_reads 480 = .ok (.iconst 1, 1) := by decide +kernel
theorem dL_reads_481 : decode cL_reads 481 = .ok (.if_icmp .eq 9, 3) := by decide +kernel
theorem dL_reads_484 : decode cL_reads 484 = .ok (.iload 10, 2) := by decide +kernel
theorem dL_reads_486 : decode cL_reads 486 = .ok (.iconst 2, 1) := by decide +kernel
theorem dL_reads_487 : decode cL_reads 487 = .ok (.if_icmp .ne 46, 3) := by decide +kernel
theorem dL_reads_490 : decode cL_reads 490 = .ok (.aload_n 0, 1) := by decide +kernel
theorem dL_reads_491 : decode cL_reads 491 = .ok (.invokevirtual 162, 3) := by decide +kernel
theorem dL_reads_494 : decode cL_reads 494 = .ok (.iload 7, 2) := by decide +kernel
theorem dL_reads_496 : decode cL_reads 496 = .ok (.if_icmp .ne 37, 3) := by decide +kernel
theorem dL_reads_499 : decode cL_reads 499 = .ok (.goto 30, 3) := by decide +kernel
theorem dL_reads_502 : decode cL_reads 502 = .ok (.iload 11, 2) := by decide +kernel
theorem dL_reads_504 : decode cL_reads 504 = .ok (.iload_n 3, 1) := by decide +kernel
theorem dL_reads_505 : decode cL_reads 505 = .ok (.if_icmp .ne 28, 3) := by decide +kernel
theorem dL_reads_508 : decode cL_reads 508 = .ok (.aload_n 0, 1) := by decide +kernel
theorem dL_reads_509 : decode cL_reads 509 = .ok (.invokevirtual 162, 3) := by decide +kernel
theorem dL_reads_512 : decode cL_reads 512 = .ok (.iload 7, 2) := by decide +kernel
theorem dL_reads_514 : decode cL_reads 514 = .ok (.iconst 4, 1) := by decide +kernel
theorem dL_reads_515 : decode cL_reads 515 = .ok (.if_icmp .ge 10, 3) := by decide +kernel
theorem dL_reads_518 : decode cL_reads 518 = .ok (.iload 7, 2) := by decide +kernel
theorem dL_reads_520 : decode cL_reads 520 = .ok (.iconst 1, 1) := by decide +kernel
theorem dL_reads_521 : decode cL_reads 521 = .ok (.iadd, 1) := by decide +kernel
theorem dL_reads_522 : decode cL_reads 522 = .ok (.goto 4, 3) := by decide +kernel
theorem dL_reads_525 : decode cL_reads 525 = .ok (.iconst 4, 1) := by decide +kernel
theorem dL_reads_526 : decode cL_reads 526 = .ok (.if_icmp .ne 7, 3) := by decide +kernel
theorem dL_reads_529 : decode cL_reads 529 = .ok (.iconst 1, 1) := by decide +kernel
theorem dL_reads_530 : decode cL_reads 530 = .ok (.goto 4, 3) := by decide +kernel
theorem dL_reads_533 : decode cL_reads 533 = .ok (.iconst 0, 1) := by decide +kernel
theorem dL_reads_534 : decode cL_reads 534 = .ok (.ireturn, 1) := by decide +kernel
theorem dL_acts_0 : decode cL_acts 0 = .ok (.iload_n 1, 1) := by decide +kernel
theorem dL_acts_1 : decode cL_acts 1 = .ok (.bipush 40, 2) := by decide +kernel
theorem dL_acts_3 : decode cL_acts 3 = .ok (.invokestatic 156, 3) := by decide +kernel
theorem dL_acts_6 : decode cL_acts 6 = .ok (.istore_n 3, 1) := by decide +kernel
theorem dL_acts_7 : decode cL_acts 7 = .ok (.iload_n 2, 1) := by decide +kernel
theorem dL_acts_8 : decode cL_acts 8 = .ok (.bipush 9, 2) := by decide +kernel
theorem dL_acts_10 : decode cL_acts 10 = .ok (.ishr, 1) := by decide +kernel
theorem dL_acts_11 : decode cL_acts 11 = .ok (.bipush 22, 2) := by decide +kernel
theorem dL_acts_13 : decode cL_acts 13 = .ok (.invokestatic 156, 3) := by decide +kernel
theorem dL_acts_16 : decode cL_acts 16 = .ok (.ifCond .ne 12, 3) := by decide +kernel
theorem dL_acts_19 : decode cL_acts 19 = .ok (.iload_n 2, 1) := by decide +kernel
theorem dL_acts_20 : decode cL_acts 20 = .ok (.bipush 64, 2) := by decide +kernel
theorem dL_acts_22 : decode cL_acts 22 = .ok (.invokestatic 156, 3) := by decide +kernel
theorem dL_acts_25 : decode cL_acts 25 = .ok (.goto 11, 3) := by decide +kernel
theorem dL_acts_28 : decode cL_acts 28 = .ok (.iconst 2, 1) := by decide +kernel
theorem dL_acts_29 : decode cL_acts 29 = .ok (.iload_n 2, 1) := by decide +kernel
theorem dL_acts_30 : decode cL_acts 30 = .ok (.bipush 59, 2) := by decide +kernel
theorem dL_acts_32 : decode cL_acts 32 = .ok (.invokestatic 156, 3) := by decide +kernel
theorem dL_acts_35 : decode cL_acts 35 = .ok (.iadd, 1) := by decide +kernel
theorem dL_acts_36 : decode cL_acts 36 = .ok (.istore 4, 2) := by decide +kernel
theorem dL_acts_38 : decode cL_acts 38 = .ok (.iload 4, 2) := by decide +kernel
theorem dL_acts_40 : decode cL_acts 40 = .ok (.iconst 2, 1) := by decide +kernel
theorem dL_acts_41 : decode cL_acts 41 = .ok (.if_icmp .lt 10, 3) := by decide +kernel
theorem dL_acts_44 : decode cL_acts 44 = .ok (.iload 4, 2) := by decide +kernel
theorem dL_acts_46 : decode cL_acts 46 = .ok (.bipush 60, 2) := by decide +kernel
theorem dL_acts_48 : decode cL_acts 48 = .ok (.if_icmp .le 7, 3) := by decide +kernel
theorem dL_acts_51 : decode cL_acts 51 = .ok (.iconst 1, 1) := by decide +kernel
theorem dL_acts_52 : decode cL_acts 52 = .ok (.goto 4, 3) := by decide +kernel
theorem dL_acts_55 : decode cL_acts 55 = .ok (.iconst 0, 1) := by decide +kernel
theorem dL_acts_56 : decode cL_acts 56 = .ok (.istore 5, 2) := by decide +kernel
theorem dL_acts_58 : decode cL_acts 58 = .ok (.aload_n 0, 1) := by decide +kernel
theorem dL_acts_59 : decode cL_acts 59 = .ok (.invokevirtual 189, 3) := by decide +kernel
theorem dL_acts_62 : decode cL_acts 62 = .ok (.istore 6, 2) := by decide +kernel
theorem dL_acts_64 : decode cL_acts 64 = .ok (.aload_n 0, 1) := by decide +kernel
theorem dL_acts_65 : decode cL_acts 65 = .ok (.invokevirtual 124, 3) := by decide +kernel
theorem dL_acts_68 : decode cL_acts 68 = .ok (.istore 7, 2) := by decide +kernel
theorem dL_acts_70 : decode cL_acts 70 = .ok (.aload_n 0, 1) := by decide +kernel
theorem dL_acts_71 : decode cL_acts 71 = .ok (.invokevirtual 159, 3) := by decide +kernel
theorem dL_acts_74 : decode cL_acts 74 = .ok (.istore 8, 2) := by decide +kernel
theorem dL_acts_76 : decode cL_acts 76 = .ok (.iload_n 3, 1) := by decide +kernel
theorem dL_acts_77 : decode cL_acts 77 = .ok (.bipush 10, 2) := by decide +kernel
theorem dL_acts_79 : decode cL_acts 79 = .ok (.if_icmp .lt 14, 3) := by decide +kernel
theorem dL_acts_82 : decode cL_acts 82 = .ok (.iload 6, 2) := by decide +kernel
theorem dL_acts_84 : decode cL_acts 84 = .ok (.ifCond .ne 138, 3) := by decide +kernel
theorem dL_acts_87 : decode cL_acts 87 = .ok (.iload_n 3, 1) := by decide +kernel
theorem dL_acts_88 : decode cL_acts 88 = .ok (.bipush 30, 2) := by decide +kernel
theorem dL_acts_90 : decode cL_acts 90 = .ok (.if_icmp .ge 132, 3) := by decide +kernel
theorem dL_acts_93 : decode cL_acts 93 = .ok (.iload 5, 2) := by decide +kernel
theorem dL_acts_95 : decode cL_acts 95 = .ok (.ifCond .eq 7, 3) := by decide +kernel
theorem dL_acts_98 : decode cL_acts 98 = .ok (.iconst 0, 1) := by decide +kernel
theorem dL_acts_99 : decode cL_acts 99 = .ok (.goto 9, 3) := by decide +kernel
theorem dL_acts_102 : decode cL_acts 102 = .ok (.aload_n 0, 1) := by decide +kernel
theorem dL_acts_103 : decode cL_acts 103 = .ok (.iload 4, 2) := by decide +kernel
theorem dL_acts_105 : decode cL_acts 105 = .ok (.invokevirtual 33, 3) := by decide +kernel
theorem dL_acts_108 : decode cL_acts 108 = .ok (.istore 9, 2) := by decide +kernel
theorem dL_acts_110 : decode cL_acts 110 = .ok (.aload_n 0, 1) := by decide +kernel
theorem dL_acts_111 : decode cL_acts 111 = .ok (.iload 4, 2) := by decide +kernel
theorem dL_acts_113 : decode cL_acts 113 = .ok (.invokestatic 211, 3) := by decide +kernel
theorem dL_acts_116 : decode cL_acts 116 = .ok (.istore 10, 2) := by decide +kernel
theorem dL_acts_118 : decode cL_acts 118 = .ok (.iload 5, 2) := by decide +kernel
theorem dL_acts_120 : decode cL_acts 120 = .ok (.ifCond .ne 12, 3) := by decide +kernel
theorem dL_acts_123 : decode cL_acts 123 = .ok (.iload 9, 2) := by decide +kernel
theorem dL_acts_125 : decode cL_acts 125 = .ok (.ifCond .ne 7, 3) := by decide +kernel
theorem dL_acts_128 : decode cL_acts 128 = .ok (.iconst 1, 1) := by decide +kernel
theorem dL_acts_129 : decode cL_acts 129 = .ok (.goto 4, 3) := by decide +kernel
theorem dL_acts_132 : decode cL_acts 132 = .ok (.iconst 0, 1) := by decide +kernel
theorem dL_acts_133 : decode cL_acts 133 = .ok (.istore 11, 2) := by decide +kernel
theorem dL_acts_135 : decode cL_acts 135 = .ok (.iload 10, 2) := by decide +kernel
theorem dL_acts_137 : decode cL_acts 137 = .ok (.iload 5, 2) := by decide +kernel
theorem dL_acts_139 : decode cL_acts 139 = .ok (.ifCond .eq 8, 3) := by decide +kernel
theorem dL_acts_142 : decode cL_acts 142 = .ok (.bipush (-102), 2) := by decide +kernel
theorem dL_acts_144 : decode cL_acts 144 = .ok (.goto 17, 3) := by decide +kernel
theorem dL_acts_147 : decode cL_acts 147 = .ok (.iload 11, 2) := by decide +kernel
theorem dL_acts_149 : decode cL_acts 149 = .ok (.ifCond .eq 10, 3) := by decide +kernel
theorem dL_acts_152 : decode cL_acts 152 = .ok (.iload 6, 2) := by decide +kernel
theorem dL_acts_154 : decode cL_acts 154 = .ok (.iconst 1, 1) := by decide +kernel
theorem dL_acts_155 : decode cL_acts 155 = .ok (.iadd, 1) := by decide +kernel
theorem dL_acts_156 : decode cL_acts 156 = .ok (.goto 5, 3) := by decide +kernel
theorem dL_acts_159 : decode cL_acts 159 = .ok (.bipush (-103), 2) := by decide +kernel
theorem dL_acts_161 : decode cL_acts 161 = .ok (.if_icmp .ne 59, 3) := by decide +kernel
theorem dL_acts_164 : decode cL_acts 164 = .ok (.aload_n 0, 1) := by decide +kernel
theorem dL_acts_165 : decode cL_acts 165 = .ok (.invokevirtual 189, 3) := by decide +kernel
theorem dL_acts_168 : decode cL_acts 168 = .ok (.iload 6, 2) := by decide +kernel
theorem dL_acts_170 : decode cL_acts 170 = .ok (.iload 11, 2) := by decide +kernel
theorem dL_acts_172 : decode cL_acts 172 = .ok (.ifCond .eq 7, 3) := by decide +kernel
theorem dL_acts_175 : decode cL_acts 175 = .ok (.iconst 1, 1) := by decide +kernel
theorem dL_acts_176 : decode cL_acts 176 = .ok (.goto 4, 3) := by decide +kernel
theorem dL_acts_179 : decode cL_acts 179 = .ok (.iconst 0, 1) := by decide +kernel
theorem dL_acts_180 : decode cL_acts 180 = .ok (.iadd, 1) := by decide +kernel
theorem dL_acts_181 : decode cL_acts 181 = .ok (.if_icmp .ne 39, 3) := by decide +kernel
theorem dL_acts_184 : decode cL_acts 184 = .ok (.iload 11, 2) := by decide +kernel
theorem dL_acts_186 : decode cL_acts 186 = .ok (.ifCond .eq 21, 3) := by decide +kernel
theorem dL_acts_189 : decode cL_acts 189 = .ok (.aload_n 0, 1) := by decide +kernel
theorem dL_acts_190 : decode cL_acts 190 = .ok (.iload 4, 2) := by decide +kernel
theorem dL_acts_192 : decode cL_acts 192 = .ok (.invokevirtual 101, 3) := by decide +kernel
theorem dL_acts_195 : decode cL_acts 195 = .ok (.ifCond .ne 25, 3) := by decide +kernel
theorem dL_acts_198 : decode cL_acts 198 = .ok (.aload_n 0, 1) := by decide +kernel
theorem dL_acts_199 : decode cL_acts 199 = .ok (.invokevirtual 159, 3) := by decide +kernel
theorem dL_acts_202 : decode cL_acts 202 = .ok (.iload 8, 2) := by decide +kernel
theorem dL_acts_204 : decode cL_acts 204 = .ok (.if_icmp .le 16, 3) := by decide +kernel
theorem dL_acts_207 : decode cL_acts 207 = .ok (.aload_n 0, 1) := by decide +kernel
theorem dL_acts_208 : decode cL_acts 208 = .ok (.invokevirtual 124, 3) := by decide +kernel
theorem dL_acts_211 : decode cL_acts 211 = .ok (.iload 7, 2) := by decide +kernel
theorem dL_acts_213 : decode cL_acts 213 = .ok (.if_icmp .ne 7, 3) := by decide +kernel
theorem dL_acts_216 : decode cL_acts 216 = .ok (.iconst 1, 1) := by decide +kernel
theorem dL_acts_217 : decode cL_acts 217 = .ok (.goto 4, 3) := by decide +kernel
theorem dL_acts_220 : decode cL_acts 220 = .ok (.iconst 0, 1) := by decide +kernel
theorem dL_acts_221 : decode cL_acts 221 = .ok (.ireturn, 1) := by decide +kernel
theorem dL_acts_222 : decode cL_acts 222 = .ok (.iconst 0, 1) := by decide +kernel
theorem dL_acts_223 : decode cL_acts 223 = .ok (.istore 9, 2) := by decide +kernel
theorem dL_acts_225 : decode cL_acts 225 = .ok (.iload 9, 2) := by decide +kernel
theorem dL_acts_227 : decode cL_acts 227 = .ok (.bipush 59, 2) := by decide +kernel
theorem dL_acts_229 : decode cL_acts 229 = .ok (.if_icmp .ge 56, 3) := by decide +kernel
theorem dL_acts_232 : decode cL_acts 232 = .ok (.iload 5, 2) := by decide +kernel
theorem dL_acts_234 : decode cL_acts 234 = .ok (.ifCond .ne 51, 3) := by decide +kernel
theorem dL_acts_237 : decode cL_acts 237 = .ok (.iload_n 2, 1) := by decide +kernel
theorem dL_acts_238 : decode cL_acts 238 = .ok (.iconst 5, 1) := by decide +kernel
theorem dL_acts_239 : decode cL_acts 239 = .ok (.ishr, 1) := by decide +kernel
theorem dL_acts_240 : decode cL_acts 240 = .ok (.bipush 9, 2) := by decide +kernel
theorem dL_acts_242 : decode cL_acts 242 = .ok (.invokestatic 156, 3) := by decide +kernel
theorem dL_acts_245 : decode cL_acts 245 = .ok (.ifCond .le 40, 3) := by decide +kernel
theorem dL_acts_248 : decode cL_acts 248 = .ok (.aload_n 0, 1) := by decide +kernel
theorem dL_acts_249 : decode cL_acts 249 = .ok (.iload 4, 2) := by decide +kernel
theorem dL_acts_251 : decode cL_acts 251 = .ok (.invokevirtual 42, 3) := by decide +kernel
theorem dL_acts_254 : decode cL_acts 254 = .ok (.ifCond .eq 8, 3) := by decide +kernel
theorem dL_acts_257 : decode cL_acts 257 = .ok (.iload 4, 2) := by decide +kernel
theorem dL_acts_259 : decode cL_acts 259 = .ok (.goto 18, 3) := by decide +kernel
theorem dL_acts_262 : decode cL_acts 262 = .ok (.iload 4, 2) := by decide +kernel
theorem dL_acts_264 : decode cL_acts 264 = .ok (.bipush 60, 2) := by decide +kernel
theorem dL_acts_266 : decode cL_acts 266 = .ok (.if_icmp .ne 7, 3) := by decide +kernel
theorem dL_acts_269 : decode cL_acts 269 = .ok (.iconst 2, 1) := by decide +kernel
theorem dL_acts_270 : decode cL_acts 270 = .ok (.goto 7, 3) := by decide +kernel
theorem dL_acts_273 : decode cL_acts 273 = .ok (.iload 4, 2) := by decide +kernel
theorem dL_acts_275 : decode cL_acts 275 = .ok (.iconst 1, 1) := by decide +kernel
theorem dL_acts_276 : decode cL_acts 276 = .ok (.iadd, 1) := by decide +kernel
theorem dL_acts_277 : decode cL_acts 277 = .ok (.istore 4, 2) := by decide +kernel
theorem dL_acts_279 : decode cL_acts 279 = .ok (.iinc 9 1, 3) := by decide +kernel
theorem dL_acts_282 : decode cL_acts 282 = .ok (.goto (-57), 3) := by decide +kernel
theorem dL_acts_285 : decode cL_acts 285 = .ok (.iload 5, 2) := by decide +kernel
theorem dL_acts_287 : decode cL_acts 287 = .ok (.ifCond .ne 16, 3) := by decide +kernel
theorem dL_acts_290 : decode cL_acts 290 = .ok (.aload_n 0, 1) := by decide +kernel
theorem dL_acts_291 : decode cL_acts 291 = .ok (.iload 4, 2) := by decide +kernel
theorem dL_acts_293 : decode cL_acts 293 = .ok (.invokevirtual 42, 3) := by decide +kernel
theorem dL_acts_296 : decode cL_acts 296 = .ok (.ifCond .eq 7, 3) := by decide +kernel
theorem dL_acts_299 : decode cL_acts 299 = .ok (.iconst 1, 1) := by decide +kernel
theorem dL_acts_300 : decode cL_acts 300 = .ok (.goto 4, 3) := by decide +kernel
theorem dL_acts_303 : decode cL_acts 303 = .ok (.iconst 0, 1) := by decide +kernel
theorem dL_acts_304 : decode cL_acts 304 = .ok (.istore 9, 2) := by decide +kernel
theorem dL_acts_306 : decode cL_acts 306 = .ok (.iload 9, 2) := by decide +kernel
theorem dL_acts_308 : decode cL_acts 308 = .ok (.ifCond .eq 12, 3) := by decide +kernel
theorem dL_acts_311 : decode cL_acts 311 = .ok (.aload_n 0, 1) := by decide +kernel
theorem dL_acts_312 : decode cL_acts 312 = .ok (.iload 4, 2) := by decide +kernel
theorem dL_acts_314 : decode cL_acts 314 = .ok (.invokevirtual 101, 3) := by decide +kernel
theorem dL_acts_317 : decode cL_acts 317 = .ok (.goto 4, 3) := by decide +kernel
theorem dL_acts_320 : decode cL_acts 320 = .ok (.iconst 0, 1) := by decide +kernel
theorem dL_acts_321 : decode cL_acts 321 = .ok (.istore 10, 2) := by decide +kernel
theorem dL_acts_323 : decode cL_acts 323 = .ok (.iload_n 3, 1) := by decide +kernel
theorem dL_acts_324 : decode cL_acts 324 = .ok (.bipush 13, 2) := by decide +kernel
theorem dL_acts_326 : decode cL_acts 326 = .ok (.if_icmp .ge 87, 3) := by decide +kernel
theorem dL_acts_329 : decode cL_acts 329 = .ok (.aload_n 0, 1) := by decide +kernel
theorem dL_acts_330 : decode cL_acts 330 = .ok (.iload 4, 2) := by decide +kernel
theorem dL_acts_332 : decode cL_acts 332 = .ok (.invokestatic 213, 3) := by decide +kernel
theorem dL_acts_335 : decode cL_acts 335 = .ok (.istore 11, 2) := by decide +kernel
theorem dL_acts_337 : decode cL_acts 337 = .ok (.iload 11, 2) := by decide +kernel
theorem dL_acts_339 : decode cL_acts 339 = .ok (.iload 5, 2) := by decide +kernel
theorem dL_acts_341 : decode cL_acts 341 = .ok (.ifCond .eq 8, 3) := by decide +kernel
theorem dL_acts_344 : decode cL_acts 344 = .ok (.bipush (-102), 2) := by decide +kernel
theorem dL_acts_346 : decode cL_acts 346 = .ok (.goto 15, 3) := by decide +kernel
theorem dL_acts_349 : decode cL_acts 349 = .ok (.iload 9, 2) := by decide +kernel
theorem dL_acts_351 : decode cL_acts 351 = .ok (.ifCond .eq 8, 3) := by decide +kernel
theorem dL_acts_354 : decode cL_acts 354 = .ok (.iload 10, 2) := by decide +kernel
theorem dL_acts_356 : decode cL_acts 356 = .ok (.goto 5, 3) := by decide +kernel
theorem dL_acts_359 : decode cL_acts 359 = .ok (.bipush (-103), 2) := by decide +kernel
theorem dL_acts_361 : decode cL_acts 361 = .ok (.if_icmp .ne 50, 3) := by decide +kernel
theorem dL_acts_364 : decode cL_acts 364 = .ok (.aload_n 0, 1) := by decide +kernel
theorem dL_acts_365 : decode cL_acts 365 = .ok (.invokevirtual 189, 3) := by decide +kernel
theorem dL_acts_368 : decode cL_acts 368 = .ok (.iload 6, 2) := by decide +kernel
theorem dL_acts_370 : decode cL_acts 370 = .ok (.iload 9, 2) := by decide +kernel
theorem dL_acts_372 : decode cL_acts 372 = .ok (.ifCond .eq 7, 3) := by decide +kernel
theorem dL_acts_375 : decode cL_acts 375 = .ok (.iconst 1, 1) := by decide +kernel
theorem dL_acts_376 : decode cL_acts 376 = .ok (.goto 4, 3) := by decide +kernel
theorem dL_acts_379 : decode cL_acts 379 = .ok (.iconst 0, 1) := by decide +kernel
theorem dL_acts_380 : decode cL_acts 380 = .ok (.isub, 1) := by decide +kernel
theorem dL_acts_381 : decode cL_acts 381 = .ok (.if_icmp .ne 30, 3) := by decide +kernel
