theorem dX8_isNumber_0 : decode cX8_isNumber 0 = .ok (.iload_n 0, 1) := by decide +kernel
theorem dX8_isNumber_1 : decode cX8_isNumber 1 = .ok (.iconst 2, 1) := by decide +kernel
theorem dX8_isNumber_2 : decode cX8_isNumber 2 = .ok (.if_icmp .lt 13, 3) := by decide +kernel
theorem dX8_isNumber_5 : decode cX8_isNumber 5 = .ok (.iload_n 0, 1) := by decide +kernel
theorem dX8_isNumber_6 : decode cX8_isNumber 6 = .ok (.bipush 60, 2) := by decide +kernel
theorem dX8_isNumber_8 : decode cX8_isNumber 8 = .ok (.if_icmp .gt 7, 3) := by decide +kernel
theorem dX8_isNumber_11 : decode cX8_isNumber 11 = .ok (.iconst 1, 1) := by decide +kernel
theorem dX8_isNumber_12 : decode cX8_isNumber 12 = .ok (.goto 4, 3) := by decide +kernel
theorem dX8_isNumber_15 : decode cX8_isNumber 15 = .ok (.iconst 0, 1) := by decide +kernel
theorem dX8_isNumber_16 : decode cX8_isNumber 16 = .ok (.ireturn, 1) := by decide +kernel
theorem dX8_requireNumber_0 : decode cX8_requireNumber 0 = .ok (.iload_n 0, 1) := by decide +kernel
theorem dX8_requireNumber_1 : decode cX8_requireNumber 1 = .ok (.invokestatic 235, 3) := by decide +kernel
theorem dX8_requireNumber_4 : decode cX8_requireNumber 4 = .ok (.ifCond .ne 13, 3) := by decide +kernel
theorem dX8_requireNumber_7 : decode cX8_requireNumber 7 = .ok (.new 99, 3) := by decide +kernel
theorem dX8_requireNumber_10 : decode cX8_requireNumber 10 = .ok (.dup, 1) := by decide +kernel
theorem dX8_requireNumber_11 : decode cX8_requireNumber 11 = .ok (.ldc 238, 2) := by decide +kernel
theorem dX8_requireNumber_13 : decode cX8_requireNumber 13 = .ok (.invokespecial 103, 3) := by decide +kernel
theorem dX8_requireNumber_16 : decode cX8_requireNumber 16 = .ok (.athrow, 1) := by decide +kernel
theorem dX8_requireNumber_17 : decode cX8_requireNumber 17 = .ok (.return_, 1) := by decide +kernel
theorem dX8_requireRoot_0 : decode cX8_requireRoot 0 = .ok (.iload_n 1, 1) := by decide +kernel
theorem dX8_requireRoot_1 : decode cX8_requireRoot 1 = .ok (.invokestatic 86, 3) := by decide +kernel
theorem dX8_requireRoot_4 : decode cX8_requireRoot 4 = .ok (.aload_n 0, 1) := by decide +kernel
theorem dX8_requireRoot_5 : decode cX8_requireRoot 5 = .ok (.getfield 12, 3) := by decide +kernel
theorem dX8_requireRoot_8 : decode cX8_requireRoot 8 = .ok (.iload_n 1, 1) := by decide +kernel
theorem dX8_requireRoot_9 : decode cX8_requireRoot 9 = .ok (.invokevirtual 240, 3) := by decide +kernel
theorem dX8_requireRoot_12 : decode cX8_requireRoot 12 = .ok (.ifCond .eq 13, 3) := by decide +kernel
theorem dX8_requireRoot_15 : decode cX8_requireRoot 15 = .ok (.new 126, 3) := by decide +kernel
theorem dX8_requireRoot_18 : decode cX8_requireRoot 18 = .ok (.dup, 1) := by decide +kernel
theorem dX8_requireRoot_19 : decode cX8_requireRoot 19 = .ok (.ldc 243, 2) := by decide +kernel
theorem dX8_requireRoot_21 : decode cX8_requireRoot 21 = .ok (.invokespecial 130, 3) := by decide +kernel
theorem dX8_requireRoot_24 : decode cX8_requireRoot 24 = .ok (.athrow, 1) := by decide +kernel
theorem dX8_requireRoot_25 : decode cX8_requireRoot 25 = .ok (.return_, 1) := by decide +kernel
theorem dX8_requireLaid_0 : decode cX8_requireLaid 0 = .ok (.iload_n 1, 1) := by decide +kernel
theorem dX8_requireLaid_1 : decode cX8_requireLaid 1 = .ok (.invokestatic 86, 3) := by decide +kernel
theorem dX8_requireLaid_4 : decode cX8_requireLaid 4 = .ok (.aload_n 0, 1) := by decide +kernel
theorem dX8_requireLaid_5 : decode cX8_requireLaid 5 = .ok (.getfield 42, 3) := by decide +kernel
theorem dX8_requireLaid_8 : decode cX8_requireLaid 8 = .ok (.iload_n 1, 1) := by decide +kernel
theorem dX8_requireLaid_9 : decode cX8_requireLaid 9 = .ok (.invokevirtual 122, 3) := by decide +kernel
theorem dX8_requireLaid_12 : decode cX8_requireLaid 12 = .ok (.ifCond .ne 13, 3) := by decide +kernel
theorem dX8_requireLaid_15 : decode cX8_requireLaid 15 = .ok (.new 126, 3) := by decide +kernel
theorem dX8_requireLaid_18 : decode cX8_requireLaid 18 = .ok (.dup, 1) := by decide +kernel
theorem dX8_requireLaid_19 : decode cX8_requireLaid 19 = .ok (.ldc 245, 2) := by decide +kernel
theorem dX8_requireLaid_21 : decode cX8_requireLaid 21 = .ok (.invokespecial 130, 3) := by decide +kernel
theorem dX8_requireLaid_24 : decode cX8_requireLaid 24 = .ok (.athrow, 1) := by decide +kernel
theorem dX8_requireLaid_25 : decode cX8_requireLaid 25 = .ok (.return_, 1) := by decide +kernel
theorem dX8_requireFault_0 : decode cX8_requireFault 0 = .ok (.aload_n 0, 1) := by decide +kernel
theorem dX8_requireFault_1 : decode cX8_requireFault 1 = .ok (.getfield 62, 3) := by decide +kernel
theorem dX8_requireFault_4 : decode cX8_requireFault 4 = .ok (.aload_n 0, 1) := by decide +kernel
theorem dX8_requireFault_5 : decode cX8_requireFault 5 = .ok (.getfield 42, 3) := by decide +kernel
theorem dX8_requireFault_8 : decode cX8_requireFault 8 = .ok (.aload_n 0, 1) := by decide +kernel
theorem dX8_requireFault_9 : decode cX8_requireFault 9 = .ok (.getfield 46, 3) := by decide +kernel
theorem dX8_requireFault_12 : decode cX8_requireFault 12 = .ok (.invokevirtual 226, 3) := by decide +kernel
theorem dX8_requireFault_15 : decode cX8_requireFault 15 = .ok (.ifCond .ne 13, 3) := by decide +kernel
theorem dX8_requireFault_18 : decode cX8_requireFault 18 = .ok (.new 126, 3) := by decide +kernel
theorem dX8_requireFault_21 : decode cX8_requireFault 21 = .ok (.dup, 1) := by decide +kernel
theorem dX8_requireFault_22 : decode cX8_requireFault 22 = .ok (.ldc 247, 2) := by decide +kernel
theorem dX8_requireFault_24 : decode cX8_requireFault 24 = .ok (.invokespecial 130, 3) := by decide +kernel
theorem dX8_requireFault_27 : decode cX8_requireFault 27 = .ok (.athrow, 1) := by decide +kernel
theorem dX8_requireFault_28 : decode cX8_requireFault 28 = .ok (.return_, 1) := by decide +kernel
theorem dX8_change_0 : decode cX8_change 0 = .ok (.aload_n 0, 1) := by decide +kernel
theorem dX8_change_1 : decode cX8_change 1 = .ok (.getfield 42, 3) := by decide +kernel
theorem dX8_change_4 : decode cX8_change 4 = .ok (.iload_n 1, 1) := by decide +kernel
theorem dX8_change_5 : decode cX8_change 5 = .ok (.iload_n 2, 1) := by decide +kernel
theorem dX8_change_6 : decode cX8_change 6 = .ok (.invokevirtual 249, 3) := by decide +kernel
theorem dX8_change_9 : decode cX8_change 9 = .ok (.istore_n 3, 1) := by decide +kernel
theorem dX8_change_10 : decode cX8_change 10 = .ok (.iload_n 3, 1) := by decide +kernel
theorem dX8_change_11 : decode cX8_change 11 = .ok (.iconst 1, 1) := by decide +kernel
theorem dX8_change_12 : decode cX8_change 12 = .ok (.if_icmp .ne 13, 3) := by decide +kernel
theorem dX8_change_15 : decode cX8_change 15 = .ok (.new 99, 3) := by decide +kernel
theorem dX8_change_18 : decode cX8_change 18 = .ok (.dup, 1) := by decide +kernel
theorem dX8_change_19 : decode cX8_change 19 = .ok (.ldc 238, 2) := by decide +kernel
theorem dX8_change_21 : decode cX8_change 21 = .ok (.invokespecial 103, 3) := by decide +kernel
theorem dX8_change_24 : decode cX8_change 24 = .ok (.athrow, 1) := by decide +kernel
theorem dX8_change_25 : decode cX8_change 25 = .ok (.iload_n 3, 1) := by decide +kernel
theorem dX8_change_26 : decode cX8_change 26 = .ok (.ifCond .eq 13, 3) := by decide +kernel
theorem dX8_change_29 : decode cX8_change 29 = .ok (.new 188, 3) := by decide +kernel
theorem dX8_change_32 : decode cX8_change 32 = .ok (.dup, 1) := by decide +kernel
theorem dX8_change_33 : decode cX8_change 33 = .ok (.ldc 253, 2) := by decide +kernel
theorem dX8_change_35 : decode cX8_change 35 = .ok (.invokespecial 192, 3) := by decide +kernel
theorem dX8_change_38 : decode cX8_change 38 = .ok (.athrow, 1) := by decide +kernel
theorem dX8_change_39 : decode cX8_change 39 = .ok (.aload_n 0, 1) := by decide +kernel
theorem dX8_change_40 : decode cX8_change 40 = .ok (.getfield 55, 3) := by decide +kernel
theorem dX8_change_43 : decode cX8_change 43 = .ok (.aload_n 0, 1) := by decide +kernel
theorem dX8_change_44 : decode cX8_change 44 = .ok (.getfield 42, 3) := by decide +kernel
theorem dX8_change_47 : decode cX8_change 47 = .ok (.invokevirtual 193, 3) := by decide +kernel
theorem dX8_change_50 : decode cX8_change 50 = .ok (.aload_n 0, 1) := by decide +kernel
theorem dX8_change_51 : decode cX8_change 51 = .ok (.getfield 42, 3) := by decide +kernel
theorem dX8_change_54 : decode cX8_change 54 = .ok (.iload_n 1, 1) := by decide +kernel
theorem dX8_change_55 : decode cX8_change 55 = .ok (.iload_n 2, 1) := by decide +kernel
theorem dX8_change_56 : decode cX8_change 56 = .ok (.invokevirtual 255, 3) := by decide +kernel
theorem dX8_change_59 : decode cX8_change 59 = .ok (.return_, 1) := by decide +kernel
theorem dX8_powerOfLaid_0 : decode cX8_powerOfLaid 0 = .ok (.aload_n 0, 1) := by decide +kernel
theorem dX8_powerOfLaid_1 : decode cX8_powerOfLaid 1 = .ok (.getfield 42, 3) := by decide +kernel
theorem dX8_powerOfLaid_4 : decode cX8_powerOfLaid 4 = .ok (.iload_n 1, 1) := by decide +kernel
theorem dX8_powerOfLaid_5 : decode cX8_powerOfLaid 5 = .ok (.invokevirtual 74, 3) := by decide +kernel
theorem dX8_powerOfLaid_8 : decode cX8_powerOfLaid 8 = .ok (.istore_n 2, 1) := by decide +kernel
theorem dX8_powerOfLaid_9 : decode cX8_powerOfLaid 9 = .ok (.aload_n 0, 1) := by decide +kernel
theorem dX8_powerOfLaid_10 : decode cX8_powerOfLaid 10 = .ok (.getfield 12, 3) := by decide +kernel
theorem dX8_powerOfLaid_13 : decode cX8_powerOfLaid 13 = .ok (.aload_n 0, 1) := by decide +kernel
theorem dX8_powerOfLaid_14 : decode cX8_powerOfLaid 14 = .ok (.getfield 19, 3) := by decide +kernel
theorem dX8_powerOfLaid_17 : decode cX8_powerOfLaid 17 = .ok (.iload_n 1, 1) := by decide +kernel
theorem dX8_powerOfLaid_18 : decode cX8_powerOfLaid 18 = .ok (.invokevirtual 258, 3) := by decide +kernel
theorem dX8_powerOfLaid_21 : decode cX8_powerOfLaid 21 = .ok (.iconst 0, 1) := by decide +kernel
theorem dX8_powerOfLaid_22 : decode cX8_powerOfLaid 22 = .ok (.istore_n 3, 1) := by decide +kernel
theorem dX8_powerOfLaid_23 : decode cX8_powerOfLaid 23 = .ok (.iload_n 3, 1) := by decide +kernel
theorem dX8_powerOfLaid_24 : decode cX8_powerOfLaid 24 = .ok (.iload_n 2, 1) := by decide +kernel
theorem dX8_powerOfLaid_25 : decode cX8_powerOfLaid 25 = .ok (.if_icmp .ge 24, 3) := by decide +kernel
theorem dX8_powerOfLaid_28 : decode cX8_powerOfLaid 28 = .ok (.iload_n 3, 1) := by decide +kernel
theorem dX8_powerOfLaid_29 : decode cX8_powerOfLaid 29 = .ok (.ldc_w 262, 3) := by decide +kernel
theorem dX8_powerOfLaid_32 : decode cX8_powerOfLaid 32 = .ok (.if_icmp .ge 17, 3) := by decide +kernel
theorem dX8_powerOfLaid_35 : decode cX8_powerOfLaid 35 = .ok (.aload_n 0, 1) := by decide +kernel
theorem dX8_powerOfLaid_36 : decode cX8_powerOfLaid 36 = .ok (.getfield 19, 3) := by decide +kernel
theorem dX8_powerOfLaid_39 : decode cX8_powerOfLaid 39 = .ok (.invokevirtual 263, 3) := by decide +kernel
theorem dX8_powerOfLaid_42 : decode cX8_powerOfLaid 42 = .ok (.pop, 1) := by decide +kernel
theorem dX8_powerOfLaid_43 : decode cX8_powerOfLaid 43 = .ok (.iinc 3 1, 3) := by decide +kernel
theorem dX8_powerOfLaid_46 : decode cX8_powerOfLaid 46 = .ok (.goto (-23), 3) := by decide +kernel
theorem dX8_powerOfLaid_49 : decode cX8_powerOfLaid 49 = .ok (.aload_n 0, 1) := by decide +kernel
theorem dX8_powerOfLaid_50 : decode cX8_powerOfLaid 50 = .ok (.getfield 19, 3) := by decide +kernel
theorem dX8_powerOfLaid_53 : decode cX8_powerOfLaid 53 = .ok (.areturn, 1) := by decide +kernel
theorem dX8_solutionByQueue_0 : decode cX8_solutionByQueue 0 = .ok (.iload_n 1, 1) := by decide +kernel
theorem dX8_solutionByQueue_1 : decode cX8_solutionByQueue 1 = .ok (.ifCond .ge 13, 3) := by decide +kernel
theorem dX8_solutionByQueue_4 : decode cX8_solutionByQueue 4 = .ok (.new 99, 3) := by decide +kernel
theorem dX8_solutionByQueue_7 : decode cX8_solutionByQueue 7 = .ok (.dup, 1) := by decide +kernel
theorem dX8_solutionByQueue_8 : decode cX8_solutionByQueue 8 = .ok (.ldc 159, 2) := by decide +kernel
theorem dX8_solutionByQueue_10 : decode cX8_solutionByQueue 10 = .ok (.invokespecial 103, 3) := by decide +kernel
theorem dX8_solutionByQueue_13 : decode cX8_solutionByQueue 13 = .ok (.athrow, 1) := by decide +kernel
theorem dX8_solutionByQueue_14 : decode cX8_solutionByQueue 14 = .ok (.aload_n 0, 1) := by decide +kernel
theorem dX8_solutionByQueue_15 : decode cX8_solutionByQueue 15 = .ok (.getfield 28, 3) := by decide +kernel
theorem dX8_solutionByQueue_18 : decode cX8_solutionByQueue 18 = .ok (.aload_n 0, 1) := by decide +kernel
theorem dX8_solutionByQueue_19 : decode cX8_solutionByQueue 19 = .ok (.getfield 42, 3) := by decide +kernel
theorem dX8_solutionByQueue_22 : decode cX8_solutionByQueue 22 = .ok (.invokevirtual 267, 3) := by decide +kernel
theorem dX8_solutionByQueue_25 : decode cX8_solutionByQueue 25 = .ok (.aload_n 0, 1) := by decide +kernel
theorem dX8_solutionByQueue_26 : decode cX8_solutionByQueue 26 = .ok (.getfield 28, 3) := by decide +kernel
theorem dX8_solutionByQueue_29 : decode cX8_solutionByQueue 29 = .ok (.iload_n 1, 1) := by decide +kernel
theorem dX8_solutionByQueue_30 : decode cX8_solutionByQueue 30 = .ok (.invokevirtual 268, 3) := by decide +kernel
theorem dX8_solutionByQueue_33 : decode cX8_solutionByQueue 33 = .ok (.aload_n 0, 1) := by decide +kernel
theorem dX8_solutionByQueue_34 : decode cX8_solutionByQueue 34 = .ok (.getfield 28, 3) := by decide +kernel
theorem dX8_solutionByQueue_37 : decode cX8_solutionByQueue 37 = .ok (.invokevirtual 271, 3) := by decide +kernel
theorem dX8_solutionByQueue_40 : decode cX8_solutionByQueue 40 = .ok (.astore_n 2, 1) := by decide +kernel
theorem dX8_solutionByQueue_41 : decode cX8_solutionByQueue 41 = .ok (.aload_n 2, 1) := by decide +kernel
theorem dX8_solutionByQueue_42 : decode cX8_solutionByQueue 42 = .ok (.ifnonnull 13, 3) := by decide +kernel
theorem dX8_solutionByQueue_45 : decode cX8_solutionByQueue 45 = .ok (.new 126, 3) := by decide +kernel
theorem dX8_solutionByQueue_48 : decode cX8_solutionByQueue 48 = .ok (.dup, 1) := by decide +kernel
theorem dX8_solutionByQueue_49 : decode cX8_solutionByQueue 49 = .ok (.ldc 168, 2) := by decide +kernel
theorem dX8_solutionByQueue_51 : decode cX8_solutionByQueue 51 = .ok (.invokespecial 130, 3) := by decide +kernel
theorem dX8_solutionByQueue_54 : decode cX8_solutionByQueue 54 = .ok (.athrow, 1) := by decide +kernel
theorem dX8_solutionByQueue_55 : decode cX8_solutionByQueue 55 = .ok (.aload_n 2, 1) := by decide +kernel
theorem dX8_solutionByQueue_56 : decode cX8_solutionByQueue 56 = .ok (.areturn, 1) := by decide +kernel
theorem dX8_countUpTo_0 : decode cX8_countUpTo 0 = .ok (.iconst 0, 1) := by decide +kernel
theorem dX8_countUpTo_1 : decode cX8_countUpTo 1 = .ok (.istore_n 3, 1) := by decide +kernel
theorem dX8_countUpTo_2 : decode cX8_countUpTo 2 = .ok (.iconst 2, 1) := by decide +kernel
theorem dX8_countUpTo_3 : decode cX8_countUpTo 3 = .ok (.istore 4, 2) := by decide +kernel
theorem dX8_countUpTo_5 : decode cX8_countUpTo 5 = .ok (.iload 4, 2) := by decide +kernel
theorem dX8_countUpTo_7 : decode cX8_countUpTo 7 = .ok (.bipush 60, 2) := by decide +kernel
theorem dX8_countUpTo_9 : decode cX8_countUpTo 9 = .ok (.if_icmp .gt 31, 3) := by decide +kernel
theorem dX8_countUpTo_12 : decode cX8_countUpTo 12 = .ok (.aload_n 0, 1) := by decide +kernel
theorem dX8_countUpTo_13 : decode cX8_countUpTo 13 = .ok (.getfield 42, 3) := by decide +kernel
theorem dX8_countUpTo_16 : decode cX8_countUpTo 16 = .ok (.iload 4, 2) := by decide +kernel
theorem dX8_countUpTo_18 : decode cX8_countUpTo 18 = .ok (.invokevirtual 122, 3) := by decide +kernel
theorem dX8_countUpTo_21 : decode cX8_countUpTo 21 = .ok (.ifCond .eq 13, 3) := by decide +kernel
theorem dX8_countUpTo_24 : decode cX8_countUpTo 24 = .ok (.iload_n 3, 1) := by decide +kernel
theorem dX8_countUpTo_25 : decode cX8_countUpTo 25 = .ok (.aload_n 0, 1) := by decide +kernel
theorem dX8_countUpTo_26 : decode cX8_countUpTo 26 = .ok (.iload 4, 2) := by decide +kernel
theorem dX8_countUpTo_28 : decode cX8_countUpTo 28 = .ok (.lload_n 1, 1) := by decide +kernel
theorem dX8_countUpTo_29 : decode cX8_countUpTo 29 = .ok (.invokevirtual 275, 3) := by decide +kernel
theorem dX8_countUpTo_32 : decode cX8_countUpTo 32 = .ok (.iadd, 1) := by decide +kernel
theorem dX8_countUpTo_33 : decode cX8_countUpTo 33 = .ok (.istore_n 3, 1) := by decide +kernel
theorem dX8_countUpTo_34 : decode cX8_countUpTo 34 = .ok (.iinc 4 1, 3) := by decide +kernel
theorem dX8_countUpTo_37 : decode cX8_countUpTo 37 = .ok (.goto (-32), 3) := by decide +kernel
theorem dX8_countUpTo_40 : decode cX8_countUpTo 40 = .ok (.iload_n 3, 1) := by decide +kernel
theorem dX8_countUpTo_41 : decode cX8_countUpTo 41 = .ok (.ireturn, 1) := by decide +kernel
theorem dX8_countPowersUpTo_0 : decode cX8_countPowersUpTo 0 = .ok (.aload_n 0, 1) := by decide +kernel
theorem dX8_countPowersUpTo_1 : decode cX8_countPowersUpTo 1 = .ok (.getfield 12, 3) := by decide +kernel
theorem dX8_countPowersUpTo_4 : decode cX8_countPowersUpTo 4 = .ok (.aload_n 0, 1) := by decide +kernel
theorem dX8_countPowersUpTo_5 : decode cX8_countPowersUpTo 5 = .ok (.getfield 19, 3) := by decide +kernel
theorem dX8_countPowersUpTo_8 : decode cX8_countPowersUpTo 8 = .ok (.iload_n 1, 1) := by decide +kernel
theorem dX8_countPowersUpTo_9 : decode cX8_countPowersUpTo 9 = .ok (.invokevirtual 258, 3) := by decide +kernel
theorem dX8_countPowersUpTo_12 : decode cX8_countPowersUpTo 12 = .ok (.iconst 0, 1) := by decide +kernel
theorem dX8_countPowersUpTo_13 : decode cX8_countPowersUpTo 13 = .ok (.istore 4, 2) := by decide +kernel
theorem dX8_countPowersUpTo_15 : decode cX8_countPowersUpTo 15 = .ok (.iload 4, 2) := by decide +kernel
theorem dX8_countPowersUpTo_17 : decode cX8_countPowersUpTo 17 = .ok (.ldc_w 262, 3) := by decide +kernel
theorem dX8_countPowersUpTo_20 : decode cX8_countPowersUpTo 20 = .ok (.if_icmp .ge 34, 3) := by decide +kernel
theorem dX8_countPowersUpTo_23 : decode cX8_countPowersUpTo 23 = .ok (.aload_n 0, 1) := by decide +kernel
theorem dX8_countPowersUpTo_24 : decode cX8_countPowersUpTo 24 = .ok (.getfield 19, 3) := by decide +kernel
theorem dX8_countPowersUpTo_27 : decode cX8_countPowersUpTo 27 = .ok (.invokevirtual 263, 3) := by decide +kernel
theorem dX8_countPowersUpTo_30 : decode cX8_countPowersUpTo 30 = .ok (.ifCond .eq 15, 3) := by decide +kernel
theorem dX8_countPowersUpTo_33 : decode cX8_countPowersUpTo 33 = .ok (.aload_n 0, 1) := by decide +kernel
theorem dX8_countPowersUpTo_34 : decode cX8_countPowersUpTo 34 = .ok (.getfield 19, 3) := by decide +kernel
theorem dX8_countPowersUpTo_37 : decode cX8_countPowersUpTo 37 = .ok (.getfield 82, 3) := by decide +kernel
theorem dX8_countPowersUpTo_40 : decode cX8_countPowersUpTo 40 = .ok (.lload_n 2, 1) := by decide +kernel
theorem dX8_countPowersUpTo_41 : decode cX8_countPowersUpTo 41 = .ok (.lcmp, 1) := by decide +kernel
theorem dX8_countPowersUpTo_42 : decode cX8_countPowersUpTo 42 = .ok (.ifCond .le 6, 3) := by decide +kernel
theorem dX8_countPowersUpTo_45 : decode cX8_countPowersUpTo 45 = .ok (.iload 4, 2) := by decide +kernel
theorem dX8_countPowersUpTo_47 : decode cX8_countPowersUpTo 47 = .ok (.ireturn, 1) := by decide +kernel
theorem dX8_countPowersUpTo_48 : decode cX8_countPowersUpTo 48 = .ok (.iinc 4 1, 3) := by decide +kernel
theorem dX8_countPowersUpTo_51 : decode cX8_countPowersUpTo 51 = .ok (.goto (-36), 3) := by decide +kernel
theorem dX8_countPowersUpTo_54 : decode cX8_countPowersUpTo 54 = .ok (.ldc_w 262, 3) := by decide +kernel
theorem dX8_countPowersUpTo_57 : decode cX8_countPowersUpTo 57 = .ok (.ireturn, 1) := by decide +kernel
theorem dX8_searchLeastY_0 : decode cX8_searchLeastY 0 = .ok (.iload_n 0, 1) := by decide +kernel
theorem dX8_searchLeastY_1 : decode cX8_searchLeastY 1 = .ok (.invokestatic 279, 3) := by decide +kernel
theorem dX8_searchLeastY_4 : decode cX8_searchLeastY 4 = .ok (.istore_n 1, 1) := by decide +kernel
theorem dX8_searchLeastY_5 : decode cX8_searchLeastY 5 = .ok (.iload_n 1, 1) := by decide +kernel
theorem dX8_searchLeastY_6 : decode cX8_searchLeastY 6 = .ok (.i2l, 1) := by decide +kernel
theorem dX8_searchLeastY_7 : decode cX8_searchLeastY 7 = .ok (.lstore_n 2, 1) := by decide +kernel
theorem dX8_searchLeastY_8 : decode cX8_searchLeastY 8 = .ok (.iconst 1, 1) := by decide +kernel
theorem dX8_searchLeastY_9 : decode cX8_searchLeastY 9 = .ok (.istore 4, 2) := by decide +kernel
theorem dX8_searchLeastY_11 : decode cX8_searchLeastY 11 = .ok (.iload 4, 2) := by decide +kernel
theorem dX8_searchLeastY_13 : decode cX8_searchLeastY 13 = .ok (.ldc_w 262, 3) := by decide +kernel
theorem dX8_searchLeastY_16 : decode cX8_searchLeastY 16 = .ok (.if_icmp .ge 61, 3) := by decide +kernel
theorem dX8_searchLeastY_19 : decode cX8_searchLeastY 19 = .ok (.iload_n 0, 1) := by decide +kernel
theorem dX8_searchLeastY_20 : decode cX8_searchLeastY 20 = .ok (.i2l, 1) := by decide +kernel
theorem dX8_searchLeastY_21 : decode cX8_searchLeastY 21 = .ok (.iload 4, 2) := by decide +kernel
theorem dX8_searchLeastY_23 : decode cX8_searchLeastY 23 = .ok (.i2l, 1) := by decide +kernel
theorem dX8_searchLeastY_24 : decode cX8_searchLeastY 24 = .ok (.lmul, 1) := by decide +kernel
theorem dX8_searchLeastY_25 : decode cX8_searchLeastY 25 = .ok (.iload 4, 2) := by decide +kernel
theorem dX8_searchLeastY_27 : decode cX8_searchLeastY 27 = .ok (.i2l, 1) := by decide +kernel
theorem dX8_searchLeastY_28 : decode cX8_searchLeastY 28 = .ok (.lmul, 1) := by decide +kernel
theorem dX8_searchLeastY_29 : decode cX8_searchLeastY 29 = .ok (.lconst 1, 1) := by decide +kernel
theorem dX8_searchLeastY_30 : decode cX8_searchLeastY 30 = .ok (.ladd, 1) := by decide +kernel
theorem dX8_searchLeastY_31 : decode cX8_searchLeastY 31 = .ok (.lstore 5, 2) := by decide +kernel
theorem dX8_searchLeastY_33 : decode cX8_searchLeastY 33 = .ok (.lload_n 2, 1) := by decide +kernel
theorem dX8_searchLeastY_34 : decode cX8_searchLeastY 34 = .ok (.lconst 1, 1) := by decide +kernel
theorem dX8_searchLeastY_35 : decode cX8_searchLeastY 35 = .ok (.ladd, 1) := by decide +kernel
theorem dX8_searchLeastY_36 : decode cX8_searchLeastY 36 = .ok (.lload_n 2, 1) := by decide +kernel
theorem dX8_searchLeastY_37 : decode cX8_searchLeastY 37 = .ok (.lconst 1, 1) := by decide +kernel
theorem dX8_searchLeastY_38 : decode cX8_searchLeastY 38 = .ok (.ladd, 1) := by decide +kernel
theorem dX8_searchLeastY_39 : decode cX8_searchLeastY 39 = .ok (.lmul, 1) := by decide +kernel
theorem dX8_searchLeastY_40 : decode cX8_searchLeastY 40 = .ok (.lload 5, 2) := by decide +kernel
theorem dX8_searchLeastY_42 : decode cX8_searchLeastY 42 = .ok (.lcmp, 1) := by decide +kernel
theorem dX8_searchLeastY_43 : decode cX8_searchLeastY 43 = .ok (.ifCond .ge 7, 3) := by decide +kernel
theorem dX8_searchLeastY_46 : decode cX8_searchLeastY 46 = .ok (.lload_n 2, 1) := by decide +kernel
theorem dX8_searchLeastY_47 : decode cX8_searchLeastY 47 = .ok (.lconst 1, 1) := by decide +kernel
theorem dX8_searchLeastY_48 : decode cX8_searchLeastY 48 = .ok (.ladd, 1) := by decide +kernel
theorem dX8_searchLeastY_49 : decode cX8_searchLeastY 49 = .ok (.lstore_n 2, 1) := by decide +kernel
theorem dX8_searchLeastY_50 : decode cX8_searchLeastY 50 = .ok (.lload_n 2, 1) := by decide +kernel
theorem dX8_searchLeastY_51 : decode cX8_searchLeastY 51 = .ok (.lconst 1, 1) := by decide +kernel
theorem dX8_searchLeastY_52 : decode cX8_searchLeastY 52 = .ok (.ladd, 1) := by decide +kernel
theorem dX8_searchLeastY_53 : decode cX8_searchLeastY 53 = .ok (.lload_n 2, 1) := by decide +kernel
theorem dX8_searchLeastY_54 : decode cX8_searchLeastY 54 = .ok (.lconst 1, 1) := by decide +kernel
theorem dX8_searchLeastY_55 : decode cX8_searchLeastY 55 = .ok (.ladd, 1) := by decide +kernel
theorem dX8_searchLeastY_56 : decode cX8_searchLeastY 56 = .ok (.lmul, 1) := by decide +kernel
theorem dX8_searchLeastY_57 : decode cX8_searchLeastY 57 = .ok (.lload 5, 2) := by decide +kernel
theorem dX8_searchLeastY_59 : decode cX8_searchLeastY 59 = .ok (.lcmp, 1) := by decide +kernel
theorem dX8_searchLeastY_60 : decode cX8_searchLeastY 60 = .ok (.ifCond .ne 6, 3) := by decide +kernel
theorem dX8_searchLeastY_63 : decode cX8_searchLeastY 63 = .ok (.iload 4, 2) := by decide +kernel
theorem dX8_searchLeastY_65 : decode cX8_searchLeastY 65 = .ok (.ireturn, 1) := by decide +kernel
theorem dX8_searchLeastY_66 : decode cX8_searchLeastY 66 = .ok (.lload_n 2, 1) := by decide +kernel
theorem dX8_searchLeastY_67 : decode cX8_searchLeastY 67 = .ok (.iload_n 1, 1) := by decide +kernel
theorem dX8_searchLeastY_68 : decode cX8_searchLeastY 68 = .ok (.i2l, 1) := by decide +kernel
theorem dX8_searchLeastY_69 : decode cX8_searchLeastY 69 = .ok (.ladd, 1) := by decide +kernel
theorem dX8_searchLeastY_70 : decode cX8_searchLeastY 70 = .ok (.lstore_n 2, 1) := by decide +kernel
theorem dX8_searchLeastY_71 : decode cX8_searchLeastY 71 = .ok (.iinc 4 1, 3) := by decide +kernel
theorem dX8_searchLeastY_74 : decode cX8_searchLeastY 74 = .ok (.goto (-63), 3) := by decide +kernel
theorem dX8_searchLeastY_77 : decode cX8_searchLeastY 77 = .ok (.ldc_w 262, 3) := by decide +kernel
theorem dX8_searchLeastY_80 : decode cX8_searchLeastY 80 = .ok (.ireturn, 1) := by decide +kernel
theorem dX8_wholeRoot_0 : decode cX8_wholeRoot 0 = .ok (.iconst 1, 1) := by decide +kernel
theorem dX8_wholeRoot_1 : decode cX8_wholeRoot 1 = .ok (.istore_n 1, 1) := by decide +kernel
theorem dX8_wholeRoot_2 : decode cX8_wholeRoot 2 = .ok (.iconst 2, 1) := by decide +kernel
theorem dX8_wholeRoot_3 : decode cX8_wholeRoot 3 = .ok (.istore_n 2, 1) := by decide +kernel
theorem dX8_wholeRoot_4 : decode cX8_wholeRoot 4 = .ok (.iload_n 2, 1) := by decide +kernel
theorem dX8_wholeRoot_5 : decode cX8_wholeRoot 5 = .ok (.bipush 60, 2) := by decide +kernel
theorem dX8_wholeRoot_7 : decode cX8_wholeRoot 7 = .ok (.if_icmp .gt 18, 3) := by decide +kernel
theorem dX8_wholeRoot_10 : decode cX8_wholeRoot 10 = .ok (.iload_n 2, 1) := by decide +kernel
theorem dX8_wholeRoot_11 : decode cX8_wholeRoot 11 = .ok (.iload_n 2, 1) := by decide +kernel
theorem dX8_wholeRoot_12 : decode cX8_wholeRoot 12 = .ok (.imul, 1) := by decide +kernel
theorem dX8_wholeRoot_13 : decode cX8_wholeRoot 13 = .ok (.iload_n 0, 1) := by decide +kernel
theorem dX8_wholeRoot_14 : decode cX8_wholeRoot 14 = .ok (.if_icmp .gt 11, 3) := by decide +kernel
theorem dX8_wholeRoot_17 : decode cX8_wholeRoot 17 = .ok (.iload_n 2, 1) := by decide +kernel
theorem dX8_wholeRoot_18 : decode cX8_wholeRoot 18 = .ok (.istore_n 1, 1) := by decide +kernel
theorem dX8_wholeRoot_19 : decode cX8_wholeRoot 19 = .ok (.iinc 2 1, 3) := by decide +kernel
theorem dX8_wholeRoot_22 : decode cX8_wholeRoot 22 = .ok (.goto (-18), 3) := by decide +kernel
theorem dX8_wholeRoot_25 : decode cX8_wholeRoot 25 = .ok (.iload_n 1, 1) := by decide +kernel
theorem dX8_wholeRoot_26 : decode cX8_wholeRoot 26 = .ok (.ireturn, 1) := by decide +kernel
theorem dX9_init_0 : decode cX9_init 0 = .ok (.aload_n 0, 1) := by decide +kernel
theorem dX9_init_1 : decode cX9_init 1 = .ok (.invokespecial 1, 3) := by decide +kernel
theorem dX9_init_4 : decode cX9_init 4 = .ok (.aload_n 0, 1) := by decide +kernel
theorem dX9_init_5 : decode cX9_init 5 = .ok (.bipush 60, 2) := by decide +kernel
theorem dX9_init_7 : decode cX9_init 7 = .ok (.newarray .int, 2) := by decide +kernel
theorem dX9_init_9 : decode cX9_init 9 = .ok (.putfield 7, 3) := by decide +kernel
theorem dX9_init_12 : decode cX9_init 12 = .ok (.aload_n 0, 1) := by decide +kernel
theorem dX9_init_13 : decode cX9_init 13 = .ok (.bipush 60, 2) := by decide +kernel
theorem dX9_init_15 : decode cX9_init 15 = .ok (.newarray .int, 2) := by decide +kernel
theorem dX9_init_17 : decode cX9_init 17 = .ok (.putfield 13, 3) := by decide +kernel
theorem dX9_init_20 : decode cX9_init 20 = .ok (.aload_n 0, 1) := by decide +kernel
theorem dX9_init_21 : decode cX9_init 21 = .ok (.bipush 60, 2) := by decide +kernel
theorem dX9_init_23 : decode cX9_init 23 = .ok (.newarray .int, 2) := by decide +kernel
theorem dX9_init_25 : decode cX9_init 25 = .ok (.putfield 16, 3) := by decide +kernel
theorem dX9_init_28 : decode cX9_init 28 = .ok (.aload_n 0, 1) := by decide +kernel
theorem dX9_init_29 : decode cX9_init 29 = .ok (.sipush 240, 3) := by decide +kernel
theorem dX9_init_32 : decode cX9_init 32 = .ok (.newarray .int, 2) := by decide +kernel
theorem dX9_init_34 : decode cX9_init 34 = .ok (.putfield 19, 3) := by decide +kernel
theorem dX9_init_37 : decode cX9_init 37 = .ok (.aload_n 0, 1) := by decide +kernel
theorem dX9_init_38 : decode cX9_init 38 = .ok (.bipush 60, 2) := by decide +kernel
theorem dX9_init_40 : decode cX9_init 40 = .ok (.newarray .int, 2) := by decide +kernel
theorem dX9_init_42 : decode cX9_init 42 = .ok (.putfield 22, 3) := by decide +kernel
theorem dX9_init_45 : decode cX9_init 45 = .ok (.aload_n 0, 1) := by decide +kernel
theorem dX9_init_46 : decode cX9_init 46 = .ok (.bipush 61, 2) := by decide +kernel
theorem dX9_init_48 : decode cX9_init 48 = .ok (.newarray .long, 2) := by decide +kernel
theorem dX9_init_50 : decode cX9_init 50 = .ok (.putfield 25, 3) := by decide +kernel
theorem dX9_init_53 : decode cX9_init 53 = .ok (.aload_n 0, 1) := by decide +kernel
theorem dX9_init_54 : decode cX9_init 54 = .ok (.bipush 61, 2) := by decide +kernel
theorem dX9_init_56 : decode cX9_init 56 = .ok (.newarray .long, 2) := by decide +kernel
theorem dX9_init_58 : decode cX9_init 58 = .ok (.putfield 29, 3) := by decide +kernel
theorem dX9_init_61 : decode cX9_init 61 = .ok (.return_, 1) := by decide +kernel
theorem dX9_thrown_0 : decode cX9_thrown 0 = .ok (.aload_n 0, 1) := by decide +kernel
theorem dX9_thrown_1 : decode cX9_thrown 1 = .ok (.getfield 32, 3) := by decide +kernel
theorem dX9_thrown_4 : decode cX9_thrown 4 = .ok (.ireturn, 1) := by decide +kernel
theorem dX9_fails_0 : decode cX9_fails 0 = .ok (.aload_n 0, 1) := by decide +kernel
theorem dX9_fails_1 : decode cX9_fails 1 = .ok (.iload_n 1, 1) := by decide +kernel
theorem dX9_fails_2 : decode cX9_fails 2 = .ok (.putfield 32, 3) := by decide +kernel
theorem dX9_fails_5 : decode cX9_fails 5 = .ok (.iconst 0, 1) := by decide +kernel
theorem dX9_fails_6 : decode cX9_fails 6 = .ok (.ireturn, 1) := by decide +kernel
theorem dX9_in_0 : decode cX9_in 0 = .ok (.iload_n 0, 1) := by decide +kernel
theorem dX9_in_1 : decode cX9_in 1 = .ok (.iload_n 1, 1) := by decide +kernel
theorem dX9_in_2 : decode cX9_in 2 = .ok (.if_icmp .lt 12, 3) := by decide +kernel
theorem dX9_in_5 : decode cX9_in 5 = .ok (.iload_n 0, 1) := by decide +kernel
theorem dX9_in_6 : decode cX9_in 6 = .ok (.iload_n 2, 1) := by decide +kernel
theorem dX9_in_7 : decode cX9_in 7 = .ok (.if_icmp .gt 7, 3) := by decide +kernel
theorem dX9_in_10 : decode cX9_in 10 = .ok (.iconst 1, 1) := by decide +kernel
theorem dX9_in_11 : decode cX9_in 11 = .ok (.goto 4, 3) := by decide +kernel
theorem dX9_in_14 : decode cX9_in 14 = .ok (.iconst 0, 1) := by decide +kernel
theorem dX9_in_15 : decode cX9_in 15 = .ok (.ireturn, 1) := by decide +kernel
theorem dX9_copies_0 : decode cX9_copies 0 = .ok (.iconst 0, 1) := by decide +kernel
theorem dX9_copies_1 : decode cX9_copies 1 = .ok (.istore 4, 2) := by decide +kernel
theorem dX9_copies_3 : decode cX9_copies 3 = .ok (.iload 4, 2) := by decide +kernel
theorem dX9_copies_5 : decode cX9_copies 5 = .ok (.bipush 60, 2) := by decide +kernel
theorem dX9_copies_7 : decode cX9_copies 7 = .ok (.if_icmp .ge 21, 3) := by decide +kernel
theorem dX9_copies_10 : decode cX9_copies 10 = .ok (.aload_n 2, 1) := by decide +kernel
theorem dX9_copies_11 : decode cX9_copies 11 = .ok (.iload_n 3, 1) := by decide +kernel
theorem dX9_copies_12 : decode cX9_copies 12 = .ok (.iload 4, 2) := by decide +kernel
theorem dX9_copies_14 : decode cX9_copies 14 = .ok (.iadd, 1) := by decide +kernel
theorem dX9_copies_15 : decode cX9_copies 15 = .ok (.aload_n 0, 1) := by decide +kernel
theorem dX9_copies_16 : decode cX9_copies 16 = .ok (.iload_n 1, 1) := by decide +kernel
theorem dX9_copies_17 : decode cX9_copies 17 = .ok (.iload 4, 2) := by decide +kernel
theorem dX9_copies_19 : decode cX9_copies 19 = .ok (.iadd, 1) := by decide +kernel
theorem dX9_copies_20 : decode cX9_copies 20 = .ok (.iaload, 1) := by decide +kernel
theorem dX9_copies_21 : decode cX9_copies 21 = .ok (.iastore, 1) := by decide +kernel
theorem dX9_copies_22 : decode cX9_copies 22 = .ok (.iinc 4 1, 3) := by decide +kernel
theorem dX9_copies_25 : decode cX9_copies 25 = .ok (.goto (-22), 3) := by decide +kernel
theorem dX9_copies_28 : decode cX9_copies 28 = .ok (.return_, 1) := by decide +kernel
theorem dX9_begins_0 : decode cX9_begins 0 = .ok (.aload_n 0, 1) := by decide +kernel
theorem dX9_begins_1 : decode cX9_begins 1 = .ok (.iconst 0, 1) := by decide +kernel
theorem dX9_begins_2 : decode cX9_begins 2 = .ok (.putfield 32, 3) := by decide +kernel
theorem dX9_begins_5 : decode cX9_begins 5 = .ok (.aload_n 0, 1) := by decide +kernel
theorem dX9_begins_6 : decode cX9_begins 6 = .ok (.getfield 7, 3) := by decide +kernel
theorem dX9_begins_9 : decode cX9_begins 9 = .ok (.iconst 0, 1) := by decide +kernel
theorem dX9_begins_10 : decode cX9_begins 10 = .ok (.aload_n 0, 1) := by decide +kernel
theorem dX9_begins_11 : decode cX9_begins 11 = .ok (.getfield 13, 3) := by decide +kernel
theorem dX9_begins_14 : decode cX9_begins 14 = .ok (.iconst 0, 1) := by decide +kernel
theorem dX9_begins_15 : decode cX9_begins 15 = .ok (.invokestatic 36, 3) := by decide +kernel
theorem dX9_begins_18 : decode cX9_begins 18 = .ok (.return_, 1) := by decide +kernel
theorem dX9_records_0 : decode cX9_records 0 = .ok (.aload_n 0, 1) := by decide +kernel
theorem dX9_records_1 : decode cX9_records 1 = .ok (.getfield 40, 3) := by decide +kernel
theorem dX9_records_4 : decode cX9_records 4 = .ok (.iconst 4, 1) := by decide +kernel
theorem dX9_records_5 : decode cX9_records 5 = .ok (.if_icmp .ne 43, 3) := by decide +kernel
theorem dX9_records_8 : decode cX9_records 8 = .ok (.iconst 0, 1) := by decide +kernel
theorem dX9_records_9 : decode cX9_records 9 = .ok (.istore_n 1, 1) := by decide +kernel
theorem dX9_records_10 : decode cX9_records 10 = .ok (.iload_n 1, 1) := by decide +kernel
theorem dX9_records_11 : decode cX9_records 11 = .ok (.sipush 180, 3) := by decide +kernel
theorem dX9_records_14 : decode cX9_records 14 = .ok (.if_icmp .ge 24, 3) := by decide +kernel
theorem dX9_records_17 : decode cX9_records 17 = .ok (.aload_n 0, 1) := by decide +kernel
theorem dX9_records_18 : decode cX9_records 18 = .ok (.getfield 19, 3) := by decide +kernel
theorem dX9_records_21 : decode cX9_records 21 = .ok (.iload_n 1, 1) := by decide +kernel
theorem dX9_records_22 : decode cX9_records 22 = .ok (.aload_n 0, 1) := by decide +kernel
theorem dX9_records_23 : decode cX9_records 23 = .ok (.getfield 19, 3) := by decide +kernel
theorem dX9_records_26 : decode cX9_records 26 = .ok (.iload_n 1, 1) := by decide +kernel
theorem dX9_records_27 : decode cX9_records 27 = .ok (.bipush 60, 2) := by decide +kernel
theorem dX9_records_29 : decode cX9_records 29 = .ok (.iadd, 1) := by decide +kernel
theorem dX9_records_30 : decode cX9_records 30 = .ok (.iaload, 1) := by decide +kernel
theorem dX9_records_31 : decode cX9_records 31 = .ok (.iastore, 1) := by decide +kernel
theorem dX9_records_32 : decode cX9_records 32 = .ok (.iinc 1 1, 3) := by decide +kernel
theorem dX9_records_35 : decode cX9_records 35 = .ok (.goto (-25), 3) := by decide +kernel
theorem dX9_records_38 : decode cX9_records 38 = .ok (.aload_n 0, 1) := by decide +kernel
theorem dX9_records_39 : decode cX9_records 39 = .ok (.dup, 1) := by decide +kernel
theorem dX9_records_40 : decode cX9_records 40 = .ok (.getfield 40, 3) := by decide +kernel
theorem dX9_records_43 : decode cX9_records 43 = .ok (.iconst 1, 1) := by decide +kernel
theorem dX9_records_44 : decode cX9_records 44 = .ok (.isub, 1) := by decide +kernel
theorem dX9_records_45 : decode cX9_records 45 = .ok (.putfield 40, 3) := by decide +kernel
theorem dX9_records_48 : decode cX9_records 48 = .ok (.aload_n 0, 1) := by decide +kernel
theorem dX9_records_49 : decode cX9_records 49 = .ok (.getfield 13, 3) := by decide +kernel
theorem dX9_records_52 : decode cX9_records 52 = .ok (.iconst 0, 1) := by decide +kernel
theorem dX9_records_53 : decode cX9_records 53 = .ok (.aload_n 0, 1) := by decide +kernel
theorem dX9_records_54 : decode cX9_records 54 = .ok (.getfield 19, 3) := by decide +kernel
theorem dX9_records_57 : decode cX9_records 57 = .ok (.bipush 60, 2) := by decide +kernel
theorem dX9_records_59 : decode cX9_records 59 = .ok (.aload_n 0, 1) := by decide +kernel
theorem dX9_records_60 : decode cX9_records 60 = .ok (.getfield 40, 3) := by decide +kernel
theorem dX9_records_63 : decode cX9_records 63 = .ok (.imul, 1) := by decide +kernel
theorem dX9_records_64 : decode cX9_records 64 = .ok (.invokestatic 36, 3) := by decide +kernel
theorem dX9_records_67 : decode cX9_records 67 = .ok (.aload_n 0, 1) := by decide +kernel
theorem dX9_records_68 : decode cX9_records 68 = .ok (.dup, 1) := by decide +kernel
theorem dX9_records_69 : decode cX9_records 69 = .ok (.getfield 40, 3) := by decide +kernel
theorem dX9_records_72 : decode cX9_records 72 = .ok (.iconst 1, 1) := by decide +kernel
theorem dX9_records_73 : decode cX9_records 73 = .ok (.iadd, 1) := by decide +kernel
theorem dX9_records_74 : decode cX9_records 74 = .ok (.putfield 40, 3) := by decide +kernel
theorem dX9_records_77 : decode cX9_records 77 = .ok (.return_, 1) := by decide +kernel
theorem dX9_ends_0 : decode cX9_ends 0 = .ok (.iload_n 1, 1) := by decide +kernel
theorem dX9_ends_1 : decode cX9_ends 1 = .ok (.bipush (-11), 2) := by decide +kernel
theorem dX9_ends_3 : decode cX9_ends 3 = .ok (.if_icmp .ne 9, 3) := by decide +kernel
theorem dX9_ends_6 : decode cX9_ends 6 = .ok (.aload_n 0, 1) := by decide +kernel
theorem dX9_ends_7 : decode cX9_ends 7 = .ok (.iconst 1, 1) := by decide +kernel
theorem dX9_ends_8 : decode cX9_ends 8 = .ok (.invokevirtual 43, 3) := by decide +kernel
theorem dX9_ends_11 : decode cX9_ends 11 = .ok (.ireturn, 1) := by decide +kernel
theorem dX9_ends_12 : decode cX9_ends 12 = .ok (.iload_n 1, 1) := by decide +kernel
theorem dX9_ends_13 : decode cX9_ends 13 = .ok (.bipush (-12), 2) := by decide +kernel
theorem dX9_ends_15 : decode cX9_ends 15 = .ok (.if_icmp .ne 9, 3) := by decide +kernel
theorem dX9_ends_18 : decode cX9_ends 18 = .ok (.aload_n 0, 1) := by decide +kernel
theorem dX9_ends_19 : decode cX9_ends 19 = .ok (.iconst 2, 1) := by decide +kernel
theorem dX9_ends_20 : decode cX9_ends 20 = .ok (.invokevirtual 43, 3) := by decide +kernel
theorem dX9_ends_23 : decode cX9_ends 23 = .ok (.ireturn, 1) := by decide +kernel
theorem dX9_ends_24 : decode cX9_ends 24 = .ok (.aload_n 0, 1) := by decide +kernel
theorem dX9_ends_25 : decode cX9_ends 25 = .ok (.invokevirtual 47, 3) := by decide +kernel
theorem dX9_ends_28 : decode cX9_ends 28 = .ok (.iload_n 1, 1) := by decide +kernel
theorem dX9_ends_29 : decode cX9_ends 29 = .ok (.ireturn, 1) := by decide +kernel
theorem dX9_isNumber_0 : decode cX9_isNumber 0 = .ok (.iload_n 0, 1) := by decide +kernel
theorem dX9_isNumber_1 : decode cX9_isNumber 1 = .ok (.iconst 2, 1) := by decide +kernel
theorem dX9_isNumber_2 : decode cX9_isNumber 2 = .ok (.bipush 60, 2) := by decide +kernel
theorem dX9_isNumber_4 : decode cX9_isNumber 4 = .ok (.invokestatic 50, 3) := by decide +kernel
theorem dX9_isNumber_7 : decode cX9_isNumber 7 = .ok (.ireturn, 1) := by decide +kernel
theorem dX9_root_0 : decode cX9_root 0 = .ok (.iconst 1, 1) := by decide +kernel
theorem dX9_root_1 : decode cX9_root 1 = .ok (.istore_n 1, 1) := by decide +kernel
theorem dX9_root_2 : decode cX9_root 2 = .ok (.iload_n 1, 1) := by decide +kernel
theorem dX9_root_3 : decode cX9_root 3 = .ok (.iconst 1, 1) := by decide +kernel
theorem dX9_root_4 : decode cX9_root 4 = .ok (.iadd, 1) := by decide +kernel
theorem dX9_root_5 : decode cX9_root 5 = .ok (.iload_n 1, 1) := by decide +kernel
theorem dX9_root_6 : decode cX9_root 6 = .ok (.iconst 1, 1) := by decide +kernel
theorem dX9_root_7 : decode cX9_root 7 = .ok (.iadd, 1) := by decide +kernel
theorem dX9_root_8 : decode cX9_root 8 = .ok (.imul, 1) := by decide +kernel
theorem dX9_root_9 : decode cX9_root 9 = .ok (.iload_n 0, 1) := by decide +kernel
theorem dX9_root_10 : decode cX9_root 10 = .ok (.if_icmp .gt 9, 3) := by decide +kernel
theorem dX9_root_13 : decode cX9_root 13 = .ok (.iinc 1 1, 3) := by decide +kernel
theorem dX9_root_16 : decode cX9_root 16 = .ok (.goto (-14), 3) := by decide +kernel
theorem dX9_root_19 : decode cX9_root 19 = .ok (.iload_n 1, 1) := by decide +kernel
theorem dX9_root_20 : decode cX9_root 20 = .ok (.ireturn, 1) := by decide +kernel
theorem dX9_isSquare_0 : decode cX9_isSquare 0 = .ok (.iload_n 0, 1) := by decide +kernel
theorem dX9_isSquare_1 : decode cX9_isSquare 1 = .ok (.invokestatic 54, 3) := by decide +kernel
theorem dX9_isSquare_4 : decode cX9_isSquare 4 = .ok (.iload_n 0, 1) := by decide +kernel
theorem dX9_isSquare_5 : decode cX9_isSquare 5 = .ok (.invokestatic 54, 3) := by decide +kernel
theorem dX9_isSquare_8 : decode cX9_isSquare 8 = .ok (.imul, 1) := by decide +kernel
theorem dX9_isSquare_9 : decode cX9_isSquare 9 = .ok (.iload_n 0, 1) := by decide +kernel
theorem dX9_isSquare_10 : decode cX9_isSquare 10 = .ok (.if_icmp .ne 7, 3) := by decide +kernel
theorem dX9_isSquare_13 : decode cX9_isSquare 13 = .ok (.iconst 1, 1) := by decide +kernel
theorem dX9_isSquare_14 : decode cX9_isSquare 14 = .ok (.goto 4, 3) := by decide +kernel
theorem dX9_isSquare_17 : decode cX9_isSquare 17 = .ok (.iconst 0, 1) := by decide +kernel
theorem dX9_isSquare_18 : decode cX9_isSquare 18 = .ok (.ireturn, 1) := by decide +kernel
theorem dX9_beginsTerms_0 : decode cX9_beginsTerms 0 = .ok (.aload_n 0, 1) := by decide +kernel
theorem dX9_beginsTerms_1 : decode cX9_beginsTerms 1 = .ok (.iconst 0, 1) := by decide +kernel
theorem dX9_beginsTerms_2 : decode cX9_beginsTerms 2 = .ok (.putfield 57, 3) := by decide +kernel
theorem dX9_beginsTerms_5 : decode cX9_beginsTerms 5 = .ok (.aload_n 0, 1) := by decide +kernel
theorem dX9_beginsTerms_6 : decode cX9_beginsTerms 6 = .ok (.iconst 1, 1) := by decide +kernel
theorem dX9_beginsTerms_7 : decode cX9_beginsTerms 7 = .ok (.putfield 60, 3) := by decide +kernel
theorem dX9_beginsTerms_10 : decode cX9_beginsTerms 10 = .ok (.aload_n 0, 1) := by decide +kernel
theorem dX9_beginsTerms_11 : decode cX9_beginsTerms 11 = .ok (.iload_n 1, 1) := by decide +kernel
theorem dX9_beginsTerms_12 : decode cX9_beginsTerms 12 = .ok (.invokestatic 54, 3) := by decide +kernel
theorem dX9_beginsTerms_15 : decode cX9_beginsTerms 15 = .ok (.putfield 63, 3) := by decide +kernel
theorem dX9_beginsTerms_18 : decode cX9_beginsTerms 18 = .ok (.aload_n 0, 1) := by decide +kernel
theorem dX9_beginsTerms_19 : decode cX9_beginsTerms 19 = .ok (.lconst 1, 1) := by decide +kernel
theorem dX9_beginsTerms_20 : decode cX9_beginsTerms 20 = .ok (.putfield 66, 3) := by decide +kernel
theorem dX9_beginsTerms_23 : decode cX9_beginsTerms 23 = .ok (.aload_n 0, 1) := by decide +kernel
theorem dX9_beginsTerms_24 : decode cX9_beginsTerms 24 = .ok (.lconst 0, 1) := by decide +kernel
theorem dX9_beginsTerms_25 : decode cX9_beginsTerms 25 = .ok (.putfield 70, 3) := by decide +kernel
theorem dX9_beginsTerms_28 : decode cX9_beginsTerms 28 = .ok (.aload_n 0, 1) := by decide +kernel
theorem dX9_beginsTerms_29 : decode cX9_beginsTerms 29 = .ok (.aload_n 0, 1) := by decide +kernel
theorem dX9_beginsTerms_30 : decode cX9_beginsTerms 30 = .ok (.getfield 63, 3) := by decide +kernel
theorem dX9_beginsTerms_33 : decode cX9_beginsTerms 33 = .ok (.i2l, 1) := by decide +kernel
theorem dX9_beginsTerms_34 : decode cX9_beginsTerms 34 = .ok (.putfield 73, 3) := by decide +kernel
theorem dX9_beginsTerms_37 : decode cX9_beginsTerms 37 = .ok (.aload_n 0, 1) := by decide +kernel
theorem dX9_beginsTerms_38 : decode cX9_beginsTerms 38 = .ok (.lconst 1, 1) := by decide +kernel
theorem dX9_beginsTerms_39 : decode cX9_beginsTerms 39 = .ok (.putfield 76, 3) := by decide +kernel
theorem dX9_beginsTerms_42 : decode cX9_beginsTerms 42 = .ok (.return_, 1) := by decide +kernel
theorem dX9_nextTerm_0 : decode cX9_nextTerm 0 = .ok (.aload_n 0, 1) := by decide +kernel
theorem dX9_nextTerm_1 : decode cX9_nextTerm 1 = .ok (.aload_n 0, 1) := by decide +kernel
theorem dX9_nextTerm_2 : decode cX9_nextTerm 2 = .ok (.getfield 60, 3) := by decide +kernel
theorem dX9_nextTerm_5 : decode cX9_nextTerm 5 = .ok (.aload_n 0, 1) := by decide +kernel
theorem dX9_nextTerm_6 : decode cX9_nextTerm 6 = .ok (.getfield 63, 3) := by decide +kernel
theorem dX9_nextTerm_9 : decode cX9_nextTerm 9 = .ok (.imul, 1) := by decide +kernel
theorem dX9_nextTerm_10 : decode cX9_nextTerm 10 = .ok (.aload_n 0, 1) := by decide +kernel
theorem dX9_nextTerm_11 : decode cX9_nextTerm 11 = .ok (.getfield 57, 3) := by decide +kernel
theorem dX9_nextTerm_14 : decode cX9_nextTerm 14 = .ok (.isub, 1) := by decide +kernel
theorem dX9_nextTerm_15 : decode cX9_nextTerm 15 = .ok (.putfield 57, 3) := by decide +kernel
theorem dX9_nextTerm_18 : decode cX9_nextTerm 18 = .ok (.aload_n 0, 1) := by decide +kernel
theorem dX9_nextTerm_19 : decode cX9_nextTerm 19 = .ok (.iload_n 1, 1) := by decide +kernel
theorem dX9_nextTerm_20 : decode cX9_nextTerm 20 = .ok (.aload_n 0, 1) := by decide +kernel
theorem dX9_nextTerm_21 : decode cX9_nextTerm 21 = .ok (.getfield 57, 3) := by decide +kernel
theorem dX9_nextTerm_24 : decode cX9_nextTerm 24 = .ok (.aload_n 0, 1) := by decide +kernel
theorem dX9_nextTerm_25 : decode cX9_nextTerm 25 = .ok (.getfield 57, 3) := by decide +kernel
theorem dX9_nextTerm_28 : decode cX9_nextTerm 28 = .ok (.imul, 1) := by decide +kernel
theorem dX9_nextTerm_29 : decode cX9_nextTerm 29 = .ok (.isub, 1) := by decide +kernel
theorem dX9_nextTerm_30 : decode cX9_nextTerm 30 = .ok (.aload_n 0, 1) := by decide +kernel
theorem dX9_nextTerm_31 : decode cX9_nextTerm 31 = .ok (.getfield 60, 3) := by decide +kernel
theorem dX9_nextTerm_34 : decode cX9_nextTerm 34 = .ok (.idiv, 1) := by decide +kernel
theorem dX9_nextTerm_35 : decode cX9_nextTerm 35 = .ok (.putfield 60, 3) := by decide +kernel
theorem dX9_nextTerm_38 : decode cX9_nextTerm 38 = .ok (.aload_n 0, 1) := by decide +kernel
theorem dX9_nextTerm_39 : decode cX9_nextTerm 39 = .ok (.iload_n 1, 1) := by decide +kernel
theorem dX9_nextTerm_40 : decode cX9_nextTerm 40 = .ok (.invokestatic 54, 3) := by decide +kernel
theorem dX9_nextTerm_43 : decode cX9_nextTerm 43 = .ok (.aload_n 0, 1) := by decide +kernel
theorem dX9_nextTerm_44 : decode cX9_nextTerm 44 = .ok (.getfield 57, 3) := by decide +kernel
theorem dX9_nextTerm_47 : decode cX9_nextTerm 47 = .ok (.iadd, 1) := by decide +kernel
theorem dX9_nextTerm_48 : decode cX9_nextTerm 48 = .ok (.aload_n 0, 1) := by decide +kernel
theorem dX9_nextTerm_49 : decode cX9_nextTerm 49 = .ok (.getfield 60, 3) := by decide +kernel
theorem dX9_nextTerm_52 : decode cX9_nextTerm 52 = .ok (.idiv, 1) := by decide +kernel
theorem dX9_nextTerm_53 : decode cX9_nextTerm 53 = .ok (.putfield 63, 3) := by decide +kernel
theorem dX9_nextTerm_56 : decode cX9_nextTerm 56 = .ok (.return_, 1) := by decide +kernel
theorem dX9_adds_0 : decode cX9_adds 0 = .ok (.aload_n 0, 1) := by decide +kernel
theorem dX9_adds_1 : decode cX9_adds 1 = .ok (.getfield 63, 3) := by decide +kernel
theorem dX9_adds_4 : decode cX9_adds 4 = .ok (.i2l, 1) := by decide +kernel
theorem dX9_adds_5 : decode cX9_adds 5 = .ok (.aload_n 0, 1) := by decide +kernel
theorem dX9_adds_6 : decode cX9_adds 6 = .ok (.getfield 73, 3) := by decide +kernel
theorem dX9_adds_9 : decode cX9_adds 9 = .ok (.lmul, 1) := by decide +kernel
theorem dX9_adds_10 : decode cX9_adds 10 = .ok (.aload_n 0, 1) := by decide +kernel
theorem dX9_adds_11 : decode cX9_adds 11 = .ok (.getfield 66, 3) := by decide +kernel
theorem dX9_adds_14 : decode cX9_adds 14 = .ok (.ladd, 1) := by decide +kernel
theorem dX9_adds_15 : decode cX9_adds 15 = .ok (.lstore_n 1, 1) := by decide +kernel
theorem dX9_adds_16 : decode cX9_adds 16 = .ok (.aload_n 0, 1) := by decide +kernel
theorem dX9_adds_17 : decode cX9_adds 17 = .ok (.getfield 63, 3) := by decide +kernel
theorem dX9_adds_20 : decode cX9_adds 20 = .ok (.i2l, 1) := by decide +kernel
theorem dX9_adds_21 : decode cX9_adds 21 = .ok (.aload_n 0, 1) := by decide +kernel
theorem dX9_adds_22 : decode cX9_adds 22 = .ok (.getfield 76, 3) := by decide +kernel
theorem dX9_adds_25 : decode cX9_adds 25 = .ok (.lmul, 1) := by decide +kernel
theorem dX9_adds_26 : decode cX9_adds 26 = .ok (.aload_n 0, 1) := by decide +kernel
theorem dX9_adds_27 : decode cX9_adds 27 = .ok (.getfield 70, 3) := by decide +kernel
theorem dX9_adds_30 : decode cX9_adds 30 = .ok (.ladd, 1) := by decide +kernel
theorem dX9_adds_31 : decode cX9_adds 31 = .ok (.lstore_n 3, 1) := by decide +kernel
theorem dX9_adds_32 : decode cX9_adds 32 = .ok (.aload_n 0, 1) := by decide +kernel
theorem dX9_adds_33 : decode cX9_adds 33 = .ok (.aload_n 0, 1) := by decide +kernel
theorem dX9_adds_34 : decode cX9_adds 34 = .ok (.getfield 73, 3) := by decide +kernel
theorem dX9_adds_37 : decode cX9_adds 37 = .ok (.putfield 66, 3) := by decide +kernel
theorem dX9_adds_40 : decode cX9_adds 40 = .ok (.aload_n 0, 1) := by decide +kernel
theorem dX9_adds_41 : decode cX9_adds 41 = .ok (.aload_n 0, 1) := by decide +kernel
theorem dX9_adds_42 : decode cX9_adds 42 = .ok (.getfield 76, 3) := by decide +kernel
theorem dX9_adds_45 : decode cX9_adds 45 = .ok (.putfield 70, 3) := by decide +kernel
theorem dX9_adds_48 : decode cX9_adds 48 = .ok (.aload_n 0, 1) := by decide +kernel
theorem dX9_adds_49 : decode cX9_adds 49 = .ok (.lload_n 1, 1) := by decide +kernel
theorem dX9_adds_50 : decode cX9_adds 50 = .ok (.putfield 73, 3) := by decide +kernel
theorem dX9_adds_53 : decode cX9_adds 53 = .ok (.aload_n 0, 1) := by decide +kernel
theorem dX9_adds_54 : decode cX9_adds 54 = .ok (.lload_n 3, 1) := by decide +kernel
theorem dX9_adds_55 : decode cX9_adds 55 = .ok (.putfield 76, 3) := by decide +kernel
theorem dX9_adds_58 : decode cX9_adds 58 = .ok (.return_, 1) := by decide +kernel
theorem dX9_period_0 : decode cX9_period 0 = .ok (.aload_n 0, 1) := by decide +kernel
theorem dX9_period_1 : decode cX9_period 1 = .ok (.iload_n 1, 1) := by decide +kernel
theorem dX9_period_2 : decode cX9_period 2 = .ok (.invokevirtual 79, 3) := by decide +kernel
theorem dX9_period_5 : decode cX9_period 5 = .ok (.iconst 1, 1) := by decide +kernel
theorem dX9_period_6 : decode cX9_period 6 = .ok (.istore_n 2, 1) := by decide +kernel
theorem dX9_period_7 : decode cX9_period 7 = .ok (.aload_n 0, 1) := by decide +kernel
theorem dX9_period_8 : decode cX9_period 8 = .ok (.iload_n 1, 1) := by decide +kernel
theorem dX9_period_9 : decode cX9_period 9 = .ok (.invokevirtual 83, 3) := by decide +kernel
theorem dX9_period_12 : decode cX9_period 12 = .ok (.aload_n 0, 1) := by decide +kernel
theorem dX9_period_13 : decode cX9_period 13 = .ok (.getfield 63, 3) := by decide +kernel
theorem dX9_period_16 : decode cX9_period 16 = .ok (.iconst 2, 1) := by decide +kernel
theorem dX9_period_17 : decode cX9_period 17 = .ok (.iload_n 1, 1) := by decide +kernel
theorem dX9_period_18 : decode cX9_period 18 = .ok (.invokestatic 54, 3) := by decide +kernel
theorem dX9_period_21 : decode cX9_period 21 = .ok (.imul, 1) := by decide +kernel
theorem dX9_period_22 : decode cX9_period 22 = .ok (.if_icmp .eq 18, 3) := by decide +kernel
theorem dX9_period_25 : decode cX9_period 25 = .ok (.aload_n 0, 1) := by decide +kernel
theorem dX9_period_26 : decode cX9_period 26 = .ok (.invokevirtual 86, 3) := by decide +kernel
theorem dX9_period_29 : decode cX9_period 29 = .ok (.aload_n 0, 1) := by decide +kernel
theorem dX9_period_30 : decode cX9_period 30 = .ok (.iload_n 1, 1) := by decide +kernel
theorem dX9_period_31 : decode cX9_period 31 = .ok (.invokevirtual 83, 3) := by decide +kernel
theorem dX9_period_34 : decode cX9_period 34 = .ok (.iinc 2 1, 3) := by decide +kernel
theorem dX9_period_37 : decode cX9_period 37 = .ok (.goto (-25), 3) := by decide +kernel
theorem dX9_period_40 : decode cX9_period 40 = .ok (.iload_n 2, 1) := by decide +kernel
theorem dX9_period_41 : decode cX9_period 41 = .ok (.ireturn, 1) := by decide +kernel
theorem dX9_stand_0 : decode cX9_stand 0 = .ok (.aload_n 0, 1) := by decide +kernel
theorem dX9_stand_1 : decode cX9_stand 1 = .ok (.getfield 7, 3) := by decide +kernel
theorem dX9_stand_4 : decode cX9_stand 4 = .ok (.iconst 0, 1) := by decide +kernel
theorem dX9_stand_5 : decode cX9_stand 5 = .ok (.iload_n 1, 1) := by decide +kernel
theorem dX9_stand_6 : decode cX9_stand 6 = .ok (.iadd, 1) := by decide +kernel
theorem dX9_stand_7 : decode cX9_stand 7 = .ok (.iconst 2, 1) := by decide +kernel
theorem dX9_stand_8 : decode cX9_stand 8 = .ok (.isub, 1) := by decide +kernel
theorem dX9_stand_9 : decode cX9_stand 9 = .ok (.iaload, 1) := by decide +kernel
theorem dX9_stand_10 : decode cX9_stand 10 = .ok (.iconst 1, 1) := by decide +kernel
theorem dX9_stand_11 : decode cX9_stand 11 = .ok (.isub, 1) := by decide +kernel
theorem dX9_stand_12 : decode cX9_stand 12 = .ok (.ireturn, 1) := by decide +kernel
theorem dX9_puts_0 : decode cX9_puts 0 = .ok (.aload_n 0, 1) := by decide +kernel
theorem dX9_puts_1 : decode cX9_puts 1 = .ok (.getfield 7, 3) := by decide +kernel
theorem dX9_puts_4 : decode cX9_puts 4 = .ok (.iconst 0, 1) := by decide +kernel
theorem dX9_puts_5 : decode cX9_puts 5 = .ok (.iload_n 1, 1) := by decide +kernel
theorem dX9_puts_6 : decode cX9_puts 6 = .ok (.iadd, 1) := by decide +kernel
theorem dX9_puts_7 : decode cX9_puts 7 = .ok (.iconst 2, 1) := by decide +kernel
theorem dX9_puts_8 : decode cX9_puts 8 = .ok (.isub, 1) := by decide +kernel
theorem dX9_puts_9 : decode cX9_puts 9 = .ok (.iload_n 2, 1) := by decide +kernel
theorem dX9_puts_10 : decode cX9_puts 10 = .ok (.iconst 1, 1) := by decide +kernel
theorem dX9_puts_11 : decode cX9_puts 11 = .ok (.iadd, 1) := by decide +kernel
theorem dX9_puts_12 : decode cX9_puts 12 = .ok (.iastore, 1) := by decide +kernel
theorem dX9_puts_13 : decode cX9_puts 13 = .ok (.return_, 1) := by decide +kernel
theorem dX9_many_0 : decode cX9_many 0 = .ok (.iconst 0, 1) := by decide +kernel
theorem dX9_many_1 : decode cX9_many 1 = .ok (.istore_n 1, 1) := by decide +kernel
theorem dX9_many_2 : decode cX9_many 2 = .ok (.iconst 2, 1) := by decide +kernel
theorem dX9_many_3 : decode cX9_many 3 = .ok (.istore_n 2, 1) := by decide +kernel
theorem dX9_many_4 : decode cX9_many 4 = .ok (.iload_n 2, 1) := by decide +kernel
theorem dX9_many_5 : decode cX9_many 5 = .ok (.bipush 60, 2) := by decide +kernel
theorem dX9_many_7 : decode cX9_many 7 = .ok (.if_icmp .gt 25, 3) := by decide +kernel
theorem dX9_many_10 : decode cX9_many 10 = .ok (.iload_n 1, 1) := by decide +kernel
theorem dX9_many_11 : decode cX9_many 11 = .ok (.aload_n 0, 1) := by decide +kernel
theorem dX9_many_12 : decode cX9_many 12 = .ok (.iload_n 2, 1) := by decide +kernel
theorem dX9_many_13 : decode cX9_many 13 = .ok (.invokevirtual 89, 3) := by decide +kernel
theorem dX9_many_16 : decode cX9_many 16 = .ok (.ifCond .lt 7, 3) := by decide +kernel
theorem dX9_many_19 : decode cX9_many 19 = .ok (.iconst 1, 1) := by decide +kernel
theorem dX9_many_20 : decode cX9_many 20 = .ok (.goto 4, 3) := by decide +kernel
theorem dX9_many_23 : decode cX9_many 23 = .ok (.iconst 0, 1) := by decide +kernel
theorem dX9_many_24 : decode cX9_many 24 = .ok (.iadd, 1) := by decide +kernel
theorem dX9_many_25 : decode cX9_many 25 = .ok (.istore_n 1, 1) := by decide +kernel
theorem dX9_many_26 : decode cX9_many 26 = .ok (.iinc 2 1, 3) := by decide +kernel
theorem dX9_many_29 : decode cX9_many 29 = .ok (.goto (-25), 3) := by decide +kernel
theorem dX9_many_32 : decode cX9_many 32 = .ok (.iload_n 1, 1) := by decide +kernel
theorem dX9_many_33 : decode cX9_many 33 = .ok (.ireturn, 1) := by decide +kernel
theorem dX9_beginsPowers_0 : decode cX9_beginsPowers 0 = .ok (.aload_n 0, 1) := by decide +kernel
theorem dX9_beginsPowers_1 : decode cX9_beginsPowers 1 = .ok (.aload_n 0, 1) := by decide +kernel
theorem dX9_beginsPowers_2 : decode cX9_beginsPowers 2 = .ok (.iload_n 1, 1) := by decide +kernel
theorem dX9_beginsPowers_3 : decode cX9_beginsPowers 3 = .ok (.invokevirtual 92, 3) := by decide +kernel
theorem dX9_beginsPowers_6 : decode cX9_beginsPowers 6 = .ok (.iconst 2, 1) := by decide +kernel
theorem dX9_beginsPowers_7 : decode cX9_beginsPowers 7 = .ok (.irem, 1) := by decide +kernel
theorem dX9_beginsPowers_8 : decode cX9_beginsPowers 8 = .ok (.ifCond .ne 7, 3) := by decide +kernel
theorem dX9_beginsPowers_11 : decode cX9_beginsPowers 11 = .ok (.iconst 1, 1) := by decide +kernel
theorem dX9_beginsPowers_12 : decode cX9_beginsPowers 12 = .ok (.goto 4, 3) := by decide +kernel
theorem dX9_beginsPowers_15 : decode cX9_beginsPowers 15 = .ok (.iconst (-1), 1) := by decide +kernel
theorem dX9_beginsPowers_16 : decode cX9_beginsPowers 16 = .ok (.putfield 95, 3) := by decide +kernel
theorem dX9_beginsPowers_19 : decode cX9_beginsPowers 19 = .ok (.aload_n 0, 1) := by decide +kernel
theorem dX9_beginsPowers_20 : decode cX9_beginsPowers 20 = .ok (.aload_n 0, 1) := by decide +kernel
theorem dX9_beginsPowers_21 : decode cX9_beginsPowers 21 = .ok (.getfield 73, 3) := by decide +kernel
theorem dX9_beginsPowers_24 : decode cX9_beginsPowers 24 = .ok (.putfield 98, 3) := by decide +kernel
theorem dX9_beginsPowers_27 : decode cX9_beginsPowers 27 = .ok (.aload_n 0, 1) := by decide +kernel
theorem dX9_beginsPowers_28 : decode cX9_beginsPowers 28 = .ok (.aload_n 0, 1) := by decide +kernel
theorem dX9_beginsPowers_29 : decode cX9_beginsPowers 29 = .ok (.getfield 76, 3) := by decide +kernel
theorem dX9_beginsPowers_32 : decode cX9_beginsPowers 32 = .ok (.putfield 101, 3) := by decide +kernel
theorem dX9_beginsPowers_35 : decode cX9_beginsPowers 35 = .ok (.aload_n 0, 1) := by decide +kernel
theorem dX9_beginsPowers_36 : decode cX9_beginsPowers 36 = .ok (.lconst 1, 1) := by decide +kernel
theorem dX9_beginsPowers_37 : decode cX9_beginsPowers 37 = .ok (.putfield 104, 3) := by decide +kernel
theorem dX9_beginsPowers_40 : decode cX9_beginsPowers 40 = .ok (.aload_n 0, 1) := by decide +kernel
theorem dX9_beginsPowers_41 : decode cX9_beginsPowers 41 = .ok (.lconst 0, 1) := by decide +kernel
theorem dX9_beginsPowers_42 : decode cX9_beginsPowers 42 = .ok (.putfield 107, 3) := by decide +kernel
theorem dX9_beginsPowers_45 : decode cX9_beginsPowers 45 = .ok (.return_, 1) := by decide +kernel
theorem dX9_grows_0 : decode cX9_grows 0 = .ok (.aload_n 0, 1) := by decide +kernel
theorem dX9_grows_1 : decode cX9_grows 1 = .ok (.getfield 104, 3) := by decide +kernel
theorem dX9_grows_4 : decode cX9_grows 4 = .ok (.ldc2_w 110, 3) := by decide +kernel
theorem dX9_grows_7 : decode cX9_grows 7 = .ok (.aload_n 0, 1) := by decide +kernel
theorem dX9_grows_8 : decode cX9_grows 8 = .ok (.getfield 98, 3) := by decide +kernel
theorem dX9_grows_11 : decode cX9_grows 11 = .ok (.ldiv, 1) := by decide +kernel
theorem dX9_grows_12 : decode cX9_grows 12 = .ok (.lcmp, 1) := by decide +kernel
theorem dX9_grows_13 : decode cX9_grows 13 = .ok (.ifCond .le 5, 3) := by decide +kernel
theorem dX9_grows_16 : decode cX9_grows 16 = .ok (.iconst 0, 1) := by decide +kernel
theorem dX9_grows_17 : decode cX9_grows 17 = .ok (.ireturn, 1) := by decide +kernel
theorem dX9_grows_18 : decode cX9_grows 18 = .ok (.aload_n 0, 1) := by decide +kernel
theorem dX9_grows_19 : decode cX9_grows 19 = .ok (.getfield 104, 3) := by decide +kernel
theorem dX9_grows_22 : decode cX9_grows 22 = .ok (.aload_n 0, 1) := by decide +kernel
theorem dX9_grows_23 : decode cX9_grows 23 = .ok (.getfield 98, 3) := by decide +kernel
theorem dX9_grows_26 : decode cX9_grows 26 = .ok (.lmul, 1) := by decide +kernel
theorem dX9_grows_27 : decode cX9_grows 27 = .ok (.iload_n 1, 1) := by decide +kernel
theorem dX9_grows_28 : decode cX9_grows 28 = .ok (.i2l, 1) := by decide +kernel
theorem dX9_grows_29 : decode cX9_grows 29 = .ok (.aload_n 0, 1) := by decide +kernel
theorem dX9_grows_30 : decode cX9_grows 30 = .ok (.getfield 107, 3) := by decide +kernel
theorem dX9_grows_33 : decode cX9_grows 33 = .ok (.lmul, 1) := by decide +kernel
theorem dX9_grows_34 : decode cX9_grows 34 = .ok (.aload_n 0, 1) := by decide +kernel
theorem dX9_grows_35 : decode cX9_grows 35 = .ok (.getfield 101, 3) := by decide +kernel
theorem dX9_grows_38 : decode cX9_grows 38 = .ok (.lmul, 1) := by decide +kernel
theorem dX9_grows_39 : decode cX9_grows 39 = .ok (.ladd, 1) := by decide +kernel
theorem dX9_grows_40 : decode cX9_grows 40 = .ok (.lstore_n 2, 1) := by decide +kernel
theorem dX9_grows_41 : decode cX9_grows 41 = .ok (.lload_n 2, 1) := by decide +kernel
theorem dX9_grows_42 : decode cX9_grows 42 = .ok (.ldc2_w 110, 3) := by decide +kernel
theorem dX9_grows_45 : decode cX9_grows 45 = .ok (.lcmp, 1) := by decide +kernel
theorem dX9_grows_46 : decode cX9_grows 46 = .ok (.ifCond .le 5, 3) := by decide +kernel
theorem dX9_grows_49 : decode cX9_grows 49 = .ok (.iconst 0, 1) := by decide +kernel
theorem dX9_grows_50 : decode cX9_grows 50 = .ok (.ireturn, 1) := by decide +kernel
theorem dX9_grows_51 : decode cX9_grows 51 = .ok (.aload_n 0, 1) := by decide +kernel
theorem dX9_grows_52 : decode cX9_grows 52 = .ok (.aload_n 0, 1) := by decide +kernel
theorem dX9_grows_53 : decode cX9_grows 53 = .ok (.getfield 104, 3) := by decide +kernel
theorem dX9_grows_56 : decode cX9_grows 56 = .ok (.aload_n 0, 1) := by decide +kernel
theorem dX9_grows_57 : decode cX9_grows 57 = .ok (.getfield 101, 3) := by decide +kernel
theorem dX9_grows_60 : decode cX9_grows 60 = .ok (.lmul, 1) := by decide +kernel
theorem dX9_grows_61 : decode cX9_grows 61 = .ok (.aload_n 0, 1) := by decide +kernel
theorem dX9_grows_62 : decode cX9_grows 62 = .ok (.getfield 107, 3) := by decide +kernel
theorem dX9_grows_65 : decode cX9_grows 65 = .ok (.aload_n 0, 1) := by decide +kernel
theorem dX9_grows_66 : decode cX9_grows 66 = .ok (.getfield 98, 3) := by decide +kernel
theorem dX9_grows_69 : decode cX9_grows 69 = .ok (.lmul, 1) := by decide +kernel
theorem dX9_grows_70 : decode cX9_grows 70 = .ok (.ladd, 1) := by decide +kernel
theorem dX9_grows_71 : decode cX9_grows 71 = .ok (.putfield 107, 3) := by decide +kernel
theorem dX9_grows_74 : decode cX9_grows 74 = .ok (.aload_n 0, 1) := by decide +kernel
theorem dX9_grows_75 : decode cX9_grows 75 = .ok (.lload_n 2, 1) := by decide +kernel
theorem dX9_grows_76 : decode cX9_grows 76 = .ok (.putfield 104, 3) := by decide +kernel
theorem dX9_grows_79 : decode cX9_grows 79 = .ok (.iconst 1, 1) := by decide +kernel
theorem dX9_grows_80 : decode cX9_grows 80 = .ok (.ireturn, 1) := by decide +kernel
theorem dX9_reaches_0 : decode cX9_reaches 0 = .ok (.aload_n 0, 1) := by decide +kernel
theorem dX9_reaches_1 : decode cX9_reaches 1 = .ok (.iload_n 1, 1) := by decide +kernel
theorem dX9_reaches_2 : decode cX9_reaches 2 = .ok (.invokevirtual 112, 3) := by decide +kernel
theorem dX9_reaches_5 : decode cX9_reaches 5 = .ok (.iload_n 2, 1) := by decide +kernel
theorem dX9_reaches_6 : decode cX9_reaches 6 = .ok (.istore_n 3, 1) := by decide +kernel
theorem dX9_reaches_7 : decode cX9_reaches 7 = .ok (.iload_n 3, 1) := by decide +kernel
theorem dX9_reaches_8 : decode cX9_reaches 8 = .ok (.ifCond .le 17, 3) := by decide +kernel
theorem dX9_reaches_11 : decode cX9_reaches 11 = .ok (.aload_n 0, 1) := by decide +kernel
theorem dX9_reaches_12 : decode cX9_reaches 12 = .ok (.iload_n 1, 1) := by decide +kernel
theorem dX9_reaches_13 : decode cX9_reaches 13 = .ok (.invokevirtual 115, 3) := by decide +kernel
theorem dX9_reaches_16 : decode cX9_reaches 16 = .ok (.ifCond .eq 9, 3) := by decide +kernel
theorem dX9_reaches_19 : decode cX9_reaches 19 = .ok (.iinc 3 (-1), 3) := by decide +kernel
theorem dX9_reaches_22 : decode cX9_reaches 22 = .ok (.goto (-15), 3) := by decide +kernel
theorem dX9_reaches_25 : decode cX9_reaches 25 = .ok (.return_, 1) := by decide +kernel
theorem dX9_reason_0 : decode cX9_reason 0 = .ok (.iload_n 1, 1) := by decide +kernel
theorem dX9_reason_1 : decode cX9_reason 1 = .ok (.invokestatic 119, 3) := by decide +kernel
theorem dX9_reason_4 : decode cX9_reason 4 = .ok (.ifCond .eq 7, 3) := by decide +kernel
theorem dX9_reason_7 : decode cX9_reason 7 = .ok (.iconst 1, 1) := by decide +kernel
theorem dX9_reason_8 : decode cX9_reason 8 = .ok (.goto 29, 3) := by decide +kernel
theorem dX9_reason_11 : decode cX9_reason 11 = .ok (.aload_n 0, 1) := by decide +kernel
theorem dX9_reason_12 : decode cX9_reason 12 = .ok (.iload_n 1, 1) := by decide +kernel
theorem dX9_reason_13 : decode cX9_reason 13 = .ok (.invokevirtual 89, 3) := by decide +kernel
theorem dX9_reason_16 : decode cX9_reason 16 = .ok (.ifCond .lt 7, 3) := by decide +kernel
theorem dX9_reason_19 : decode cX9_reason 19 = .ok (.iconst 2, 1) := by decide +kernel
theorem dX9_reason_20 : decode cX9_reason 20 = .ok (.goto 17, 3) := by decide +kernel
theorem dX9_reason_23 : decode cX9_reason 23 = .ok (.aload_n 0, 1) := by decide +kernel
theorem dX9_reason_24 : decode cX9_reason 24 = .ok (.invokevirtual 122, 3) := by decide +kernel
theorem dX9_reason_27 : decode cX9_reason 27 = .ok (.bipush 8, 2) := by decide +kernel
theorem dX9_reason_29 : decode cX9_reason 29 = .ok (.if_icmp .ne 7, 3) := by decide +kernel
theorem dX9_reason_32 : decode cX9_reason 32 = .ok (.iconst 3, 1) := by decide +kernel
theorem dX9_reason_33 : decode cX9_reason 33 = .ok (.goto 4, 3) := by decide +kernel
theorem dX9_reason_36 : decode cX9_reason 36 = .ok (.iconst 0, 1) := by decide +kernel
theorem dX9_reason_37 : decode cX9_reason 37 = .ok (.ireturn, 1) := by decide +kernel
theorem dX9_goLay_0 : decode cX9_goLay 0 = .ok (.iload_n 1, 1) := by decide +kernel
theorem dX9_goLay_1 : decode cX9_goLay 1 = .ok (.invokestatic 126, 3) := by decide +kernel
theorem dX9_goLay_4 : decode cX9_goLay 4 = .ok (.ifCond .ne 6, 3) := by decide +kernel
theorem dX9_goLay_7 : decode cX9_goLay 7 = .ok (.bipush (-11), 2) := by decide +kernel
theorem dX9_goLay_9 : decode cX9_goLay 9 = .ok (.ireturn, 1) := by decide +kernel
theorem dX9_goLay_10 : decode cX9_goLay 10 = .ok (.aload_n 0, 1) := by decide +kernel
theorem dX9_goLay_11 : decode cX9_goLay 11 = .ok (.iload_n 1, 1) := by decide +kernel
theorem dX9_goLay_12 : decode cX9_goLay 12 = .ok (.invokevirtual 129, 3) := by decide +kernel
theorem dX9_goLay_15 : decode cX9_goLay 15 = .ok (.ifCond .le 6, 3) := by decide +kernel
theorem dX9_goLay_18 : decode cX9_goLay 18 = .ok (.bipush (-12), 2) := by decide +kernel
theorem dX9_goLay_20 : decode cX9_goLay 20 = .ok (.ireturn, 1) := by decide +kernel
theorem dX9_goLay_21 : decode cX9_goLay 21 = .ok (.aload_n 0, 1) := by decide +kernel
theorem dX9_goLay_22 : decode cX9_goLay 22 = .ok (.iload_n 1, 1) := by decide +kernel
theorem dX9_goLay_23 : decode cX9_goLay 23 = .ok (.iconst 0, 1) := by decide +kernel
theorem dX9_goLay_24 : decode cX9_goLay 24 = .ok (.invokevirtual 132, 3) := by decide +kernel
theorem dX9_goLay_27 : decode cX9_goLay 27 = .ok (.aload_n 0, 1) := by decide +kernel
theorem dX9_goLay_28 : decode cX9_goLay 28 = .ok (.invokevirtual 122, 3) := by decide +kernel
theorem dX9_goLay_31 : decode cX9_goLay 31 = .ok (.ireturn, 1) := by decide +kernel
theorem dX9_goTake_0 : decode cX9_goTake 0 = .ok (.iload_n 1, 1) := by decide +kernel
theorem dX9_goTake_1 : decode cX9_goTake 1 = .ok (.invokestatic 126, 3) := by decide +kernel
theorem dX9_goTake_4 : decode cX9_goTake 4 = .ok (.ifCond .ne 6, 3) := by decide +kernel
theorem dX9_goTake_7 : decode cX9_goTake 7 = .ok (.bipush (-11), 2) := by decide +kernel
theorem dX9_goTake_9 : decode cX9_goTake 9 = .ok (.ireturn, 1) := by decide +kernel
theorem dX9_goTake_10 : decode cX9_goTake 10 = .ok (.aload_n 0, 1) := by decide +kernel
theorem dX9_goTake_11 : decode cX9_goTake 11 = .ok (.iload_n 1, 1) := by decide +kernel
theorem dX9_goTake_12 : decode cX9_goTake 12 = .ok (.invokevirtual 89, 3) := by decide +kernel
theorem dX9_goTake_15 : decode cX9_goTake 15 = .ok (.istore_n 2, 1) := by decide +kernel
theorem dX9_goTake_16 : decode cX9_goTake 16 = .ok (.iload_n 2, 1) := by decide +kernel
theorem dX9_goTake_17 : decode cX9_goTake 17 = .ok (.ifCond .ge 6, 3) := by decide +kernel
theorem dX9_goTake_20 : decode cX9_goTake 20 = .ok (.bipush (-12), 2) := by decide +kernel
theorem dX9_goTake_22 : decode cX9_goTake 22 = .ok (.ireturn, 1) := by decide +kernel
theorem dX9_goTake_23 : decode cX9_goTake 23 = .ok (.aload_n 0, 1) := by decide +kernel
theorem dX9_goTake_24 : decode cX9_goTake 24 = .ok (.iload_n 1, 1) := by decide +kernel
theorem dX9_goTake_25 : decode cX9_goTake 25 = .ok (.iconst (-1), 1) := by decide +kernel
theorem dX9_goTake_26 : decode cX9_goTake 26 = .ok (.invokevirtual 132, 3) := by decide +kernel
theorem dX9_goTake_29 : decode cX9_goTake 29 = .ok (.iload_n 2, 1) := by decide +kernel
theorem dX9_goTake_30 : decode cX9_goTake 30 = .ok (.ireturn, 1) := by decide +kernel
theorem dX9_goMill_0 : decode cX9_goMill 0 = .ok (.iload_n 1, 1) := by decide +kernel
theorem dX9_goMill_1 : decode cX9_goMill 1 = .ok (.invokestatic 126, 3) := by decide +kernel
theorem dX9_goMill_4 : decode cX9_goMill 4 = .ok (.ifCond .ne 6, 3) := by decide +kernel
theorem dX9_goMill_7 : decode cX9_goMill 7 = .ok (.bipush (-11), 2) := by decide +kernel
theorem dX9_goMill_9 : decode cX9_goMill 9 = .ok (.ireturn, 1) := by decide +kernel
theorem dX9_goMill_10 : decode cX9_goMill 10 = .ok (.aload_n 0, 1) := by decide +kernel
theorem dX9_goMill_11 : decode cX9_goMill 11 = .ok (.iload_n 1, 1) := by decide +kernel
theorem dX9_goMill_12 : decode cX9_goMill 12 = .ok (.invokevirtual 89, 3) := by decide +kernel
theorem dX9_goMill_15 : decode cX9_goMill 15 = .ok (.istore_n 2, 1) := by decide +kernel
theorem dX9_goMill_16 : decode cX9_goMill 16 = .ok (.iload_n 2, 1) := by decide +kernel
theorem dX9_goMill_17 : decode cX9_goMill 17 = .ok (.ifCond .ge 6, 3) := by decide +kernel
theorem dX9_goMill_20 : decode cX9_goMill 20 = .ok (.bipush (-12), 2) := by decide +kernel
theorem dX9_goMill_22 : decode cX9_goMill 22 = .ok (.ireturn, 1) := by decide +kernel
theorem dX9_goMill_23 : decode cX9_goMill 23 = .ok (.aload_n 0, 1) := by decide +kernel
theorem dX9_goMill_24 : decode cX9_goMill 24 = .ok (.iload_n 1, 1) := by decide +kernel
theorem dX9_goMill_25 : decode cX9_goMill 25 = .ok (.iload_n 2, 1) := by decide +kernel
theorem dX9_goMill_26 : decode cX9_goMill 26 = .ok (.invokevirtual 136, 3) := by decide +kernel
theorem dX9_goMill_29 : decode cX9_goMill 29 = .ok (.aload_n 0, 1) := by decide +kernel
theorem dX9_goMill_30 : decode cX9_goMill 30 = .ok (.iload_n 1, 1) := by decide +kernel
theorem dX9_goMill_31 : decode cX9_goMill 31 = .ok (.invokevirtual 115, 3) := by decide +kernel
theorem dX9_goMill_34 : decode cX9_goMill 34 = .ok (.ifCond .ne 6, 3) := by decide +kernel
theorem dX9_goMill_37 : decode cX9_goMill 37 = .ok (.bipush (-12), 2) := by decide +kernel
theorem dX9_goMill_39 : decode cX9_goMill 39 = .ok (.ireturn, 1) := by decide +kernel
theorem dX9_goMill_40 : decode cX9_goMill 40 = .ok (.aload_n 0, 1) := by decide +kernel
theorem dX9_goMill_41 : decode cX9_goMill 41 = .ok (.iload_n 1, 1) := by decide +kernel
theorem dX9_goMill_42 : decode cX9_goMill 42 = .ok (.iload_n 2, 1) := by decide +kernel
theorem dX9_goMill_43 : decode cX9_goMill 43 = .ok (.iconst 1, 1) := by decide +kernel
theorem dX9_goMill_44 : decode cX9_goMill 44 = .ok (.iadd, 1) := by decide +kernel
theorem dX9_goMill_45 : decode cX9_goMill 45 = .ok (.invokevirtual 132, 3) := by decide +kernel
theorem dX9_goMill_48 : decode cX9_goMill 48 = .ok (.aload_n 0, 1) := by decide +kernel
theorem dX9_goMill_49 : decode cX9_goMill 49 = .ok (.getfield 7, 3) := by decide +kernel
theorem dX9_goMill_52 : decode cX9_goMill 52 = .ok (.bipush 59, 2) := by decide +kernel
theorem dX9_goMill_54 : decode cX9_goMill 54 = .ok (.dup2, 1) := by decide +kernel
theorem dX9_goMill_55 : decode cX9_goMill 55 = .ok (.iaload, 1) := by decide +kernel
theorem dX9_goMill_56 : decode cX9_goMill 56 = .ok (.iconst 1, 1) := by decide +kernel
theorem dX9_goMill_57 : decode cX9_goMill 57 = .ok (.iadd, 1) := by decide +kernel
theorem dX9_goMill_58 : decode cX9_goMill 58 = .ok (.iastore, 1) := by decide +kernel
theorem dX9_goMill_59 : decode cX9_goMill 59 = .ok (.iconst 0, 1) := by decide +kernel
theorem dX9_goMill_60 : decode cX9_goMill 60 = .ok (.ireturn, 1) := by decide +kernel
theorem dX9_goBackward_0 : decode cX9_goBackward 0 = .ok (.iload_n 1, 1) := by decide +kernel
theorem dX9_goBackward_1 : decode cX9_goBackward 1 = .ok (.invokestatic 126, 3) := by decide +kernel
theorem dX9_goBackward_4 : decode cX9_goBackward 4 = .ok (.ifCond .ne 6, 3) := by decide +kernel
theorem dX9_goBackward_7 : decode cX9_goBackward 7 = .ok (.bipush (-11), 2) := by decide +kernel
theorem dX9_goBackward_9 : decode cX9_goBackward 9 = .ok (.ireturn, 1) := by decide +kernel
theorem dX9_goBackward_10 : decode cX9_goBackward 10 = .ok (.aload_n 0, 1) := by decide +kernel
theorem dX9_goBackward_11 : decode cX9_goBackward 11 = .ok (.iload_n 1, 1) := by decide +kernel
theorem dX9_goBackward_12 : decode cX9_goBackward 12 = .ok (.invokevirtual 89, 3) := by decide +kernel
theorem dX9_goBackward_15 : decode cX9_goBackward 15 = .ok (.istore_n 2, 1) := by decide +kernel
theorem dX9_goBackward_16 : decode cX9_goBackward 16 = .ok (.iload_n 2, 1) := by decide +kernel
theorem dX9_goBackward_17 : decode cX9_goBackward 17 = .ok (.iconst 1, 1) := by decide +kernel
theorem dX9_goBackward_18 : decode cX9_goBackward 18 = .ok (.if_icmp .ge 6, 3) := by decide +kernel
theorem dX9_goBackward_21 : decode cX9_goBackward 21 = .ok (.bipush (-12), 2) := by decide +kernel
theorem dX9_goBackward_23 : decode cX9_goBackward 23 = .ok (.ireturn, 1) := by decide +kernel
theorem dX9_goBackward_24 : decode cX9_goBackward 24 = .ok (.aload_n 0, 1) := by decide +kernel
theorem dX9_goBackward_25 : decode cX9_goBackward 25 = .ok (.iload_n 1, 1) := by decide +kernel
theorem dX9_goBackward_26 : decode cX9_goBackward 26 = .ok (.iload_n 2, 1) := by decide +kernel
theorem dX9_goBackward_27 : decode cX9_goBackward 27 = .ok (.iconst 1, 1) := by decide +kernel
theorem dX9_goBackward_28 : decode cX9_goBackward 28 = .ok (.isub, 1) := by decide +kernel
theorem dX9_goBackward_29 : decode cX9_goBackward 29 = .ok (.invokevirtual 132, 3) := by decide +kernel
theorem dX9_goBackward_32 : decode cX9_goBackward 32 = .ok (.aload_n 0, 1) := by decide +kernel
theorem dX9_goBackward_33 : decode cX9_goBackward 33 = .ok (.iload_n 1, 1) := by decide +kernel
theorem dX9_goBackward_34 : decode cX9_goBackward 34 = .ok (.iload_n 2, 1) := by decide +kernel
theorem dX9_goBackward_35 : decode cX9_goBackward 35 = .ok (.iconst 1, 1) := by decide +kernel
theorem dX9_goBackward_36 : decode cX9_goBackward 36 = .ok (.isub, 1) := by decide +kernel
theorem dX9_goBackward_37 : decode cX9_goBackward 37 = .ok (.invokevirtual 136, 3) := by decide +kernel
theorem dX9_goBackward_40 : decode cX9_goBackward 40 = .ok (.iconst 0, 1) := by decide +kernel
theorem dX9_goBackward_41 : decode cX9_goBackward 41 = .ok (.ireturn, 1) := by decide +kernel
theorem dX9_lay_0 : decode cX9_lay 0 = .ok (.aload_n 0, 1) := by decide +kernel
theorem dX9_lay_1 : decode cX9_lay 1 = .ok (.invokevirtual 139, 3) := by decide +kernel
theorem dX9_lay_4 : decode cX9_lay 4 = .ok (.aload_n 0, 1) := by decide +kernel
theorem dX9_lay_5 : decode cX9_lay 5 = .ok (.aload_n 0, 1) := by decide +kernel
theorem dX9_lay_6 : decode cX9_lay 6 = .ok (.iload_n 1, 1) := by decide +kernel
theorem dX9_lay_7 : decode cX9_lay 7 = .ok (.invokevirtual 142, 3) := by decide +kernel
theorem dX9_lay_10 : decode cX9_lay 10 = .ok (.invokevirtual 145, 3) := by decide +kernel
theorem dX9_lay_13 : decode cX9_lay 13 = .ok (.ireturn, 1) := by decide +kernel
theorem dX9_take_0 : decode cX9_take 0 = .ok (.aload_n 0, 1) := by decide +kernel
theorem dX9_take_1 : decode cX9_take 1 = .ok (.invokevirtual 139, 3) := by decide +kernel
theorem dX9_take_4 : decode cX9_take 4 = .ok (.aload_n 0, 1) := by decide +kernel
theorem dX9_take_5 : decode cX9_take 5 = .ok (.aload_n 0, 1) := by decide +kernel
theorem dX9_take_6 : decode cX9_take 6 = .ok (.iload_n 1, 1) := by decide +kernel
theorem dX9_take_7 : decode cX9_take 7 = .ok (.invokevirtual 148, 3) := by decide +kernel
theorem dX9_take_10 : decode cX9_take 10 = .ok (.invokevirtual 145, 3) := by decide +kernel
theorem dX9_take_13 : decode cX9_take 13 = .ok (.ireturn, 1) := by decide +kernel
theorem dX9_mill_0 : decode cX9_mill 0 = .ok (.aload_n 0, 1) := by decide +kernel
theorem dX9_mill_1 : decode cX9_mill 1 = .ok (.invokevirtual 139, 3) := by decide +kernel
theorem dX9_mill_4 : decode cX9_mill 4 = .ok (.aload_n 0, 1) := by decide +kernel
theorem dX9_mill_5 : decode cX9_mill 5 = .ok (.aload_n 0, 1) := by decide +kernel
theorem dX9_mill_6 : decode cX9_mill 6 = .ok (.iload_n 1, 1) := by decide +kernel
theorem dX9_mill_7 : decode cX9_mill 7 = .ok (.invokevirtual 151, 3) := by decide +kernel
theorem dX9_mill_10 : decode cX9_mill 10 = .ok (.invokevirtual 145, 3) := by decide +kernel
theorem dX9_mill_13 : decode cX9_mill 13 = .ok (.istore_n 2, 1) := by decide +kernel
theorem dX9_mill_14 : decode cX9_mill 14 = .ok (.aload_n 0, 1) := by decide +kernel
theorem dX9_mill_15 : decode cX9_mill 15 = .ok (.getfield 32, 3) := by decide +kernel
theorem dX9_mill_18 : decode cX9_mill 18 = .ok (.ifCond .le 8, 3) := by decide +kernel
theorem dX9_mill_21 : decode cX9_mill 21 = .ok (.iload_n 2, 1) := by decide +kernel
theorem dX9_mill_22 : decode cX9_mill 22 = .ok (.i2l, 1) := by decide +kernel
theorem dX9_mill_23 : decode cX9_mill 23 = .ok (.goto 7, 3) := by decide +kernel
theorem dX9_mill_26 : decode cX9_mill 26 = .ok (.aload_n 0, 1) := by decide +kernel
theorem dX9_mill_27 : decode cX9_mill 27 = .ok (.getfield 104, 3) := by decide +kernel
theorem dX9_mill_30 : decode cX9_mill 30 = .ok (.lreturn, 1) := by decide +kernel
theorem dX9_millBack_0 : decode cX9_millBack 0 = .ok (.aload_n 0, 1) := by decide +kernel
theorem dX9_millBack_1 : decode cX9_millBack 1 = .ok (.invokevirtual 139, 3) := by decide +kernel
theorem dX9_millBack_4 : decode cX9_millBack 4 = .ok (.aload_n 0, 1) := by decide +kernel
theorem dX9_millBack_5 : decode cX9_millBack 5 = .ok (.aload_n 0, 1) := by decide +kernel
theorem dX9_millBack_6 : decode cX9_millBack 6 = .ok (.iload_n 1, 1) := by decide +kernel
theorem dX9_millBack_7 : decode cX9_millBack 7 = .ok (.invokevirtual 154, 3) := by decide +kernel
theorem dX9_millBack_10 : decode cX9_millBack 10 = .ok (.invokevirtual 145, 3) := by decide +kernel
theorem dX9_millBack_13 : decode cX9_millBack 13 = .ok (.istore_n 2, 1) := by decide +kernel
theorem dX9_millBack_14 : decode cX9_millBack 14 = .ok (.aload_n 0, 1) := by decide +kernel
theorem dX9_millBack_15 : decode cX9_millBack 15 = .ok (.getfield 32, 3) := by decide +kernel
theorem dX9_millBack_18 : decode cX9_millBack 18 = .ok (.ifCond .le 8, 3) := by decide +kernel
theorem dX9_millBack_21 : decode cX9_millBack 21 = .ok (.iload_n 2, 1) := by decide +kernel
theorem dX9_millBack_22 : decode cX9_millBack 22 = .ok (.i2l, 1) := by decide +kernel
theorem dX9_millBack_23 : decode cX9_millBack 23 = .ok (.goto 7, 3) := by decide +kernel
theorem dX9_millBack_26 : decode cX9_millBack 26 = .ok (.aload_n 0, 1) := by decide +kernel
theorem dX9_millBack_27 : decode cX9_millBack 27 = .ok (.getfield 104, 3) := by decide +kernel
theorem dX9_millBack_30 : decode cX9_millBack 30 = .ok (.lreturn, 1) := by decide +kernel
theorem dX9_undo_0 : decode cX9_undo 0 = .ok (.aload_n 0, 1) := by decide +kernel
theorem dX9_undo_1 : decode cX9_undo 1 = .ok (.iconst 0, 1) := by decide +kernel
theorem dX9_undo_2 : decode cX9_undo 2 = .ok (.putfield 32, 3) := by decide +kernel
theorem dX9_undo_5 : decode cX9_undo 5 = .ok (.aload_n 0, 1) := by decide +kernel
theorem dX9_undo_6 : decode cX9_undo 6 = .ok (.getfield 40, 3) := by decide +kernel
theorem dX9_undo_9 : decode cX9_undo 9 = .ok (.ifCond .ne 9, 3) := by decide +kernel
theorem dX9_undo_12 : decode cX9_undo 12 = .ok (.aload_n 0, 1) := by decide +kernel
theorem dX9_undo_13 : decode cX9_undo 13 = .ok (.iconst 1, 1) := by decide +kernel
theorem dX9_undo_14 : decode cX9_undo 14 = .ok (.invokevirtual 43, 3) := by decide +kernel
theorem dX9_undo_17 : decode cX9_undo 17 = .ok (.ireturn, 1) := by decide +kernel
theorem dX9_undo_18 : decode cX9_undo 18 = .ok (.aload_n 0, 1) := by decide +kernel
theorem dX9_undo_19 : decode cX9_undo 19 = .ok (.dup, 1) := by decide +kernel
theorem dX9_undo_20 : decode cX9_undo 20 = .ok (.getfield 40, 3) := by decide +kernel
theorem dX9_undo_23 : decode cX9_undo 23 = .ok (.iconst 1, 1) := by decide +kernel
theorem dX9_undo_24 : decode cX9_undo 24 = .ok (.isub, 1) := by decide +kernel
theorem dX9_undo_25 : decode cX9_undo 25 = .ok (.putfield 40, 3) := by decide +kernel
theorem dX9_undo_28 : decode cX9_undo 28 = .ok (.aload_n 0, 1) := by decide +kernel
theorem dX9_undo_29 : decode cX9_undo 29 = .ok (.getfield 19, 3) := by decide +kernel
theorem dX9_undo_32 : decode cX9_undo 32 = .ok (.bipush 60, 2) := by decide +kernel
theorem dX9_undo_34 : decode cX9_undo 34 = .ok (.aload_n 0, 1) := by decide +kernel
theorem dX9_undo_35 : decode cX9_undo 35 = .ok (.getfield 40, 3) := by decide +kernel
theorem dX9_undo_38 : decode cX9_undo 38 = .ok (.imul, 1) := by decide +kernel
theorem dX9_undo_39 : decode cX9_undo 39 = .ok (.aload_n 0, 1) := by decide +kernel
theorem dX9_undo_40 : decode cX9_undo 40 = .ok (.getfield 7, 3) := by decide +kernel
theorem dX9_undo_43 : decode cX9_undo 43 = .ok (.iconst 0, 1) := by decide +kernel
theorem dX9_undo_44 : decode cX9_undo 44 = .ok (.invokestatic 36, 3) := by decide +kernel
theorem dX9_undo_47 : decode cX9_undo 47 = .ok (.aload_n 0, 1) := by decide +kernel
theorem dX9_undo_48 : decode cX9_undo 48 = .ok (.getfield 40, 3) := by decide +kernel
theorem dX9_undo_51 : decode cX9_undo 51 = .ok (.ireturn, 1) := by decide +kernel
theorem dX9_keep_0 : decode cX9_keep 0 = .ok (.aload_n 0, 1) := by decide +kernel
theorem dX9_keep_1 : decode cX9_keep 1 = .ok (.iconst 0, 1) := by decide +kernel
theorem dX9_keep_2 : decode cX9_keep 2 = .ok (.putfield 32, 3) := by decide +kernel
theorem dX9_keep_5 : decode cX9_keep 5 = .ok (.aload_n 0, 1) := by decide +kernel
theorem dX9_keep_6 : decode cX9_keep 6 = .ok (.iconst 1, 1) := by decide +kernel
theorem dX9_keep_7 : decode cX9_keep 7 = .ok (.putfield 157, 3) := by decide +kernel
theorem dX9_keep_10 : decode cX9_keep 10 = .ok (.aload_n 0, 1) := by decide +kernel
theorem dX9_keep_11 : decode cX9_keep 11 = .ok (.getfield 7, 3) := by decide +kernel
theorem dX9_keep_14 : decode cX9_keep 14 = .ok (.iconst 0, 1) := by decide +kernel
theorem dX9_keep_15 : decode cX9_keep 15 = .ok (.aload_n 0, 1) := by decide +kernel
theorem dX9_keep_16 : decode cX9_keep 16 = .ok (.getfield 16, 3) := by decide +kernel
theorem dX9_keep_19 : decode cX9_keep 19 = .ok (.iconst 0, 1) := by decide +kernel
theorem dX9_keep_20 : decode cX9_keep 20 = .ok (.invokestatic 36, 3) := by decide +kernel
theorem dX9_keep_23 : decode cX9_keep 23 = .ok (.aload_n 0, 1) := by decide +kernel
theorem dX9_keep_24 : decode cX9_keep 24 = .ok (.invokevirtual 122, 3) := by decide +kernel
theorem dX9_keep_27 : decode cX9_keep 27 = .ok (.ireturn, 1) := by decide +kernel
theorem dX9_goBack_0 : decode cX9_goBack 0 = .ok (.aload_n 0, 1) := by decide +kernel
theorem dX9_goBack_1 : decode cX9_goBack 1 = .ok (.invokevirtual 139, 3) := by decide +kernel
theorem dX9_goBack_4 : decode cX9_goBack 4 = .ok (.aload_n 0, 1) := by decide +kernel
theorem dX9_goBack_5 : decode cX9_goBack 5 = .ok (.getfield 157, 3) := by decide +kernel
theorem dX9_goBack_8 : decode cX9_goBack 8 = .ok (.ifCond .ne 9, 3) := by decide +kernel
theorem dX9_goBack_11 : decode cX9_goBack 11 = .ok (.aload_n 0, 1) := by decide +kernel
theorem dX9_goBack_12 : decode cX9_goBack 12 = .ok (.iconst 1, 1) := by decide +kernel
theorem dX9_goBack_13 : decode cX9_goBack 13 = .ok (.invokevirtual 43, 3) := by decide +kernel
theorem dX9_goBack_16 : decode cX9_goBack 16 = .ok (.ireturn, 1) := by decide +kernel
theorem dX9_goBack_17 : decode cX9_goBack 17 = .ok (.aload_n 0, 1) := by decide +kernel
theorem dX9_goBack_18 : decode cX9_goBack 18 = .ok (.getfield 16, 3) := by decide +kernel
theorem dX9_goBack_21 : decode cX9_goBack 21 = .ok (.iconst 0, 1) := by decide +kernel
theorem dX9_goBack_22 : decode cX9_goBack 22 = .ok (.aload_n 0, 1) := by decide +kernel
theorem dX9_goBack_23 : decode cX9_goBack 23 = .ok (.getfield 7, 3) := by decide +kernel
theorem dX9_goBack_26 : decode cX9_goBack 26 = .ok (.iconst 0, 1) := by decide +kernel
theorem dX9_goBack_27 : decode cX9_goBack 27 = .ok (.invokestatic 36, 3) := by decide +kernel
theorem dX9_goBack_30 : decode cX9_goBack 30 = .ok (.aload_n 0, 1) := by decide +kernel
theorem dX9_goBack_31 : decode cX9_goBack 31 = .ok (.invokevirtual 47, 3) := by decide +kernel
theorem dX9_goBack_34 : decode cX9_goBack 34 = .ok (.aload_n 0, 1) := by decide +kernel
theorem dX9_goBack_35 : decode cX9_goBack 35 = .ok (.invokevirtual 122, 3) := by decide +kernel
theorem dX9_goBack_38 : decode cX9_goBack 38 = .ok (.ireturn, 1) := by decide +kernel
theorem dX9_asks_0 : decode cX9_asks 0 = .ok (.aload_n 0, 1) := by decide +kernel
theorem dX9_asks_1 : decode cX9_asks 1 = .ok (.iload_n 1, 1) := by decide +kernel
theorem dX9_asks_2 : decode cX9_asks 2 = .ok (.ifCond .eq 7, 3) := by decide +kernel
theorem dX9_asks_5 : decode cX9_asks 5 = .ok (.iconst 0, 1) := by decide +kernel
theorem dX9_asks_6 : decode cX9_asks 6 = .ok (.goto 4, 3) := by decide +kernel
theorem dX9_asks_9 : decode cX9_asks 9 = .ok (.iconst 1, 1) := by decide +kernel
theorem dX9_asks_10 : decode cX9_asks 10 = .ok (.putfield 32, 3) := by decide +kernel
theorem dX9_asks_13 : decode cX9_asks 13 = .ok (.iload_n 1, 1) := by decide +kernel
theorem dX9_asks_14 : decode cX9_asks 14 = .ok (.ireturn, 1) := by decide +kernel
theorem dX9_whyNot_0 : decode cX9_whyNot 0 = .ok (.aload_n 0, 1) := by decide +kernel
theorem dX9_whyNot_1 : decode cX9_whyNot 1 = .ok (.iload_n 1, 1) := by decide +kernel
theorem dX9_whyNot_2 : decode cX9_whyNot 2 = .ok (.invokestatic 126, 3) := by decide +kernel
theorem dX9_whyNot_5 : decode cX9_whyNot 5 = .ok (.invokevirtual 161, 3) := by decide +kernel
theorem dX9_whyNot_8 : decode cX9_whyNot 8 = .ok (.ifCond .eq 11, 3) := by decide +kernel
theorem dX9_whyNot_11 : decode cX9_whyNot 11 = .ok (.aload_n 0, 1) := by decide +kernel
theorem dX9_whyNot_12 : decode cX9_whyNot 12 = .ok (.iload_n 1, 1) := by decide +kernel
theorem dX9_whyNot_13 : decode cX9_whyNot 13 = .ok (.invokevirtual 129, 3) := by decide +kernel
theorem dX9_whyNot_16 : decode cX9_whyNot 16 = .ok (.goto 4, 3) := by decide +kernel
theorem dX9_whyNot_19 : decode cX9_whyNot 19 = .ok (.iconst 0, 1) := by decide +kernel
theorem dX9_whyNot_20 : decode cX9_whyNot 20 = .ok (.ireturn, 1) := by decide +kernel
theorem dX9_asksRoot_0 : decode cX9_asksRoot 0 = .ok (.aload_n 0, 1) := by decide +kernel
theorem dX9_asksRoot_1 : decode cX9_asksRoot 1 = .ok (.iload_n 1, 1) := by decide +kernel
theorem dX9_asksRoot_2 : decode cX9_asksRoot 2 = .ok (.invokestatic 126, 3) := by decide +kernel
theorem dX9_asksRoot_5 : decode cX9_asksRoot 5 = .ok (.ifCond .eq 11, 3) := by decide +kernel
theorem dX9_asksRoot_8 : decode cX9_asksRoot 8 = .ok (.iload_n 2, 1) := by decide +kernel
theorem dX9_asksRoot_9 : decode cX9_asksRoot 9 = .ok (.ifCond .eq 7, 3) := by decide +kernel
theorem dX9_asksRoot_12 : decode cX9_asksRoot 12 = .ok (.iconst 1, 1) := by decide +kernel
theorem dX9_asksRoot_13 : decode cX9_asksRoot 13 = .ok (.goto 4, 3) := by decide +kernel
theorem dX9_asksRoot_16 : decode cX9_asksRoot 16 = .ok (.iconst 0, 1) := by decide +kernel
theorem dX9_asksRoot_17 : decode cX9_asksRoot 17 = .ok (.invokevirtual 161, 3) := by decide +kernel
theorem dX9_asksRoot_20 : decode cX9_asksRoot 20 = .ok (.ifCond .ne 5, 3) := by decide +kernel
theorem dX9_asksRoot_23 : decode cX9_asksRoot 23 = .ok (.iconst 0, 1) := by decide +kernel
theorem dX9_asksRoot_24 : decode cX9_asksRoot 24 = .ok (.ireturn, 1) := by decide +kernel
theorem dX9_asksRoot_25 : decode cX9_asksRoot 25 = .ok (.aload_n 0, 1) := by decide +kernel
theorem dX9_asksRoot_26 : decode cX9_asksRoot 26 = .ok (.iload_n 1, 1) := by decide +kernel
theorem dX9_asksRoot_27 : decode cX9_asksRoot 27 = .ok (.invokestatic 119, 3) := by decide +kernel
theorem dX9_asksRoot_30 : decode cX9_asksRoot 30 = .ok (.ifCond .eq 7, 3) := by decide +kernel
theorem dX9_asksRoot_33 : decode cX9_asksRoot 33 = .ok (.iconst 2, 1) := by decide +kernel
theorem dX9_asksRoot_34 : decode cX9_asksRoot 34 = .ok (.goto 4, 3) := by decide +kernel
theorem dX9_asksRoot_37 : decode cX9_asksRoot 37 = .ok (.iconst 0, 1) := by decide +kernel
theorem dX9_asksRoot_38 : decode cX9_asksRoot 38 = .ok (.putfield 32, 3) := by decide +kernel
theorem dX9_asksRoot_41 : decode cX9_asksRoot 41 = .ok (.aload_n 0, 1) := by decide +kernel
theorem dX9_asksRoot_42 : decode cX9_asksRoot 42 = .ok (.getfield 32, 3) := by decide +kernel
theorem dX9_asksRoot_45 : decode cX9_asksRoot 45 = .ok (.ifCond .ne 7, 3) := by decide +kernel
theorem dX9_asksRoot_48 : decode cX9_asksRoot 48 = .ok (.iconst 1, 1) := by decide +kernel
theorem dX9_asksRoot_49 : decode cX9_asksRoot 49 = .ok (.goto 4, 3) := by decide +kernel
theorem dX9_asksRoot_52 : decode cX9_asksRoot 52 = .ok (.iconst 0, 1) := by decide +kernel
theorem dX9_asksRoot_53 : decode cX9_asksRoot 53 = .ok (.ireturn, 1) := by decide +kernel
theorem dX9_periodOf_0 : decode cX9_periodOf 0 = .ok (.aload_n 0, 1) := by decide +kernel
theorem dX9_periodOf_1 : decode cX9_periodOf 1 = .ok (.iload_n 1, 1) := by decide +kernel
theorem dX9_periodOf_2 : decode cX9_periodOf 2 = .ok (.iconst 1, 1) := by decide +kernel
theorem dX9_periodOf_3 : decode cX9_periodOf 3 = .ok (.invokevirtual 165, 3) := by decide +kernel
theorem dX9_periodOf_6 : decode cX9_periodOf 6 = .ok (.ifCond .eq 11, 3) := by decide +kernel
theorem dX9_periodOf_9 : decode cX9_periodOf 9 = .ok (.aload_n 0, 1) := by decide +kernel
theorem dX9_periodOf_10 : decode cX9_periodOf 10 = .ok (.iload_n 1, 1) := by decide +kernel
theorem dX9_periodOf_11 : decode cX9_periodOf 11 = .ok (.invokevirtual 92, 3) := by decide +kernel
theorem dX9_periodOf_14 : decode cX9_periodOf 14 = .ok (.goto 4, 3) := by decide +kernel
theorem dX9_periodOf_17 : decode cX9_periodOf 17 = .ok (.iconst 0, 1) := by decide +kernel
theorem dX9_periodOf_18 : decode cX9_periodOf 18 = .ok (.ireturn, 1) := by decide +kernel
theorem dX9_termAt_0 : decode cX9_termAt 0 = .ok (.aload_n 0, 1) := by decide +kernel
theorem dX9_termAt_1 : decode cX9_termAt 1 = .ok (.iload_n 1, 1) := by decide +kernel
theorem dX9_termAt_2 : decode cX9_termAt 2 = .ok (.iload_n 2, 1) := by decide +kernel
theorem dX9_termAt_3 : decode cX9_termAt 3 = .ok (.iconst 0, 1) := by decide +kernel
theorem dX9_termAt_4 : decode cX9_termAt 4 = .ok (.bipush 99, 2) := by decide +kernel
theorem dX9_termAt_6 : decode cX9_termAt 6 = .ok (.invokestatic 50, 3) := by decide +kernel
theorem dX9_termAt_9 : decode cX9_termAt 9 = .ok (.invokevirtual 165, 3) := by decide +kernel
theorem dX9_termAt_12 : decode cX9_termAt 12 = .ok (.ifCond .ne 5, 3) := by decide +kernel
theorem dX9_termAt_15 : decode cX9_termAt 15 = .ok (.iconst 0, 1) := by decide +kernel
theorem dX9_termAt_16 : decode cX9_termAt 16 = .ok (.ireturn, 1) := by decide +kernel
theorem dX9_termAt_17 : decode cX9_termAt 17 = .ok (.aload_n 0, 1) := by decide +kernel
theorem dX9_termAt_18 : decode cX9_termAt 18 = .ok (.iload_n 1, 1) := by decide +kernel
theorem dX9_termAt_19 : decode cX9_termAt 19 = .ok (.invokevirtual 79, 3) := by decide +kernel
theorem dX9_termAt_22 : decode cX9_termAt 22 = .ok (.iconst 0, 1) := by decide +kernel
theorem dX9_termAt_23 : decode cX9_termAt 23 = .ok (.istore_n 3, 1) := by decide +kernel
theorem dX9_termAt_24 : decode cX9_termAt 24 = .ok (.iload_n 3, 1) := by decide +kernel
theorem dX9_termAt_25 : decode cX9_termAt 25 = .ok (.iload_n 2, 1) := by decide +kernel
theorem dX9_termAt_26 : decode cX9_termAt 26 = .ok (.if_icmp .ge 14, 3) := by decide +kernel
theorem dX9_termAt_29 : decode cX9_termAt 29 = .ok (.aload_n 0, 1) := by decide +kernel
theorem dX9_termAt_30 : decode cX9_termAt 30 = .ok (.iload_n 1, 1) := by decide +kernel
theorem dX9_termAt_31 : decode cX9_termAt 31 = .ok (.invokevirtual 83, 3) := by decide +kernel
theorem dX9_termAt_34 : decode cX9_termAt 34 = .ok (.iinc 3 1, 3) := by decide +kernel
theorem dX9_termAt_37 : decode cX9_termAt 37 = .ok (.goto (-13), 3) := by decide +kernel
theorem dX9_termAt_40 : decode cX9_termAt 40 = .ok (.aload_n 0, 1) := by decide +kernel
theorem dX9_termAt_41 : decode cX9_termAt 41 = .ok (.getfield 63, 3) := by decide +kernel
theorem dX9_termAt_44 : decode cX9_termAt 44 = .ok (.ireturn, 1) := by decide +kernel
theorem dX9_unitX_0 : decode cX9_unitX 0 = .ok (.aload_n 0, 1) := by decide +kernel
theorem dX9_unitX_1 : decode cX9_unitX 1 = .ok (.iload_n 1, 1) := by decide +kernel
theorem dX9_unitX_2 : decode cX9_unitX 2 = .ok (.iconst 1, 1) := by decide +kernel
theorem dX9_unitX_3 : decode cX9_unitX 3 = .ok (.invokevirtual 165, 3) := by decide +kernel
theorem dX9_unitX_6 : decode cX9_unitX 6 = .ok (.ifCond .ne 5, 3) := by decide +kernel
theorem dX9_unitX_9 : decode cX9_unitX 9 = .ok (.iconst 0, 1) := by decide +kernel
theorem dX9_unitX_10 : decode cX9_unitX 10 = .ok (.ireturn, 1) := by decide +kernel
theorem dX9_unitX_11 : decode cX9_unitX 11 = .ok (.aload_n 0, 1) := by decide +kernel
theorem dX9_unitX_12 : decode cX9_unitX 12 = .ok (.iload_n 1, 1) := by decide +kernel
theorem dX9_unitX_13 : decode cX9_unitX 13 = .ok (.invokevirtual 112, 3) := by decide +kernel
theorem dX9_unitX_16 : decode cX9_unitX 16 = .ok (.aload_n 0, 1) := by decide +kernel
theorem dX9_unitX_17 : decode cX9_unitX 17 = .ok (.getfield 98, 3) := by decide +kernel
theorem dX9_unitX_20 : decode cX9_unitX 20 = .ok (.l2i, 1) := by decide +kernel
theorem dX9_unitX_21 : decode cX9_unitX 21 = .ok (.ireturn, 1) := by decide +kernel
theorem dX9_unitY_0 : decode cX9_unitY 0 = .ok (.aload_n 0, 1) := by decide +kernel
theorem dX9_unitY_1 : decode cX9_unitY 1 = .ok (.iload_n 1, 1) := by decide +kernel
theorem dX9_unitY_2 : decode cX9_unitY 2 = .ok (.iconst 1, 1) := by decide +kernel
theorem dX9_unitY_3 : decode cX9_unitY 3 = .ok (.invokevirtual 165, 3) := by decide +kernel
theorem dX9_unitY_6 : decode cX9_unitY 6 = .ok (.ifCond .ne 5, 3) := by decide +kernel
theorem dX9_unitY_9 : decode cX9_unitY 9 = .ok (.iconst 0, 1) := by decide +kernel
theorem dX9_unitY_10 : decode cX9_unitY 10 = .ok (.ireturn, 1) := by decide +kernel
theorem dX9_unitY_11 : decode cX9_unitY 11 = .ok (.aload_n 0, 1) := by decide +kernel
theorem dX9_unitY_12 : decode cX9_unitY 12 = .ok (.iload_n 1, 1) := by decide +kernel
theorem dX9_unitY_13 : decode cX9_unitY 13 = .ok (.invokevirtual 112, 3) := by decide +kernel
theorem dX9_unitY_16 : decode cX9_unitY 16 = .ok (.aload_n 0, 1) := by decide +kernel
theorem dX9_unitY_17 : decode cX9_unitY 17 = .ok (.getfield 101, 3) := by decide +kernel
theorem dX9_unitY_20 : decode cX9_unitY 20 = .ok (.l2i, 1) := by decide +kernel
theorem dX9_unitY_21 : decode cX9_unitY 21 = .ok (.ireturn, 1) := by decide +kernel
theorem dX9_least_0 : decode cX9_least 0 = .ok (.aload_n 0, 1) := by decide +kernel
theorem dX9_least_1 : decode cX9_least 1 = .ok (.iload_n 1, 1) := by decide +kernel
theorem dX9_least_2 : decode cX9_least 2 = .ok (.iconst 1, 1) := by decide +kernel
theorem dX9_least_3 : decode cX9_least 3 = .ok (.invokevirtual 165, 3) := by decide +kernel
theorem dX9_least_6 : decode cX9_least 6 = .ok (.ifCond .ne 5, 3) := by decide +kernel
theorem dX9_least_9 : decode cX9_least 9 = .ok (.iconst 0, 1) := by decide +kernel
theorem dX9_least_10 : decode cX9_least 10 = .ok (.ireturn, 1) := by decide +kernel
theorem dX9_least_11 : decode cX9_least 11 = .ok (.aload_n 0, 1) := by decide +kernel
theorem dX9_least_12 : decode cX9_least 12 = .ok (.iload_n 1, 1) := by decide +kernel
theorem dX9_least_13 : decode cX9_least 13 = .ok (.invokevirtual 112, 3) := by decide +kernel
theorem dX9_least_16 : decode cX9_least 16 = .ok (.aload_n 0, 1) := by decide +kernel
theorem dX9_least_17 : decode cX9_least 17 = .ok (.getfield 95, 3) := by decide +kernel
theorem dX9_least_20 : decode cX9_least 20 = .ok (.iconst 1, 1) := by decide +kernel
theorem dX9_least_21 : decode cX9_least 21 = .ok (.if_icmp .ne 10, 3) := by decide +kernel
theorem dX9_least_24 : decode cX9_least 24 = .ok (.aload_n 0, 1) := by decide +kernel
theorem dX9_least_25 : decode cX9_least 25 = .ok (.getfield 101, 3) := by decide +kernel
theorem dX9_least_28 : decode cX9_least 28 = .ok (.goto 16, 3) := by decide +kernel
theorem dX9_least_31 : decode cX9_least 31 = .ok (.ldc2_w 169, 3) := by decide +kernel
theorem dX9_least_34 : decode cX9_least 34 = .ok (.aload_n 0, 1) := by decide +kernel
theorem dX9_least_35 : decode cX9_least 35 = .ok (.getfield 98, 3) := by decide +kernel
theorem dX9_least_38 : decode cX9_least 38 = .ok (.lmul, 1) := by decide +kernel
theorem dX9_least_39 : decode cX9_least 39 = .ok (.aload_n 0, 1) := by decide +kernel
theorem dX9_least_40 : decode cX9_least 40 = .ok (.getfield 101, 3) := by decide +kernel
theorem dX9_least_43 : decode cX9_least 43 = .ok (.lmul, 1) := by decide +kernel
theorem dX9_least_44 : decode cX9_least 44 = .ok (.l2i, 1) := by decide +kernel
theorem dX9_least_45 : decode cX9_least 45 = .ok (.ireturn, 1) := by decide +kernel
theorem dX9_leastY_0 : decode cX9_leastY 0 = .ok (.aload_n 0, 1) := by decide +kernel
theorem dX9_leastY_1 : decode cX9_leastY 1 = .ok (.iload_n 1, 1) := by decide +kernel
theorem dX9_leastY_2 : decode cX9_leastY 2 = .ok (.invokevirtual 171, 3) := by decide +kernel
theorem dX9_leastY_5 : decode cX9_leastY 5 = .ok (.ireturn, 1) := by decide +kernel
theorem dX9_leastYBySearch_0 : decode cX9_leastYBySearch 0 = .ok (.aload_n 0, 1) := by decide +kernel
theorem dX9_leastYBySearch_1 : decode cX9_leastYBySearch 1 = .ok (.iload_n 1, 1) := by decide +kernel
theorem dX9_leastYBySearch_2 : decode cX9_leastYBySearch 2 = .ok (.invokevirtual 171, 3) := by decide +kernel
theorem dX9_leastYBySearch_5 : decode cX9_leastYBySearch 5 = .ok (.ireturn, 1) := by decide +kernel
theorem dX9_stones_0 : decode cX9_stones 0 = .ok (.aload_n 0, 1) := by decide +kernel
theorem dX9_stones_1 : decode cX9_stones 1 = .ok (.iconst 0, 1) := by decide +kernel
theorem dX9_stones_2 : decode cX9_stones 2 = .ok (.putfield 32, 3) := by decide +kernel
theorem dX9_stones_5 : decode cX9_stones 5 = .ok (.aload_n 0, 1) := by decide +kernel
theorem dX9_stones_6 : decode cX9_stones 6 = .ok (.invokevirtual 122, 3) := by decide +kernel
theorem dX9_stones_9 : decode cX9_stones 9 = .ok (.ireturn, 1) := by decide +kernel
theorem dX9_isLaid_0 : decode cX9_isLaid 0 = .ok (.aload_n 0, 1) := by decide +kernel
theorem dX9_isLaid_1 : decode cX9_isLaid 1 = .ok (.iload_n 1, 1) := by decide +kernel
theorem dX9_isLaid_2 : decode cX9_isLaid 2 = .ok (.invokestatic 126, 3) := by decide +kernel
theorem dX9_isLaid_5 : decode cX9_isLaid 5 = .ok (.invokevirtual 161, 3) := by decide +kernel
theorem dX9_isLaid_8 : decode cX9_isLaid 8 = .ok (.ifCond .eq 15, 3) := by decide +kernel
theorem dX9_isLaid_11 : decode cX9_isLaid 11 = .ok (.aload_n 0, 1) := by decide +kernel
theorem dX9_isLaid_12 : decode cX9_isLaid 12 = .ok (.iload_n 1, 1) := by decide +kernel
theorem dX9_isLaid_13 : decode cX9_isLaid 13 = .ok (.invokevirtual 89, 3) := by decide +kernel
theorem dX9_isLaid_16 : decode cX9_isLaid 16 = .ok (.ifCond .lt 7, 3) := by decide +kernel
theorem dX9_isLaid_19 : decode cX9_isLaid 19 = .ok (.iconst 1, 1) := by decide +kernel
theorem dX9_isLaid_20 : decode cX9_isLaid 20 = .ok (.goto 4, 3) := by decide +kernel
theorem dX9_isLaid_23 : decode cX9_isLaid 23 = .ok (.iconst 0, 1) := by decide +kernel
theorem dX9_isLaid_24 : decode cX9_isLaid 24 = .ok (.ireturn, 1) := by decide +kernel
theorem dX9_stoneFrom_0 : decode cX9_stoneFrom 0 = .ok (.aload_n 0, 1) := by decide +kernel
theorem dX9_stoneFrom_1 : decode cX9_stoneFrom 1 = .ok (.iload_n 1, 1) := by decide +kernel
theorem dX9_stoneFrom_2 : decode cX9_stoneFrom 2 = .ok (.invokestatic 126, 3) := by decide +kernel
theorem dX9_stoneFrom_5 : decode cX9_stoneFrom 5 = .ok (.invokevirtual 161, 3) := by decide +kernel
theorem dX9_stoneFrom_8 : decode cX9_stoneFrom 8 = .ok (.ifCond .ne 5, 3) := by decide +kernel
theorem dX9_stoneFrom_11 : decode cX9_stoneFrom 11 = .ok (.iconst 0, 1) := by decide +kernel
theorem dX9_stoneFrom_12 : decode cX9_stoneFrom 12 = .ok (.ireturn, 1) := by decide +kernel
theorem dX9_stoneFrom_13 : decode cX9_stoneFrom 13 = .ok (.iload_n 1, 1) := by decide +kernel
theorem dX9_stoneFrom_14 : decode cX9_stoneFrom 14 = .ok (.istore_n 2, 1) := by decide +kernel
theorem dX9_stoneFrom_15 : decode cX9_stoneFrom 15 = .ok (.iload_n 2, 1) := by decide +kernel
theorem dX9_stoneFrom_16 : decode cX9_stoneFrom 16 = .ok (.bipush 60, 2) := by decide +kernel
theorem dX9_stoneFrom_18 : decode cX9_stoneFrom 18 = .ok (.if_icmp .gt 17, 3) := by decide +kernel
theorem dX9_stoneFrom_21 : decode cX9_stoneFrom 21 = .ok (.aload_n 0, 1) := by decide +kernel
theorem dX9_stoneFrom_22 : decode cX9_stoneFrom 22 = .ok (.iload_n 2, 1) := by decide +kernel
theorem dX9_stoneFrom_23 : decode cX9_stoneFrom 23 = .ok (.invokevirtual 89, 3) := by decide +kernel
theorem dX9_stoneFrom_26 : decode cX9_stoneFrom 26 = .ok (.ifCond .ge 9, 3) := by decide +kernel
theorem dX9_stoneFrom_29 : decode cX9_stoneFrom 29 = .ok (.iinc 2 1, 3) := by decide +kernel
theorem dX9_stoneFrom_32 : decode cX9_stoneFrom 32 = .ok (.goto (-17), 3) := by decide +kernel
theorem dX9_stoneFrom_35 : decode cX9_stoneFrom 35 = .ok (.iload_n 2, 1) := by decide +kernel
theorem dX9_stoneFrom_36 : decode cX9_stoneFrom 36 = .ok (.bipush 60, 2) := by decide +kernel
theorem dX9_stoneFrom_38 : decode cX9_stoneFrom 38 = .ok (.if_icmp .gt 7, 3) := by decide +kernel
theorem dX9_stoneFrom_41 : decode cX9_stoneFrom 41 = .ok (.iload_n 2, 1) := by decide +kernel
theorem dX9_stoneFrom_42 : decode cX9_stoneFrom 42 = .ok (.goto 8, 3) := by decide +kernel
theorem dX9_stoneFrom_45 : decode cX9_stoneFrom 45 = .ok (.aload_n 0, 1) := by decide +kernel
theorem dX9_stoneFrom_46 : decode cX9_stoneFrom 46 = .ok (.iconst 2, 1) := by decide +kernel
theorem dX9_stoneFrom_47 : decode cX9_stoneFrom 47 = .ok (.invokevirtual 43, 3) := by decide +kernel
theorem dX9_stoneFrom_50 : decode cX9_stoneFrom 50 = .ok (.ireturn, 1) := by decide +kernel
theorem dX9_asksStone_0 : decode cX9_asksStone 0 = .ok (.aload_n 0, 1) := by decide +kernel
theorem dX9_asksStone_1 : decode cX9_asksStone 1 = .ok (.iload_n 1, 1) := by decide +kernel
theorem dX9_asksStone_2 : decode cX9_asksStone 2 = .ok (.invokestatic 126, 3) := by decide +kernel
theorem dX9_asksStone_5 : decode cX9_asksStone 5 = .ok (.invokevirtual 161, 3) := by decide +kernel
theorem dX9_asksStone_8 : decode cX9_asksStone 8 = .ok (.ifCond .ne 5, 3) := by decide +kernel
theorem dX9_asksStone_11 : decode cX9_asksStone 11 = .ok (.iconst 0, 1) := by decide +kernel
theorem dX9_asksStone_12 : decode cX9_asksStone 12 = .ok (.ireturn, 1) := by decide +kernel
theorem dX9_asksStone_13 : decode cX9_asksStone 13 = .ok (.aload_n 0, 1) := by decide +kernel
theorem dX9_asksStone_14 : decode cX9_asksStone 14 = .ok (.aload_n 0, 1) := by decide +kernel
theorem dX9_asksStone_15 : decode cX9_asksStone 15 = .ok (.iload_n 1, 1) := by decide +kernel
theorem dX9_asksStone_16 : decode cX9_asksStone 16 = .ok (.invokevirtual 89, 3) := by decide +kernel
theorem dX9_asksStone_19 : decode cX9_asksStone 19 = .ok (.ifCond .ge 7, 3) := by decide +kernel
theorem dX9_asksStone_22 : decode cX9_asksStone 22 = .ok (.iconst 2, 1) := by decide +kernel
theorem dX9_asksStone_23 : decode cX9_asksStone 23 = .ok (.goto 4, 3) := by decide +kernel
theorem dX9_asksStone_26 : decode cX9_asksStone 26 = .ok (.iconst 0, 1) := by decide +kernel
theorem dX9_asksStone_27 : decode cX9_asksStone 27 = .ok (.putfield 32, 3) := by decide +kernel
theorem dX9_asksStone_30 : decode cX9_asksStone 30 = .ok (.aload_n 0, 1) := by decide +kernel
theorem dX9_asksStone_31 : decode cX9_asksStone 31 = .ok (.getfield 32, 3) := by decide +kernel
theorem dX9_asksStone_34 : decode cX9_asksStone 34 = .ok (.ifCond .ne 7, 3) := by decide +kernel
theorem dX9_asksStone_37 : decode cX9_asksStone 37 = .ok (.iconst 1, 1) := by decide +kernel
theorem dX9_asksStone_38 : decode cX9_asksStone 38 = .ok (.goto 4, 3) := by decide +kernel
theorem dX9_asksStone_41 : decode cX9_asksStone 41 = .ok (.iconst 0, 1) := by decide +kernel
theorem dX9_asksStone_42 : decode cX9_asksStone 42 = .ok (.ireturn, 1) := by decide +kernel
theorem dX9_powerOf_0 : decode cX9_powerOf 0 = .ok (.aload_n 0, 1) := by decide +kernel
theorem dX9_powerOf_1 : decode cX9_powerOf 1 = .ok (.iload_n 1, 1) := by decide +kernel
theorem dX9_powerOf_2 : decode cX9_powerOf 2 = .ok (.invokevirtual 174, 3) := by decide +kernel
theorem dX9_powerOf_5 : decode cX9_powerOf 5 = .ok (.ifCond .eq 11, 3) := by decide +kernel
theorem dX9_powerOf_8 : decode cX9_powerOf 8 = .ok (.aload_n 0, 1) := by decide +kernel
theorem dX9_powerOf_9 : decode cX9_powerOf 9 = .ok (.iload_n 1, 1) := by decide +kernel
theorem dX9_powerOf_10 : decode cX9_powerOf 10 = .ok (.invokevirtual 89, 3) := by decide +kernel
theorem dX9_powerOf_13 : decode cX9_powerOf 13 = .ok (.goto 4, 3) := by decide +kernel
theorem dX9_powerOf_16 : decode cX9_powerOf 16 = .ok (.iconst 0, 1) := by decide +kernel
theorem dX9_powerOf_17 : decode cX9_powerOf 17 = .ok (.ireturn, 1) := by decide +kernel
theorem dX9_xOf_0 : decode cX9_xOf 0 = .ok (.aload_n 0, 1) := by decide +kernel
theorem dX9_xOf_1 : decode cX9_xOf 1 = .ok (.iload_n 1, 1) := by decide +kernel
theorem dX9_xOf_2 : decode cX9_xOf 2 = .ok (.invokevirtual 174, 3) := by decide +kernel
theorem dX9_xOf_5 : decode cX9_xOf 5 = .ok (.ifCond .ne 5, 3) := by decide +kernel
theorem dX9_xOf_8 : decode cX9_xOf 8 = .ok (.lconst 0, 1) := by decide +kernel
theorem dX9_xOf_9 : decode cX9_xOf 9 = .ok (.lreturn, 1) := by decide +kernel
theorem dX9_xOf_10 : decode cX9_xOf 10 = .ok (.aload_n 0, 1) := by decide +kernel
theorem dX9_xOf_11 : decode cX9_xOf 11 = .ok (.iload_n 1, 1) := by decide +kernel
theorem dX9_xOf_12 : decode cX9_xOf 12 = .ok (.aload_n 0, 1) := by decide +kernel
theorem dX9_xOf_13 : decode cX9_xOf 13 = .ok (.iload_n 1, 1) := by decide +kernel
theorem dX9_xOf_14 : decode cX9_xOf 14 = .ok (.invokevirtual 89, 3) := by decide +kernel
theorem dX9_xOf_17 : decode cX9_xOf 17 = .ok (.invokevirtual 136, 3) := by decide +kernel
theorem dX9_xOf_20 : decode cX9_xOf 20 = .ok (.aload_n 0, 1) := by decide +kernel
theorem dX9_xOf_21 : decode cX9_xOf 21 = .ok (.getfield 104, 3) := by decide +kernel
theorem dX9_xOf_24 : decode cX9_xOf 24 = .ok (.lreturn, 1) := by decide +kernel
theorem dX9_yOf_0 : decode cX9_yOf 0 = .ok (.aload_n 0, 1) := by decide +kernel
theorem dX9_yOf_1 : decode cX9_yOf 1 = .ok (.iload_n 1, 1) := by decide +kernel
theorem dX9_yOf_2 : decode cX9_yOf 2 = .ok (.invokevirtual 174, 3) := by decide +kernel
theorem dX9_yOf_5 : decode cX9_yOf 5 = .ok (.ifCond .ne 5, 3) := by decide +kernel
theorem dX9_yOf_8 : decode cX9_yOf 8 = .ok (.lconst 0, 1) := by decide +kernel
theorem dX9_yOf_9 : decode cX9_yOf 9 = .ok (.lreturn, 1) := by decide +kernel
theorem dX9_yOf_10 : decode cX9_yOf 10 = .ok (.aload_n 0, 1) := by decide +kernel
theorem dX9_yOf_11 : decode cX9_yOf 11 = .ok (.iload_n 1, 1) := by decide +kernel
theorem dX9_yOf_12 : decode cX9_yOf 12 = .ok (.aload_n 0, 1) := by decide +kernel
theorem dX9_yOf_13 : decode cX9_yOf 13 = .ok (.iload_n 1, 1) := by decide +kernel
theorem dX9_yOf_14 : decode cX9_yOf 14 = .ok (.invokevirtual 89, 3) := by decide +kernel
theorem dX9_yOf_17 : decode cX9_yOf 17 = .ok (.invokevirtual 136, 3) := by decide +kernel
theorem dX9_yOf_20 : decode cX9_yOf 20 = .ok (.aload_n 0, 1) := by decide +kernel
theorem dX9_yOf_21 : decode cX9_yOf 21 = .ok (.getfield 107, 3) := by decide +kernel
theorem dX9_yOf_24 : decode cX9_yOf 24 = .ok (.lreturn, 1) := by decide +kernel
theorem dX9_sign_0 : decode cX9_sign 0 = .ok (.aload_n 0, 1) := by decide +kernel
theorem dX9_sign_1 : decode cX9_sign 1 = .ok (.iload_n 1, 1) := by decide +kernel
theorem dX9_sign_2 : decode cX9_sign 2 = .ok (.invokevirtual 112, 3) := by decide +kernel
theorem dX9_sign_5 : decode cX9_sign 5 = .ok (.aload_n 0, 1) := by decide +kernel
theorem dX9_sign_6 : decode cX9_sign 6 = .ok (.iload_n 1, 1) := by decide +kernel
theorem dX9_sign_7 : decode cX9_sign 7 = .ok (.invokevirtual 89, 3) := by decide +kernel
theorem dX9_sign_10 : decode cX9_sign 10 = .ok (.iconst 2, 1) := by decide +kernel
theorem dX9_sign_11 : decode cX9_sign 11 = .ok (.irem, 1) := by decide +kernel
theorem dX9_sign_12 : decode cX9_sign 12 = .ok (.ifCond .ne 7, 3) := by decide +kernel
theorem dX9_sign_15 : decode cX9_sign 15 = .ok (.iconst 1, 1) := by decide +kernel
theorem dX9_sign_16 : decode cX9_sign 16 = .ok (.goto 7, 3) := by decide +kernel
theorem dX9_sign_19 : decode cX9_sign 19 = .ok (.aload_n 0, 1) := by decide +kernel
theorem dX9_sign_20 : decode cX9_sign 20 = .ok (.getfield 95, 3) := by decide +kernel
theorem dX9_sign_23 : decode cX9_sign 23 = .ok (.ireturn, 1) := by decide +kernel
theorem dX9_signOf_0 : decode cX9_signOf 0 = .ok (.aload_n 0, 1) := by decide +kernel
theorem dX9_signOf_1 : decode cX9_signOf 1 = .ok (.iload_n 1, 1) := by decide +kernel
theorem dX9_signOf_2 : decode cX9_signOf 2 = .ok (.invokevirtual 174, 3) := by decide +kernel
theorem dX9_signOf_5 : decode cX9_signOf 5 = .ok (.ifCond .eq 11, 3) := by decide +kernel
theorem dX9_signOf_8 : decode cX9_signOf 8 = .ok (.aload_n 0, 1) := by decide +kernel
theorem dX9_signOf_9 : decode cX9_signOf 9 = .ok (.iload_n 1, 1) := by decide +kernel
theorem dX9_signOf_10 : decode cX9_signOf 10 = .ok (.invokevirtual 177, 3) := by decide +kernel
theorem dX9_signOf_13 : decode cX9_signOf 13 = .ok (.goto 4, 3) := by decide +kernel
theorem dX9_signOf_16 : decode cX9_signOf 16 = .ok (.iconst 0, 1) := by decide +kernel
theorem dX9_signOf_17 : decode cX9_signOf 17 = .ok (.ireturn, 1) := by decide +kernel
theorem dX9_signByRemainders_0 : decode cX9_signByRemainders 0 = .ok (.aload_n 0, 1) := by decide +kernel
theorem dX9_signByRemainders_1 : decode cX9_signByRemainders 1 = .ok (.iload_n 1, 1) := by decide +kernel
theorem dX9_signByRemainders_2 : decode cX9_signByRemainders 2 = .ok (.invokevirtual 174, 3) := by decide +kernel
theorem dX9_signByRemainders_5 : decode cX9_signByRemainders 5 = .ok (.ifCond .eq 11, 3) := by decide +kernel
theorem dX9_signByRemainders_8 : decode cX9_signByRemainders 8 = .ok (.aload_n 0, 1) := by decide +kernel
theorem dX9_signByRemainders_9 : decode cX9_signByRemainders 9 = .ok (.iload_n 1, 1) := by decide +kernel
theorem dX9_signByRemainders_10 : decode cX9_signByRemainders 10 = .ok (.invokevirtual 177, 3) := by decide +kernel
theorem dX9_signByRemainders_13 : decode cX9_signByRemainders 13 = .ok (.goto 4, 3) := by decide +kernel
theorem dX9_signByRemainders_16 : decode cX9_signByRemainders 16 = .ok (.iconst 0, 1) := by decide +kernel
theorem dX9_signByRemainders_17 : decode cX9_signByRemainders 17 = .ok (.ireturn, 1) := by decide +kernel
theorem dX9_nearRoot_0 : decode cX9_nearRoot 0 = .ok (.aload_n 0, 1) := by decide +kernel
theorem dX9_nearRoot_1 : decode cX9_nearRoot 1 = .ok (.iload_n 1, 1) := by decide +kernel
theorem dX9_nearRoot_2 : decode cX9_nearRoot 2 = .ok (.invokevirtual 174, 3) := by decide +kernel
theorem dX9_nearRoot_5 : decode cX9_nearRoot 5 = .ok (.ifCond .ne 5, 3) := by decide +kernel
theorem dX9_nearRoot_8 : decode cX9_nearRoot 8 = .ok (.fconst 0, 1) := by decide +kernel
theorem dX9_nearRoot_9 : decode cX9_nearRoot 9 = .ok (.freturn, 1) := by decide +kernel
theorem dX9_nearRoot_10 : decode cX9_nearRoot 10 = .ok (.aload_n 0, 1) := by decide +kernel
theorem dX9_nearRoot_11 : decode cX9_nearRoot 11 = .ok (.iload_n 1, 1) := by decide +kernel
theorem dX9_nearRoot_12 : decode cX9_nearRoot 12 = .ok (.aload_n 0, 1) := by decide +kernel
theorem dX9_nearRoot_13 : decode cX9_nearRoot 13 = .ok (.iload_n 1, 1) := by decide +kernel
theorem dX9_nearRoot_14 : decode cX9_nearRoot 14 = .ok (.invokevirtual 89, 3) := by decide +kernel
theorem dX9_nearRoot_17 : decode cX9_nearRoot 17 = .ok (.invokevirtual 136, 3) := by decide +kernel
theorem dX9_nearRoot_20 : decode cX9_nearRoot 20 = .ok (.aload_n 0, 1) := by decide +kernel
theorem dX9_nearRoot_21 : decode cX9_nearRoot 21 = .ok (.aload_n 0, 1) := by decide +kernel
theorem dX9_nearRoot_22 : decode cX9_nearRoot 22 = .ok (.getfield 107, 3) := by decide +kernel
theorem dX9_nearRoot_25 : decode cX9_nearRoot 25 = .ok (.lconst 0, 1) := by decide +kernel
theorem dX9_nearRoot_26 : decode cX9_nearRoot 26 = .ok (.lcmp, 1) := by decide +kernel
theorem dX9_nearRoot_27 : decode cX9_nearRoot 27 = .ok (.ifCond .ne 7, 3) := by decide +kernel
theorem dX9_nearRoot_30 : decode cX9_nearRoot 30 = .ok (.iconst 2, 1) := by decide +kernel
theorem dX9_nearRoot_31 : decode cX9_nearRoot 31 = .ok (.goto 4, 3) := by decide +kernel
theorem dX9_nearRoot_34 : decode cX9_nearRoot 34 = .ok (.iconst 0, 1) := by decide +kernel
theorem dX9_nearRoot_35 : decode cX9_nearRoot 35 = .ok (.putfield 32, 3) := by decide +kernel
theorem dX9_nearRoot_38 : decode cX9_nearRoot 38 = .ok (.aload_n 0, 1) := by decide +kernel
theorem dX9_nearRoot_39 : decode cX9_nearRoot 39 = .ok (.getfield 107, 3) := by decide +kernel
theorem dX9_nearRoot_42 : decode cX9_nearRoot 42 = .ok (.lconst 0, 1) := by decide +kernel
theorem dX9_nearRoot_43 : decode cX9_nearRoot 43 = .ok (.lcmp, 1) := by decide +kernel
theorem dX9_nearRoot_44 : decode cX9_nearRoot 44 = .ok (.ifCond .ne 7, 3) := by decide +kernel
theorem dX9_nearRoot_47 : decode cX9_nearRoot 47 = .ok (.fconst 0, 1) := by decide +kernel
theorem dX9_nearRoot_48 : decode cX9_nearRoot 48 = .ok (.goto 14, 3) := by decide +kernel
theorem dX9_nearRoot_51 : decode cX9_nearRoot 51 = .ok (.aload_n 0, 1) := by decide +kernel
theorem dX9_nearRoot_52 : decode cX9_nearRoot 52 = .ok (.getfield 104, 3) := by decide +kernel
theorem dX9_nearRoot_55 : decode cX9_nearRoot 55 = .ok (.l2f, 1) := by decide +kernel
theorem dX9_nearRoot_56 : decode cX9_nearRoot 56 = .ok (.aload_n 0, 1) := by decide +kernel
theorem dX9_nearRoot_57 : decode cX9_nearRoot 57 = .ok (.getfield 107, 3) := by decide +kernel
theorem dX9_nearRoot_60 : decode cX9_nearRoot 60 = .ok (.l2f, 1) := by decide +kernel
theorem dX9_nearRoot_61 : decode cX9_nearRoot 61 = .ok (.fdiv, 1) := by decide +kernel
theorem dX9_nearRoot_62 : decode cX9_nearRoot 62 = .ok (.freturn, 1) := by decide +kernel
theorem dX9_goesOn_0 : decode cX9_goesOn 0 = .ok (.aload_n 0, 1) := by decide +kernel
theorem dX9_goesOn_1 : decode cX9_goesOn 1 = .ok (.iload_n 1, 1) := by decide +kernel
theorem dX9_goesOn_2 : decode cX9_goesOn 2 = .ok (.invokevirtual 112, 3) := by decide +kernel
theorem dX9_goesOn_5 : decode cX9_goesOn 5 = .ok (.aload_n 0, 1) := by decide +kernel
theorem dX9_goesOn_6 : decode cX9_goesOn 6 = .ok (.aload_n 0, 1) := by decide +kernel
theorem dX9_goesOn_7 : decode cX9_goesOn 7 = .ok (.getfield 25, 3) := by decide +kernel
theorem dX9_goesOn_10 : decode cX9_goesOn 10 = .ok (.iload_n 1, 1) := by decide +kernel
theorem dX9_goesOn_11 : decode cX9_goesOn 11 = .ok (.laload, 1) := by decide +kernel
theorem dX9_goesOn_12 : decode cX9_goesOn 12 = .ok (.putfield 104, 3) := by decide +kernel
theorem dX9_goesOn_15 : decode cX9_goesOn 15 = .ok (.aload_n 0, 1) := by decide +kernel
theorem dX9_goesOn_16 : decode cX9_goesOn 16 = .ok (.aload_n 0, 1) := by decide +kernel
theorem dX9_goesOn_17 : decode cX9_goesOn 17 = .ok (.getfield 29, 3) := by decide +kernel
theorem dX9_goesOn_20 : decode cX9_goesOn 20 = .ok (.iload_n 1, 1) := by decide +kernel
theorem dX9_goesOn_21 : decode cX9_goesOn 21 = .ok (.laload, 1) := by decide +kernel
theorem dX9_goesOn_22 : decode cX9_goesOn 22 = .ok (.putfield 107, 3) := by decide +kernel
theorem dX9_goesOn_25 : decode cX9_goesOn 25 = .ok (.aload_n 0, 1) := by decide +kernel
theorem dX9_goesOn_26 : decode cX9_goesOn 26 = .ok (.iload_n 1, 1) := by decide +kernel
theorem dX9_goesOn_27 : decode cX9_goesOn 27 = .ok (.invokevirtual 115, 3) := by decide +kernel
theorem dX9_goesOn_30 : decode cX9_goesOn 30 = .ok (.istore_n 2, 1) := by decide +kernel
theorem dX9_goesOn_31 : decode cX9_goesOn 31 = .ok (.aload_n 0, 1) := by decide +kernel
theorem dX9_goesOn_32 : decode cX9_goesOn 32 = .ok (.getfield 25, 3) := by decide +kernel
theorem dX9_goesOn_35 : decode cX9_goesOn 35 = .ok (.iload_n 1, 1) := by decide +kernel
theorem dX9_goesOn_36 : decode cX9_goesOn 36 = .ok (.iload_n 2, 1) := by decide +kernel
theorem dX9_goesOn_37 : decode cX9_goesOn 37 = .ok (.ifCond .eq 10, 3) := by decide +kernel
theorem dX9_goesOn_40 : decode cX9_goesOn 40 = .ok (.aload_n 0, 1) := by decide +kernel
theorem dX9_goesOn_41 : decode cX9_goesOn 41 = .ok (.getfield 104, 3) := by decide +kernel
theorem dX9_goesOn_44 : decode cX9_goesOn 44 = .ok (.goto 4, 3) := by decide +kernel
theorem dX9_goesOn_47 : decode cX9_goesOn 47 = .ok (.lconst 0, 1) := by decide +kernel
theorem dX9_goesOn_48 : decode cX9_goesOn 48 = .ok (.lastore, 1) := by decide +kernel
theorem dX9_goesOn_49 : decode cX9_goesOn 49 = .ok (.aload_n 0, 1) := by decide +kernel
theorem dX9_goesOn_50 : decode cX9_goesOn 50 = .ok (.getfield 29, 3) := by decide +kernel
theorem dX9_goesOn_53 : decode cX9_goesOn 53 = .ok (.iload_n 1, 1) := by decide +kernel
theorem dX9_goesOn_54 : decode cX9_goesOn 54 = .ok (.iload_n 2, 1) := by decide +kernel
theorem dX9_goesOn_55 : decode cX9_goesOn 55 = .ok (.ifCond .eq 10, 3) := by decide +kernel
theorem dX9_goesOn_58 : decode cX9_goesOn 58 = .ok (.aload_n 0, 1) := by decide +kernel
theorem dX9_goesOn_59 : decode cX9_goesOn 59 = .ok (.getfield 107, 3) := by decide +kernel
theorem dX9_goesOn_62 : decode cX9_goesOn 62 = .ok (.goto 4, 3) := by decide +kernel
theorem dX9_goesOn_65 : decode cX9_goesOn 65 = .ok (.lconst 0, 1) := by decide +kernel
theorem dX9_goesOn_66 : decode cX9_goesOn 66 = .ok (.lastore, 1) := by decide +kernel
theorem dX9_goesOn_67 : decode cX9_goesOn 67 = .ok (.return_, 1) := by decide +kernel
theorem dX9_beginsSolutions_0 : decode cX9_beginsSolutions 0 = .ok (.iconst 2, 1) := by decide +kernel
theorem dX9_beginsSolutions_1 : decode cX9_beginsSolutions 1 = .ok (.istore_n 1, 1) := by decide +kernel
theorem dX9_beginsSolutions_2 : decode cX9_beginsSolutions 2 = .ok (.iload_n 1, 1) := by decide +kernel
theorem dX9_beginsSolutions_3 : decode cX9_beginsSolutions 3 = .ok (.bipush 60, 2) := by decide +kernel
theorem dX9_beginsSolutions_5 : decode cX9_beginsSolutions 5 = .ok (.if_icmp .gt 54, 3) := by decide +kernel
theorem dX9_beginsSolutions_8 : decode cX9_beginsSolutions 8 = .ok (.aload_n 0, 1) := by decide +kernel
theorem dX9_beginsSolutions_9 : decode cX9_beginsSolutions 9 = .ok (.iload_n 1, 1) := by decide +kernel
theorem dX9_beginsSolutions_10 : decode cX9_beginsSolutions 10 = .ok (.invokevirtual 89, 3) := by decide +kernel
theorem dX9_beginsSolutions_13 : decode cX9_beginsSolutions 13 = .ok (.ifCond .lt 7, 3) := by decide +kernel
theorem dX9_beginsSolutions_16 : decode cX9_beginsSolutions 16 = .ok (.iconst 1, 1) := by decide +kernel
theorem dX9_beginsSolutions_17 : decode cX9_beginsSolutions 17 = .ok (.goto 4, 3) := by decide +kernel
theorem dX9_beginsSolutions_20 : decode cX9_beginsSolutions 20 = .ok (.iconst 0, 1) := by decide +kernel
theorem dX9_beginsSolutions_21 : decode cX9_beginsSolutions 21 = .ok (.istore_n 2, 1) := by decide +kernel
theorem dX9_beginsSolutions_22 : decode cX9_beginsSolutions 22 = .ok (.aload_n 0, 1) := by decide +kernel
theorem dX9_beginsSolutions_23 : decode cX9_beginsSolutions 23 = .ok (.getfield 25, 3) := by decide +kernel
theorem dX9_beginsSolutions_26 : decode cX9_beginsSolutions 26 = .ok (.iload_n 1, 1) := by decide +kernel
theorem dX9_beginsSolutions_27 : decode cX9_beginsSolutions 27 = .ok (.iload_n 2, 1) := by decide +kernel
theorem dX9_beginsSolutions_28 : decode cX9_beginsSolutions 28 = .ok (.ifCond .eq 7, 3) := by decide +kernel
theorem dX9_beginsSolutions_31 : decode cX9_beginsSolutions 31 = .ok (.lconst 1, 1) := by decide +kernel
theorem dX9_beginsSolutions_32 : decode cX9_beginsSolutions 32 = .ok (.goto 4, 3) := by decide +kernel
theorem dX9_beginsSolutions_35 : decode cX9_beginsSolutions 35 = .ok (.lconst 0, 1) := by decide +kernel
theorem dX9_beginsSolutions_36 : decode cX9_beginsSolutions 36 = .ok (.lastore, 1) := by decide +kernel
theorem dX9_beginsSolutions_37 : decode cX9_beginsSolutions 37 = .ok (.aload_n 0, 1) := by decide +kernel
theorem dX9_beginsSolutions_38 : decode cX9_beginsSolutions 38 = .ok (.getfield 29, 3) := by decide +kernel
theorem dX9_beginsSolutions_41 : decode cX9_beginsSolutions 41 = .ok (.iload_n 1, 1) := by decide +kernel
theorem dX9_beginsSolutions_42 : decode cX9_beginsSolutions 42 = .ok (.lconst 0, 1) := by decide +kernel
theorem dX9_beginsSolutions_43 : decode cX9_beginsSolutions 43 = .ok (.lastore, 1) := by decide +kernel
theorem dX9_beginsSolutions_44 : decode cX9_beginsSolutions 44 = .ok (.iload_n 2, 1) := by decide +kernel
theorem dX9_beginsSolutions_45 : decode cX9_beginsSolutions 45 = .ok (.ifCond .eq 8, 3) := by decide +kernel
theorem dX9_beginsSolutions_48 : decode cX9_beginsSolutions 48 = .ok (.aload_n 0, 1) := by decide +kernel
theorem dX9_beginsSolutions_49 : decode cX9_beginsSolutions 49 = .ok (.iload_n 1, 1) := by decide +kernel
theorem dX9_beginsSolutions_50 : decode cX9_beginsSolutions 50 = .ok (.invokevirtual 180, 3) := by decide +kernel
theorem dX9_beginsSolutions_53 : decode cX9_beginsSolutions 53 = .ok (.iinc 1 1, 3) := by decide +kernel
theorem dX9_beginsSolutions_56 : decode cX9_beginsSolutions 56 = .ok (.goto (-54), 3) := by decide +kernel
theorem dX9_beginsSolutions_59 : decode cX9_beginsSolutions 59 = .ok (.return_, 1) := by decide +kernel
theorem dX9_leastNext_0 : decode cX9_leastNext 0 = .ok (.iconst 0, 1) := by decide +kernel
theorem dX9_leastNext_1 : decode cX9_leastNext 1 = .ok (.istore_n 1, 1) := by decide +kernel
theorem dX9_leastNext_2 : decode cX9_leastNext 2 = .ok (.iconst 2, 1) := by decide +kernel
theorem dX9_leastNext_3 : decode cX9_leastNext 3 = .ok (.istore_n 2, 1) := by decide +kernel
theorem dX9_leastNext_4 : decode cX9_leastNext 4 = .ok (.iload_n 2, 1) := by decide +kernel
theorem dX9_leastNext_5 : decode cX9_leastNext 5 = .ok (.bipush 60, 2) := by decide +kernel
theorem dX9_leastNext_7 : decode cX9_leastNext 7 = .ok (.if_icmp .gt 56, 3) := by decide +kernel
theorem dX9_leastNext_10 : decode cX9_leastNext 10 = .ok (.aload_n 0, 1) := by decide +kernel
theorem dX9_leastNext_11 : decode cX9_leastNext 11 = .ok (.getfield 25, 3) := by decide +kernel
theorem dX9_leastNext_14 : decode cX9_leastNext 14 = .ok (.iload_n 2, 1) := by decide +kernel
theorem dX9_leastNext_15 : decode cX9_leastNext 15 = .ok (.laload, 1) := by decide +kernel
theorem dX9_leastNext_16 : decode cX9_leastNext 16 = .ok (.lconst 0, 1) := by decide +kernel
theorem dX9_leastNext_17 : decode cX9_leastNext 17 = .ok (.lcmp, 1) := by decide +kernel
theorem dX9_leastNext_18 : decode cX9_leastNext 18 = .ok (.ifCond .le 27, 3) := by decide +kernel
theorem dX9_leastNext_21 : decode cX9_leastNext 21 = .ok (.iload_n 1, 1) := by decide +kernel
theorem dX9_leastNext_22 : decode cX9_leastNext 22 = .ok (.ifCond .eq 19, 3) := by decide +kernel
theorem dX9_leastNext_25 : decode cX9_leastNext 25 = .ok (.aload_n 0, 1) := by decide +kernel
theorem dX9_leastNext_26 : decode cX9_leastNext 26 = .ok (.getfield 25, 3) := by decide +kernel
theorem dX9_leastNext_29 : decode cX9_leastNext 29 = .ok (.iload_n 2, 1) := by decide +kernel
theorem dX9_leastNext_30 : decode cX9_leastNext 30 = .ok (.laload, 1) := by decide +kernel
theorem dX9_leastNext_31 : decode cX9_leastNext 31 = .ok (.aload_n 0, 1) := by decide +kernel
theorem dX9_leastNext_32 : decode cX9_leastNext 32 = .ok (.getfield 25, 3) := by decide +kernel
theorem dX9_leastNext_35 : decode cX9_leastNext 35 = .ok (.iload_n 1, 1) := by decide +kernel
theorem dX9_leastNext_36 : decode cX9_leastNext 36 = .ok (.laload, 1) := by decide +kernel
theorem dX9_leastNext_37 : decode cX9_leastNext 37 = .ok (.lcmp, 1) := by decide +kernel
theorem dX9_leastNext_38 : decode cX9_leastNext 38 = .ok (.ifCond .ge 7, 3) := by decide +kernel
theorem dX9_leastNext_41 : decode cX9_leastNext 41 = .ok (.iconst 1, 1) := by decide +kernel
theorem dX9_leastNext_42 : decode cX9_leastNext 42 = .ok (.goto 4, 3) := by decide +kernel
theorem dX9_leastNext_45 : decode cX9_leastNext 45 = .ok (.iconst 0, 1) := by decide +kernel
theorem dX9_leastNext_46 : decode cX9_leastNext 46 = .ok (.istore_n 3, 1) := by decide +kernel
theorem dX9_leastNext_47 : decode cX9_leastNext 47 = .ok (.iload_n 3, 1) := by decide +kernel
theorem dX9_leastNext_48 : decode cX9_leastNext 48 = .ok (.ifCond .eq 7, 3) := by decide +kernel
theorem dX9_leastNext_51 : decode cX9_leastNext 51 = .ok (.iload_n 2, 1) := by decide +kernel
theorem dX9_leastNext_52 : decode cX9_leastNext 52 = .ok (.goto 4, 3) := by decide +kernel
theorem dX9_leastNext_55 : decode cX9_leastNext 55 = .ok (.iload_n 1, 1) := by decide +kernel
theorem dX9_leastNext_56 : decode cX9_leastNext 56 = .ok (.istore_n 1, 1) := by decide +kernel
theorem dX9_leastNext_57 : decode cX9_leastNext 57 = .ok (.iinc 2 1, 3) := by decide +kernel
theorem dX9_leastNext_60 : decode cX9_leastNext 60 = .ok (.goto (-56), 3) := by decide +kernel
theorem dX9_leastNext_63 : decode cX9_leastNext 63 = .ok (.iload_n 1, 1) := by decide +kernel
theorem dX9_leastNext_64 : decode cX9_leastNext 64 = .ok (.ireturn, 1) := by decide +kernel
theorem dX9_countTo_0 : decode cX9_countTo 0 = .ok (.aload_n 0, 1) := by decide +kernel
theorem dX9_countTo_1 : decode cX9_countTo 1 = .ok (.invokevirtual 183, 3) := by decide +kernel
theorem dX9_countTo_4 : decode cX9_countTo 4 = .ok (.iconst 0, 1) := by decide +kernel
theorem dX9_countTo_5 : decode cX9_countTo 5 = .ok (.istore_n 3, 1) := by decide +kernel
theorem dX9_countTo_6 : decode cX9_countTo 6 = .ok (.aload_n 0, 1) := by decide +kernel
theorem dX9_countTo_7 : decode cX9_countTo 7 = .ok (.invokevirtual 186, 3) := by decide +kernel
theorem dX9_countTo_10 : decode cX9_countTo 10 = .ok (.istore 4, 2) := by decide +kernel
theorem dX9_countTo_12 : decode cX9_countTo 12 = .ok (.iload 4, 2) := by decide +kernel
theorem dX9_countTo_14 : decode cX9_countTo 14 = .ok (.ifCond .le 33, 3) := by decide +kernel
theorem dX9_countTo_17 : decode cX9_countTo 17 = .ok (.aload_n 0, 1) := by decide +kernel
theorem dX9_countTo_18 : decode cX9_countTo 18 = .ok (.getfield 25, 3) := by decide +kernel
theorem dX9_countTo_21 : decode cX9_countTo 21 = .ok (.iload 4, 2) := by decide +kernel
theorem dX9_countTo_23 : decode cX9_countTo 23 = .ok (.laload, 1) := by decide +kernel
theorem dX9_countTo_24 : decode cX9_countTo 24 = .ok (.lload_n 1, 1) := by decide +kernel
theorem dX9_countTo_25 : decode cX9_countTo 25 = .ok (.lcmp, 1) := by decide +kernel
theorem dX9_countTo_26 : decode cX9_countTo 26 = .ok (.ifCond .gt 21, 3) := by decide +kernel
theorem dX9_countTo_29 : decode cX9_countTo 29 = .ok (.iinc 3 1, 3) := by decide +kernel
theorem dX9_countTo_32 : decode cX9_countTo 32 = .ok (.aload_n 0, 1) := by decide +kernel
theorem dX9_countTo_33 : decode cX9_countTo 33 = .ok (.iload 4, 2) := by decide +kernel
theorem dX9_countTo_35 : decode cX9_countTo 35 = .ok (.invokevirtual 180, 3) := by decide +kernel
theorem dX9_countTo_38 : decode cX9_countTo 38 = .ok (.aload_n 0, 1) := by decide +kernel
theorem dX9_countTo_39 : decode cX9_countTo 39 = .ok (.invokevirtual 186, 3) := by decide +kernel
theorem dX9_countTo_42 : decode cX9_countTo 42 = .ok (.istore 4, 2) := by decide +kernel
theorem dX9_countTo_44 : decode cX9_countTo 44 = .ok (.goto (-32), 3) := by decide +kernel
theorem dX9_countTo_47 : decode cX9_countTo 47 = .ok (.iload_n 3, 1) := by decide +kernel
theorem dX9_countTo_48 : decode cX9_countTo 48 = .ok (.ireturn, 1) := by decide +kernel
theorem dX9_solutions_0 : decode cX9_solutions 0 = .ok (.aload_n 0, 1) := by decide +kernel
theorem dX9_solutions_1 : decode cX9_solutions 1 = .ok (.iconst 0, 1) := by decide +kernel
theorem dX9_solutions_2 : decode cX9_solutions 2 = .ok (.putfield 32, 3) := by decide +kernel
theorem dX9_solutions_5 : decode cX9_solutions 5 = .ok (.aload_n 0, 1) := by decide +kernel
theorem dX9_solutions_6 : decode cX9_solutions 6 = .ok (.ldc2_w 110, 3) := by decide +kernel
theorem dX9_solutions_9 : decode cX9_solutions 9 = .ok (.invokevirtual 189, 3) := by decide +kernel
theorem dX9_solutions_12 : decode cX9_solutions 12 = .ok (.ireturn, 1) := by decide +kernel
theorem dX9_solution_0 : decode cX9_solution 0 = .ok (.aload_n 0, 1) := by decide +kernel
theorem dX9_solution_1 : decode cX9_solution 1 = .ok (.iload_n 1, 1) := by decide +kernel
theorem dX9_solution_2 : decode cX9_solution 2 = .ok (.ifCond .lt 7, 3) := by decide +kernel
theorem dX9_solution_5 : decode cX9_solution 5 = .ok (.iconst 1, 1) := by decide +kernel
theorem dX9_solution_6 : decode cX9_solution 6 = .ok (.goto 4, 3) := by decide +kernel
theorem dX9_solution_9 : decode cX9_solution 9 = .ok (.iconst 0, 1) := by decide +kernel
theorem dX9_solution_10 : decode cX9_solution 10 = .ok (.invokevirtual 161, 3) := by decide +kernel
theorem dX9_solution_13 : decode cX9_solution 13 = .ok (.ifCond .ne 5, 3) := by decide +kernel
theorem dX9_solution_16 : decode cX9_solution 16 = .ok (.iconst 0, 1) := by decide +kernel
theorem dX9_solution_17 : decode cX9_solution 17 = .ok (.ireturn, 1) := by decide +kernel
theorem dX9_solution_18 : decode cX9_solution 18 = .ok (.aload_n 0, 1) := by decide +kernel
theorem dX9_solution_19 : decode cX9_solution 19 = .ok (.invokevirtual 183, 3) := by decide +kernel
theorem dX9_solution_22 : decode cX9_solution 22 = .ok (.aload_n 0, 1) := by decide +kernel
theorem dX9_solution_23 : decode cX9_solution 23 = .ok (.invokevirtual 186, 3) := by decide +kernel
theorem dX9_solution_26 : decode cX9_solution 26 = .ok (.istore_n 2, 1) := by decide +kernel
theorem dX9_solution_27 : decode cX9_solution 27 = .ok (.iload_n 1, 1) := by decide +kernel
theorem dX9_solution_28 : decode cX9_solution 28 = .ok (.istore_n 3, 1) := by decide +kernel
theorem dX9_solution_29 : decode cX9_solution 29 = .ok (.iload_n 2, 1) := by decide +kernel
theorem dX9_solution_30 : decode cX9_solution 30 = .ok (.ifCond .le 23, 3) := by decide +kernel
theorem dX9_solution_33 : decode cX9_solution 33 = .ok (.iload_n 3, 1) := by decide +kernel
theorem dX9_solution_34 : decode cX9_solution 34 = .ok (.ifCond .le 19, 3) := by decide +kernel
theorem dX9_solution_37 : decode cX9_solution 37 = .ok (.aload_n 0, 1) := by decide +kernel
theorem dX9_solution_38 : decode cX9_solution 38 = .ok (.iload_n 2, 1) := by decide +kernel
theorem dX9_solution_39 : decode cX9_solution 39 = .ok (.invokevirtual 180, 3) := by decide +kernel
theorem dX9_solution_42 : decode cX9_solution 42 = .ok (.aload_n 0, 1) := by decide +kernel
theorem dX9_solution_43 : decode cX9_solution 43 = .ok (.invokevirtual 186, 3) := by decide +kernel
theorem dX9_solution_46 : decode cX9_solution 46 = .ok (.istore_n 2, 1) := by decide +kernel
theorem dX9_solution_47 : decode cX9_solution 47 = .ok (.iinc 3 (-1), 3) := by decide +kernel
theorem dX9_solution_50 : decode cX9_solution 50 = .ok (.goto (-21), 3) := by decide +kernel
theorem dX9_solution_53 : decode cX9_solution 53 = .ok (.aload_n 0, 1) := by decide +kernel
theorem dX9_solution_54 : decode cX9_solution 54 = .ok (.iload_n 2, 1) := by decide +kernel
theorem dX9_solution_55 : decode cX9_solution 55 = .ok (.ifCond .ne 7, 3) := by decide +kernel
theorem dX9_solution_58 : decode cX9_solution 58 = .ok (.iconst 2, 1) := by decide +kernel
theorem dX9_solution_59 : decode cX9_solution 59 = .ok (.goto 4, 3) := by decide +kernel
theorem dX9_solution_62 : decode cX9_solution 62 = .ok (.iconst 0, 1) := by decide +kernel
theorem dX9_solution_63 : decode cX9_solution 63 = .ok (.putfield 32, 3) := by decide +kernel
theorem dX9_solution_66 : decode cX9_solution 66 = .ok (.iload_n 2, 1) := by decide +kernel
theorem dX9_solution_67 : decode cX9_solution 67 = .ok (.ireturn, 1) := by decide +kernel
theorem dX9_solutionX_0 : decode cX9_solutionX 0 = .ok (.aload_n 0, 1) := by decide +kernel
theorem dX9_solutionX_1 : decode cX9_solutionX 1 = .ok (.iload_n 1, 1) := by decide +kernel
theorem dX9_solutionX_2 : decode cX9_solutionX 2 = .ok (.invokevirtual 193, 3) := by decide +kernel
theorem dX9_solutionX_5 : decode cX9_solutionX 5 = .ok (.istore_n 2, 1) := by decide +kernel
theorem dX9_solutionX_6 : decode cX9_solutionX 6 = .ok (.aload_n 0, 1) := by decide +kernel
theorem dX9_solutionX_7 : decode cX9_solutionX 7 = .ok (.getfield 32, 3) := by decide +kernel
theorem dX9_solutionX_10 : decode cX9_solutionX 10 = .ok (.ifCond .le 7, 3) := by decide +kernel
theorem dX9_solutionX_13 : decode cX9_solutionX 13 = .ok (.lconst 0, 1) := by decide +kernel
theorem dX9_solutionX_14 : decode cX9_solutionX 14 = .ok (.goto 9, 3) := by decide +kernel
theorem dX9_solutionX_17 : decode cX9_solutionX 17 = .ok (.aload_n 0, 1) := by decide +kernel
theorem dX9_solutionX_18 : decode cX9_solutionX 18 = .ok (.getfield 25, 3) := by decide +kernel
theorem dX9_solutionX_21 : decode cX9_solutionX 21 = .ok (.iload_n 2, 1) := by decide +kernel
theorem dX9_solutionX_22 : decode cX9_solutionX 22 = .ok (.laload, 1) := by decide +kernel
theorem dX9_solutionX_23 : decode cX9_solutionX 23 = .ok (.lreturn, 1) := by decide +kernel
theorem dX9_xAt_0 : decode cX9_xAt 0 = .ok (.aload_n 0, 1) := by decide +kernel
theorem dX9_xAt_1 : decode cX9_xAt 1 = .ok (.iload_n 1, 1) := by decide +kernel
theorem dX9_xAt_2 : decode cX9_xAt 2 = .ok (.invokevirtual 196, 3) := by decide +kernel
theorem dX9_xAt_5 : decode cX9_xAt 5 = .ok (.lreturn, 1) := by decide +kernel
theorem dX9_xAtBySet_0 : decode cX9_xAtBySet 0 = .ok (.aload_n 0, 1) := by decide +kernel
theorem dX9_xAtBySet_1 : decode cX9_xAtBySet 1 = .ok (.iload_n 1, 1) := by decide +kernel
theorem dX9_xAtBySet_2 : decode cX9_xAtBySet 2 = .ok (.invokevirtual 196, 3) := by decide +kernel
theorem dX9_xAtBySet_5 : decode cX9_xAtBySet 5 = .ok (.lreturn, 1) := by decide +kernel
theorem dX9_stoneAt_0 : decode cX9_stoneAt 0 = .ok (.aload_n 0, 1) := by decide +kernel
theorem dX9_stoneAt_1 : decode cX9_stoneAt 1 = .ok (.iload_n 1, 1) := by decide +kernel
theorem dX9_stoneAt_2 : decode cX9_stoneAt 2 = .ok (.invokevirtual 193, 3) := by decide +kernel
theorem dX9_stoneAt_5 : decode cX9_stoneAt 5 = .ok (.ireturn, 1) := by decide +kernel
theorem dX9_solutionsUpTo_0 : decode cX9_solutionsUpTo 0 = .ok (.aload_n 0, 1) := by decide +kernel
theorem dX9_solutionsUpTo_1 : decode cX9_solutionsUpTo 1 = .ok (.lload_n 1, 1) := by decide +kernel
theorem dX9_solutionsUpTo_2 : decode cX9_solutionsUpTo 2 = .ok (.lconst 0, 1) := by decide +kernel
theorem dX9_solutionsUpTo_3 : decode cX9_solutionsUpTo 3 = .ok (.lcmp, 1) := by decide +kernel
theorem dX9_solutionsUpTo_4 : decode cX9_solutionsUpTo 4 = .ok (.ifCond .lt 15, 3) := by decide +kernel
theorem dX9_solutionsUpTo_7 : decode cX9_solutionsUpTo 7 = .ok (.lload_n 1, 1) := by decide +kernel
theorem dX9_solutionsUpTo_8 : decode cX9_solutionsUpTo 8 = .ok (.ldc2_w 110, 3) := by decide +kernel
theorem dX9_solutionsUpTo_11 : decode cX9_solutionsUpTo 11 = .ok (.lcmp, 1) := by decide +kernel
theorem dX9_solutionsUpTo_12 : decode cX9_solutionsUpTo 12 = .ok (.ifCond .gt 7, 3) := by decide +kernel
theorem dX9_solutionsUpTo_15 : decode cX9_solutionsUpTo 15 = .ok (.iconst 1, 1) := by decide +kernel
theorem dX9_solutionsUpTo_16 : decode cX9_solutionsUpTo 16 = .ok (.goto 4, 3) := by decide +kernel
theorem dX9_solutionsUpTo_19 : decode cX9_solutionsUpTo 19 = .ok (.iconst 0, 1) := by decide +kernel
theorem dX9_solutionsUpTo_20 : decode cX9_solutionsUpTo 20 = .ok (.invokevirtual 161, 3) := by decide +kernel
theorem dX9_solutionsUpTo_23 : decode cX9_solutionsUpTo 23 = .ok (.ifCond .eq 11, 3) := by decide +kernel
theorem dX9_solutionsUpTo_26 : decode cX9_solutionsUpTo 26 = .ok (.aload_n 0, 1) := by decide +kernel
theorem dX9_solutionsUpTo_27 : decode cX9_solutionsUpTo 27 = .ok (.lload_n 1, 1) := by decide +kernel
theorem dX9_solutionsUpTo_28 : decode cX9_solutionsUpTo 28 = .ok (.invokevirtual 189, 3) := by decide +kernel
theorem dX9_solutionsUpTo_31 : decode cX9_solutionsUpTo 31 = .ok (.goto 4, 3) := by decide +kernel
theorem dX9_solutionsUpTo_34 : decode cX9_solutionsUpTo 34 = .ok (.iconst 0, 1) := by decide +kernel
theorem dX9_solutionsUpTo_35 : decode cX9_solutionsUpTo 35 = .ok (.ireturn, 1) := by decide +kernel
theorem dX9_milled_0 : decode cX9_milled 0 = .ok (.aload_n 0, 1) := by decide +kernel
theorem dX9_milled_1 : decode cX9_milled 1 = .ok (.iconst 0, 1) := by decide +kernel
theorem dX9_milled_2 : decode cX9_milled 2 = .ok (.putfield 32, 3) := by decide +kernel
theorem dX9_milled_5 : decode cX9_milled 5 = .ok (.aload_n 0, 1) := by decide +kernel
theorem dX9_milled_6 : decode cX9_milled 6 = .ok (.getfield 7, 3) := by decide +kernel
theorem dX9_milled_9 : decode cX9_milled 9 = .ok (.bipush 59, 2) := by decide +kernel
theorem dX9_milled_11 : decode cX9_milled 11 = .ok (.iaload, 1) := by decide +kernel
theorem dX9_milled_12 : decode cX9_milled 12 = .ok (.ireturn, 1) := by decide +kernel
theorem dX9_minusStones_0 : decode cX9_minusStones 0 = .ok (.aload_n 0, 1) := by decide +kernel
theorem dX9_minusStones_1 : decode cX9_minusStones 1 = .ok (.iconst 0, 1) := by decide +kernel
theorem dX9_minusStones_2 : decode cX9_minusStones 2 = .ok (.putfield 32, 3) := by decide +kernel
theorem dX9_minusStones_5 : decode cX9_minusStones 5 = .ok (.iconst 0, 1) := by decide +kernel
theorem dX9_minusStones_6 : decode cX9_minusStones 6 = .ok (.istore_n 1, 1) := by decide +kernel
theorem dX9_minusStones_7 : decode cX9_minusStones 7 = .ok (.iconst 2, 1) := by decide +kernel
theorem dX9_minusStones_8 : decode cX9_minusStones 8 = .ok (.istore_n 2, 1) := by decide +kernel
theorem dX9_minusStones_9 : decode cX9_minusStones 9 = .ok (.iload_n 2, 1) := by decide +kernel
theorem dX9_minusStones_10 : decode cX9_minusStones 10 = .ok (.bipush 60, 2) := by decide +kernel
theorem dX9_minusStones_12 : decode cX9_minusStones 12 = .ok (.if_icmp .gt 33, 3) := by decide +kernel
theorem dX9_minusStones_15 : decode cX9_minusStones 15 = .ok (.iload_n 1, 1) := by decide +kernel
theorem dX9_minusStones_16 : decode cX9_minusStones 16 = .ok (.aload_n 0, 1) := by decide +kernel
theorem dX9_minusStones_17 : decode cX9_minusStones 17 = .ok (.iload_n 2, 1) := by decide +kernel
theorem dX9_minusStones_18 : decode cX9_minusStones 18 = .ok (.invokevirtual 89, 3) := by decide +kernel
theorem dX9_minusStones_21 : decode cX9_minusStones 21 = .ok (.ifCond .lt 15, 3) := by decide +kernel
theorem dX9_minusStones_24 : decode cX9_minusStones 24 = .ok (.aload_n 0, 1) := by decide +kernel
theorem dX9_minusStones_25 : decode cX9_minusStones 25 = .ok (.iload_n 2, 1) := by decide +kernel
theorem dX9_minusStones_26 : decode cX9_minusStones 26 = .ok (.invokevirtual 177, 3) := by decide +kernel
theorem dX9_minusStones_29 : decode cX9_minusStones 29 = .ok (.ifCond .ge 7, 3) := by decide +kernel
theorem dX9_minusStones_32 : decode cX9_minusStones 32 = .ok (.iconst 1, 1) := by decide +kernel
theorem dX9_minusStones_33 : decode cX9_minusStones 33 = .ok (.goto 4, 3) := by decide +kernel
theorem dX9_minusStones_36 : decode cX9_minusStones 36 = .ok (.iconst 0, 1) := by decide +kernel
theorem dX9_minusStones_37 : decode cX9_minusStones 37 = .ok (.iadd, 1) := by decide +kernel
theorem dX9_minusStones_38 : decode cX9_minusStones 38 = .ok (.istore_n 1, 1) := by decide +kernel
theorem dX9_minusStones_39 : decode cX9_minusStones 39 = .ok (.iinc 2 1, 3) := by decide +kernel
theorem dX9_minusStones_42 : decode cX9_minusStones 42 = .ok (.goto (-33), 3) := by decide +kernel
theorem dX9_minusStones_45 : decode cX9_minusStones 45 = .ok (.iload_n 1, 1) := by decide +kernel
theorem dX9_minusStones_46 : decode cX9_minusStones 46 = .ok (.ireturn, 1) := by decide +kernel
theorem dX9_states_0 : decode cX9_states 0 = .ok (.aload_n 0, 1) := by decide +kernel
theorem dX9_states_1 : decode cX9_states 1 = .ok (.iconst 0, 1) := by decide +kernel
theorem dX9_states_2 : decode cX9_states 2 = .ok (.putfield 32, 3) := by decide +kernel
theorem dX9_states_5 : decode cX9_states 5 = .ok (.aload_n 0, 1) := by decide +kernel
theorem dX9_states_6 : decode cX9_states 6 = .ok (.getfield 40, 3) := by decide +kernel
theorem dX9_states_9 : decode cX9_states 9 = .ok (.ireturn, 1) := by decide +kernel
theorem dX9_type_0 : decode cX9_type 0 = .ok (.aload_n 0, 1) := by decide +kernel
theorem dX9_type_1 : decode cX9_type 1 = .ok (.iconst 0, 1) := by decide +kernel
theorem dX9_type_2 : decode cX9_type 2 = .ok (.putfield 32, 3) := by decide +kernel
theorem dX9_type_5 : decode cX9_type 5 = .ok (.iload_n 1, 1) := by decide +kernel
theorem dX9_type_6 : decode cX9_type 6 = .ok (.bipush 32, 2) := by decide +kernel
theorem dX9_type_8 : decode cX9_type 8 = .ok (.bipush 126, 2) := by decide +kernel
theorem dX9_type_10 : decode cX9_type 10 = .ok (.invokestatic 50, 3) := by decide +kernel
theorem dX9_type_13 : decode cX9_type 13 = .ok (.ifCond .ne 9, 3) := by decide +kernel
theorem dX9_type_16 : decode cX9_type 16 = .ok (.aload_n 0, 1) := by decide +kernel
theorem dX9_type_17 : decode cX9_type 17 = .ok (.iconst 1, 1) := by decide +kernel
theorem dX9_type_18 : decode cX9_type 18 = .ok (.invokevirtual 43, 3) := by decide +kernel
theorem dX9_type_21 : decode cX9_type 21 = .ok (.ireturn, 1) := by decide +kernel
theorem dX9_type_22 : decode cX9_type 22 = .ok (.aload_n 0, 1) := by decide +kernel
theorem dX9_type_23 : decode cX9_type 23 = .ok (.getfield 200, 3) := by decide +kernel
theorem dX9_type_26 : decode cX9_type 26 = .ok (.bipush 60, 2) := by decide +kernel
theorem dX9_type_28 : decode cX9_type 28 = .ok (.if_icmp .ne 9, 3) := by decide +kernel
theorem dX9_type_31 : decode cX9_type 31 = .ok (.aload_n 0, 1) := by decide +kernel
theorem dX9_type_32 : decode cX9_type 32 = .ok (.iconst 2, 1) := by decide +kernel
theorem dX9_type_33 : decode cX9_type 33 = .ok (.invokevirtual 43, 3) := by decide +kernel
theorem dX9_type_36 : decode cX9_type 36 = .ok (.ireturn, 1) := by decide +kernel
theorem dX9_type_37 : decode cX9_type 37 = .ok (.aload_n 0, 1) := by decide +kernel
theorem dX9_type_38 : decode cX9_type 38 = .ok (.getfield 22, 3) := by decide +kernel
theorem dX9_type_41 : decode cX9_type 41 = .ok (.aload_n 0, 1) := by decide +kernel
theorem dX9_type_42 : decode cX9_type 42 = .ok (.getfield 200, 3) := by decide +kernel
theorem dX9_type_45 : decode cX9_type 45 = .ok (.iload_n 1, 1) := by decide +kernel
theorem dX9_type_46 : decode cX9_type 46 = .ok (.iastore, 1) := by decide +kernel
theorem dX9_type_47 : decode cX9_type 47 = .ok (.aload_n 0, 1) := by decide +kernel
theorem dX9_type_48 : decode cX9_type 48 = .ok (.dup, 1) := by decide +kernel
theorem dX9_type_49 : decode cX9_type 49 = .ok (.getfield 200, 3) := by decide +kernel
theorem dX9_type_52 : decode cX9_type 52 = .ok (.iconst 1, 1) := by decide +kernel
theorem dX9_type_53 : decode cX9_type 53 = .ok (.iadd, 1) := by decide +kernel
theorem dX9_type_54 : decode cX9_type 54 = .ok (.putfield 200, 3) := by decide +kernel
theorem dX9_type_57 : decode cX9_type 57 = .ok (.aload_n 0, 1) := by decide +kernel
theorem dX9_type_58 : decode cX9_type 58 = .ok (.getfield 200, 3) := by decide +kernel
theorem dX9_type_61 : decode cX9_type 61 = .ok (.ireturn, 1) := by decide +kernel
theorem dX9_clearText_0 : decode cX9_clearText 0 = .ok (.aload_n 0, 1) := by decide +kernel
theorem dX9_clearText_1 : decode cX9_clearText 1 = .ok (.iconst 0, 1) := by decide +kernel
theorem dX9_clearText_2 : decode cX9_clearText 2 = .ok (.putfield 32, 3) := by decide +kernel
theorem dX9_clearText_5 : decode cX9_clearText 5 = .ok (.aload_n 0, 1) := by decide +kernel
theorem dX9_clearText_6 : decode cX9_clearText 6 = .ok (.getfield 200, 3) := by decide +kernel
theorem dX9_clearText_9 : decode cX9_clearText 9 = .ok (.istore_n 1, 1) := by decide +kernel
theorem dX9_clearText_10 : decode cX9_clearText 10 = .ok (.aload_n 0, 1) := by decide +kernel
theorem dX9_clearText_11 : decode cX9_clearText 11 = .ok (.iconst 0, 1) := by decide +kernel
theorem dX9_clearText_12 : decode cX9_clearText 12 = .ok (.putfield 200, 3) := by decide +kernel
theorem dX9_clearText_15 : decode cX9_clearText 15 = .ok (.iload_n 1, 1) := by decide +kernel
theorem dX9_clearText_16 : decode cX9_clearText 16 = .ok (.ireturn, 1) := by decide +kernel
theorem dX9_here_0 : decode cX9_here 0 = .ok (.aload_n 0, 1) := by decide +kernel
theorem dX9_here_1 : decode cX9_here 1 = .ok (.getfield 203, 3) := by decide +kernel
theorem dX9_here_4 : decode cX9_here 4 = .ok (.aload_n 0, 1) := by decide +kernel
theorem dX9_here_5 : decode cX9_here 5 = .ok (.getfield 200, 3) := by decide +kernel
theorem dX9_here_8 : decode cX9_here 8 = .ok (.if_icmp .ge 15, 3) := by decide +kernel
theorem dX9_here_11 : decode cX9_here 11 = .ok (.aload_n 0, 1) := by decide +kernel
theorem dX9_here_12 : decode cX9_here 12 = .ok (.getfield 22, 3) := by decide +kernel
theorem dX9_here_15 : decode cX9_here 15 = .ok (.aload_n 0, 1) := by decide +kernel
theorem dX9_here_16 : decode cX9_here 16 = .ok (.getfield 203, 3) := by decide +kernel
theorem dX9_here_19 : decode cX9_here 19 = .ok (.iaload, 1) := by decide +kernel
theorem dX9_here_20 : decode cX9_here 20 = .ok (.goto 4, 3) := by decide +kernel
theorem dX9_here_23 : decode cX9_here 23 = .ok (.iconst 0, 1) := by decide +kernel
theorem dX9_here_24 : decode cX9_here 24 = .ok (.ireturn, 1) := by decide +kernel
theorem dX9_takes_0 : decode cX9_takes 0 = .ok (.aload_n 0, 1) := by decide +kernel
theorem dX9_takes_1 : decode cX9_takes 1 = .ok (.aload_n 0, 1) := by decide +kernel
theorem dX9_takes_2 : decode cX9_takes 2 = .ok (.getfield 206, 3) := by decide +kernel
theorem dX9_takes_5 : decode cX9_takes 5 = .ok (.ifCond .eq 11, 3) := by decide +kernel
theorem dX9_takes_8 : decode cX9_takes 8 = .ok (.iload_n 1, 1) := by decide +kernel
theorem dX9_takes_9 : decode cX9_takes 9 = .ok (.ifCond .eq 7, 3) := by decide +kernel
theorem dX9_takes_12 : decode cX9_takes 12 = .ok (.iconst 1, 1) := by decide +kernel
theorem dX9_takes_13 : decode cX9_takes 13 = .ok (.goto 4, 3) := by decide +kernel
theorem dX9_takes_16 : decode cX9_takes 16 = .ok (.iconst 0, 1) := by decide +kernel
theorem dX9_takes_17 : decode cX9_takes 17 = .ok (.putfield 206, 3) := by decide +kernel
theorem dX9_takes_20 : decode cX9_takes 20 = .ok (.aload_n 0, 1) := by decide +kernel
theorem dX9_takes_21 : decode cX9_takes 21 = .ok (.dup, 1) := by decide +kernel
theorem dX9_takes_22 : decode cX9_takes 22 = .ok (.getfield 203, 3) := by decide +kernel
theorem dX9_takes_25 : decode cX9_takes 25 = .ok (.aload_n 0, 1) := by decide +kernel
theorem dX9_takes_26 : decode cX9_takes 26 = .ok (.getfield 206, 3) := by decide +kernel
theorem dX9_takes_29 : decode cX9_takes 29 = .ok (.ifCond .eq 7, 3) := by decide +kernel
theorem dX9_takes_32 : decode cX9_takes 32 = .ok (.iconst 1, 1) := by decide +kernel
theorem dX9_takes_33 : decode cX9_takes 33 = .ok (.goto 4, 3) := by decide +kernel
theorem dX9_takes_36 : decode cX9_takes 36 = .ok (.iconst 0, 1) := by decide +kernel
theorem dX9_takes_37 : decode cX9_takes 37 = .ok (.iadd, 1) := by decide +kernel
theorem dX9_takes_38 : decode cX9_takes 38 = .ok (.putfield 203, 3) := by decide +kernel
theorem dX9_takes_41 : decode cX9_takes 41 = .ok (.return_, 1) := by decide +kernel
theorem dX9_takesNumber_0 : decode cX9_takesNumber 0 = .ok (.iconst 0, 1) := by decide +kernel
theorem dX9_takesNumber_1 : decode cX9_takesNumber 1 = .ok (.istore_n 1, 1) := by decide +kernel
theorem dX9_takesNumber_2 : decode cX9_takesNumber 2 = .ok (.iconst 0, 1) := by decide +kernel
theorem dX9_takesNumber_3 : decode cX9_takesNumber 3 = .ok (.istore_n 2, 1) := by decide +kernel
theorem dX9_takesNumber_4 : decode cX9_takesNumber 4 = .ok (.aload_n 0, 1) := by decide +kernel
theorem dX9_takesNumber_5 : decode cX9_takesNumber 5 = .ok (.getfield 206, 3) := by decide +kernel
theorem dX9_takesNumber_8 : decode cX9_takesNumber 8 = .ok (.ifCond .eq 51, 3) := by decide +kernel
theorem dX9_takesNumber_11 : decode cX9_takesNumber 11 = .ok (.iload_n 2, 1) := by decide +kernel
theorem dX9_takesNumber_12 : decode cX9_takesNumber 12 = .ok (.iconst 2, 1) := by decide +kernel
theorem dX9_takesNumber_13 : decode cX9_takesNumber 13 = .ok (.if_icmp .ge 46, 3) := by decide +kernel
theorem dX9_takesNumber_16 : decode cX9_takesNumber 16 = .ok (.aload_n 0, 1) := by decide +kernel
theorem dX9_takesNumber_17 : decode cX9_takesNumber 17 = .ok (.invokevirtual 209, 3) := by decide +kernel
theorem dX9_takesNumber_20 : decode cX9_takesNumber 20 = .ok (.bipush 48, 2) := by decide +kernel
theorem dX9_takesNumber_22 : decode cX9_takesNumber 22 = .ok (.bipush 57, 2) := by decide +kernel
theorem dX9_takesNumber_24 : decode cX9_takesNumber 24 = .ok (.invokestatic 50, 3) := by decide +kernel
theorem dX9_takesNumber_27 : decode cX9_takesNumber 27 = .ok (.ifCond .eq 32, 3) := by decide +kernel
theorem dX9_takesNumber_30 : decode cX9_takesNumber 30 = .ok (.bipush 10, 2) := by decide +kernel
theorem dX9_takesNumber_32 : decode cX9_takesNumber 32 = .ok (.iload_n 1, 1) := by decide +kernel
theorem dX9_takesNumber_33 : decode cX9_takesNumber 33 = .ok (.imul, 1) := by decide +kernel
theorem dX9_takesNumber_34 : decode cX9_takesNumber 34 = .ok (.aload_n 0, 1) := by decide +kernel
theorem dX9_takesNumber_35 : decode cX9_takesNumber 35 = .ok (.invokevirtual 209, 3) := by decide +kernel
theorem dX9_takesNumber_38 : decode cX9_takesNumber 38 = .ok (.iadd, 1) := by decide +kernel
theorem dX9_takesNumber_39 : decode cX9_takesNumber 39 = .ok (.bipush 48, 2) := by decide +kernel
theorem dX9_takesNumber_41 : decode cX9_takesNumber 41 = .ok (.isub, 1) := by decide +kernel
theorem dX9_takesNumber_42 : decode cX9_takesNumber 42 = .ok (.istore_n 1, 1) := by decide +kernel
theorem dX9_takesNumber_43 : decode cX9_takesNumber 43 = .ok (.iinc 2 1, 3) := by decide +kernel
theorem dX9_takesNumber_46 : decode cX9_takesNumber 46 = .ok (.aload_n 0, 1) := by decide +kernel
theorem dX9_takesNumber_47 : decode cX9_takesNumber 47 = .ok (.dup, 1) := by decide +kernel
theorem dX9_takesNumber_48 : decode cX9_takesNumber 48 = .ok (.getfield 203, 3) := by decide +kernel
theorem dX9_takesNumber_51 : decode cX9_takesNumber 51 = .ok (.iconst 1, 1) := by decide +kernel
theorem dX9_takesNumber_52 : decode cX9_takesNumber 52 = .ok (.iadd, 1) := by decide +kernel
theorem dX9_takesNumber_53 : decode cX9_takesNumber 53 = .ok (.putfield 203, 3) := by decide +kernel
theorem dX9_takesNumber_56 : decode cX9_takesNumber 56 = .ok (.goto (-52), 3) := by decide +kernel
theorem dX9_takesNumber_59 : decode cX9_takesNumber 59 = .ok (.aload_n 0, 1) := by decide +kernel
theorem dX9_takesNumber_60 : decode cX9_takesNumber 60 = .ok (.aload_n 0, 1) := by decide +kernel
theorem dX9_takesNumber_61 : decode cX9_takesNumber 61 = .ok (.getfield 206, 3) := by decide +kernel
theorem dX9_takesNumber_64 : decode cX9_takesNumber 64 = .ok (.ifCond .eq 11, 3) := by decide +kernel
theorem dX9_takesNumber_67 : decode cX9_takesNumber 67 = .ok (.iload_n 2, 1) := by decide +kernel
theorem dX9_takesNumber_68 : decode cX9_takesNumber 68 = .ok (.ifCond .le 7, 3) := by decide +kernel
theorem dX9_takesNumber_71 : decode cX9_takesNumber 71 = .ok (.iconst 1, 1) := by decide +kernel
theorem dX9_takesNumber_72 : decode cX9_takesNumber 72 = .ok (.goto 4, 3) := by decide +kernel
theorem dX9_takesNumber_75 : decode cX9_takesNumber 75 = .ok (.iconst 0, 1) := by decide +kernel
theorem dX9_takesNumber_76 : decode cX9_takesNumber 76 = .ok (.putfield 206, 3) := by decide +kernel
theorem dX9_takesNumber_79 : decode cX9_takesNumber 79 = .ok (.iload_n 1, 1) := by decide +kernel
theorem dX9_takesNumber_80 : decode cX9_takesNumber 80 = .ok (.ireturn, 1) := by decide +kernel
theorem dX9_takesOrder_0 : decode cX9_takesOrder 0 = .ok (.aload_n 0, 1) := by decide +kernel
theorem dX9_takesOrder_1 : decode cX9_takesOrder 1 = .ok (.aload_n 0, 1) := by decide +kernel
theorem dX9_takesOrder_2 : decode cX9_takesOrder 2 = .ok (.getfield 203, 3) := by decide +kernel
theorem dX9_takesOrder_5 : decode cX9_takesOrder 5 = .ok (.putfield 212, 3) := by decide +kernel
theorem dX9_takesOrder_8 : decode cX9_takesOrder 8 = .ok (.aload_n 0, 1) := by decide +kernel
theorem dX9_takesOrder_9 : decode cX9_takesOrder 9 = .ok (.iconst 1, 1) := by decide +kernel
theorem dX9_takesOrder_10 : decode cX9_takesOrder 10 = .ok (.putfield 206, 3) := by decide +kernel
theorem dX9_takesOrder_13 : decode cX9_takesOrder 13 = .ok (.aload_n 0, 1) := by decide +kernel
theorem dX9_takesOrder_14 : decode cX9_takesOrder 14 = .ok (.aload_n 0, 1) := by decide +kernel
theorem dX9_takesOrder_15 : decode cX9_takesOrder 15 = .ok (.invokevirtual 209, 3) := by decide +kernel
theorem dX9_takesOrder_18 : decode cX9_takesOrder 18 = .ok (.putfield 215, 3) := by decide +kernel
theorem dX9_takesOrder_21 : decode cX9_takesOrder 21 = .ok (.aload_n 0, 1) := by decide +kernel
theorem dX9_takesOrder_22 : decode cX9_takesOrder 22 = .ok (.aload_n 0, 1) := by decide +kernel
theorem dX9_takesOrder_23 : decode cX9_takesOrder 23 = .ok (.getfield 215, 3) := by decide +kernel
theorem dX9_takesOrder_26 : decode cX9_takesOrder 26 = .ok (.bipush 108, 2) := by decide +kernel
theorem dX9_takesOrder_28 : decode cX9_takesOrder 28 = .ok (.if_icmp .eq 30, 3) := by decide +kernel
theorem dX9_takesOrder_31 : decode cX9_takesOrder 31 = .ok (.aload_n 0, 1) := by decide +kernel
theorem dX9_takesOrder_32 : decode cX9_takesOrder 32 = .ok (.getfield 215, 3) := by decide +kernel
theorem dX9_takesOrder_35 : decode cX9_takesOrder 35 = .ok (.bipush 116, 2) := by decide +kernel
theorem dX9_takesOrder_37 : decode cX9_takesOrder 37 = .ok (.if_icmp .eq 21, 3) := by decide +kernel
theorem dX9_takesOrder_40 : decode cX9_takesOrder 40 = .ok (.aload_n 0, 1) := by decide +kernel
theorem dX9_takesOrder_41 : decode cX9_takesOrder 41 = .ok (.getfield 215, 3) := by decide +kernel
theorem dX9_takesOrder_44 : decode cX9_takesOrder 44 = .ok (.bipush 109, 2) := by decide +kernel
theorem dX9_takesOrder_46 : decode cX9_takesOrder 46 = .ok (.if_icmp .eq 12, 3) := by decide +kernel
theorem dX9_takesOrder_49 : decode cX9_takesOrder 49 = .ok (.aload_n 0, 1) := by decide +kernel
theorem dX9_takesOrder_50 : decode cX9_takesOrder 50 = .ok (.getfield 215, 3) := by decide +kernel
theorem dX9_takesOrder_53 : decode cX9_takesOrder 53 = .ok (.bipush 98, 2) := by decide +kernel
theorem dX9_takesOrder_55 : decode cX9_takesOrder 55 = .ok (.if_icmp .ne 7, 3) := by decide +kernel
theorem dX9_takesOrder_58 : decode cX9_takesOrder 58 = .ok (.iconst 1, 1) := by decide +kernel
theorem dX9_takesOrder_59 : decode cX9_takesOrder 59 = .ok (.goto 4, 3) := by decide +kernel
theorem dX9_takesOrder_62 : decode cX9_takesOrder 62 = .ok (.iconst 0, 1) := by decide +kernel
theorem dX9_takesOrder_63 : decode cX9_takesOrder 63 = .ok (.invokevirtual 218, 3) := by decide +kernel
theorem dX9_takesOrder_66 : decode cX9_takesOrder 66 = .ok (.aload_n 0, 1) := by decide +kernel
theorem dX9_takesOrder_67 : decode cX9_takesOrder 67 = .ok (.aload_n 0, 1) := by decide +kernel
theorem dX9_takesOrder_68 : decode cX9_takesOrder 68 = .ok (.invokevirtual 222, 3) := by decide +kernel
theorem dX9_takesOrder_71 : decode cX9_takesOrder 71 = .ok (.putfield 225, 3) := by decide +kernel
theorem dX9_takesOrder_74 : decode cX9_takesOrder 74 = .ok (.aload_n 0, 1) := by decide +kernel
theorem dX9_takesOrder_75 : decode cX9_takesOrder 75 = .ok (.aload_n 0, 1) := by decide +kernel
theorem dX9_takesOrder_76 : decode cX9_takesOrder 76 = .ok (.invokevirtual 209, 3) := by decide +kernel
theorem dX9_takesOrder_79 : decode cX9_takesOrder 79 = .ok (.bipush 59, 2) := by decide +kernel
theorem dX9_takesOrder_81 : decode cX9_takesOrder 81 = .ok (.if_icmp .ne 7, 3) := by decide +kernel
theorem dX9_takesOrder_84 : decode cX9_takesOrder 84 = .ok (.iconst 1, 1) := by decide +kernel
theorem dX9_takesOrder_85 : decode cX9_takesOrder 85 = .ok (.goto 4, 3) := by decide +kernel
theorem dX9_takesOrder_88 : decode cX9_takesOrder 88 = .ok (.iconst 0, 1) := by decide +kernel
theorem dX9_takesOrder_89 : decode cX9_takesOrder 89 = .ok (.invokevirtual 218, 3) := by decide +kernel
theorem dX9_takesOrder_92 : decode cX9_takesOrder 92 = .ok (.return_, 1) := by decide +kernel
theorem dX9_doesOrder_0 : decode cX9_doesOrder 0 = .ok (.aload_n 0, 1) := by decide +kernel
theorem dX9_doesOrder_1 : decode cX9_doesOrder 1 = .ok (.getfield 215, 3) := by decide +kernel
theorem dX9_doesOrder_4 : decode cX9_doesOrder 4 = .ok (.lookupswitch 63 #[(108, 36), (109, 54), (116, 45)], 36) := by decide +kernel
theorem dX9_doesOrder_40 : decode cX9_doesOrder 40 = .ok (.aload_n 0, 1) := by decide +kernel
theorem dX9_doesOrder_41 : decode cX9_doesOrder 41 = .ok (.aload_n 0, 1) := by decide +kernel
theorem dX9_doesOrder_42 : decode cX9_doesOrder 42 = .ok (.getfield 225, 3) := by decide +kernel
theorem dX9_doesOrder_45 : decode cX9_doesOrder 45 = .ok (.invokevirtual 142, 3) := by decide +kernel
theorem dX9_doesOrder_48 : decode cX9_doesOrder 48 = .ok (.ireturn, 1) := by decide +kernel
theorem dX9_doesOrder_49 : decode cX9_doesOrder 49 = .ok (.aload_n 0, 1) := by decide +kernel
theorem dX9_doesOrder_50 : decode cX9_doesOrder 50 = .ok (.aload_n 0, 1) := by decide +kernel
theorem dX9_doesOrder_51 : decode cX9_doesOrder 51 = .ok (.getfield 225, 3) := by decide +kernel
theorem dX9_doesOrder_54 : decode cX9_doesOrder 54 = .ok (.invokevirtual 148, 3) := by decide +kernel
theorem dX9_doesOrder_57 : decode cX9_doesOrder 57 = .ok (.ireturn, 1) := by decide +kernel
theorem dX9_doesOrder_58 : decode cX9_doesOrder 58 = .ok (.aload_n 0, 1) := by decide +kernel
theorem dX9_doesOrder_59 : decode cX9_doesOrder 59 = .ok (.aload_n 0, 1) := by decide +kernel
theorem dX9_doesOrder_60 : decode cX9_doesOrder 60 = .ok (.getfield 225, 3) := by decide +kernel
theorem dX9_doesOrder_63 : decode cX9_doesOrder 63 = .ok (.invokevirtual 151, 3) := by decide +kernel
theorem dX9_doesOrder_66 : decode cX9_doesOrder 66 = .ok (.ireturn, 1) := by decide +kernel
theorem dX9_doesOrder_67 : decode cX9_doesOrder 67 = .ok (.aload_n 0, 1) := by decide +kernel
theorem dX9_doesOrder_68 : decode cX9_doesOrder 68 = .ok (.aload_n 0, 1) := by decide +kernel
theorem dX9_doesOrder_69 : decode cX9_doesOrder 69 = .ok (.getfield 225, 3) := by decide +kernel
theorem dX9_doesOrder_72 : decode cX9_doesOrder 72 = .ok (.invokevirtual 154, 3) := by decide +kernel
theorem dX9_doesOrder_75 : decode cX9_doesOrder 75 = .ok (.ireturn, 1) := by decide +kernel
theorem dX9_doesAll_0 : decode cX9_doesAll 0 = .ok (.iconst 0, 1) := by decide +kernel
theorem dX9_doesAll_1 : decode cX9_doesAll 1 = .ok (.istore_n 1, 1) := by decide +kernel
theorem dX9_doesAll_2 : decode cX9_doesAll 2 = .ok (.aload_n 0, 1) := by decide +kernel
theorem dX9_doesAll_3 : decode cX9_doesAll 3 = .ok (.iconst 0, 1) := by decide +kernel
theorem dX9_doesAll_4 : decode cX9_doesAll 4 = .ok (.putfield 228, 3) := by decide +kernel
theorem dX9_doesAll_7 : decode cX9_doesAll 7 = .ok (.aload_n 0, 1) := by decide +kernel
theorem dX9_doesAll_8 : decode cX9_doesAll 8 = .ok (.iconst 0, 1) := by decide +kernel
theorem dX9_doesAll_9 : decode cX9_doesAll 9 = .ok (.putfield 203, 3) := by decide +kernel
theorem dX9_doesAll_12 : decode cX9_doesAll 12 = .ok (.aload_n 0, 1) := by decide +kernel
theorem dX9_doesAll_13 : decode cX9_doesAll 13 = .ok (.getfield 228, 3) := by decide +kernel
theorem dX9_doesAll_16 : decode cX9_doesAll 16 = .ok (.ifCond .ne 104, 3) := by decide +kernel
theorem dX9_doesAll_19 : decode cX9_doesAll 19 = .ok (.aload_n 0, 1) := by decide +kernel
theorem dX9_doesAll_20 : decode cX9_doesAll 20 = .ok (.getfield 203, 3) := by decide +kernel
theorem dX9_doesAll_23 : decode cX9_doesAll 23 = .ok (.aload_n 0, 1) := by decide +kernel
theorem dX9_doesAll_24 : decode cX9_doesAll 24 = .ok (.getfield 200, 3) := by decide +kernel
theorem dX9_doesAll_27 : decode cX9_doesAll 27 = .ok (.if_icmp .ge 93, 3) := by decide +kernel
theorem dX9_doesAll_30 : decode cX9_doesAll 30 = .ok (.aload_n 0, 1) := by decide +kernel
theorem dX9_doesAll_31 : decode cX9_doesAll 31 = .ok (.invokevirtual 230, 3) := by decide +kernel
theorem dX9_doesAll_34 : decode cX9_doesAll 34 = .ok (.aload_n 0, 1) := by decide +kernel
theorem dX9_doesAll_35 : decode cX9_doesAll 35 = .ok (.getfield 206, 3) := by decide +kernel
theorem dX9_doesAll_38 : decode cX9_doesAll 38 = .ok (.ifCond .eq 10, 3) := by decide +kernel
theorem dX9_doesAll_41 : decode cX9_doesAll 41 = .ok (.aload_n 0, 1) := by decide +kernel
theorem dX9_doesAll_42 : decode cX9_doesAll 42 = .ok (.invokevirtual 233, 3) := by decide +kernel
theorem dX9_doesAll_45 : decode cX9_doesAll 45 = .ok (.goto 4, 3) := by decide +kernel
theorem dX9_doesAll_48 : decode cX9_doesAll 48 = .ok (.iconst 0, 1) := by decide +kernel
theorem dX9_doesAll_49 : decode cX9_doesAll 49 = .ok (.istore_n 2, 1) := by decide +kernel
theorem dX9_doesAll_50 : decode cX9_doesAll 50 = .ok (.aload_n 0, 1) := by decide +kernel
theorem dX9_doesAll_51 : decode cX9_doesAll 51 = .ok (.getfield 206, 3) := by decide +kernel
theorem dX9_doesAll_54 : decode cX9_doesAll 54 = .ok (.ifCond .eq 7, 3) := by decide +kernel
theorem dX9_doesAll_57 : decode cX9_doesAll 57 = .ok (.iload_n 2, 1) := by decide +kernel
theorem dX9_doesAll_58 : decode cX9_doesAll 58 = .ok (.ifCond .ge 56, 3) := by decide +kernel
theorem dX9_doesAll_61 : decode cX9_doesAll 61 = .ok (.aload_n 0, 1) := by decide +kernel
theorem dX9_doesAll_62 : decode cX9_doesAll 62 = .ok (.aload_n 0, 1) := by decide +kernel
theorem dX9_doesAll_63 : decode cX9_doesAll 63 = .ok (.getfield 206, 3) := by decide +kernel
theorem dX9_doesAll_66 : decode cX9_doesAll 66 = .ok (.ifCond .eq 7, 3) := by decide +kernel
theorem dX9_doesAll_69 : decode cX9_doesAll 69 = .ok (.iconst 2, 1) := by decide +kernel
theorem dX9_doesAll_70 : decode cX9_doesAll 70 = .ok (.goto 4, 3) := by decide +kernel
theorem dX9_doesAll_73 : decode cX9_doesAll 73 = .ok (.iconst 1, 1) := by decide +kernel
theorem dX9_doesAll_74 : decode cX9_doesAll 74 = .ok (.putfield 228, 3) := by decide +kernel
theorem dX9_doesAll_77 : decode cX9_doesAll 77 = .ok (.aload_n 0, 1) := by decide +kernel
theorem dX9_doesAll_78 : decode cX9_doesAll 78 = .ok (.aload_n 0, 1) := by decide +kernel
theorem dX9_doesAll_79 : decode cX9_doesAll 79 = .ok (.getfield 206, 3) := by decide +kernel
theorem dX9_doesAll_82 : decode cX9_doesAll 82 = .ok (.ifCond .ne 15, 3) := by decide +kernel
theorem dX9_doesAll_85 : decode cX9_doesAll 85 = .ok (.aload_n 0, 1) := by decide +kernel
theorem dX9_doesAll_86 : decode cX9_doesAll 86 = .ok (.getfield 203, 3) := by decide +kernel
theorem dX9_doesAll_89 : decode cX9_doesAll 89 = .ok (.aload_n 0, 1) := by decide +kernel
theorem dX9_doesAll_90 : decode cX9_doesAll 90 = .ok (.getfield 212, 3) := by decide +kernel
theorem dX9_doesAll_93 : decode cX9_doesAll 93 = .ok (.isub, 1) := by decide +kernel
theorem dX9_doesAll_94 : decode cX9_doesAll 94 = .ok (.goto 14, 3) := by decide +kernel
theorem dX9_doesAll_97 : decode cX9_doesAll 97 = .ok (.iload_n 2, 1) := by decide +kernel
theorem dX9_doesAll_98 : decode cX9_doesAll 98 = .ok (.bipush (-11), 2) := by decide +kernel
theorem dX9_doesAll_100 : decode cX9_doesAll 100 = .ok (.if_icmp .ne 7, 3) := by decide +kernel
theorem dX9_doesAll_103 : decode cX9_doesAll 103 = .ok (.iconst 1, 1) := by decide +kernel
theorem dX9_doesAll_104 : decode cX9_doesAll 104 = .ok (.goto 4, 3) := by decide +kernel
theorem dX9_doesAll_107 : decode cX9_doesAll 107 = .ok (.iconst 2, 1) := by decide +kernel
theorem dX9_doesAll_108 : decode cX9_doesAll 108 = .ok (.putfield 236, 3) := by decide +kernel
theorem dX9_doesAll_111 : decode cX9_doesAll 111 = .ok (.goto 6, 3) := by decide +kernel
theorem dX9_doesAll_114 : decode cX9_doesAll 114 = .ok (.iinc 1 1, 3) := by decide +kernel
theorem dX9_doesAll_117 : decode cX9_doesAll 117 = .ok (.goto (-105), 3) := by decide +kernel
theorem dX9_doesAll_120 : decode cX9_doesAll 120 = .ok (.iload_n 1, 1) := by decide +kernel
theorem dX9_doesAll_121 : decode cX9_doesAll 121 = .ok (.ireturn, 1) := by decide +kernel
theorem dX9_faultTold_0 : decode cX9_faultTold 0 = .ok (.aload_n 0, 1) := by decide +kernel
theorem dX9_faultTold_1 : decode cX9_faultTold 1 = .ok (.iconst 0, 1) := by decide +kernel
theorem dX9_faultTold_2 : decode cX9_faultTold 2 = .ok (.putfield 32, 3) := by decide +kernel
theorem dX9_faultTold_5 : decode cX9_faultTold 5 = .ok (.aload_n 0, 1) := by decide +kernel
theorem dX9_faultTold_6 : decode cX9_faultTold 6 = .ok (.getfield 7, 3) := by decide +kernel
theorem dX9_faultTold_9 : decode cX9_faultTold 9 = .ok (.iconst 0, 1) := by decide +kernel
theorem dX9_faultTold_10 : decode cX9_faultTold 10 = .ok (.aload_n 0, 1) := by decide +kernel
theorem dX9_faultTold_11 : decode cX9_faultTold 11 = .ok (.getfield 13, 3) := by decide +kernel
theorem dX9_faultTold_14 : decode cX9_faultTold 14 = .ok (.iconst 0, 1) := by decide +kernel
theorem dX9_faultTold_15 : decode cX9_faultTold 15 = .ok (.invokestatic 36, 3) := by decide +kernel
