theorem d_X_rootDown_0 : decode b_X_rootDown 0 = .ok (.iconst 0, 1) := by decide +kernel
theorem d_X_rootDown_1 : decode b_X_rootDown 1 = .ok (.istore_n 1, 1) := by decide +kernel
theorem d_X_rootDown_2 : decode b_X_rootDown 2 = .ok (.iload_n 1, 1) := by decide +kernel
theorem d_X_rootDown_3 : decode b_X_rootDown 3 = .ok (.sipush 1000, 3) := by decide +kernel
theorem d_X_rootDown_6 : decode b_X_rootDown 6 = .ok (.if_icmp .ge 20, 3) := by decide +kernel
theorem d_X_rootDown_9 : decode b_X_rootDown 9 = .ok (.iload_n 1, 1) := by decide +kernel
theorem d_X_rootDown_10 : decode b_X_rootDown 10 = .ok (.iconst 1, 1) := by decide +kernel
theorem d_X_rootDown_11 : decode b_X_rootDown 11 = .ok (.iadd, 1) := by decide +kernel
theorem d_X_rootDown_12 : decode b_X_rootDown 12 = .ok (.iload_n 1, 1) := by decide +kernel
theorem d_X_rootDown_13 : decode b_X_rootDown 13 = .ok (.iconst 1, 1) := by decide +kernel
theorem d_X_rootDown_14 : decode b_X_rootDown 14 = .ok (.iadd, 1) := by decide +kernel
theorem d_X_rootDown_15 : decode b_X_rootDown 15 = .ok (.imul, 1) := by decide +kernel
theorem d_X_rootDown_16 : decode b_X_rootDown 16 = .ok (.iload_n 0, 1) := by decide +kernel
theorem d_X_rootDown_17 : decode b_X_rootDown 17 = .ok (.if_icmp .gt 9, 3) := by decide +kernel
theorem d_X_rootDown_20 : decode b_X_rootDown 20 = .ok (.iinc 1 1, 3) := by decide +kernel
theorem d_X_rootDown_23 : decode b_X_rootDown 23 = .ok (.goto (-21), 3) := by decide +kernel
theorem d_X_rootDown_26 : decode b_X_rootDown 26 = .ok (.iload_n 1, 1) := by decide +kernel
theorem d_X_rootDown_27 : decode b_X_rootDown 27 = .ok (.ireturn, 1) := by decide +kernel
theorem d_X_greatestDivisor_0 : decode b_X_greatestDivisor 0 = .ok (.lload_n 0, 1) := by decide +kernel
theorem d_X_greatestDivisor_1 : decode b_X_greatestDivisor 1 = .ok (.lstore 4, 2) := by decide +kernel
theorem d_X_greatestDivisor_3 : decode b_X_greatestDivisor 3 = .ok (.lload_n 2, 1) := by decide +kernel
theorem d_X_greatestDivisor_4 : decode b_X_greatestDivisor 4 = .ok (.lstore 6, 2) := by decide +kernel
theorem d_X_greatestDivisor_6 : decode b_X_greatestDivisor 6 = .ok (.iconst 0, 1) := by decide +kernel
theorem d_X_greatestDivisor_7 : decode b_X_greatestDivisor 7 = .ok (.istore 8, 2) := by decide +kernel
theorem d_X_greatestDivisor_9 : decode b_X_greatestDivisor 9 = .ok (.iload 8, 2) := by decide +kernel
theorem d_X_greatestDivisor_11 : decode b_X_greatestDivisor 11 = .ok (.sipush 200, 3) := by decide +kernel
theorem d_X_greatestDivisor_14 : decode b_X_greatestDivisor 14 = .ok (.if_icmp .ge 31, 3) := by decide +kernel
theorem d_X_greatestDivisor_17 : decode b_X_greatestDivisor 17 = .ok (.lload 6, 2) := by decide +kernel
theorem d_X_greatestDivisor_19 : decode b_X_greatestDivisor 19 = .ok (.lconst 0, 1) := by decide +kernel
theorem d_X_greatestDivisor_20 : decode b_X_greatestDivisor 20 = .ok (.lcmp, 1) := by decide +kernel
theorem d_X_greatestDivisor_21 : decode b_X_greatestDivisor 21 = .ok (.ifCond .eq 24, 3) := by decide +kernel
theorem d_X_greatestDivisor_24 : decode b_X_greatestDivisor 24 = .ok (.lload 4, 2) := by decide +kernel
theorem d_X_greatestDivisor_26 : decode b_X_greatestDivisor 26 = .ok (.lload 6, 2) := by decide +kernel
theorem d_X_greatestDivisor_28 : decode b_X_greatestDivisor 28 = .ok (.lrem, 1) := by decide +kernel
theorem d_X_greatestDivisor_29 : decode b_X_greatestDivisor 29 = .ok (.lstore 9, 2) := by decide +kernel
theorem d_X_greatestDivisor_31 : decode b_X_greatestDivisor 31 = .ok (.lload 6, 2) := by decide +kernel
theorem d_X_greatestDivisor_33 : decode b_X_greatestDivisor 33 = .ok (.lstore 4, 2) := by decide +kernel
theorem d_X_greatestDivisor_35 : decode b_X_greatestDivisor 35 = .ok (.lload 9, 2) := by decide +kernel
theorem d_X_greatestDivisor_37 : decode b_X_greatestDivisor 37 = .ok (.lstore 6, 2) := by decide +kernel
theorem d_X_greatestDivisor_39 : decode b_X_greatestDivisor 39 = .ok (.iinc 8 1, 3) := by decide +kernel
theorem d_X_greatestDivisor_42 : decode b_X_greatestDivisor 42 = .ok (.goto (-33), 3) := by decide +kernel
theorem d_X_greatestDivisor_45 : decode b_X_greatestDivisor 45 = .ok (.lload 4, 2) := by decide +kernel
theorem d_X_greatestDivisor_47 : decode b_X_greatestDivisor 47 = .ok (.lreturn, 1) := by decide +kernel
theorem d_X_lessened_0 : decode b_X_lessened 0 = .ok (.lload_n 0, 1) := by decide +kernel
theorem d_X_lessened_1 : decode b_X_lessened 1 = .ok (.lload_n 2, 1) := by decide +kernel
theorem d_X_lessened_2 : decode b_X_lessened 2 = .ok (.invokestatic 209, 3) := by decide +kernel
theorem d_X_lessened_5 : decode b_X_lessened 5 = .ok (.lstore 5, 2) := by decide +kernel
theorem d_X_lessened_7 : decode b_X_lessened 7 = .ok (.iload 4, 2) := by decide +kernel
theorem d_X_lessened_9 : decode b_X_lessened 9 = .ok (.ifCond .ne 7, 3) := by decide +kernel
theorem d_X_lessened_12 : decode b_X_lessened 12 = .ok (.lload_n 0, 1) := by decide +kernel
theorem d_X_lessened_13 : decode b_X_lessened 13 = .ok (.goto 4, 3) := by decide +kernel
theorem d_X_lessened_16 : decode b_X_lessened 16 = .ok (.lload_n 2, 1) := by decide +kernel
theorem d_X_lessened_17 : decode b_X_lessened 17 = .ok (.lstore 7, 2) := by decide +kernel
theorem d_X_lessened_19 : decode b_X_lessened 19 = .ok (.lload 5, 2) := by decide +kernel
theorem d_X_lessened_21 : decode b_X_lessened 21 = .ok (.lconst 0, 1) := by decide +kernel
theorem d_X_lessened_22 : decode b_X_lessened 22 = .ok (.lcmp, 1) := by decide +kernel
theorem d_X_lessened_23 : decode b_X_lessened 23 = .ok (.ifCond .le 11, 3) := by decide +kernel
theorem d_X_lessened_26 : decode b_X_lessened 26 = .ok (.lload 7, 2) := by decide +kernel
theorem d_X_lessened_28 : decode b_X_lessened 28 = .ok (.lload 5, 2) := by decide +kernel
theorem d_X_lessened_30 : decode b_X_lessened 30 = .ok (.ldiv, 1) := by decide +kernel
theorem d_X_lessened_31 : decode b_X_lessened 31 = .ok (.goto 5, 3) := by decide +kernel
theorem d_X_lessened_34 : decode b_X_lessened 34 = .ok (.lload 7, 2) := by decide +kernel
theorem d_X_lessened_36 : decode b_X_lessened 36 = .ok (.lreturn, 1) := by decide +kernel
