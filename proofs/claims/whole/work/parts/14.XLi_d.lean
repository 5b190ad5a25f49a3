theorem d_XLi_add_0 : decode b_XLi_add 0 = .ok (.aload_n 0, 1) := by decide +kernel
theorem d_XLi_add_1 : decode b_XLi_add 1 = .ok (.getfield 17, 3) := by decide +kernel
theorem d_XLi_add_4 : decode b_XLi_add 4 = .ok (.iload_n 1, 1) := by decide +kernel
theorem d_XLi_add_5 : decode b_XLi_add 5 = .ok (.aaload, 1) := by decide +kernel
theorem d_XLi_add_6 : decode b_XLi_add 6 = .ok (.aload_n 0, 1) := by decide +kernel
theorem d_XLi_add_7 : decode b_XLi_add 7 = .ok (.getfield 9, 3) := by decide +kernel
theorem d_XLi_add_10 : decode b_XLi_add 10 = .ok (.iload_n 1, 1) := by decide +kernel
theorem d_XLi_add_11 : decode b_XLi_add 11 = .ok (.iaload, 1) := by decide +kernel
theorem d_XLi_add_12 : decode b_XLi_add 12 = .ok (.iload_n 2, 1) := by decide +kernel
theorem d_XLi_add_13 : decode b_XLi_add 13 = .ok (.iastore, 1) := by decide +kernel
theorem d_XLi_add_14 : decode b_XLi_add 14 = .ok (.aload_n 0, 1) := by decide +kernel
theorem d_XLi_add_15 : decode b_XLi_add 15 = .ok (.getfield 9, 3) := by decide +kernel
theorem d_XLi_add_18 : decode b_XLi_add 18 = .ok (.iload_n 1, 1) := by decide +kernel
theorem d_XLi_add_19 : decode b_XLi_add 19 = .ok (.dup2, 1) := by decide +kernel
theorem d_XLi_add_20 : decode b_XLi_add 20 = .ok (.iaload, 1) := by decide +kernel
theorem d_XLi_add_21 : decode b_XLi_add 21 = .ok (.iconst 1, 1) := by decide +kernel
theorem d_XLi_add_22 : decode b_XLi_add 22 = .ok (.iadd, 1) := by decide +kernel
theorem d_XLi_add_23 : decode b_XLi_add 23 = .ok (.iastore, 1) := by decide +kernel
theorem d_XLi_add_24 : decode b_XLi_add 24 = .ok (.aload_n 0, 1) := by decide +kernel
theorem d_XLi_add_25 : decode b_XLi_add 25 = .ok (.getfield 9, 3) := by decide +kernel
theorem d_XLi_add_28 : decode b_XLi_add 28 = .ok (.iload_n 1, 1) := by decide +kernel
theorem d_XLi_add_29 : decode b_XLi_add 29 = .ok (.iaload, 1) := by decide +kernel
theorem d_XLi_add_30 : decode b_XLi_add 30 = .ok (.ireturn, 1) := by decide +kernel
theorem d_XLi_nearest_0 : decode b_XLi_nearest 0 = .ok (.iconst (-1), 1) := by decide +kernel
theorem d_XLi_nearest_1 : decode b_XLi_nearest 1 = .ok (.istore_n 3, 1) := by decide +kernel
theorem d_XLi_nearest_2 : decode b_XLi_nearest 2 = .ok (.iload_n 2, 1) := by decide +kernel
theorem d_XLi_nearest_3 : decode b_XLi_nearest 3 = .ok (.iconst 1, 1) := by decide +kernel
theorem d_XLi_nearest_4 : decode b_XLi_nearest 4 = .ok (.iadd, 1) := by decide +kernel
theorem d_XLi_nearest_5 : decode b_XLi_nearest 5 = .ok (.istore 4, 2) := by decide +kernel
theorem d_XLi_nearest_7 : decode b_XLi_nearest 7 = .ok (.iconst 0, 1) := by decide +kernel
theorem d_XLi_nearest_8 : decode b_XLi_nearest 8 = .ok (.istore 5, 2) := by decide +kernel
theorem d_XLi_nearest_10 : decode b_XLi_nearest 10 = .ok (.iload 5, 2) := by decide +kernel
theorem d_XLi_nearest_12 : decode b_XLi_nearest 12 = .ok (.bipush 8, 2) := by decide +kernel
theorem d_XLi_nearest_14 : decode b_XLi_nearest 14 = .ok (.if_icmp .ge 61, 3) := by decide +kernel
theorem d_XLi_nearest_17 : decode b_XLi_nearest 17 = .ok (.iconst 0, 1) := by decide +kernel
theorem d_XLi_nearest_18 : decode b_XLi_nearest 18 = .ok (.istore 6, 2) := by decide +kernel
theorem d_XLi_nearest_20 : decode b_XLi_nearest 20 = .ok (.iload 6, 2) := by decide +kernel
theorem d_XLi_nearest_22 : decode b_XLi_nearest 22 = .ok (.aload_n 0, 1) := by decide +kernel
theorem d_XLi_nearest_23 : decode b_XLi_nearest 23 = .ok (.getfield 9, 3) := by decide +kernel
theorem d_XLi_nearest_26 : decode b_XLi_nearest 26 = .ok (.iload 5, 2) := by decide +kernel
theorem d_XLi_nearest_28 : decode b_XLi_nearest 28 = .ok (.iaload, 1) := by decide +kernel
theorem d_XLi_nearest_29 : decode b_XLi_nearest 29 = .ok (.if_icmp .ge 40, 3) := by decide +kernel
theorem d_XLi_nearest_32 : decode b_XLi_nearest 32 = .ok (.aload_n 0, 1) := by decide +kernel
theorem d_XLi_nearest_33 : decode b_XLi_nearest 33 = .ok (.getfield 17, 3) := by decide +kernel
theorem d_XLi_nearest_36 : decode b_XLi_nearest 36 = .ok (.iload 5, 2) := by decide +kernel
theorem d_XLi_nearest_38 : decode b_XLi_nearest 38 = .ok (.aaload, 1) := by decide +kernel
theorem d_XLi_nearest_39 : decode b_XLi_nearest 39 = .ok (.iload 6, 2) := by decide +kernel
theorem d_XLi_nearest_41 : decode b_XLi_nearest 41 = .ok (.iaload, 1) := by decide +kernel
theorem d_XLi_nearest_42 : decode b_XLi_nearest 42 = .ok (.iload_n 1, 1) := by decide +kernel
theorem d_XLi_nearest_43 : decode b_XLi_nearest 43 = .ok (.isub, 1) := by decide +kernel
theorem d_XLi_nearest_44 : decode b_XLi_nearest 44 = .ok (.invokestatic 20, 3) := by decide +kernel
theorem d_XLi_nearest_47 : decode b_XLi_nearest 47 = .ok (.istore 7, 2) := by decide +kernel
theorem d_XLi_nearest_49 : decode b_XLi_nearest 49 = .ok (.iload 7, 2) := by decide +kernel
theorem d_XLi_nearest_51 : decode b_XLi_nearest 51 = .ok (.iload 4, 2) := by decide +kernel
theorem d_XLi_nearest_53 : decode b_XLi_nearest 53 = .ok (.if_icmp .ge 10, 3) := by decide +kernel
theorem d_XLi_nearest_56 : decode b_XLi_nearest 56 = .ok (.iload 5, 2) := by decide +kernel
theorem d_XLi_nearest_58 : decode b_XLi_nearest 58 = .ok (.istore_n 3, 1) := by decide +kernel
theorem d_XLi_nearest_59 : decode b_XLi_nearest 59 = .ok (.iload 7, 2) := by decide +kernel
theorem d_XLi_nearest_61 : decode b_XLi_nearest 61 = .ok (.istore 4, 2) := by decide +kernel
theorem d_XLi_nearest_63 : decode b_XLi_nearest 63 = .ok (.iinc 6 1, 3) := by decide +kernel
theorem d_XLi_nearest_66 : decode b_XLi_nearest 66 = .ok (.goto (-46), 3) := by decide +kernel
theorem d_XLi_nearest_69 : decode b_XLi_nearest 69 = .ok (.iinc 5 1, 3) := by decide +kernel
theorem d_XLi_nearest_72 : decode b_XLi_nearest 72 = .ok (.goto (-62), 3) := by decide +kernel
theorem d_XLi_nearest_75 : decode b_XLi_nearest 75 = .ok (.iload_n 3, 1) := by decide +kernel
theorem d_XLi_nearest_76 : decode b_XLi_nearest 76 = .ok (.ireturn, 1) := by decide +kernel
theorem d_XLi_isAtOrNextTo_0 : decode b_XLi_isAtOrNextTo 0 = .ok (.iconst 0, 1) := by decide +kernel
theorem d_XLi_isAtOrNextTo_1 : decode b_XLi_isAtOrNextTo 1 = .ok (.istore_n 3, 1) := by decide +kernel
theorem d_XLi_isAtOrNextTo_2 : decode b_XLi_isAtOrNextTo 2 = .ok (.iload_n 3, 1) := by decide +kernel
theorem d_XLi_isAtOrNextTo_3 : decode b_XLi_isAtOrNextTo 3 = .ok (.aload_n 0, 1) := by decide +kernel
theorem d_XLi_isAtOrNextTo_4 : decode b_XLi_isAtOrNextTo 4 = .ok (.getfield 9, 3) := by decide +kernel
theorem d_XLi_isAtOrNextTo_7 : decode b_XLi_isAtOrNextTo 7 = .ok (.iload_n 1, 1) := by decide +kernel
theorem d_XLi_isAtOrNextTo_8 : decode b_XLi_isAtOrNextTo 8 = .ok (.iaload, 1) := by decide +kernel
theorem d_XLi_isAtOrNextTo_9 : decode b_XLi_isAtOrNextTo 9 = .ok (.if_icmp .ge 28, 3) := by decide +kernel
theorem d_XLi_isAtOrNextTo_12 : decode b_XLi_isAtOrNextTo 12 = .ok (.aload_n 0, 1) := by decide +kernel
theorem d_XLi_isAtOrNextTo_13 : decode b_XLi_isAtOrNextTo 13 = .ok (.getfield 17, 3) := by decide +kernel
theorem d_XLi_isAtOrNextTo_16 : decode b_XLi_isAtOrNextTo 16 = .ok (.iload_n 1, 1) := by decide +kernel
theorem d_XLi_isAtOrNextTo_17 : decode b_XLi_isAtOrNextTo 17 = .ok (.aaload, 1) := by decide +kernel
theorem d_XLi_isAtOrNextTo_18 : decode b_XLi_isAtOrNextTo 18 = .ok (.iload_n 3, 1) := by decide +kernel
theorem d_XLi_isAtOrNextTo_19 : decode b_XLi_isAtOrNextTo 19 = .ok (.iaload, 1) := by decide +kernel
theorem d_XLi_isAtOrNextTo_20 : decode b_XLi_isAtOrNextTo 20 = .ok (.iload_n 2, 1) := by decide +kernel
theorem d_XLi_isAtOrNextTo_21 : decode b_XLi_isAtOrNextTo 21 = .ok (.isub, 1) := by decide +kernel
theorem d_XLi_isAtOrNextTo_22 : decode b_XLi_isAtOrNextTo 22 = .ok (.invokestatic 20, 3) := by decide +kernel
theorem d_XLi_isAtOrNextTo_25 : decode b_XLi_isAtOrNextTo 25 = .ok (.iconst 1, 1) := by decide +kernel
theorem d_XLi_isAtOrNextTo_26 : decode b_XLi_isAtOrNextTo 26 = .ok (.if_icmp .gt 5, 3) := by decide +kernel
theorem d_XLi_isAtOrNextTo_29 : decode b_XLi_isAtOrNextTo 29 = .ok (.iconst 1, 1) := by decide +kernel
theorem d_XLi_isAtOrNextTo_30 : decode b_XLi_isAtOrNextTo 30 = .ok (.ireturn, 1) := by decide +kernel
theorem d_XLi_isAtOrNextTo_31 : decode b_XLi_isAtOrNextTo 31 = .ok (.iinc 3 1, 3) := by decide +kernel
theorem d_XLi_isAtOrNextTo_34 : decode b_XLi_isAtOrNextTo 34 = .ok (.goto (-32), 3) := by decide +kernel
theorem d_XLi_isAtOrNextTo_37 : decode b_XLi_isAtOrNextTo 37 = .ok (.iconst 0, 1) := by decide +kernel
theorem d_XLi_isAtOrNextTo_38 : decode b_XLi_isAtOrNextTo 38 = .ok (.ireturn, 1) := by decide +kernel
