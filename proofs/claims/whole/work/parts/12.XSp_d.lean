theorem d_XSp_lowerOnce_0 : decode b_XSp_lowerOnce 0 = .ok (.aload_n 0, 1) := by decide +kernel
theorem d_XSp_lowerOnce_1 : decode b_XSp_lowerOnce 1 = .ok (.getfield 17, 3) := by decide +kernel
theorem d_XSp_lowerOnce_4 : decode b_XSp_lowerOnce 4 = .ok (.iconst 0, 1) := by decide +kernel
theorem d_XSp_lowerOnce_5 : decode b_XSp_lowerOnce 5 = .ok (.aload_n 0, 1) := by decide +kernel
theorem d_XSp_lowerOnce_6 : decode b_XSp_lowerOnce 6 = .ok (.getfield 20, 3) := by decide +kernel
theorem d_XSp_lowerOnce_9 : decode b_XSp_lowerOnce 9 = .ok (.iconst 0, 1) := by decide +kernel
theorem d_XSp_lowerOnce_10 : decode b_XSp_lowerOnce 10 = .ok (.aload_n 0, 1) := by decide +kernel
theorem d_XSp_lowerOnce_11 : decode b_XSp_lowerOnce 11 = .ok (.getfield 7, 3) := by decide +kernel
theorem d_XSp_lowerOnce_14 : decode b_XSp_lowerOnce 14 = .ok (.invokestatic 29, 3) := by decide +kernel
theorem d_XSp_lowerOnce_17 : decode b_XSp_lowerOnce 17 = .ok (.iload_n 1, 1) := by decide +kernel
theorem d_XSp_lowerOnce_18 : decode b_XSp_lowerOnce 18 = .ok (.istore_n 2, 1) := by decide +kernel
theorem d_XSp_lowerOnce_19 : decode b_XSp_lowerOnce 19 = .ok (.iload_n 2, 1) := by decide +kernel
theorem d_XSp_lowerOnce_20 : decode b_XSp_lowerOnce 20 = .ok (.iload_n 1, 1) := by decide +kernel
theorem d_XSp_lowerOnce_21 : decode b_XSp_lowerOnce 21 = .ok (.iadd, 1) := by decide +kernel
theorem d_XSp_lowerOnce_22 : decode b_XSp_lowerOnce 22 = .ok (.aload_n 0, 1) := by decide +kernel
theorem d_XSp_lowerOnce_23 : decode b_XSp_lowerOnce 23 = .ok (.getfield 7, 3) := by decide +kernel
theorem d_XSp_lowerOnce_26 : decode b_XSp_lowerOnce 26 = .ok (.if_icmp .ge 45, 3) := by decide +kernel
theorem d_XSp_lowerOnce_29 : decode b_XSp_lowerOnce 29 = .ok (.aload_n 0, 1) := by decide +kernel
theorem d_XSp_lowerOnce_30 : decode b_XSp_lowerOnce 30 = .ok (.getfield 20, 3) := by decide +kernel
theorem d_XSp_lowerOnce_33 : decode b_XSp_lowerOnce 33 = .ok (.iload_n 2, 1) := by decide +kernel
theorem d_XSp_lowerOnce_34 : decode b_XSp_lowerOnce 34 = .ok (.iload_n 1, 1) := by decide +kernel
theorem d_XSp_lowerOnce_35 : decode b_XSp_lowerOnce 35 = .ok (.isub, 1) := by decide +kernel
theorem d_XSp_lowerOnce_36 : decode b_XSp_lowerOnce 36 = .ok (.iaload, 1) := by decide +kernel
theorem d_XSp_lowerOnce_37 : decode b_XSp_lowerOnce 37 = .ok (.aload_n 0, 1) := by decide +kernel
theorem d_XSp_lowerOnce_38 : decode b_XSp_lowerOnce 38 = .ok (.getfield 20, 3) := by decide +kernel
theorem d_XSp_lowerOnce_41 : decode b_XSp_lowerOnce 41 = .ok (.iload_n 2, 1) := by decide +kernel
theorem d_XSp_lowerOnce_42 : decode b_XSp_lowerOnce 42 = .ok (.iload_n 1, 1) := by decide +kernel
theorem d_XSp_lowerOnce_43 : decode b_XSp_lowerOnce 43 = .ok (.iadd, 1) := by decide +kernel
theorem d_XSp_lowerOnce_44 : decode b_XSp_lowerOnce 44 = .ok (.iaload, 1) := by decide +kernel
theorem d_XSp_lowerOnce_45 : decode b_XSp_lowerOnce 45 = .ok (.iadd, 1) := by decide +kernel
theorem d_XSp_lowerOnce_46 : decode b_XSp_lowerOnce 46 = .ok (.iconst 2, 1) := by decide +kernel
theorem d_XSp_lowerOnce_47 : decode b_XSp_lowerOnce 47 = .ok (.idiv, 1) := by decide +kernel
theorem d_XSp_lowerOnce_48 : decode b_XSp_lowerOnce 48 = .ok (.istore_n 3, 1) := by decide +kernel
theorem d_XSp_lowerOnce_49 : decode b_XSp_lowerOnce 49 = .ok (.aload_n 0, 1) := by decide +kernel
theorem d_XSp_lowerOnce_50 : decode b_XSp_lowerOnce 50 = .ok (.getfield 17, 3) := by decide +kernel
theorem d_XSp_lowerOnce_53 : decode b_XSp_lowerOnce 53 = .ok (.iload_n 2, 1) := by decide +kernel
theorem d_XSp_lowerOnce_54 : decode b_XSp_lowerOnce 54 = .ok (.aload_n 0, 1) := by decide +kernel
theorem d_XSp_lowerOnce_55 : decode b_XSp_lowerOnce 55 = .ok (.getfield 20, 3) := by decide +kernel
theorem d_XSp_lowerOnce_58 : decode b_XSp_lowerOnce 58 = .ok (.iload_n 2, 1) := by decide +kernel
theorem d_XSp_lowerOnce_59 : decode b_XSp_lowerOnce 59 = .ok (.iaload, 1) := by decide +kernel
theorem d_XSp_lowerOnce_60 : decode b_XSp_lowerOnce 60 = .ok (.iload_n 3, 1) := by decide +kernel
theorem d_XSp_lowerOnce_61 : decode b_XSp_lowerOnce 61 = .ok (.invokestatic 39, 3) := by decide +kernel
theorem d_XSp_lowerOnce_64 : decode b_XSp_lowerOnce 64 = .ok (.iastore, 1) := by decide +kernel
theorem d_XSp_lowerOnce_65 : decode b_XSp_lowerOnce 65 = .ok (.iinc 2 1, 3) := by decide +kernel
theorem d_XSp_lowerOnce_68 : decode b_XSp_lowerOnce 68 = .ok (.goto (-49), 3) := by decide +kernel
theorem d_XSp_lowerOnce_71 : decode b_XSp_lowerOnce 71 = .ok (.return_, 1) := by decide +kernel
theorem d_XSp_lowerFor_0 : decode b_XSp_lowerFor 0 = .ok (.aload_n 0, 1) := by decide +kernel
theorem d_XSp_lowerFor_1 : decode b_XSp_lowerFor 1 = .ok (.getfield 13, 3) := by decide +kernel
theorem d_XSp_lowerFor_4 : decode b_XSp_lowerFor 4 = .ok (.iconst 0, 1) := by decide +kernel
theorem d_XSp_lowerFor_5 : decode b_XSp_lowerFor 5 = .ok (.aload_n 0, 1) := by decide +kernel
theorem d_XSp_lowerFor_6 : decode b_XSp_lowerFor 6 = .ok (.getfield 17, 3) := by decide +kernel
theorem d_XSp_lowerFor_9 : decode b_XSp_lowerFor 9 = .ok (.iconst 0, 1) := by decide +kernel
theorem d_XSp_lowerFor_10 : decode b_XSp_lowerFor 10 = .ok (.aload_n 0, 1) := by decide +kernel
theorem d_XSp_lowerFor_11 : decode b_XSp_lowerFor 11 = .ok (.getfield 7, 3) := by decide +kernel
theorem d_XSp_lowerFor_14 : decode b_XSp_lowerFor 14 = .ok (.invokestatic 29, 3) := by decide +kernel
theorem d_XSp_lowerFor_17 : decode b_XSp_lowerFor 17 = .ok (.iconst 1, 1) := by decide +kernel
theorem d_XSp_lowerFor_18 : decode b_XSp_lowerFor 18 = .ok (.istore_n 2, 1) := by decide +kernel
theorem d_XSp_lowerFor_19 : decode b_XSp_lowerFor 19 = .ok (.iload_n 2, 1) := by decide +kernel
theorem d_XSp_lowerFor_20 : decode b_XSp_lowerFor 20 = .ok (.iload_n 1, 1) := by decide +kernel
theorem d_XSp_lowerFor_21 : decode b_XSp_lowerFor 21 = .ok (.if_icmp .gt 14, 3) := by decide +kernel
theorem d_XSp_lowerFor_24 : decode b_XSp_lowerFor 24 = .ok (.aload_n 0, 1) := by decide +kernel
theorem d_XSp_lowerFor_25 : decode b_XSp_lowerFor 25 = .ok (.iload_n 2, 1) := by decide +kernel
theorem d_XSp_lowerFor_26 : decode b_XSp_lowerFor 26 = .ok (.invokevirtual 35, 3) := by decide +kernel
theorem d_XSp_lowerFor_29 : decode b_XSp_lowerFor 29 = .ok (.iinc 2 1, 3) := by decide +kernel
theorem d_XSp_lowerFor_32 : decode b_XSp_lowerFor 32 = .ok (.goto (-13), 3) := by decide +kernel
theorem d_XSp_lowerFor_35 : decode b_XSp_lowerFor 35 = .ok (.return_, 1) := by decide +kernel
theorem d_XSp_groundSum_0 : decode b_XSp_groundSum 0 = .ok (.iconst 0, 1) := by decide +kernel
theorem d_XSp_groundSum_1 : decode b_XSp_groundSum 1 = .ok (.istore_n 1, 1) := by decide +kernel
theorem d_XSp_groundSum_2 : decode b_XSp_groundSum 2 = .ok (.iconst 0, 1) := by decide +kernel
theorem d_XSp_groundSum_3 : decode b_XSp_groundSum 3 = .ok (.istore_n 2, 1) := by decide +kernel
theorem d_XSp_groundSum_4 : decode b_XSp_groundSum 4 = .ok (.iload_n 2, 1) := by decide +kernel
theorem d_XSp_groundSum_5 : decode b_XSp_groundSum 5 = .ok (.aload_n 0, 1) := by decide +kernel
theorem d_XSp_groundSum_6 : decode b_XSp_groundSum 6 = .ok (.getfield 7, 3) := by decide +kernel
theorem d_XSp_groundSum_9 : decode b_XSp_groundSum 9 = .ok (.if_icmp .ge 18, 3) := by decide +kernel
theorem d_XSp_groundSum_12 : decode b_XSp_groundSum 12 = .ok (.iload_n 1, 1) := by decide +kernel
theorem d_XSp_groundSum_13 : decode b_XSp_groundSum 13 = .ok (.aload_n 0, 1) := by decide +kernel
theorem d_XSp_groundSum_14 : decode b_XSp_groundSum 14 = .ok (.getfield 17, 3) := by decide +kernel
theorem d_XSp_groundSum_17 : decode b_XSp_groundSum 17 = .ok (.iload_n 2, 1) := by decide +kernel
theorem d_XSp_groundSum_18 : decode b_XSp_groundSum 18 = .ok (.iaload, 1) := by decide +kernel
theorem d_XSp_groundSum_19 : decode b_XSp_groundSum 19 = .ok (.iadd, 1) := by decide +kernel
theorem d_XSp_groundSum_20 : decode b_XSp_groundSum 20 = .ok (.istore_n 1, 1) := by decide +kernel
theorem d_XSp_groundSum_21 : decode b_XSp_groundSum 21 = .ok (.iinc 2 1, 3) := by decide +kernel
theorem d_XSp_groundSum_24 : decode b_XSp_groundSum 24 = .ok (.goto (-20), 3) := by decide +kernel
theorem d_XSp_groundSum_27 : decode b_XSp_groundSum 27 = .ok (.iload_n 1, 1) := by decide +kernel
theorem d_XSp_groundSum_28 : decode b_XSp_groundSum 28 = .ok (.ireturn, 1) := by decide +kernel
theorem d_XSp_netAt_0 : decode b_XSp_netAt 0 = .ok (.iconst 0, 1) := by decide +kernel
theorem d_XSp_netAt_1 : decode b_XSp_netAt 1 = .ok (.aload_n 0, 1) := by decide +kernel
theorem d_XSp_netAt_2 : decode b_XSp_netAt 2 = .ok (.getfield 13, 3) := by decide +kernel
theorem d_XSp_netAt_5 : decode b_XSp_netAt 5 = .ok (.iload_n 1, 1) := by decide +kernel
theorem d_XSp_netAt_6 : decode b_XSp_netAt 6 = .ok (.iaload, 1) := by decide +kernel
theorem d_XSp_netAt_7 : decode b_XSp_netAt 7 = .ok (.aload_n 0, 1) := by decide +kernel
theorem d_XSp_netAt_8 : decode b_XSp_netAt 8 = .ok (.getfield 17, 3) := by decide +kernel
theorem d_XSp_netAt_11 : decode b_XSp_netAt 11 = .ok (.iload_n 1, 1) := by decide +kernel
theorem d_XSp_netAt_12 : decode b_XSp_netAt 12 = .ok (.iaload, 1) := by decide +kernel
theorem d_XSp_netAt_13 : decode b_XSp_netAt 13 = .ok (.isub, 1) := by decide +kernel
theorem d_XSp_netAt_14 : decode b_XSp_netAt 14 = .ok (.invokestatic 23, 3) := by decide +kernel
theorem d_XSp_netAt_17 : decode b_XSp_netAt 17 = .ok (.ireturn, 1) := by decide +kernel
