theorem d_XSa_apartAbove_0 : decode b_XSa_apartAbove 0 = .ok (.aload_n 0, 1) := by decide +kernel
theorem d_XSa_apartAbove_1 : decode b_XSa_apartAbove 1 = .ok (.getfield 11, 3) := by decide +kernel
theorem d_XSa_apartAbove_4 : decode b_XSa_apartAbove 4 = .ok (.iconst 0, 1) := by decide +kernel
theorem d_XSa_apartAbove_5 : decode b_XSa_apartAbove 5 = .ok (.aaload, 1) := by decide +kernel
theorem d_XSa_apartAbove_6 : decode b_XSa_apartAbove 6 = .ok (.iload_n 1, 1) := by decide +kernel
theorem d_XSa_apartAbove_7 : decode b_XSa_apartAbove 7 = .ok (.iaload, 1) := by decide +kernel
theorem d_XSa_apartAbove_8 : decode b_XSa_apartAbove 8 = .ok (.aload_n 0, 1) := by decide +kernel
theorem d_XSa_apartAbove_9 : decode b_XSa_apartAbove 9 = .ok (.getfield 11, 3) := by decide +kernel
theorem d_XSa_apartAbove_12 : decode b_XSa_apartAbove 12 = .ok (.iconst 0, 1) := by decide +kernel
theorem d_XSa_apartAbove_13 : decode b_XSa_apartAbove 13 = .ok (.aaload, 1) := by decide +kernel
theorem d_XSa_apartAbove_14 : decode b_XSa_apartAbove 14 = .ok (.iload_n 2, 1) := by decide +kernel
theorem d_XSa_apartAbove_15 : decode b_XSa_apartAbove 15 = .ok (.iaload, 1) := by decide +kernel
theorem d_XSa_apartAbove_16 : decode b_XSa_apartAbove 16 = .ok (.isub, 1) := by decide +kernel
theorem d_XSa_apartAbove_17 : decode b_XSa_apartAbove 17 = .ok (.i2l, 1) := by decide +kernel
theorem d_XSa_apartAbove_18 : decode b_XSa_apartAbove 18 = .ok (.lstore_n 3, 1) := by decide +kernel
theorem d_XSa_apartAbove_19 : decode b_XSa_apartAbove 19 = .ok (.aload_n 0, 1) := by decide +kernel
theorem d_XSa_apartAbove_20 : decode b_XSa_apartAbove 20 = .ok (.getfield 11, 3) := by decide +kernel
theorem d_XSa_apartAbove_23 : decode b_XSa_apartAbove 23 = .ok (.iconst 1, 1) := by decide +kernel
theorem d_XSa_apartAbove_24 : decode b_XSa_apartAbove 24 = .ok (.aaload, 1) := by decide +kernel
theorem d_XSa_apartAbove_25 : decode b_XSa_apartAbove 25 = .ok (.iload_n 1, 1) := by decide +kernel
theorem d_XSa_apartAbove_26 : decode b_XSa_apartAbove 26 = .ok (.iaload, 1) := by decide +kernel
theorem d_XSa_apartAbove_27 : decode b_XSa_apartAbove 27 = .ok (.aload_n 0, 1) := by decide +kernel
theorem d_XSa_apartAbove_28 : decode b_XSa_apartAbove 28 = .ok (.getfield 11, 3) := by decide +kernel
theorem d_XSa_apartAbove_31 : decode b_XSa_apartAbove 31 = .ok (.iconst 1, 1) := by decide +kernel
theorem d_XSa_apartAbove_32 : decode b_XSa_apartAbove 32 = .ok (.aaload, 1) := by decide +kernel
theorem d_XSa_apartAbove_33 : decode b_XSa_apartAbove 33 = .ok (.iload_n 2, 1) := by decide +kernel
theorem d_XSa_apartAbove_34 : decode b_XSa_apartAbove 34 = .ok (.iaload, 1) := by decide +kernel
theorem d_XSa_apartAbove_35 : decode b_XSa_apartAbove 35 = .ok (.isub, 1) := by decide +kernel
theorem d_XSa_apartAbove_36 : decode b_XSa_apartAbove 36 = .ok (.i2l, 1) := by decide +kernel
theorem d_XSa_apartAbove_37 : decode b_XSa_apartAbove 37 = .ok (.lstore 5, 2) := by decide +kernel
theorem d_XSa_apartAbove_39 : decode b_XSa_apartAbove 39 = .ok (.aload_n 0, 1) := by decide +kernel
theorem d_XSa_apartAbove_40 : decode b_XSa_apartAbove 40 = .ok (.getfield 27, 3) := by decide +kernel
theorem d_XSa_apartAbove_43 : decode b_XSa_apartAbove 43 = .ok (.lload_n 3, 1) := by decide +kernel
theorem d_XSa_apartAbove_44 : decode b_XSa_apartAbove 44 = .ok (.lmul, 1) := by decide +kernel
theorem d_XSa_apartAbove_45 : decode b_XSa_apartAbove 45 = .ok (.lload_n 3, 1) := by decide +kernel
theorem d_XSa_apartAbove_46 : decode b_XSa_apartAbove 46 = .ok (.lmul, 1) := by decide +kernel
theorem d_XSa_apartAbove_47 : decode b_XSa_apartAbove 47 = .ok (.ldc2_w 34, 3) := by decide +kernel
theorem d_XSa_apartAbove_50 : decode b_XSa_apartAbove 50 = .ok (.aload_n 0, 1) := by decide +kernel
theorem d_XSa_apartAbove_51 : decode b_XSa_apartAbove 51 = .ok (.getfield 24, 3) := by decide +kernel
theorem d_XSa_apartAbove_54 : decode b_XSa_apartAbove 54 = .ok (.lmul, 1) := by decide +kernel
theorem d_XSa_apartAbove_55 : decode b_XSa_apartAbove 55 = .ok (.lload_n 3, 1) := by decide +kernel
theorem d_XSa_apartAbove_56 : decode b_XSa_apartAbove 56 = .ok (.lmul, 1) := by decide +kernel
theorem d_XSa_apartAbove_57 : decode b_XSa_apartAbove 57 = .ok (.lload 5, 2) := by decide +kernel
theorem d_XSa_apartAbove_59 : decode b_XSa_apartAbove 59 = .ok (.lmul, 1) := by decide +kernel
theorem d_XSa_apartAbove_60 : decode b_XSa_apartAbove 60 = .ok (.lsub, 1) := by decide +kernel
theorem d_XSa_apartAbove_61 : decode b_XSa_apartAbove 61 = .ok (.aload_n 0, 1) := by decide +kernel
theorem d_XSa_apartAbove_62 : decode b_XSa_apartAbove 62 = .ok (.getfield 20, 3) := by decide +kernel
theorem d_XSa_apartAbove_65 : decode b_XSa_apartAbove 65 = .ok (.lload 5, 2) := by decide +kernel
theorem d_XSa_apartAbove_67 : decode b_XSa_apartAbove 67 = .ok (.lmul, 1) := by decide +kernel
theorem d_XSa_apartAbove_68 : decode b_XSa_apartAbove 68 = .ok (.lload 5, 2) := by decide +kernel
theorem d_XSa_apartAbove_70 : decode b_XSa_apartAbove 70 = .ok (.lmul, 1) := by decide +kernel
theorem d_XSa_apartAbove_71 : decode b_XSa_apartAbove 71 = .ok (.ladd, 1) := by decide +kernel
theorem d_XSa_apartAbove_72 : decode b_XSa_apartAbove 72 = .ok (.lreturn, 1) := by decide +kernel
theorem d_XSa_apartBelow_0 : decode b_XSa_apartBelow 0 = .ok (.aload_n 0, 1) := by decide +kernel
theorem d_XSa_apartBelow_1 : decode b_XSa_apartBelow 1 = .ok (.getfield 20, 3) := by decide +kernel
theorem d_XSa_apartBelow_4 : decode b_XSa_apartBelow 4 = .ok (.aload_n 0, 1) := by decide +kernel
theorem d_XSa_apartBelow_5 : decode b_XSa_apartBelow 5 = .ok (.getfield 27, 3) := by decide +kernel
theorem d_XSa_apartBelow_8 : decode b_XSa_apartBelow 8 = .ok (.lmul, 1) := by decide +kernel
theorem d_XSa_apartBelow_9 : decode b_XSa_apartBelow 9 = .ok (.aload_n 0, 1) := by decide +kernel
theorem d_XSa_apartBelow_10 : decode b_XSa_apartBelow 10 = .ok (.getfield 24, 3) := by decide +kernel
theorem d_XSa_apartBelow_13 : decode b_XSa_apartBelow 13 = .ok (.aload_n 0, 1) := by decide +kernel
theorem d_XSa_apartBelow_14 : decode b_XSa_apartBelow 14 = .ok (.getfield 24, 3) := by decide +kernel
theorem d_XSa_apartBelow_17 : decode b_XSa_apartBelow 17 = .ok (.lmul, 1) := by decide +kernel
theorem d_XSa_apartBelow_18 : decode b_XSa_apartBelow 18 = .ok (.lsub, 1) := by decide +kernel
theorem d_XSa_apartBelow_19 : decode b_XSa_apartBelow 19 = .ok (.lreturn, 1) := by decide +kernel
theorem d_XSa_joinOnce_0 : decode b_XSa_joinOnce 0 = .ok (.iload_n 1, 1) := by decide +kernel
theorem d_XSa_joinOnce_1 : decode b_XSa_joinOnce 1 = .ok (.i2l, 1) := by decide +kernel
theorem d_XSa_joinOnce_2 : decode b_XSa_joinOnce 2 = .ok (.aload_n 0, 1) := by decide +kernel
theorem d_XSa_joinOnce_3 : decode b_XSa_joinOnce 3 = .ok (.invokevirtual 40, 3) := by decide +kernel
theorem d_XSa_joinOnce_6 : decode b_XSa_joinOnce 6 = .ok (.lmul, 1) := by decide +kernel
theorem d_XSa_joinOnce_7 : decode b_XSa_joinOnce 7 = .ok (.lstore_n 2, 1) := by decide +kernel
theorem d_XSa_joinOnce_8 : decode b_XSa_joinOnce 8 = .ok (.iconst 0, 1) := by decide +kernel
theorem d_XSa_joinOnce_9 : decode b_XSa_joinOnce 9 = .ok (.istore 4, 2) := by decide +kernel
theorem d_XSa_joinOnce_11 : decode b_XSa_joinOnce 11 = .ok (.iload 4, 2) := by decide +kernel
theorem d_XSa_joinOnce_13 : decode b_XSa_joinOnce 13 = .ok (.aload_n 0, 1) := by decide +kernel
theorem d_XSa_joinOnce_14 : decode b_XSa_joinOnce 14 = .ok (.getfield 16, 3) := by decide +kernel
theorem d_XSa_joinOnce_17 : decode b_XSa_joinOnce 17 = .ok (.if_icmp .ge 58, 3) := by decide +kernel
theorem d_XSa_joinOnce_20 : decode b_XSa_joinOnce 20 = .ok (.iconst 0, 1) := by decide +kernel
theorem d_XSa_joinOnce_21 : decode b_XSa_joinOnce 21 = .ok (.istore 5, 2) := by decide +kernel
theorem d_XSa_joinOnce_23 : decode b_XSa_joinOnce 23 = .ok (.iload 5, 2) := by decide +kernel
theorem d_XSa_joinOnce_25 : decode b_XSa_joinOnce 25 = .ok (.aload_n 0, 1) := by decide +kernel
theorem d_XSa_joinOnce_26 : decode b_XSa_joinOnce 26 = .ok (.getfield 16, 3) := by decide +kernel
theorem d_XSa_joinOnce_29 : decode b_XSa_joinOnce 29 = .ok (.if_icmp .ge 40, 3) := by decide +kernel
theorem d_XSa_joinOnce_32 : decode b_XSa_joinOnce 32 = .ok (.aload_n 0, 1) := by decide +kernel
theorem d_XSa_joinOnce_33 : decode b_XSa_joinOnce 33 = .ok (.getfield 30, 3) := by decide +kernel
theorem d_XSa_joinOnce_36 : decode b_XSa_joinOnce 36 = .ok (.iload 4, 2) := by decide +kernel
theorem d_XSa_joinOnce_38 : decode b_XSa_joinOnce 38 = .ok (.baload, 1) := by decide +kernel
theorem d_XSa_joinOnce_39 : decode b_XSa_joinOnce 39 = .ok (.ifCond .eq 24, 3) := by decide +kernel
theorem d_XSa_joinOnce_42 : decode b_XSa_joinOnce 42 = .ok (.aload_n 0, 1) := by decide +kernel
theorem d_XSa_joinOnce_43 : decode b_XSa_joinOnce 43 = .ok (.iload 4, 2) := by decide +kernel
theorem d_XSa_joinOnce_45 : decode b_XSa_joinOnce 45 = .ok (.iload 5, 2) := by decide +kernel
theorem d_XSa_joinOnce_47 : decode b_XSa_joinOnce 47 = .ok (.invokevirtual 44, 3) := by decide +kernel
theorem d_XSa_joinOnce_50 : decode b_XSa_joinOnce 50 = .ok (.lload_n 2, 1) := by decide +kernel
theorem d_XSa_joinOnce_51 : decode b_XSa_joinOnce 51 = .ok (.lcmp, 1) := by decide +kernel
theorem d_XSa_joinOnce_52 : decode b_XSa_joinOnce 52 = .ok (.ifCond .gt 11, 3) := by decide +kernel
theorem d_XSa_joinOnce_55 : decode b_XSa_joinOnce 55 = .ok (.aload_n 0, 1) := by decide +kernel
theorem d_XSa_joinOnce_56 : decode b_XSa_joinOnce 56 = .ok (.getfield 30, 3) := by decide +kernel
theorem d_XSa_joinOnce_59 : decode b_XSa_joinOnce 59 = .ok (.iload 5, 2) := by decide +kernel
theorem d_XSa_joinOnce_61 : decode b_XSa_joinOnce 61 = .ok (.iconst 1, 1) := by decide +kernel
theorem d_XSa_joinOnce_62 : decode b_XSa_joinOnce 62 = .ok (.bastore, 1) := by decide +kernel
theorem d_XSa_joinOnce_63 : decode b_XSa_joinOnce 63 = .ok (.iinc 5 1, 3) := by decide +kernel
theorem d_XSa_joinOnce_66 : decode b_XSa_joinOnce 66 = .ok (.goto (-43), 3) := by decide +kernel
theorem d_XSa_joinOnce_69 : decode b_XSa_joinOnce 69 = .ok (.iinc 4 1, 3) := by decide +kernel
theorem d_XSa_joinOnce_72 : decode b_XSa_joinOnce 72 = .ok (.goto (-61), 3) := by decide +kernel
theorem d_XSa_joinOnce_75 : decode b_XSa_joinOnce 75 = .ok (.return_, 1) := by decide +kernel
theorem d_XSa_lowestJoined_0 : decode b_XSa_lowestJoined 0 = .ok (.iconst 0, 1) := by decide +kernel
theorem d_XSa_lowestJoined_1 : decode b_XSa_lowestJoined 1 = .ok (.istore_n 3, 1) := by decide +kernel
theorem d_XSa_lowestJoined_2 : decode b_XSa_lowestJoined 2 = .ok (.iload_n 3, 1) := by decide +kernel
theorem d_XSa_lowestJoined_3 : decode b_XSa_lowestJoined 3 = .ok (.aload_n 0, 1) := by decide +kernel
theorem d_XSa_lowestJoined_4 : decode b_XSa_lowestJoined 4 = .ok (.getfield 16, 3) := by decide +kernel
theorem d_XSa_lowestJoined_7 : decode b_XSa_lowestJoined 7 = .ok (.if_icmp .ge 25, 3) := by decide +kernel
theorem d_XSa_lowestJoined_10 : decode b_XSa_lowestJoined 10 = .ok (.aload_n 0, 1) := by decide +kernel
theorem d_XSa_lowestJoined_11 : decode b_XSa_lowestJoined 11 = .ok (.getfield 30, 3) := by decide +kernel
theorem d_XSa_lowestJoined_14 : decode b_XSa_lowestJoined 14 = .ok (.iload_n 3, 1) := by decide +kernel
theorem d_XSa_lowestJoined_15 : decode b_XSa_lowestJoined 15 = .ok (.iload_n 3, 1) := by decide +kernel
theorem d_XSa_lowestJoined_16 : decode b_XSa_lowestJoined 16 = .ok (.iload_n 1, 1) := by decide +kernel
theorem d_XSa_lowestJoined_17 : decode b_XSa_lowestJoined 17 = .ok (.if_icmp .ne 7, 3) := by decide +kernel
theorem d_XSa_lowestJoined_20 : decode b_XSa_lowestJoined 20 = .ok (.iconst 1, 1) := by decide +kernel
theorem d_XSa_lowestJoined_21 : decode b_XSa_lowestJoined 21 = .ok (.goto 4, 3) := by decide +kernel
theorem d_XSa_lowestJoined_24 : decode b_XSa_lowestJoined 24 = .ok (.iconst 0, 1) := by decide +kernel
theorem d_XSa_lowestJoined_25 : decode b_XSa_lowestJoined 25 = .ok (.bastore, 1) := by decide +kernel
theorem d_XSa_lowestJoined_26 : decode b_XSa_lowestJoined 26 = .ok (.iinc 3 1, 3) := by decide +kernel
theorem d_XSa_lowestJoined_29 : decode b_XSa_lowestJoined 29 = .ok (.goto (-27), 3) := by decide +kernel
theorem d_XSa_lowestJoined_32 : decode b_XSa_lowestJoined 32 = .ok (.iconst 0, 1) := by decide +kernel
theorem d_XSa_lowestJoined_33 : decode b_XSa_lowestJoined 33 = .ok (.istore_n 3, 1) := by decide +kernel
theorem d_XSa_lowestJoined_34 : decode b_XSa_lowestJoined 34 = .ok (.iload_n 3, 1) := by decide +kernel
theorem d_XSa_lowestJoined_35 : decode b_XSa_lowestJoined 35 = .ok (.aload_n 0, 1) := by decide +kernel
theorem d_XSa_lowestJoined_36 : decode b_XSa_lowestJoined 36 = .ok (.getfield 16, 3) := by decide +kernel
theorem d_XSa_lowestJoined_39 : decode b_XSa_lowestJoined 39 = .ok (.if_icmp .ge 14, 3) := by decide +kernel
theorem d_XSa_lowestJoined_42 : decode b_XSa_lowestJoined 42 = .ok (.aload_n 0, 1) := by decide +kernel
theorem d_XSa_lowestJoined_43 : decode b_XSa_lowestJoined 43 = .ok (.iload_n 2, 1) := by decide +kernel
theorem d_XSa_lowestJoined_44 : decode b_XSa_lowestJoined 44 = .ok (.invokevirtual 36, 3) := by decide +kernel
theorem d_XSa_lowestJoined_47 : decode b_XSa_lowestJoined 47 = .ok (.iinc 3 1, 3) := by decide +kernel
theorem d_XSa_lowestJoined_50 : decode b_XSa_lowestJoined 50 = .ok (.goto (-16), 3) := by decide +kernel
theorem d_XSa_lowestJoined_53 : decode b_XSa_lowestJoined 53 = .ok (.iconst 0, 1) := by decide +kernel
theorem d_XSa_lowestJoined_54 : decode b_XSa_lowestJoined 54 = .ok (.istore_n 3, 1) := by decide +kernel
theorem d_XSa_lowestJoined_55 : decode b_XSa_lowestJoined 55 = .ok (.iload_n 3, 1) := by decide +kernel
theorem d_XSa_lowestJoined_56 : decode b_XSa_lowestJoined 56 = .ok (.iload_n 1, 1) := by decide +kernel
theorem d_XSa_lowestJoined_57 : decode b_XSa_lowestJoined 57 = .ok (.if_icmp .ge 20, 3) := by decide +kernel
theorem d_XSa_lowestJoined_60 : decode b_XSa_lowestJoined 60 = .ok (.aload_n 0, 1) := by decide +kernel
theorem d_XSa_lowestJoined_61 : decode b_XSa_lowestJoined 61 = .ok (.getfield 30, 3) := by decide +kernel
theorem d_XSa_lowestJoined_64 : decode b_XSa_lowestJoined 64 = .ok (.iload_n 3, 1) := by decide +kernel
theorem d_XSa_lowestJoined_65 : decode b_XSa_lowestJoined 65 = .ok (.baload, 1) := by decide +kernel
theorem d_XSa_lowestJoined_66 : decode b_XSa_lowestJoined 66 = .ok (.ifCond .eq 5, 3) := by decide +kernel
theorem d_XSa_lowestJoined_69 : decode b_XSa_lowestJoined 69 = .ok (.iload_n 3, 1) := by decide +kernel
theorem d_XSa_lowestJoined_70 : decode b_XSa_lowestJoined 70 = .ok (.ireturn, 1) := by decide +kernel
theorem d_XSa_lowestJoined_71 : decode b_XSa_lowestJoined 71 = .ok (.iinc 3 1, 3) := by decide +kernel
theorem d_XSa_lowestJoined_74 : decode b_XSa_lowestJoined 74 = .ok (.goto (-19), 3) := by decide +kernel
theorem d_XSa_lowestJoined_77 : decode b_XSa_lowestJoined 77 = .ok (.iload_n 1, 1) := by decide +kernel
theorem d_XSa_lowestJoined_78 : decode b_XSa_lowestJoined 78 = .ok (.ireturn, 1) := by decide +kernel
