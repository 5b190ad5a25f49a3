theorem d_XPe_isTop_0 : decode b_XPe_isTop 0 = .ok (.aload_n 0, 1) := by decide +kernel
theorem d_XPe_isTop_1 : decode b_XPe_isTop 1 = .ok (.iload_n 1, 1) := by decide +kernel
theorem d_XPe_isTop_2 : decode b_XPe_isTop 2 = .ok (.invokevirtual 25, 3) := by decide +kernel
theorem d_XPe_isTop_5 : decode b_XPe_isTop 5 = .ok (.istore_n 2, 1) := by decide +kernel
theorem d_XPe_isTop_6 : decode b_XPe_isTop 6 = .ok (.iload_n 1, 1) := by decide +kernel
theorem d_XPe_isTop_7 : decode b_XPe_isTop 7 = .ok (.ifCond .le 16, 3) := by decide +kernel
theorem d_XPe_isTop_10 : decode b_XPe_isTop 10 = .ok (.iload_n 2, 1) := by decide +kernel
theorem d_XPe_isTop_11 : decode b_XPe_isTop 11 = .ok (.aload_n 0, 1) := by decide +kernel
theorem d_XPe_isTop_12 : decode b_XPe_isTop 12 = .ok (.iload_n 1, 1) := by decide +kernel
theorem d_XPe_isTop_13 : decode b_XPe_isTop 13 = .ok (.iconst 1, 1) := by decide +kernel
theorem d_XPe_isTop_14 : decode b_XPe_isTop 14 = .ok (.isub, 1) := by decide +kernel
theorem d_XPe_isTop_15 : decode b_XPe_isTop 15 = .ok (.invokevirtual 25, 3) := by decide +kernel
theorem d_XPe_isTop_18 : decode b_XPe_isTop 18 = .ok (.if_icmp .gt 5, 3) := by decide +kernel
theorem d_XPe_isTop_21 : decode b_XPe_isTop 21 = .ok (.iconst 0, 1) := by decide +kernel
theorem d_XPe_isTop_22 : decode b_XPe_isTop 22 = .ok (.ireturn, 1) := by decide +kernel
theorem d_XPe_isTop_23 : decode b_XPe_isTop 23 = .ok (.iload_n 1, 1) := by decide +kernel
theorem d_XPe_isTop_24 : decode b_XPe_isTop 24 = .ok (.iconst 1, 1) := by decide +kernel
theorem d_XPe_isTop_25 : decode b_XPe_isTop 25 = .ok (.iadd, 1) := by decide +kernel
theorem d_XPe_isTop_26 : decode b_XPe_isTop 26 = .ok (.aload_n 0, 1) := by decide +kernel
theorem d_XPe_isTop_27 : decode b_XPe_isTop 27 = .ok (.getfield 20, 3) := by decide +kernel
theorem d_XPe_isTop_30 : decode b_XPe_isTop 30 = .ok (.if_icmp .ge 14, 3) := by decide +kernel
theorem d_XPe_isTop_33 : decode b_XPe_isTop 33 = .ok (.iload_n 2, 1) := by decide +kernel
theorem d_XPe_isTop_34 : decode b_XPe_isTop 34 = .ok (.aload_n 0, 1) := by decide +kernel
theorem d_XPe_isTop_35 : decode b_XPe_isTop 35 = .ok (.iload_n 1, 1) := by decide +kernel
theorem d_XPe_isTop_36 : decode b_XPe_isTop 36 = .ok (.iconst 1, 1) := by decide +kernel
theorem d_XPe_isTop_37 : decode b_XPe_isTop 37 = .ok (.iadd, 1) := by decide +kernel
theorem d_XPe_isTop_38 : decode b_XPe_isTop 38 = .ok (.invokevirtual 25, 3) := by decide +kernel
theorem d_XPe_isTop_41 : decode b_XPe_isTop 41 = .ok (.if_icmp .lt 7, 3) := by decide +kernel
theorem d_XPe_isTop_44 : decode b_XPe_isTop 44 = .ok (.iconst 1, 1) := by decide +kernel
theorem d_XPe_isTop_45 : decode b_XPe_isTop 45 = .ok (.goto 4, 3) := by decide +kernel
theorem d_XPe_isTop_48 : decode b_XPe_isTop 48 = .ok (.iconst 0, 1) := by decide +kernel
theorem d_XPe_isTop_49 : decode b_XPe_isTop 49 = .ok (.ireturn, 1) := by decide +kernel
theorem d_XPe_firstOfSpan_0 : decode b_XPe_firstOfSpan 0 = .ok (.iload_n 1, 1) := by decide +kernel
theorem d_XPe_firstOfSpan_1 : decode b_XPe_firstOfSpan 1 = .ok (.istore_n 2, 1) := by decide +kernel
theorem d_XPe_firstOfSpan_2 : decode b_XPe_firstOfSpan 2 = .ok (.iload_n 2, 1) := by decide +kernel
theorem d_XPe_firstOfSpan_3 : decode b_XPe_firstOfSpan 3 = .ok (.ifCond .le 34, 3) := by decide +kernel
theorem d_XPe_firstOfSpan_6 : decode b_XPe_firstOfSpan 6 = .ok (.aload_n 0, 1) := by decide +kernel
theorem d_XPe_firstOfSpan_7 : decode b_XPe_firstOfSpan 7 = .ok (.iload_n 2, 1) := by decide +kernel
theorem d_XPe_firstOfSpan_8 : decode b_XPe_firstOfSpan 8 = .ok (.iconst 1, 1) := by decide +kernel
theorem d_XPe_firstOfSpan_9 : decode b_XPe_firstOfSpan 9 = .ok (.isub, 1) := by decide +kernel
theorem d_XPe_firstOfSpan_10 : decode b_XPe_firstOfSpan 10 = .ok (.invokevirtual 25, 3) := by decide +kernel
theorem d_XPe_firstOfSpan_13 : decode b_XPe_firstOfSpan 13 = .ok (.ifCond .le 24, 3) := by decide +kernel
theorem d_XPe_firstOfSpan_16 : decode b_XPe_firstOfSpan 16 = .ok (.aload_n 0, 1) := by decide +kernel
theorem d_XPe_firstOfSpan_17 : decode b_XPe_firstOfSpan 17 = .ok (.iload_n 2, 1) := by decide +kernel
theorem d_XPe_firstOfSpan_18 : decode b_XPe_firstOfSpan 18 = .ok (.iconst 1, 1) := by decide +kernel
theorem d_XPe_firstOfSpan_19 : decode b_XPe_firstOfSpan 19 = .ok (.isub, 1) := by decide +kernel
theorem d_XPe_firstOfSpan_20 : decode b_XPe_firstOfSpan 20 = .ok (.invokevirtual 25, 3) := by decide +kernel
theorem d_XPe_firstOfSpan_23 : decode b_XPe_firstOfSpan 23 = .ok (.aload_n 0, 1) := by decide +kernel
theorem d_XPe_firstOfSpan_24 : decode b_XPe_firstOfSpan 24 = .ok (.iload_n 2, 1) := by decide +kernel
theorem d_XPe_firstOfSpan_25 : decode b_XPe_firstOfSpan 25 = .ok (.invokevirtual 25, 3) := by decide +kernel
theorem d_XPe_firstOfSpan_28 : decode b_XPe_firstOfSpan 28 = .ok (.if_icmp .ge 9, 3) := by decide +kernel
theorem d_XPe_firstOfSpan_31 : decode b_XPe_firstOfSpan 31 = .ok (.iinc 2 (-1), 3) := by decide +kernel
theorem d_XPe_firstOfSpan_34 : decode b_XPe_firstOfSpan 34 = .ok (.goto (-32), 3) := by decide +kernel
theorem d_XPe_firstOfSpan_37 : decode b_XPe_firstOfSpan 37 = .ok (.iload_n 2, 1) := by decide +kernel
theorem d_XPe_firstOfSpan_38 : decode b_XPe_firstOfSpan 38 = .ok (.ireturn, 1) := by decide +kernel
theorem d_XPe_lastOfSpan_0 : decode b_XPe_lastOfSpan 0 = .ok (.iload_n 1, 1) := by decide +kernel
theorem d_XPe_lastOfSpan_1 : decode b_XPe_lastOfSpan 1 = .ok (.istore_n 2, 1) := by decide +kernel
theorem d_XPe_lastOfSpan_2 : decode b_XPe_lastOfSpan 2 = .ok (.iload_n 2, 1) := by decide +kernel
theorem d_XPe_lastOfSpan_3 : decode b_XPe_lastOfSpan 3 = .ok (.iconst 1, 1) := by decide +kernel
theorem d_XPe_lastOfSpan_4 : decode b_XPe_lastOfSpan 4 = .ok (.iadd, 1) := by decide +kernel
theorem d_XPe_lastOfSpan_5 : decode b_XPe_lastOfSpan 5 = .ok (.aload_n 0, 1) := by decide +kernel
theorem d_XPe_lastOfSpan_6 : decode b_XPe_lastOfSpan 6 = .ok (.getfield 20, 3) := by decide +kernel
theorem d_XPe_lastOfSpan_9 : decode b_XPe_lastOfSpan 9 = .ok (.if_icmp .ge 34, 3) := by decide +kernel
theorem d_XPe_lastOfSpan_12 : decode b_XPe_lastOfSpan 12 = .ok (.aload_n 0, 1) := by decide +kernel
theorem d_XPe_lastOfSpan_13 : decode b_XPe_lastOfSpan 13 = .ok (.iload_n 2, 1) := by decide +kernel
theorem d_XPe_lastOfSpan_14 : decode b_XPe_lastOfSpan 14 = .ok (.iconst 1, 1) := by decide +kernel
theorem d_XPe_lastOfSpan_15 : decode b_XPe_lastOfSpan 15 = .ok (.iadd, 1) := by decide +kernel
theorem d_XPe_lastOfSpan_16 : decode b_XPe_lastOfSpan 16 = .ok (.invokevirtual 25, 3) := by decide +kernel
theorem d_XPe_lastOfSpan_19 : decode b_XPe_lastOfSpan 19 = .ok (.ifCond .le 24, 3) := by decide +kernel
theorem d_XPe_lastOfSpan_22 : decode b_XPe_lastOfSpan 22 = .ok (.aload_n 0, 1) := by decide +kernel
theorem d_XPe_lastOfSpan_23 : decode b_XPe_lastOfSpan 23 = .ok (.iload_n 2, 1) := by decide +kernel
theorem d_XPe_lastOfSpan_24 : decode b_XPe_lastOfSpan 24 = .ok (.iconst 1, 1) := by decide +kernel
theorem d_XPe_lastOfSpan_25 : decode b_XPe_lastOfSpan 25 = .ok (.iadd, 1) := by decide +kernel
theorem d_XPe_lastOfSpan_26 : decode b_XPe_lastOfSpan 26 = .ok (.invokevirtual 25, 3) := by decide +kernel
theorem d_XPe_lastOfSpan_29 : decode b_XPe_lastOfSpan 29 = .ok (.aload_n 0, 1) := by decide +kernel
theorem d_XPe_lastOfSpan_30 : decode b_XPe_lastOfSpan 30 = .ok (.iload_n 2, 1) := by decide +kernel
theorem d_XPe_lastOfSpan_31 : decode b_XPe_lastOfSpan 31 = .ok (.invokevirtual 25, 3) := by decide +kernel
theorem d_XPe_lastOfSpan_34 : decode b_XPe_lastOfSpan 34 = .ok (.if_icmp .gt 9, 3) := by decide +kernel
theorem d_XPe_lastOfSpan_37 : decode b_XPe_lastOfSpan 37 = .ok (.iinc 2 1, 3) := by decide +kernel
theorem d_XPe_lastOfSpan_40 : decode b_XPe_lastOfSpan 40 = .ok (.goto (-38), 3) := by decide +kernel
theorem d_XPe_lastOfSpan_43 : decode b_XPe_lastOfSpan 43 = .ok (.iload_n 2, 1) := by decide +kernel
theorem d_XPe_lastOfSpan_44 : decode b_XPe_lastOfSpan 44 = .ok (.ireturn, 1) := by decide +kernel
theorem d_XPe_keep_0 : decode b_XPe_keep 0 = .ok (.aload_n 1, 1) := by decide +kernel
theorem d_XPe_keep_1 : decode b_XPe_keep 1 = .ok (.iload_n 2, 1) := by decide +kernel
theorem d_XPe_keep_2 : decode b_XPe_keep 2 = .ok (.invokestatic 37, 3) := by decide +kernel
theorem d_XPe_keep_5 : decode b_XPe_keep 5 = .ok (.istore_n 3, 1) := by decide +kernel
theorem d_XPe_keep_6 : decode b_XPe_keep 6 = .ok (.aload_n 1, 1) := by decide +kernel
theorem d_XPe_keep_7 : decode b_XPe_keep 7 = .ok (.iload_n 2, 1) := by decide +kernel
theorem d_XPe_keep_8 : decode b_XPe_keep 8 = .ok (.invokestatic 41, 3) := by decide +kernel
theorem d_XPe_keep_11 : decode b_XPe_keep 11 = .ok (.istore 4, 2) := by decide +kernel
theorem d_XPe_keep_13 : decode b_XPe_keep 13 = .ok (.iconst 0, 1) := by decide +kernel
theorem d_XPe_keep_14 : decode b_XPe_keep 14 = .ok (.istore 5, 2) := by decide +kernel
theorem d_XPe_keep_16 : decode b_XPe_keep 16 = .ok (.iload_n 3, 1) := by decide +kernel
theorem d_XPe_keep_17 : decode b_XPe_keep 17 = .ok (.istore 6, 2) := by decide +kernel
theorem d_XPe_keep_19 : decode b_XPe_keep 19 = .ok (.iload 6, 2) := by decide +kernel
theorem d_XPe_keep_21 : decode b_XPe_keep 21 = .ok (.iload 4, 2) := by decide +kernel
theorem d_XPe_keep_23 : decode b_XPe_keep 23 = .ok (.if_icmp .gt 20, 3) := by decide +kernel
theorem d_XPe_keep_26 : decode b_XPe_keep 26 = .ok (.iload 5, 2) := by decide +kernel
theorem d_XPe_keep_28 : decode b_XPe_keep 28 = .ok (.aload_n 1, 1) := by decide +kernel
theorem d_XPe_keep_29 : decode b_XPe_keep 29 = .ok (.iload 6, 2) := by decide +kernel
theorem d_XPe_keep_31 : decode b_XPe_keep 31 = .ok (.invokevirtual 25, 3) := by decide +kernel
theorem d_XPe_keep_34 : decode b_XPe_keep 34 = .ok (.iadd, 1) := by decide +kernel
theorem d_XPe_keep_35 : decode b_XPe_keep 35 = .ok (.istore 5, 2) := by decide +kernel
theorem d_XPe_keep_37 : decode b_XPe_keep 37 = .ok (.iinc 6 1, 3) := by decide +kernel
theorem d_XPe_keep_40 : decode b_XPe_keep 40 = .ok (.goto (-21), 3) := by decide +kernel
theorem d_XPe_keep_43 : decode b_XPe_keep 43 = .ok (.aload_n 0, 1) := by decide +kernel
theorem d_XPe_keep_44 : decode b_XPe_keep 44 = .ok (.getfield 17, 3) := by decide +kernel
theorem d_XPe_keep_47 : decode b_XPe_keep 47 = .ok (.iconst 0, 1) := by decide +kernel
theorem d_XPe_keep_48 : decode b_XPe_keep 48 = .ok (.aaload, 1) := by decide +kernel
theorem d_XPe_keep_49 : decode b_XPe_keep 49 = .ok (.aload_n 0, 1) := by decide +kernel
theorem d_XPe_keep_50 : decode b_XPe_keep 50 = .ok (.getfield 9, 3) := by decide +kernel
theorem d_XPe_keep_53 : decode b_XPe_keep 53 = .ok (.iload_n 2, 1) := by decide +kernel
theorem d_XPe_keep_54 : decode b_XPe_keep 54 = .ok (.iastore, 1) := by decide +kernel
theorem d_XPe_keep_55 : decode b_XPe_keep 55 = .ok (.aload_n 0, 1) := by decide +kernel
theorem d_XPe_keep_56 : decode b_XPe_keep 56 = .ok (.getfield 17, 3) := by decide +kernel
theorem d_XPe_keep_59 : decode b_XPe_keep 59 = .ok (.iconst 1, 1) := by decide +kernel
theorem d_XPe_keep_60 : decode b_XPe_keep 60 = .ok (.aaload, 1) := by decide +kernel
theorem d_XPe_keep_61 : decode b_XPe_keep 61 = .ok (.aload_n 0, 1) := by decide +kernel
theorem d_XPe_keep_62 : decode b_XPe_keep 62 = .ok (.getfield 9, 3) := by decide +kernel
theorem d_XPe_keep_65 : decode b_XPe_keep 65 = .ok (.aload_n 1, 1) := by decide +kernel
theorem d_XPe_keep_66 : decode b_XPe_keep 66 = .ok (.iload_n 2, 1) := by decide +kernel
theorem d_XPe_keep_67 : decode b_XPe_keep 67 = .ok (.invokevirtual 25, 3) := by decide +kernel
theorem d_XPe_keep_70 : decode b_XPe_keep 70 = .ok (.iastore, 1) := by decide +kernel
theorem d_XPe_keep_71 : decode b_XPe_keep 71 = .ok (.aload_n 0, 1) := by decide +kernel
theorem d_XPe_keep_72 : decode b_XPe_keep 72 = .ok (.getfield 17, 3) := by decide +kernel
theorem d_XPe_keep_75 : decode b_XPe_keep 75 = .ok (.iconst 2, 1) := by decide +kernel
theorem d_XPe_keep_76 : decode b_XPe_keep 76 = .ok (.aaload, 1) := by decide +kernel
theorem d_XPe_keep_77 : decode b_XPe_keep 77 = .ok (.aload_n 0, 1) := by decide +kernel
theorem d_XPe_keep_78 : decode b_XPe_keep 78 = .ok (.getfield 9, 3) := by decide +kernel
theorem d_XPe_keep_81 : decode b_XPe_keep 81 = .ok (.iload 5, 2) := by decide +kernel
theorem d_XPe_keep_83 : decode b_XPe_keep 83 = .ok (.iastore, 1) := by decide +kernel
theorem d_XPe_keep_84 : decode b_XPe_keep 84 = .ok (.aload_n 0, 1) := by decide +kernel
theorem d_XPe_keep_85 : decode b_XPe_keep 85 = .ok (.getfield 17, 3) := by decide +kernel
theorem d_XPe_keep_88 : decode b_XPe_keep 88 = .ok (.iconst 3, 1) := by decide +kernel
theorem d_XPe_keep_89 : decode b_XPe_keep 89 = .ok (.aaload, 1) := by decide +kernel
theorem d_XPe_keep_90 : decode b_XPe_keep 90 = .ok (.aload_n 0, 1) := by decide +kernel
theorem d_XPe_keep_91 : decode b_XPe_keep 91 = .ok (.getfield 9, 3) := by decide +kernel
theorem d_XPe_keep_94 : decode b_XPe_keep 94 = .ok (.iload_n 3, 1) := by decide +kernel
theorem d_XPe_keep_95 : decode b_XPe_keep 95 = .ok (.iastore, 1) := by decide +kernel
theorem d_XPe_keep_96 : decode b_XPe_keep 96 = .ok (.aload_n 0, 1) := by decide +kernel
theorem d_XPe_keep_97 : decode b_XPe_keep 97 = .ok (.getfield 17, 3) := by decide +kernel
theorem d_XPe_keep_100 : decode b_XPe_keep 100 = .ok (.iconst 4, 1) := by decide +kernel
theorem d_XPe_keep_101 : decode b_XPe_keep 101 = .ok (.aaload, 1) := by decide +kernel
theorem d_XPe_keep_102 : decode b_XPe_keep 102 = .ok (.aload_n 0, 1) := by decide +kernel
theorem d_XPe_keep_103 : decode b_XPe_keep 103 = .ok (.getfield 9, 3) := by decide +kernel
theorem d_XPe_keep_106 : decode b_XPe_keep 106 = .ok (.iload 4, 2) := by decide +kernel
theorem d_XPe_keep_108 : decode b_XPe_keep 108 = .ok (.iastore, 1) := by decide +kernel
theorem d_XPe_keep_109 : decode b_XPe_keep 109 = .ok (.aload_n 0, 1) := by decide +kernel
theorem d_XPe_keep_110 : decode b_XPe_keep 110 = .ok (.dup, 1) := by decide +kernel
theorem d_XPe_keep_111 : decode b_XPe_keep 111 = .ok (.getfield 9, 3) := by decide +kernel
theorem d_XPe_keep_114 : decode b_XPe_keep 114 = .ok (.iconst 1, 1) := by decide +kernel
theorem d_XPe_keep_115 : decode b_XPe_keep 115 = .ok (.iadd, 1) := by decide +kernel
theorem d_XPe_keep_116 : decode b_XPe_keep 116 = .ok (.putfield 9, 3) := by decide +kernel
theorem d_XPe_keep_119 : decode b_XPe_keep 119 = .ok (.return_, 1) := by decide +kernel
theorem d_XPe_lookFor_0 : decode b_XPe_lookFor 0 = .ok (.aload_n 0, 1) := by decide +kernel
theorem d_XPe_lookFor_1 : decode b_XPe_lookFor 1 = .ok (.iconst 0, 1) := by decide +kernel
theorem d_XPe_lookFor_2 : decode b_XPe_lookFor 2 = .ok (.putfield 9, 3) := by decide +kernel
theorem d_XPe_lookFor_5 : decode b_XPe_lookFor 5 = .ok (.iconst 0, 1) := by decide +kernel
theorem d_XPe_lookFor_6 : decode b_XPe_lookFor 6 = .ok (.istore_n 3, 1) := by decide +kernel
theorem d_XPe_lookFor_7 : decode b_XPe_lookFor 7 = .ok (.iload_n 3, 1) := by decide +kernel
theorem d_XPe_lookFor_8 : decode b_XPe_lookFor 8 = .ok (.aload_n 1, 1) := by decide +kernel
theorem d_XPe_lookFor_9 : decode b_XPe_lookFor 9 = .ok (.getfield 20, 3) := by decide +kernel
theorem d_XPe_lookFor_12 : decode b_XPe_lookFor 12 = .ok (.if_icmp .ge 32, 3) := by decide +kernel
theorem d_XPe_lookFor_15 : decode b_XPe_lookFor 15 = .ok (.aload_n 1, 1) := by decide +kernel
theorem d_XPe_lookFor_16 : decode b_XPe_lookFor 16 = .ok (.iload_n 3, 1) := by decide +kernel
theorem d_XPe_lookFor_17 : decode b_XPe_lookFor 17 = .ok (.invokevirtual 25, 3) := by decide +kernel
theorem d_XPe_lookFor_20 : decode b_XPe_lookFor 20 = .ok (.iload_n 2, 1) := by decide +kernel
theorem d_XPe_lookFor_21 : decode b_XPe_lookFor 21 = .ok (.if_icmp .le 17, 3) := by decide +kernel
theorem d_XPe_lookFor_24 : decode b_XPe_lookFor 24 = .ok (.aload_n 1, 1) := by decide +kernel
theorem d_XPe_lookFor_25 : decode b_XPe_lookFor 25 = .ok (.iload_n 3, 1) := by decide +kernel
theorem d_XPe_lookFor_26 : decode b_XPe_lookFor 26 = .ok (.invokestatic 29, 3) := by decide +kernel
theorem d_XPe_lookFor_29 : decode b_XPe_lookFor 29 = .ok (.ifCond .eq 9, 3) := by decide +kernel
theorem d_XPe_lookFor_32 : decode b_XPe_lookFor 32 = .ok (.aload_n 0, 1) := by decide +kernel
theorem d_XPe_lookFor_33 : decode b_XPe_lookFor 33 = .ok (.aload_n 1, 1) := by decide +kernel
theorem d_XPe_lookFor_34 : decode b_XPe_lookFor 34 = .ok (.iload_n 3, 1) := by decide +kernel
theorem d_XPe_lookFor_35 : decode b_XPe_lookFor 35 = .ok (.invokevirtual 33, 3) := by decide +kernel
theorem d_XPe_lookFor_38 : decode b_XPe_lookFor 38 = .ok (.iinc 3 1, 3) := by decide +kernel
theorem d_XPe_lookFor_41 : decode b_XPe_lookFor 41 = .ok (.goto (-34), 3) := by decide +kernel
theorem d_XPe_lookFor_44 : decode b_XPe_lookFor 44 = .ok (.return_, 1) := by decide +kernel
