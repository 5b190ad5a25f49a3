theorem d_XSt_placeOf_0 : decode b_XSt_placeOf 0 = .ok (.iconst 0, 1) := by decide +kernel
theorem d_XSt_placeOf_1 : decode b_XSt_placeOf 1 = .ok (.istore_n 2, 1) := by decide +kernel
theorem d_XSt_placeOf_2 : decode b_XSt_placeOf 2 = .ok (.iload_n 2, 1) := by decide +kernel
theorem d_XSt_placeOf_3 : decode b_XSt_placeOf 3 = .ok (.aload_n 0, 1) := by decide +kernel
theorem d_XSt_placeOf_4 : decode b_XSt_placeOf 4 = .ok (.getfield 9, 3) := by decide +kernel
theorem d_XSt_placeOf_7 : decode b_XSt_placeOf 7 = .ok (.if_icmp .ge 21, 3) := by decide +kernel
theorem d_XSt_placeOf_10 : decode b_XSt_placeOf 10 = .ok (.aload_n 0, 1) := by decide +kernel
theorem d_XSt_placeOf_11 : decode b_XSt_placeOf 11 = .ok (.getfield 15, 3) := by decide +kernel
theorem d_XSt_placeOf_14 : decode b_XSt_placeOf 14 = .ok (.iload_n 2, 1) := by decide +kernel
theorem d_XSt_placeOf_15 : decode b_XSt_placeOf 15 = .ok (.iaload, 1) := by decide +kernel
theorem d_XSt_placeOf_16 : decode b_XSt_placeOf 16 = .ok (.iload_n 1, 1) := by decide +kernel
theorem d_XSt_placeOf_17 : decode b_XSt_placeOf 17 = .ok (.if_icmp .ne 5, 3) := by decide +kernel
theorem d_XSt_placeOf_20 : decode b_XSt_placeOf 20 = .ok (.iload_n 2, 1) := by decide +kernel
theorem d_XSt_placeOf_21 : decode b_XSt_placeOf 21 = .ok (.ireturn, 1) := by decide +kernel
theorem d_XSt_placeOf_22 : decode b_XSt_placeOf 22 = .ok (.iinc 2 1, 3) := by decide +kernel
theorem d_XSt_placeOf_25 : decode b_XSt_placeOf 25 = .ok (.goto (-23), 3) := by decide +kernel
theorem d_XSt_placeOf_28 : decode b_XSt_placeOf 28 = .ok (.aload_n 0, 1) := by decide +kernel
theorem d_XSt_placeOf_29 : decode b_XSt_placeOf 29 = .ok (.getfield 9, 3) := by decide +kernel
theorem d_XSt_placeOf_32 : decode b_XSt_placeOf 32 = .ok (.ireturn, 1) := by decide +kernel
theorem d_XSt_put_0 : decode b_XSt_put 0 = .ok (.aload_n 0, 1) := by decide +kernel
theorem d_XSt_put_1 : decode b_XSt_put 1 = .ok (.getfield 15, 3) := by decide +kernel
theorem d_XSt_put_4 : decode b_XSt_put 4 = .ok (.iload_n 1, 1) := by decide +kernel
theorem d_XSt_put_5 : decode b_XSt_put 5 = .ok (.iload_n 2, 1) := by decide +kernel
theorem d_XSt_put_6 : decode b_XSt_put 6 = .ok (.iastore, 1) := by decide +kernel
theorem d_XSt_put_7 : decode b_XSt_put 7 = .ok (.aload_n 0, 1) := by decide +kernel
theorem d_XSt_put_8 : decode b_XSt_put 8 = .ok (.getfield 19, 3) := by decide +kernel
theorem d_XSt_put_11 : decode b_XSt_put 11 = .ok (.iload_n 1, 1) := by decide +kernel
theorem d_XSt_put_12 : decode b_XSt_put 12 = .ok (.iload_n 3, 1) := by decide +kernel
theorem d_XSt_put_13 : decode b_XSt_put 13 = .ok (.iastore, 1) := by decide +kernel
theorem d_XSt_put_14 : decode b_XSt_put 14 = .ok (.aload_n 0, 1) := by decide +kernel
theorem d_XSt_put_15 : decode b_XSt_put 15 = .ok (.aload_n 0, 1) := by decide +kernel
theorem d_XSt_put_16 : decode b_XSt_put 16 = .ok (.getfield 9, 3) := by decide +kernel
theorem d_XSt_put_19 : decode b_XSt_put 19 = .ok (.iload_n 1, 1) := by decide +kernel
theorem d_XSt_put_20 : decode b_XSt_put 20 = .ok (.iconst 1, 1) := by decide +kernel
theorem d_XSt_put_21 : decode b_XSt_put 21 = .ok (.iadd, 1) := by decide +kernel
theorem d_XSt_put_22 : decode b_XSt_put 22 = .ok (.invokestatic 22, 3) := by decide +kernel
theorem d_XSt_put_25 : decode b_XSt_put 25 = .ok (.putfield 9, 3) := by decide +kernel
theorem d_XSt_put_28 : decode b_XSt_put 28 = .ok (.return_, 1) := by decide +kernel
theorem d_XSt_onLine_0 : decode b_XSt_onLine 0 = .ok (.aload_n 0, 1) := by decide +kernel
theorem d_XSt_onLine_1 : decode b_XSt_onLine 1 = .ok (.getfield 15, 3) := by decide +kernel
theorem d_XSt_onLine_4 : decode b_XSt_onLine 4 = .ok (.iload_n 2, 1) := by decide +kernel
theorem d_XSt_onLine_5 : decode b_XSt_onLine 5 = .ok (.iaload, 1) := by decide +kernel
theorem d_XSt_onLine_6 : decode b_XSt_onLine 6 = .ok (.aload_n 0, 1) := by decide +kernel
theorem d_XSt_onLine_7 : decode b_XSt_onLine 7 = .ok (.getfield 15, 3) := by decide +kernel
theorem d_XSt_onLine_10 : decode b_XSt_onLine 10 = .ok (.iload_n 1, 1) := by decide +kernel
theorem d_XSt_onLine_11 : decode b_XSt_onLine 11 = .ok (.iaload, 1) := by decide +kernel
theorem d_XSt_onLine_12 : decode b_XSt_onLine 12 = .ok (.isub, 1) := by decide +kernel
theorem d_XSt_onLine_13 : decode b_XSt_onLine 13 = .ok (.istore 4, 2) := by decide +kernel
theorem d_XSt_onLine_15 : decode b_XSt_onLine 15 = .ok (.iload 4, 2) := by decide +kernel
theorem d_XSt_onLine_17 : decode b_XSt_onLine 17 = .ok (.ifCond .gt 10, 3) := by decide +kernel
theorem d_XSt_onLine_20 : decode b_XSt_onLine 20 = .ok (.aload_n 0, 1) := by decide +kernel
theorem d_XSt_onLine_21 : decode b_XSt_onLine 21 = .ok (.getfield 19, 3) := by decide +kernel
theorem d_XSt_onLine_24 : decode b_XSt_onLine 24 = .ok (.iload_n 1, 1) := by decide +kernel
theorem d_XSt_onLine_25 : decode b_XSt_onLine 25 = .ok (.iaload, 1) := by decide +kernel
theorem d_XSt_onLine_26 : decode b_XSt_onLine 26 = .ok (.ireturn, 1) := by decide +kernel
theorem d_XSt_onLine_27 : decode b_XSt_onLine 27 = .ok (.aload_n 0, 1) := by decide +kernel
theorem d_XSt_onLine_28 : decode b_XSt_onLine 28 = .ok (.getfield 19, 3) := by decide +kernel
theorem d_XSt_onLine_31 : decode b_XSt_onLine 31 = .ok (.iload_n 2, 1) := by decide +kernel
theorem d_XSt_onLine_32 : decode b_XSt_onLine 32 = .ok (.iaload, 1) := by decide +kernel
theorem d_XSt_onLine_33 : decode b_XSt_onLine 33 = .ok (.aload_n 0, 1) := by decide +kernel
theorem d_XSt_onLine_34 : decode b_XSt_onLine 34 = .ok (.getfield 19, 3) := by decide +kernel
theorem d_XSt_onLine_37 : decode b_XSt_onLine 37 = .ok (.iload_n 1, 1) := by decide +kernel
theorem d_XSt_onLine_38 : decode b_XSt_onLine 38 = .ok (.iaload, 1) := by decide +kernel
theorem d_XSt_onLine_39 : decode b_XSt_onLine 39 = .ok (.isub, 1) := by decide +kernel
theorem d_XSt_onLine_40 : decode b_XSt_onLine 40 = .ok (.iload_n 3, 1) := by decide +kernel
theorem d_XSt_onLine_41 : decode b_XSt_onLine 41 = .ok (.aload_n 0, 1) := by decide +kernel
theorem d_XSt_onLine_42 : decode b_XSt_onLine 42 = .ok (.getfield 15, 3) := by decide +kernel
theorem d_XSt_onLine_45 : decode b_XSt_onLine 45 = .ok (.iload_n 1, 1) := by decide +kernel
theorem d_XSt_onLine_46 : decode b_XSt_onLine 46 = .ok (.iaload, 1) := by decide +kernel
theorem d_XSt_onLine_47 : decode b_XSt_onLine 47 = .ok (.isub, 1) := by decide +kernel
theorem d_XSt_onLine_48 : decode b_XSt_onLine 48 = .ok (.imul, 1) := by decide +kernel
theorem d_XSt_onLine_49 : decode b_XSt_onLine 49 = .ok (.istore 5, 2) := by decide +kernel
theorem d_XSt_onLine_51 : decode b_XSt_onLine 51 = .ok (.aload_n 0, 1) := by decide +kernel
theorem d_XSt_onLine_52 : decode b_XSt_onLine 52 = .ok (.getfield 19, 3) := by decide +kernel
theorem d_XSt_onLine_55 : decode b_XSt_onLine 55 = .ok (.iload_n 1, 1) := by decide +kernel
theorem d_XSt_onLine_56 : decode b_XSt_onLine 56 = .ok (.iaload, 1) := by decide +kernel
theorem d_XSt_onLine_57 : decode b_XSt_onLine 57 = .ok (.iload 5, 2) := by decide +kernel
theorem d_XSt_onLine_59 : decode b_XSt_onLine 59 = .ok (.iload 4, 2) := by decide +kernel
theorem d_XSt_onLine_61 : decode b_XSt_onLine 61 = .ok (.invokestatic 32, 3) := by decide +kernel
theorem d_XSt_onLine_64 : decode b_XSt_onLine 64 = .ok (.iadd, 1) := by decide +kernel
theorem d_XSt_onLine_65 : decode b_XSt_onLine 65 = .ok (.ireturn, 1) := by decide +kernel
theorem d_XSt_factorOn_0 : decode b_XSt_factorOn 0 = .ok (.iconst (-1), 1) := by decide +kernel
theorem d_XSt_factorOn_1 : decode b_XSt_factorOn 1 = .ok (.istore_n 2, 1) := by decide +kernel
theorem d_XSt_factorOn_2 : decode b_XSt_factorOn 2 = .ok (.iconst (-1), 1) := by decide +kernel
theorem d_XSt_factorOn_3 : decode b_XSt_factorOn 3 = .ok (.istore_n 3, 1) := by decide +kernel
theorem d_XSt_factorOn_4 : decode b_XSt_factorOn 4 = .ok (.iconst 0, 1) := by decide +kernel
theorem d_XSt_factorOn_5 : decode b_XSt_factorOn 5 = .ok (.istore 4, 2) := by decide +kernel
theorem d_XSt_factorOn_7 : decode b_XSt_factorOn 7 = .ok (.iload 4, 2) := by decide +kernel
theorem d_XSt_factorOn_9 : decode b_XSt_factorOn 9 = .ok (.aload_n 0, 1) := by decide +kernel
theorem d_XSt_factorOn_10 : decode b_XSt_factorOn 10 = .ok (.getfield 9, 3) := by decide +kernel
theorem d_XSt_factorOn_13 : decode b_XSt_factorOn 13 = .ok (.if_icmp .ge 79, 3) := by decide +kernel
theorem d_XSt_factorOn_16 : decode b_XSt_factorOn 16 = .ok (.aload_n 0, 1) := by decide +kernel
theorem d_XSt_factorOn_17 : decode b_XSt_factorOn 17 = .ok (.getfield 15, 3) := by decide +kernel
theorem d_XSt_factorOn_20 : decode b_XSt_factorOn 20 = .ok (.iload 4, 2) := by decide +kernel
theorem d_XSt_factorOn_22 : decode b_XSt_factorOn 22 = .ok (.iaload, 1) := by decide +kernel
theorem d_XSt_factorOn_23 : decode b_XSt_factorOn 23 = .ok (.iload_n 1, 1) := by decide +kernel
theorem d_XSt_factorOn_24 : decode b_XSt_factorOn 24 = .ok (.if_icmp .gt 27, 3) := by decide +kernel
theorem d_XSt_factorOn_27 : decode b_XSt_factorOn 27 = .ok (.iload_n 2, 1) := by decide +kernel
theorem d_XSt_factorOn_28 : decode b_XSt_factorOn 28 = .ok (.iconst (-1), 1) := by decide +kernel
theorem d_XSt_factorOn_29 : decode b_XSt_factorOn 29 = .ok (.if_icmp .eq 19, 3) := by decide +kernel
theorem d_XSt_factorOn_32 : decode b_XSt_factorOn 32 = .ok (.aload_n 0, 1) := by decide +kernel
theorem d_XSt_factorOn_33 : decode b_XSt_factorOn 33 = .ok (.getfield 15, 3) := by decide +kernel
theorem d_XSt_factorOn_36 : decode b_XSt_factorOn 36 = .ok (.iload 4, 2) := by decide +kernel
theorem d_XSt_factorOn_38 : decode b_XSt_factorOn 38 = .ok (.iaload, 1) := by decide +kernel
theorem d_XSt_factorOn_39 : decode b_XSt_factorOn 39 = .ok (.aload_n 0, 1) := by decide +kernel
theorem d_XSt_factorOn_40 : decode b_XSt_factorOn 40 = .ok (.getfield 15, 3) := by decide +kernel
theorem d_XSt_factorOn_43 : decode b_XSt_factorOn 43 = .ok (.iload_n 2, 1) := by decide +kernel
theorem d_XSt_factorOn_44 : decode b_XSt_factorOn 44 = .ok (.iaload, 1) := by decide +kernel
theorem d_XSt_factorOn_45 : decode b_XSt_factorOn 45 = .ok (.if_icmp .le 6, 3) := by decide +kernel
theorem d_XSt_factorOn_48 : decode b_XSt_factorOn 48 = .ok (.iload 4, 2) := by decide +kernel
theorem d_XSt_factorOn_50 : decode b_XSt_factorOn 50 = .ok (.istore_n 2, 1) := by decide +kernel
theorem d_XSt_factorOn_51 : decode b_XSt_factorOn 51 = .ok (.aload_n 0, 1) := by decide +kernel
theorem d_XSt_factorOn_52 : decode b_XSt_factorOn 52 = .ok (.getfield 15, 3) := by decide +kernel
theorem d_XSt_factorOn_55 : decode b_XSt_factorOn 55 = .ok (.iload 4, 2) := by decide +kernel
theorem d_XSt_factorOn_57 : decode b_XSt_factorOn 57 = .ok (.iaload, 1) := by decide +kernel
theorem d_XSt_factorOn_58 : decode b_XSt_factorOn 58 = .ok (.iload_n 1, 1) := by decide +kernel
theorem d_XSt_factorOn_59 : decode b_XSt_factorOn 59 = .ok (.if_icmp .lt 27, 3) := by decide +kernel
theorem d_XSt_factorOn_62 : decode b_XSt_factorOn 62 = .ok (.iload_n 3, 1) := by decide +kernel
theorem d_XSt_factorOn_63 : decode b_XSt_factorOn 63 = .ok (.iconst (-1), 1) := by decide +kernel
theorem d_XSt_factorOn_64 : decode b_XSt_factorOn 64 = .ok (.if_icmp .eq 19, 3) := by decide +kernel
theorem d_XSt_factorOn_67 : decode b_XSt_factorOn 67 = .ok (.aload_n 0, 1) := by decide +kernel
theorem d_XSt_factorOn_68 : decode b_XSt_factorOn 68 = .ok (.getfield 15, 3) := by decide +kernel
theorem d_XSt_factorOn_71 : decode b_XSt_factorOn 71 = .ok (.iload 4, 2) := by decide +kernel
theorem d_XSt_factorOn_73 : decode b_XSt_factorOn 73 = .ok (.iaload, 1) := by decide +kernel
theorem d_XSt_factorOn_74 : decode b_XSt_factorOn 74 = .ok (.aload_n 0, 1) := by decide +kernel
theorem d_XSt_factorOn_75 : decode b_XSt_factorOn 75 = .ok (.getfield 15, 3) := by decide +kernel
theorem d_XSt_factorOn_78 : decode b_XSt_factorOn 78 = .ok (.iload_n 3, 1) := by decide +kernel
theorem d_XSt_factorOn_79 : decode b_XSt_factorOn 79 = .ok (.iaload, 1) := by decide +kernel
theorem d_XSt_factorOn_80 : decode b_XSt_factorOn 80 = .ok (.if_icmp .ge 6, 3) := by decide +kernel
theorem d_XSt_factorOn_83 : decode b_XSt_factorOn 83 = .ok (.iload 4, 2) := by decide +kernel
theorem d_XSt_factorOn_85 : decode b_XSt_factorOn 85 = .ok (.istore_n 3, 1) := by decide +kernel
theorem d_XSt_factorOn_86 : decode b_XSt_factorOn 86 = .ok (.iinc 4 1, 3) := by decide +kernel
theorem d_XSt_factorOn_89 : decode b_XSt_factorOn 89 = .ok (.goto (-82), 3) := by decide +kernel
theorem d_XSt_factorOn_92 : decode b_XSt_factorOn 92 = .ok (.iload_n 2, 1) := by decide +kernel
theorem d_XSt_factorOn_93 : decode b_XSt_factorOn 93 = .ok (.iconst (-1), 1) := by decide +kernel
theorem d_XSt_factorOn_94 : decode b_XSt_factorOn 94 = .ok (.if_icmp .ne 21, 3) := by decide +kernel
theorem d_XSt_factorOn_97 : decode b_XSt_factorOn 97 = .ok (.iload_n 3, 1) := by decide +kernel
theorem d_XSt_factorOn_98 : decode b_XSt_factorOn 98 = .ok (.iconst (-1), 1) := by decide +kernel
theorem d_XSt_factorOn_99 : decode b_XSt_factorOn 99 = .ok (.if_icmp .ne 9, 3) := by decide +kernel
theorem d_XSt_factorOn_102 : decode b_XSt_factorOn 102 = .ok (.sipush 1000, 3) := by decide +kernel
theorem d_XSt_factorOn_105 : decode b_XSt_factorOn 105 = .ok (.goto 9, 3) := by decide +kernel
theorem d_XSt_factorOn_108 : decode b_XSt_factorOn 108 = .ok (.aload_n 0, 1) := by decide +kernel
theorem d_XSt_factorOn_109 : decode b_XSt_factorOn 109 = .ok (.getfield 19, 3) := by decide +kernel
theorem d_XSt_factorOn_112 : decode b_XSt_factorOn 112 = .ok (.iload_n 3, 1) := by decide +kernel
theorem d_XSt_factorOn_113 : decode b_XSt_factorOn 113 = .ok (.iaload, 1) := by decide +kernel
theorem d_XSt_factorOn_114 : decode b_XSt_factorOn 114 = .ok (.ireturn, 1) := by decide +kernel
theorem d_XSt_factorOn_115 : decode b_XSt_factorOn 115 = .ok (.iload_n 3, 1) := by decide +kernel
theorem d_XSt_factorOn_116 : decode b_XSt_factorOn 116 = .ok (.iconst (-1), 1) := by decide +kernel
theorem d_XSt_factorOn_117 : decode b_XSt_factorOn 117 = .ok (.if_icmp .ne 12, 3) := by decide +kernel
theorem d_XSt_factorOn_120 : decode b_XSt_factorOn 120 = .ok (.aload_n 0, 1) := by decide +kernel
theorem d_XSt_factorOn_121 : decode b_XSt_factorOn 121 = .ok (.getfield 19, 3) := by decide +kernel
theorem d_XSt_factorOn_124 : decode b_XSt_factorOn 124 = .ok (.iload_n 2, 1) := by decide +kernel
theorem d_XSt_factorOn_125 : decode b_XSt_factorOn 125 = .ok (.iaload, 1) := by decide +kernel
theorem d_XSt_factorOn_126 : decode b_XSt_factorOn 126 = .ok (.goto 10, 3) := by decide +kernel
theorem d_XSt_factorOn_129 : decode b_XSt_factorOn 129 = .ok (.aload_n 0, 1) := by decide +kernel
theorem d_XSt_factorOn_130 : decode b_XSt_factorOn 130 = .ok (.iload_n 2, 1) := by decide +kernel
theorem d_XSt_factorOn_131 : decode b_XSt_factorOn 131 = .ok (.iload_n 3, 1) := by decide +kernel
theorem d_XSt_factorOn_132 : decode b_XSt_factorOn 132 = .ok (.iload_n 1, 1) := by decide +kernel
theorem d_XSt_factorOn_133 : decode b_XSt_factorOn 133 = .ok (.invokevirtual 28, 3) := by decide +kernel
theorem d_XSt_factorOn_136 : decode b_XSt_factorOn 136 = .ok (.ireturn, 1) := by decide +kernel
