theorem d_XMi_weigh_0 : decode b_XMi_weigh 0 = .ok (.iconst 0, 1) := by decide +kernel
theorem d_XMi_weigh_1 : decode b_XMi_weigh 1 = .ok (.istore_n 2, 1) := by decide +kernel
theorem d_XMi_weigh_2 : decode b_XMi_weigh 2 = .ok (.iload_n 2, 1) := by decide +kernel
theorem d_XMi_weigh_3 : decode b_XMi_weigh 3 = .ok (.iconst 3, 1) := by decide +kernel
theorem d_XMi_weigh_4 : decode b_XMi_weigh 4 = .ok (.if_icmp .ge 127, 3) := by decide +kernel
theorem d_XMi_weigh_7 : decode b_XMi_weigh 7 = .ok (.aload_n 0, 1) := by decide +kernel
theorem d_XMi_weigh_8 : decode b_XMi_weigh 8 = .ok (.getfield 32, 3) := by decide +kernel
theorem d_XMi_weigh_11 : decode b_XMi_weigh 11 = .ok (.iload_n 2, 1) := by decide +kernel
theorem d_XMi_weigh_12 : decode b_XMi_weigh 12 = .ok (.lconst 0, 1) := by decide +kernel
theorem d_XMi_weigh_13 : decode b_XMi_weigh 13 = .ok (.lastore, 1) := by decide +kernel
theorem d_XMi_weigh_14 : decode b_XMi_weigh 14 = .ok (.iconst 0, 1) := by decide +kernel
theorem d_XMi_weigh_15 : decode b_XMi_weigh 15 = .ok (.istore_n 3, 1) := by decide +kernel
theorem d_XMi_weigh_16 : decode b_XMi_weigh 16 = .ok (.iload_n 3, 1) := by decide +kernel
theorem d_XMi_weigh_17 : decode b_XMi_weigh 17 = .ok (.aload_n 1, 1) := by decide +kernel
theorem d_XMi_weigh_18 : decode b_XMi_weigh 18 = .ok (.getfield 46, 3) := by decide +kernel
theorem d_XMi_weigh_21 : decode b_XMi_weigh 21 = .ok (.if_icmp .ge 33, 3) := by decide +kernel
theorem d_XMi_weigh_24 : decode b_XMi_weigh 24 = .ok (.aload_n 0, 1) := by decide +kernel
theorem d_XMi_weigh_25 : decode b_XMi_weigh 25 = .ok (.getfield 32, 3) := by decide +kernel
theorem d_XMi_weigh_28 : decode b_XMi_weigh 28 = .ok (.iload_n 2, 1) := by decide +kernel
theorem d_XMi_weigh_29 : decode b_XMi_weigh 29 = .ok (.dup2, 1) := by decide +kernel
theorem d_XMi_weigh_30 : decode b_XMi_weigh 30 = .ok (.laload, 1) := by decide +kernel
theorem d_XMi_weigh_31 : decode b_XMi_weigh 31 = .ok (.aload_n 0, 1) := by decide +kernel
theorem d_XMi_weigh_32 : decode b_XMi_weigh 32 = .ok (.getfield 43, 3) := by decide +kernel
theorem d_XMi_weigh_35 : decode b_XMi_weigh 35 = .ok (.iload_n 2, 1) := by decide +kernel
theorem d_XMi_weigh_36 : decode b_XMi_weigh 36 = .ok (.aaload, 1) := by decide +kernel
theorem d_XMi_weigh_37 : decode b_XMi_weigh 37 = .ok (.iload_n 3, 1) := by decide +kernel
theorem d_XMi_weigh_38 : decode b_XMi_weigh 38 = .ok (.iaload, 1) := by decide +kernel
theorem d_XMi_weigh_39 : decode b_XMi_weigh 39 = .ok (.aload_n 1, 1) := by decide +kernel
theorem d_XMi_weigh_40 : decode b_XMi_weigh 40 = .ok (.iload_n 3, 1) := by decide +kernel
theorem d_XMi_weigh_41 : decode b_XMi_weigh 41 = .ok (.invokevirtual 51, 3) := by decide +kernel
theorem d_XMi_weigh_44 : decode b_XMi_weigh 44 = .ok (.imul, 1) := by decide +kernel
theorem d_XMi_weigh_45 : decode b_XMi_weigh 45 = .ok (.i2l, 1) := by decide +kernel
theorem d_XMi_weigh_46 : decode b_XMi_weigh 46 = .ok (.ladd, 1) := by decide +kernel
theorem d_XMi_weigh_47 : decode b_XMi_weigh 47 = .ok (.lastore, 1) := by decide +kernel
theorem d_XMi_weigh_48 : decode b_XMi_weigh 48 = .ok (.iinc 3 1, 3) := by decide +kernel
theorem d_XMi_weigh_51 : decode b_XMi_weigh 51 = .ok (.goto (-35), 3) := by decide +kernel
theorem d_XMi_weigh_54 : decode b_XMi_weigh 54 = .ok (.iconst 0, 1) := by decide +kernel
theorem d_XMi_weigh_55 : decode b_XMi_weigh 55 = .ok (.istore_n 3, 1) := by decide +kernel
theorem d_XMi_weigh_56 : decode b_XMi_weigh 56 = .ok (.iload_n 3, 1) := by decide +kernel
theorem d_XMi_weigh_57 : decode b_XMi_weigh 57 = .ok (.iconst 3, 1) := by decide +kernel
theorem d_XMi_weigh_58 : decode b_XMi_weigh 58 = .ok (.if_icmp .ge 67, 3) := by decide +kernel
theorem d_XMi_weigh_61 : decode b_XMi_weigh 61 = .ok (.aload_n 0, 1) := by decide +kernel
theorem d_XMi_weigh_62 : decode b_XMi_weigh 62 = .ok (.getfield 29, 3) := by decide +kernel
theorem d_XMi_weigh_65 : decode b_XMi_weigh 65 = .ok (.iload_n 2, 1) := by decide +kernel
theorem d_XMi_weigh_66 : decode b_XMi_weigh 66 = .ok (.aaload, 1) := by decide +kernel
theorem d_XMi_weigh_67 : decode b_XMi_weigh 67 = .ok (.iload_n 3, 1) := by decide +kernel
theorem d_XMi_weigh_68 : decode b_XMi_weigh 68 = .ok (.lconst 0, 1) := by decide +kernel
theorem d_XMi_weigh_69 : decode b_XMi_weigh 69 = .ok (.lastore, 1) := by decide +kernel
theorem d_XMi_weigh_70 : decode b_XMi_weigh 70 = .ok (.iconst 0, 1) := by decide +kernel
theorem d_XMi_weigh_71 : decode b_XMi_weigh 71 = .ok (.istore 4, 2) := by decide +kernel
theorem d_XMi_weigh_73 : decode b_XMi_weigh 73 = .ok (.iload 4, 2) := by decide +kernel
theorem d_XMi_weigh_75 : decode b_XMi_weigh 75 = .ok (.aload_n 1, 1) := by decide +kernel
theorem d_XMi_weigh_76 : decode b_XMi_weigh 76 = .ok (.getfield 46, 3) := by decide +kernel
theorem d_XMi_weigh_79 : decode b_XMi_weigh 79 = .ok (.if_icmp .ge 40, 3) := by decide +kernel
theorem d_XMi_weigh_82 : decode b_XMi_weigh 82 = .ok (.aload_n 0, 1) := by decide +kernel
theorem d_XMi_weigh_83 : decode b_XMi_weigh 83 = .ok (.getfield 29, 3) := by decide +kernel
theorem d_XMi_weigh_86 : decode b_XMi_weigh 86 = .ok (.iload_n 2, 1) := by decide +kernel
theorem d_XMi_weigh_87 : decode b_XMi_weigh 87 = .ok (.aaload, 1) := by decide +kernel
theorem d_XMi_weigh_88 : decode b_XMi_weigh 88 = .ok (.iload_n 3, 1) := by decide +kernel
theorem d_XMi_weigh_89 : decode b_XMi_weigh 89 = .ok (.dup2, 1) := by decide +kernel
theorem d_XMi_weigh_90 : decode b_XMi_weigh 90 = .ok (.laload, 1) := by decide +kernel
theorem d_XMi_weigh_91 : decode b_XMi_weigh 91 = .ok (.aload_n 0, 1) := by decide +kernel
theorem d_XMi_weigh_92 : decode b_XMi_weigh 92 = .ok (.getfield 43, 3) := by decide +kernel
theorem d_XMi_weigh_95 : decode b_XMi_weigh 95 = .ok (.iload_n 2, 1) := by decide +kernel
theorem d_XMi_weigh_96 : decode b_XMi_weigh 96 = .ok (.aaload, 1) := by decide +kernel
theorem d_XMi_weigh_97 : decode b_XMi_weigh 97 = .ok (.iload 4, 2) := by decide +kernel
theorem d_XMi_weigh_99 : decode b_XMi_weigh 99 = .ok (.iaload, 1) := by decide +kernel
theorem d_XMi_weigh_100 : decode b_XMi_weigh 100 = .ok (.aload_n 0, 1) := by decide +kernel
theorem d_XMi_weigh_101 : decode b_XMi_weigh 101 = .ok (.getfield 43, 3) := by decide +kernel
theorem d_XMi_weigh_104 : decode b_XMi_weigh 104 = .ok (.iload_n 3, 1) := by decide +kernel
theorem d_XMi_weigh_105 : decode b_XMi_weigh 105 = .ok (.aaload, 1) := by decide +kernel
theorem d_XMi_weigh_106 : decode b_XMi_weigh 106 = .ok (.iload 4, 2) := by decide +kernel
theorem d_XMi_weigh_108 : decode b_XMi_weigh 108 = .ok (.iaload, 1) := by decide +kernel
theorem d_XMi_weigh_109 : decode b_XMi_weigh 109 = .ok (.imul, 1) := by decide +kernel
theorem d_XMi_weigh_110 : decode b_XMi_weigh 110 = .ok (.i2l, 1) := by decide +kernel
theorem d_XMi_weigh_111 : decode b_XMi_weigh 111 = .ok (.ladd, 1) := by decide +kernel
theorem d_XMi_weigh_112 : decode b_XMi_weigh 112 = .ok (.lastore, 1) := by decide +kernel
theorem d_XMi_weigh_113 : decode b_XMi_weigh 113 = .ok (.iinc 4 1, 3) := by decide +kernel
theorem d_XMi_weigh_116 : decode b_XMi_weigh 116 = .ok (.goto (-43), 3) := by decide +kernel
theorem d_XMi_weigh_119 : decode b_XMi_weigh 119 = .ok (.iinc 3 1, 3) := by decide +kernel
theorem d_XMi_weigh_122 : decode b_XMi_weigh 122 = .ok (.goto (-66), 3) := by decide +kernel
theorem d_XMi_weigh_125 : decode b_XMi_weigh 125 = .ok (.iinc 2 1, 3) := by decide +kernel
theorem d_XMi_weigh_128 : decode b_XMi_weigh 128 = .ok (.goto (-126), 3) := by decide +kernel
theorem d_XMi_weigh_131 : decode b_XMi_weigh 131 = .ok (.return_, 1) := by decide +kernel
theorem d_XMi_isIn_0 : decode b_XMi_isIn 0 = .ok (.iload_n 0, 1) := by decide +kernel
theorem d_XMi_isIn_1 : decode b_XMi_isIn 1 = .ok (.iload_n 1, 1) := by decide +kernel
theorem d_XMi_isIn_2 : decode b_XMi_isIn 2 = .ok (.ishr, 1) := by decide +kernel
theorem d_XMi_isIn_3 : decode b_XMi_isIn 3 = .ok (.iconst 1, 1) := by decide +kernel
theorem d_XMi_isIn_4 : decode b_XMi_isIn 4 = .ok (.iand, 1) := by decide +kernel
theorem d_XMi_isIn_5 : decode b_XMi_isIn 5 = .ok (.iconst 1, 1) := by decide +kernel
theorem d_XMi_isIn_6 : decode b_XMi_isIn 6 = .ok (.if_icmp .ne 7, 3) := by decide +kernel
theorem d_XMi_isIn_9 : decode b_XMi_isIn 9 = .ok (.iconst 1, 1) := by decide +kernel
theorem d_XMi_isIn_10 : decode b_XMi_isIn 10 = .ok (.goto 4, 3) := by decide +kernel
theorem d_XMi_isIn_13 : decode b_XMi_isIn 13 = .ok (.iconst 0, 1) := by decide +kernel
theorem d_XMi_isIn_14 : decode b_XMi_isIn 14 = .ok (.ireturn, 1) := by decide +kernel
theorem d_XMi_layOut_0 : decode b_XMi_layOut 0 = .ok (.iconst 0, 1) := by decide +kernel
theorem d_XMi_layOut_1 : decode b_XMi_layOut 1 = .ok (.istore_n 2, 1) := by decide +kernel
theorem d_XMi_layOut_2 : decode b_XMi_layOut 2 = .ok (.iload_n 2, 1) := by decide +kernel
theorem d_XMi_layOut_3 : decode b_XMi_layOut 3 = .ok (.iconst 3, 1) := by decide +kernel
theorem d_XMi_layOut_4 : decode b_XMi_layOut 4 = .ok (.if_icmp .ge 99, 3) := by decide +kernel
theorem d_XMi_layOut_7 : decode b_XMi_layOut 7 = .ok (.aload_n 0, 1) := by decide +kernel
theorem d_XMi_layOut_8 : decode b_XMi_layOut 8 = .ok (.getfield 38, 3) := by decide +kernel
theorem d_XMi_layOut_11 : decode b_XMi_layOut 11 = .ok (.iload_n 2, 1) := by decide +kernel
theorem d_XMi_layOut_12 : decode b_XMi_layOut 12 = .ok (.iload_n 1, 1) := by decide +kernel
theorem d_XMi_layOut_13 : decode b_XMi_layOut 13 = .ok (.iload_n 2, 1) := by decide +kernel
theorem d_XMi_layOut_14 : decode b_XMi_layOut 14 = .ok (.invokestatic 75, 3) := by decide +kernel
theorem d_XMi_layOut_17 : decode b_XMi_layOut 17 = .ok (.ifCond .eq 12, 3) := by decide +kernel
theorem d_XMi_layOut_20 : decode b_XMi_layOut 20 = .ok (.aload_n 0, 1) := by decide +kernel
theorem d_XMi_layOut_21 : decode b_XMi_layOut 21 = .ok (.getfield 32, 3) := by decide +kernel
theorem d_XMi_layOut_24 : decode b_XMi_layOut 24 = .ok (.iload_n 2, 1) := by decide +kernel
theorem d_XMi_layOut_25 : decode b_XMi_layOut 25 = .ok (.laload, 1) := by decide +kernel
theorem d_XMi_layOut_26 : decode b_XMi_layOut 26 = .ok (.goto 4, 3) := by decide +kernel
theorem d_XMi_layOut_29 : decode b_XMi_layOut 29 = .ok (.lconst 0, 1) := by decide +kernel
theorem d_XMi_layOut_30 : decode b_XMi_layOut 30 = .ok (.lastore, 1) := by decide +kernel
theorem d_XMi_layOut_31 : decode b_XMi_layOut 31 = .ok (.iconst 0, 1) := by decide +kernel
theorem d_XMi_layOut_32 : decode b_XMi_layOut 32 = .ok (.istore_n 3, 1) := by decide +kernel
theorem d_XMi_layOut_33 : decode b_XMi_layOut 33 = .ok (.iload_n 3, 1) := by decide +kernel
theorem d_XMi_layOut_34 : decode b_XMi_layOut 34 = .ok (.iconst 3, 1) := by decide +kernel
theorem d_XMi_layOut_35 : decode b_XMi_layOut 35 = .ok (.if_icmp .ge 62, 3) := by decide +kernel
theorem d_XMi_layOut_38 : decode b_XMi_layOut 38 = .ok (.iload_n 1, 1) := by decide +kernel
theorem d_XMi_layOut_39 : decode b_XMi_layOut 39 = .ok (.iload_n 2, 1) := by decide +kernel
theorem d_XMi_layOut_40 : decode b_XMi_layOut 40 = .ok (.invokestatic 75, 3) := by decide +kernel
theorem d_XMi_layOut_43 : decode b_XMi_layOut 43 = .ok (.ifCond .eq 30, 3) := by decide +kernel
theorem d_XMi_layOut_46 : decode b_XMi_layOut 46 = .ok (.iload_n 1, 1) := by decide +kernel
theorem d_XMi_layOut_47 : decode b_XMi_layOut 47 = .ok (.iload_n 3, 1) := by decide +kernel
theorem d_XMi_layOut_48 : decode b_XMi_layOut 48 = .ok (.invokestatic 75, 3) := by decide +kernel
theorem d_XMi_layOut_51 : decode b_XMi_layOut 51 = .ok (.ifCond .eq 22, 3) := by decide +kernel
theorem d_XMi_layOut_54 : decode b_XMi_layOut 54 = .ok (.aload_n 0, 1) := by decide +kernel
theorem d_XMi_layOut_55 : decode b_XMi_layOut 55 = .ok (.getfield 35, 3) := by decide +kernel
theorem d_XMi_layOut_58 : decode b_XMi_layOut 58 = .ok (.iload_n 2, 1) := by decide +kernel
theorem d_XMi_layOut_59 : decode b_XMi_layOut 59 = .ok (.aaload, 1) := by decide +kernel
theorem d_XMi_layOut_60 : decode b_XMi_layOut 60 = .ok (.iload_n 3, 1) := by decide +kernel
theorem d_XMi_layOut_61 : decode b_XMi_layOut 61 = .ok (.aload_n 0, 1) := by decide +kernel
theorem d_XMi_layOut_62 : decode b_XMi_layOut 62 = .ok (.getfield 29, 3) := by decide +kernel
theorem d_XMi_layOut_65 : decode b_XMi_layOut 65 = .ok (.iload_n 2, 1) := by decide +kernel
theorem d_XMi_layOut_66 : decode b_XMi_layOut 66 = .ok (.aaload, 1) := by decide +kernel
theorem d_XMi_layOut_67 : decode b_XMi_layOut 67 = .ok (.iload_n 3, 1) := by decide +kernel
theorem d_XMi_layOut_68 : decode b_XMi_layOut 68 = .ok (.laload, 1) := by decide +kernel
theorem d_XMi_layOut_69 : decode b_XMi_layOut 69 = .ok (.lastore, 1) := by decide +kernel
theorem d_XMi_layOut_70 : decode b_XMi_layOut 70 = .ok (.goto 21, 3) := by decide +kernel
theorem d_XMi_layOut_73 : decode b_XMi_layOut 73 = .ok (.aload_n 0, 1) := by decide +kernel
theorem d_XMi_layOut_74 : decode b_XMi_layOut 74 = .ok (.getfield 35, 3) := by decide +kernel
theorem d_XMi_layOut_77 : decode b_XMi_layOut 77 = .ok (.iload_n 2, 1) := by decide +kernel
theorem d_XMi_layOut_78 : decode b_XMi_layOut 78 = .ok (.aaload, 1) := by decide +kernel
theorem d_XMi_layOut_79 : decode b_XMi_layOut 79 = .ok (.iload_n 3, 1) := by decide +kernel
theorem d_XMi_layOut_80 : decode b_XMi_layOut 80 = .ok (.iload_n 2, 1) := by decide +kernel
theorem d_XMi_layOut_81 : decode b_XMi_layOut 81 = .ok (.iload_n 3, 1) := by decide +kernel
theorem d_XMi_layOut_82 : decode b_XMi_layOut 82 = .ok (.if_icmp .ne 7, 3) := by decide +kernel
theorem d_XMi_layOut_85 : decode b_XMi_layOut 85 = .ok (.lconst 1, 1) := by decide +kernel
theorem d_XMi_layOut_86 : decode b_XMi_layOut 86 = .ok (.goto 4, 3) := by decide +kernel
theorem d_XMi_layOut_89 : decode b_XMi_layOut 89 = .ok (.lconst 0, 1) := by decide +kernel
theorem d_XMi_layOut_90 : decode b_XMi_layOut 90 = .ok (.lastore, 1) := by decide +kernel
theorem d_XMi_layOut_91 : decode b_XMi_layOut 91 = .ok (.iinc 3 1, 3) := by decide +kernel
theorem d_XMi_layOut_94 : decode b_XMi_layOut 94 = .ok (.goto (-61), 3) := by decide +kernel
theorem d_XMi_layOut_97 : decode b_XMi_layOut 97 = .ok (.iinc 2 1, 3) := by decide +kernel
theorem d_XMi_layOut_100 : decode b_XMi_layOut 100 = .ok (.goto (-98), 3) := by decide +kernel
theorem d_XMi_layOut_103 : decode b_XMi_layOut 103 = .ok (.return_, 1) := by decide +kernel
theorem d_XMi_cell_0 : decode b_XMi_cell 0 = .ok (.iload_n 2, 1) := by decide +kernel
theorem d_XMi_cell_1 : decode b_XMi_cell 1 = .ok (.iload_n 3, 1) := by decide +kernel
theorem d_XMi_cell_2 : decode b_XMi_cell 2 = .ok (.if_icmp .ne 12, 3) := by decide +kernel
theorem d_XMi_cell_5 : decode b_XMi_cell 5 = .ok (.aload_n 0, 1) := by decide +kernel
theorem d_XMi_cell_6 : decode b_XMi_cell 6 = .ok (.getfield 38, 3) := by decide +kernel
theorem d_XMi_cell_9 : decode b_XMi_cell 9 = .ok (.iload_n 1, 1) := by decide +kernel
theorem d_XMi_cell_10 : decode b_XMi_cell 10 = .ok (.laload, 1) := by decide +kernel
theorem d_XMi_cell_11 : decode b_XMi_cell 11 = .ok (.goto 11, 3) := by decide +kernel
theorem d_XMi_cell_14 : decode b_XMi_cell 14 = .ok (.aload_n 0, 1) := by decide +kernel
theorem d_XMi_cell_15 : decode b_XMi_cell 15 = .ok (.getfield 35, 3) := by decide +kernel
theorem d_XMi_cell_18 : decode b_XMi_cell 18 = .ok (.iload_n 1, 1) := by decide +kernel
theorem d_XMi_cell_19 : decode b_XMi_cell 19 = .ok (.aaload, 1) := by decide +kernel
theorem d_XMi_cell_20 : decode b_XMi_cell 20 = .ok (.iload_n 2, 1) := by decide +kernel
theorem d_XMi_cell_21 : decode b_XMi_cell 21 = .ok (.laload, 1) := by decide +kernel
theorem d_XMi_cell_22 : decode b_XMi_cell 22 = .ok (.lreturn, 1) := by decide +kernel
theorem d_XMi_minor_0 : decode b_XMi_minor 0 = .ok (.aload_n 0, 1) := by decide +kernel
theorem d_XMi_minor_1 : decode b_XMi_minor 1 = .ok (.iconst 1, 1) := by decide +kernel
theorem d_XMi_minor_2 : decode b_XMi_minor 2 = .ok (.iload_n 1, 1) := by decide +kernel
theorem d_XMi_minor_3 : decode b_XMi_minor 3 = .ok (.iload_n 3, 1) := by decide +kernel
theorem d_XMi_minor_4 : decode b_XMi_minor 4 = .ok (.invokevirtual 79, 3) := by decide +kernel
theorem d_XMi_minor_7 : decode b_XMi_minor 7 = .ok (.aload_n 0, 1) := by decide +kernel
theorem d_XMi_minor_8 : decode b_XMi_minor 8 = .ok (.iconst 2, 1) := by decide +kernel
theorem d_XMi_minor_9 : decode b_XMi_minor 9 = .ok (.iload_n 2, 1) := by decide +kernel
theorem d_XMi_minor_10 : decode b_XMi_minor 10 = .ok (.iload_n 3, 1) := by decide +kernel
theorem d_XMi_minor_11 : decode b_XMi_minor 11 = .ok (.invokevirtual 79, 3) := by decide +kernel
theorem d_XMi_minor_14 : decode b_XMi_minor 14 = .ok (.lmul, 1) := by decide +kernel
theorem d_XMi_minor_15 : decode b_XMi_minor 15 = .ok (.aload_n 0, 1) := by decide +kernel
theorem d_XMi_minor_16 : decode b_XMi_minor 16 = .ok (.iconst 1, 1) := by decide +kernel
theorem d_XMi_minor_17 : decode b_XMi_minor 17 = .ok (.iload_n 2, 1) := by decide +kernel
theorem d_XMi_minor_18 : decode b_XMi_minor 18 = .ok (.iload_n 3, 1) := by decide +kernel
theorem d_XMi_minor_19 : decode b_XMi_minor 19 = .ok (.invokevirtual 79, 3) := by decide +kernel
theorem d_XMi_minor_22 : decode b_XMi_minor 22 = .ok (.aload_n 0, 1) := by decide +kernel
theorem d_XMi_minor_23 : decode b_XMi_minor 23 = .ok (.iconst 2, 1) := by decide +kernel
theorem d_XMi_minor_24 : decode b_XMi_minor 24 = .ok (.iload_n 1, 1) := by decide +kernel
theorem d_XMi_minor_25 : decode b_XMi_minor 25 = .ok (.iload_n 3, 1) := by decide +kernel
theorem d_XMi_minor_26 : decode b_XMi_minor 26 = .ok (.invokevirtual 79, 3) := by decide +kernel
theorem d_XMi_minor_29 : decode b_XMi_minor 29 = .ok (.lmul, 1) := by decide +kernel
theorem d_XMi_minor_30 : decode b_XMi_minor 30 = .ok (.lsub, 1) := by decide +kernel
theorem d_XMi_minor_31 : decode b_XMi_minor 31 = .ok (.lreturn, 1) := by decide +kernel
theorem d_XMi_determinant_0 : decode b_XMi_determinant 0 = .ok (.aload_n 0, 1) := by decide +kernel
theorem d_XMi_determinant_1 : decode b_XMi_determinant 1 = .ok (.iconst 0, 1) := by decide +kernel
theorem d_XMi_determinant_2 : decode b_XMi_determinant 2 = .ok (.iconst 0, 1) := by decide +kernel
theorem d_XMi_determinant_3 : decode b_XMi_determinant 3 = .ok (.iload_n 1, 1) := by decide +kernel
theorem d_XMi_determinant_4 : decode b_XMi_determinant 4 = .ok (.invokevirtual 79, 3) := by decide +kernel
theorem d_XMi_determinant_7 : decode b_XMi_determinant 7 = .ok (.aload_n 0, 1) := by decide +kernel
theorem d_XMi_determinant_8 : decode b_XMi_determinant 8 = .ok (.iconst 1, 1) := by decide +kernel
theorem d_XMi_determinant_9 : decode b_XMi_determinant 9 = .ok (.iconst 2, 1) := by decide +kernel
theorem d_XMi_determinant_10 : decode b_XMi_determinant 10 = .ok (.iload_n 1, 1) := by decide +kernel
theorem d_XMi_determinant_11 : decode b_XMi_determinant 11 = .ok (.invokevirtual 83, 3) := by decide +kernel
theorem d_XMi_determinant_14 : decode b_XMi_determinant 14 = .ok (.lmul, 1) := by decide +kernel
theorem d_XMi_determinant_15 : decode b_XMi_determinant 15 = .ok (.aload_n 0, 1) := by decide +kernel
theorem d_XMi_determinant_16 : decode b_XMi_determinant 16 = .ok (.iconst 0, 1) := by decide +kernel
theorem d_XMi_determinant_17 : decode b_XMi_determinant 17 = .ok (.iconst 1, 1) := by decide +kernel
theorem d_XMi_determinant_18 : decode b_XMi_determinant 18 = .ok (.iload_n 1, 1) := by decide +kernel
theorem d_XMi_determinant_19 : decode b_XMi_determinant 19 = .ok (.invokevirtual 79, 3) := by decide +kernel
theorem d_XMi_determinant_22 : decode b_XMi_determinant 22 = .ok (.aload_n 0, 1) := by decide +kernel
theorem d_XMi_determinant_23 : decode b_XMi_determinant 23 = .ok (.iconst 0, 1) := by decide +kernel
theorem d_XMi_determinant_24 : decode b_XMi_determinant 24 = .ok (.iconst 2, 1) := by decide +kernel
theorem d_XMi_determinant_25 : decode b_XMi_determinant 25 = .ok (.iload_n 1, 1) := by decide +kernel
theorem d_XMi_determinant_26 : decode b_XMi_determinant 26 = .ok (.invokevirtual 83, 3) := by decide +kernel
theorem d_XMi_determinant_29 : decode b_XMi_determinant 29 = .ok (.lmul, 1) := by decide +kernel
theorem d_XMi_determinant_30 : decode b_XMi_determinant 30 = .ok (.lsub, 1) := by decide +kernel
theorem d_XMi_determinant_31 : decode b_XMi_determinant 31 = .ok (.aload_n 0, 1) := by decide +kernel
theorem d_XMi_determinant_32 : decode b_XMi_determinant 32 = .ok (.iconst 0, 1) := by decide +kernel
theorem d_XMi_determinant_33 : decode b_XMi_determinant 33 = .ok (.iconst 2, 1) := by decide +kernel
theorem d_XMi_determinant_34 : decode b_XMi_determinant 34 = .ok (.iload_n 1, 1) := by decide +kernel
theorem d_XMi_determinant_35 : decode b_XMi_determinant 35 = .ok (.invokevirtual 79, 3) := by decide +kernel
theorem d_XMi_determinant_38 : decode b_XMi_determinant 38 = .ok (.aload_n 0, 1) := by decide +kernel
theorem d_XMi_determinant_39 : decode b_XMi_determinant 39 = .ok (.iconst 0, 1) := by decide +kernel
theorem d_XMi_determinant_40 : decode b_XMi_determinant 40 = .ok (.iconst 1, 1) := by decide +kernel
theorem d_XMi_determinant_41 : decode b_XMi_determinant 41 = .ok (.iload_n 1, 1) := by decide +kernel
theorem d_XMi_determinant_42 : decode b_XMi_determinant 42 = .ok (.invokevirtual 83, 3) := by decide +kernel
theorem d_XMi_determinant_45 : decode b_XMi_determinant 45 = .ok (.lmul, 1) := by decide +kernel
theorem d_XMi_determinant_46 : decode b_XMi_determinant 46 = .ok (.ladd, 1) := by decide +kernel
theorem d_XMi_determinant_47 : decode b_XMi_determinant 47 = .ok (.lreturn, 1) := by decide +kernel
theorem d_XMi_solveAlone_0 : decode b_XMi_solveAlone 0 = .ok (.aload_n 0, 1) := by decide +kernel
theorem d_XMi_solveAlone_1 : decode b_XMi_solveAlone 1 = .ok (.iload_n 1, 1) := by decide +kernel
theorem d_XMi_solveAlone_2 : decode b_XMi_solveAlone 2 = .ok (.invokevirtual 67, 3) := by decide +kernel
theorem d_XMi_solveAlone_5 : decode b_XMi_solveAlone 5 = .ok (.aload_n 0, 1) := by decide +kernel
theorem d_XMi_solveAlone_6 : decode b_XMi_solveAlone 6 = .ok (.aload_n 0, 1) := by decide +kernel
theorem d_XMi_solveAlone_7 : decode b_XMi_solveAlone 7 = .ok (.iconst (-1), 1) := by decide +kernel
theorem d_XMi_solveAlone_8 : decode b_XMi_solveAlone 8 = .ok (.invokevirtual 71, 3) := by decide +kernel
theorem d_XMi_solveAlone_11 : decode b_XMi_solveAlone 11 = .ok (.putfield 15, 3) := by decide +kernel
theorem d_XMi_solveAlone_14 : decode b_XMi_solveAlone 14 = .ok (.aload_n 0, 1) := by decide +kernel
theorem d_XMi_solveAlone_15 : decode b_XMi_solveAlone 15 = .ok (.getfield 15, 3) := by decide +kernel
theorem d_XMi_solveAlone_18 : decode b_XMi_solveAlone 18 = .ok (.lconst 0, 1) := by decide +kernel
theorem d_XMi_solveAlone_19 : decode b_XMi_solveAlone 19 = .ok (.lcmp, 1) := by decide +kernel
theorem d_XMi_solveAlone_20 : decode b_XMi_solveAlone 20 = .ok (.ifCond .gt 5, 3) := by decide +kernel
theorem d_XMi_solveAlone_23 : decode b_XMi_solveAlone 23 = .ok (.iconst 0, 1) := by decide +kernel
theorem d_XMi_solveAlone_24 : decode b_XMi_solveAlone 24 = .ok (.ireturn, 1) := by decide +kernel
theorem d_XMi_solveAlone_25 : decode b_XMi_solveAlone 25 = .ok (.iconst 1, 1) := by decide +kernel
theorem d_XMi_solveAlone_26 : decode b_XMi_solveAlone 26 = .ok (.istore_n 2, 1) := by decide +kernel
theorem d_XMi_solveAlone_27 : decode b_XMi_solveAlone 27 = .ok (.iconst 0, 1) := by decide +kernel
theorem d_XMi_solveAlone_28 : decode b_XMi_solveAlone 28 = .ok (.istore_n 3, 1) := by decide +kernel
theorem d_XMi_solveAlone_29 : decode b_XMi_solveAlone 29 = .ok (.iload_n 3, 1) := by decide +kernel
theorem d_XMi_solveAlone_30 : decode b_XMi_solveAlone 30 = .ok (.iconst 3, 1) := by decide +kernel
theorem d_XMi_solveAlone_31 : decode b_XMi_solveAlone 31 = .ok (.if_icmp .ge 41, 3) := by decide +kernel
theorem d_XMi_solveAlone_34 : decode b_XMi_solveAlone 34 = .ok (.aload_n 0, 1) := by decide +kernel
theorem d_XMi_solveAlone_35 : decode b_XMi_solveAlone 35 = .ok (.getfield 9, 3) := by decide +kernel
theorem d_XMi_solveAlone_38 : decode b_XMi_solveAlone 38 = .ok (.iload_n 3, 1) := by decide +kernel
theorem d_XMi_solveAlone_39 : decode b_XMi_solveAlone 39 = .ok (.aload_n 0, 1) := by decide +kernel
theorem d_XMi_solveAlone_40 : decode b_XMi_solveAlone 40 = .ok (.iload_n 3, 1) := by decide +kernel
theorem d_XMi_solveAlone_41 : decode b_XMi_solveAlone 41 = .ok (.invokevirtual 71, 3) := by decide +kernel
theorem d_XMi_solveAlone_44 : decode b_XMi_solveAlone 44 = .ok (.lastore, 1) := by decide +kernel
theorem d_XMi_solveAlone_45 : decode b_XMi_solveAlone 45 = .ok (.iload_n 2, 1) := by decide +kernel
theorem d_XMi_solveAlone_46 : decode b_XMi_solveAlone 46 = .ok (.ifCond .eq 18, 3) := by decide +kernel
theorem d_XMi_solveAlone_49 : decode b_XMi_solveAlone 49 = .ok (.aload_n 0, 1) := by decide +kernel
theorem d_XMi_solveAlone_50 : decode b_XMi_solveAlone 50 = .ok (.getfield 9, 3) := by decide +kernel
theorem d_XMi_solveAlone_53 : decode b_XMi_solveAlone 53 = .ok (.iload_n 3, 1) := by decide +kernel
theorem d_XMi_solveAlone_54 : decode b_XMi_solveAlone 54 = .ok (.laload, 1) := by decide +kernel
theorem d_XMi_solveAlone_55 : decode b_XMi_solveAlone 55 = .ok (.lconst 0, 1) := by decide +kernel
theorem d_XMi_solveAlone_56 : decode b_XMi_solveAlone 56 = .ok (.lcmp, 1) := by decide +kernel
theorem d_XMi_solveAlone_57 : decode b_XMi_solveAlone 57 = .ok (.ifCond .lt 7, 3) := by decide +kernel
theorem d_XMi_solveAlone_60 : decode b_XMi_solveAlone 60 = .ok (.iconst 1, 1) := by decide +kernel
theorem d_XMi_solveAlone_61 : decode b_XMi_solveAlone 61 = .ok (.goto 4, 3) := by decide +kernel
theorem d_XMi_solveAlone_64 : decode b_XMi_solveAlone 64 = .ok (.iconst 0, 1) := by decide +kernel
theorem d_XMi_solveAlone_65 : decode b_XMi_solveAlone 65 = .ok (.istore_n 2, 1) := by decide +kernel
theorem d_XMi_solveAlone_66 : decode b_XMi_solveAlone 66 = .ok (.iinc 3 1, 3) := by decide +kernel
theorem d_XMi_solveAlone_69 : decode b_XMi_solveAlone 69 = .ok (.goto (-40), 3) := by decide +kernel
theorem d_XMi_solveAlone_72 : decode b_XMi_solveAlone 72 = .ok (.iload_n 2, 1) := by decide +kernel
theorem d_XMi_solveAlone_73 : decode b_XMi_solveAlone 73 = .ok (.ireturn, 1) := by decide +kernel
theorem d_XMi_isLeast_0 : decode b_XMi_isLeast 0 = .ok (.iconst 0, 1) := by decide +kernel
theorem d_XMi_isLeast_1 : decode b_XMi_isLeast 1 = .ok (.istore_n 1, 1) := by decide +kernel
theorem d_XMi_isLeast_2 : decode b_XMi_isLeast 2 = .ok (.iload_n 1, 1) := by decide +kernel
theorem d_XMi_isLeast_3 : decode b_XMi_isLeast 3 = .ok (.aload_n 0, 1) := by decide +kernel
theorem d_XMi_isLeast_4 : decode b_XMi_isLeast 4 = .ok (.getfield 19, 3) := by decide +kernel
theorem d_XMi_isLeast_7 : decode b_XMi_isLeast 7 = .ok (.if_icmp .ge 82, 3) := by decide +kernel
theorem d_XMi_isLeast_10 : decode b_XMi_isLeast 10 = .ok (.aload_n 0, 1) := by decide +kernel
theorem d_XMi_isLeast_11 : decode b_XMi_isLeast 11 = .ok (.getfield 32, 3) := by decide +kernel
theorem d_XMi_isLeast_14 : decode b_XMi_isLeast 14 = .ok (.iload_n 1, 1) := by decide +kernel
theorem d_XMi_isLeast_15 : decode b_XMi_isLeast 15 = .ok (.laload, 1) := by decide +kernel
theorem d_XMi_isLeast_16 : decode b_XMi_isLeast 16 = .ok (.lneg, 1) := by decide +kernel
theorem d_XMi_isLeast_17 : decode b_XMi_isLeast 17 = .ok (.aload_n 0, 1) := by decide +kernel
theorem d_XMi_isLeast_18 : decode b_XMi_isLeast 18 = .ok (.getfield 15, 3) := by decide +kernel
theorem d_XMi_isLeast_21 : decode b_XMi_isLeast 21 = .ok (.lmul, 1) := by decide +kernel
theorem d_XMi_isLeast_22 : decode b_XMi_isLeast 22 = .ok (.lstore_n 2, 1) := by decide +kernel
theorem d_XMi_isLeast_23 : decode b_XMi_isLeast 23 = .ok (.iconst 0, 1) := by decide +kernel
theorem d_XMi_isLeast_24 : decode b_XMi_isLeast 24 = .ok (.istore 4, 2) := by decide +kernel
theorem d_XMi_isLeast_26 : decode b_XMi_isLeast 26 = .ok (.iload 4, 2) := by decide +kernel
theorem d_XMi_isLeast_28 : decode b_XMi_isLeast 28 = .ok (.iconst 3, 1) := by decide +kernel
theorem d_XMi_isLeast_29 : decode b_XMi_isLeast 29 = .ok (.if_icmp .ge 29, 3) := by decide +kernel
theorem d_XMi_isLeast_32 : decode b_XMi_isLeast 32 = .ok (.lload_n 2, 1) := by decide +kernel
theorem d_XMi_isLeast_33 : decode b_XMi_isLeast 33 = .ok (.aload_n 0, 1) := by decide +kernel
theorem d_XMi_isLeast_34 : decode b_XMi_isLeast 34 = .ok (.getfield 29, 3) := by decide +kernel
theorem d_XMi_isLeast_37 : decode b_XMi_isLeast 37 = .ok (.iload_n 1, 1) := by decide +kernel
theorem d_XMi_isLeast_38 : decode b_XMi_isLeast 38 = .ok (.aaload, 1) := by decide +kernel
theorem d_XMi_isLeast_39 : decode b_XMi_isLeast 39 = .ok (.iload 4, 2) := by decide +kernel
theorem d_XMi_isLeast_41 : decode b_XMi_isLeast 41 = .ok (.laload, 1) := by decide +kernel
theorem d_XMi_isLeast_42 : decode b_XMi_isLeast 42 = .ok (.aload_n 0, 1) := by decide +kernel
theorem d_XMi_isLeast_43 : decode b_XMi_isLeast 43 = .ok (.getfield 9, 3) := by decide +kernel
theorem d_XMi_isLeast_46 : decode b_XMi_isLeast 46 = .ok (.iload 4, 2) := by decide +kernel
theorem d_XMi_isLeast_48 : decode b_XMi_isLeast 48 = .ok (.laload, 1) := by decide +kernel
theorem d_XMi_isLeast_49 : decode b_XMi_isLeast 49 = .ok (.lmul, 1) := by decide +kernel
theorem d_XMi_isLeast_50 : decode b_XMi_isLeast 50 = .ok (.ladd, 1) := by decide +kernel
theorem d_XMi_isLeast_51 : decode b_XMi_isLeast 51 = .ok (.lstore_n 2, 1) := by decide +kernel
theorem d_XMi_isLeast_52 : decode b_XMi_isLeast 52 = .ok (.iinc 4 1, 3) := by decide +kernel
theorem d_XMi_isLeast_55 : decode b_XMi_isLeast 55 = .ok (.goto (-29), 3) := by decide +kernel
theorem d_XMi_isLeast_58 : decode b_XMi_isLeast 58 = .ok (.lload_n 2, 1) := by decide +kernel
theorem d_XMi_isLeast_59 : decode b_XMi_isLeast 59 = .ok (.lconst 0, 1) := by decide +kernel
theorem d_XMi_isLeast_60 : decode b_XMi_isLeast 60 = .ok (.lcmp, 1) := by decide +kernel
theorem d_XMi_isLeast_61 : decode b_XMi_isLeast 61 = .ok (.ifCond .lt 20, 3) := by decide +kernel
theorem d_XMi_isLeast_64 : decode b_XMi_isLeast 64 = .ok (.lload_n 2, 1) := by decide +kernel
theorem d_XMi_isLeast_65 : decode b_XMi_isLeast 65 = .ok (.lconst 0, 1) := by decide +kernel
theorem d_XMi_isLeast_66 : decode b_XMi_isLeast 66 = .ok (.lcmp, 1) := by decide +kernel
theorem d_XMi_isLeast_67 : decode b_XMi_isLeast 67 = .ok (.ifCond .le 16, 3) := by decide +kernel
theorem d_XMi_isLeast_70 : decode b_XMi_isLeast 70 = .ok (.aload_n 0, 1) := by decide +kernel
theorem d_XMi_isLeast_71 : decode b_XMi_isLeast 71 = .ok (.getfield 9, 3) := by decide +kernel
theorem d_XMi_isLeast_74 : decode b_XMi_isLeast 74 = .ok (.iload_n 1, 1) := by decide +kernel
theorem d_XMi_isLeast_75 : decode b_XMi_isLeast 75 = .ok (.laload, 1) := by decide +kernel
theorem d_XMi_isLeast_76 : decode b_XMi_isLeast 76 = .ok (.lconst 0, 1) := by decide +kernel
theorem d_XMi_isLeast_77 : decode b_XMi_isLeast 77 = .ok (.lcmp, 1) := by decide +kernel
theorem d_XMi_isLeast_78 : decode b_XMi_isLeast 78 = .ok (.ifCond .le 5, 3) := by decide +kernel
theorem d_XMi_isLeast_81 : decode b_XMi_isLeast 81 = .ok (.iconst 0, 1) := by decide +kernel
theorem d_XMi_isLeast_82 : decode b_XMi_isLeast 82 = .ok (.ireturn, 1) := by decide +kernel
theorem d_XMi_isLeast_83 : decode b_XMi_isLeast 83 = .ok (.iinc 1 1, 3) := by decide +kernel
theorem d_XMi_isLeast_86 : decode b_XMi_isLeast 86 = .ok (.goto (-84), 3) := by decide +kernel
theorem d_XMi_isLeast_89 : decode b_XMi_isLeast 89 = .ok (.iconst 1, 1) := by decide +kernel
theorem d_XMi_isLeast_90 : decode b_XMi_isLeast 90 = .ok (.ireturn, 1) := by decide +kernel
theorem d_XMi_solve_0 : decode b_XMi_solve 0 = .ok (.aload_n 0, 1) := by decide +kernel
theorem d_XMi_solve_1 : decode b_XMi_solve 1 = .ok (.iconst 1, 1) := by decide +kernel
theorem d_XMi_solve_2 : decode b_XMi_solve 2 = .ok (.putfield 23, 3) := by decide +kernel
theorem d_XMi_solve_5 : decode b_XMi_solve 5 = .ok (.iconst 0, 1) := by decide +kernel
theorem d_XMi_solve_6 : decode b_XMi_solve 6 = .ok (.istore_n 1, 1) := by decide +kernel
theorem d_XMi_solve_7 : decode b_XMi_solve 7 = .ok (.iload_n 1, 1) := by decide +kernel
theorem d_XMi_solve_8 : decode b_XMi_solve 8 = .ok (.getstatic 55, 3) := by decide +kernel
theorem d_XMi_solve_11 : decode b_XMi_solve 11 = .ok (.arraylength, 1) := by decide +kernel
theorem d_XMi_solve_12 : decode b_XMi_solve 12 = .ok (.if_icmp .ge 42, 3) := by decide +kernel
theorem d_XMi_solve_15 : decode b_XMi_solve 15 = .ok (.getstatic 55, 3) := by decide +kernel
theorem d_XMi_solve_18 : decode b_XMi_solve 18 = .ok (.iload_n 1, 1) := by decide +kernel
theorem d_XMi_solve_19 : decode b_XMi_solve 19 = .ok (.iaload, 1) := by decide +kernel
theorem d_XMi_solve_20 : decode b_XMi_solve 20 = .ok (.istore_n 2, 1) := by decide +kernel
theorem d_XMi_solve_21 : decode b_XMi_solve 21 = .ok (.iload_n 2, 1) := by decide +kernel
theorem d_XMi_solve_22 : decode b_XMi_solve 22 = .ok (.iconst 1, 1) := by decide +kernel
theorem d_XMi_solve_23 : decode b_XMi_solve 23 = .ok (.aload_n 0, 1) := by decide +kernel
theorem d_XMi_solve_24 : decode b_XMi_solve 24 = .ok (.getfield 19, 3) := by decide +kernel
theorem d_XMi_solve_27 : decode b_XMi_solve 27 = .ok (.ishl, 1) := by decide +kernel
theorem d_XMi_solve_28 : decode b_XMi_solve 28 = .ok (.if_icmp .ge 20, 3) := by decide +kernel
theorem d_XMi_solve_31 : decode b_XMi_solve 31 = .ok (.aload_n 0, 1) := by decide +kernel
theorem d_XMi_solve_32 : decode b_XMi_solve 32 = .ok (.iload_n 2, 1) := by decide +kernel
theorem d_XMi_solve_33 : decode b_XMi_solve 33 = .ok (.invokevirtual 59, 3) := by decide +kernel
theorem d_XMi_solve_36 : decode b_XMi_solve 36 = .ok (.ifCond .eq 12, 3) := by decide +kernel
theorem d_XMi_solve_39 : decode b_XMi_solve 39 = .ok (.aload_n 0, 1) := by decide +kernel
theorem d_XMi_solve_40 : decode b_XMi_solve 40 = .ok (.invokevirtual 63, 3) := by decide +kernel
theorem d_XMi_solve_43 : decode b_XMi_solve 43 = .ok (.ifCond .eq 5, 3) := by decide +kernel
theorem d_XMi_solve_46 : decode b_XMi_solve 46 = .ok (.iload_n 2, 1) := by decide +kernel
theorem d_XMi_solve_47 : decode b_XMi_solve 47 = .ok (.ireturn, 1) := by decide +kernel
theorem d_XMi_solve_48 : decode b_XMi_solve 48 = .ok (.iinc 1 1, 3) := by decide +kernel
theorem d_XMi_solve_51 : decode b_XMi_solve 51 = .ok (.goto (-44), 3) := by decide +kernel
theorem d_XMi_solve_54 : decode b_XMi_solve 54 = .ok (.iconst (-1), 1) := by decide +kernel
theorem d_XMi_solve_55 : decode b_XMi_solve 55 = .ok (.ireturn, 1) := by decide +kernel
