theorem d_M_thrown_0 : decode b_M_thrown 0 = .ok (.aload_n 0, 1) := by decide +kernel
theorem d_M_thrown_1 : decode b_M_thrown 1 = .ok (.getfield 61, 3) := by decide +kernel
theorem d_M_thrown_4 : decode b_M_thrown 4 = .ok (.ireturn, 1) := by decide +kernel
theorem d_M_goes_0 : decode b_M_goes 0 = .ok (.aload_n 0, 1) := by decide +kernel
theorem d_M_goes_1 : decode b_M_goes 1 = .ok (.iload_n 1, 1) := by decide +kernel
theorem d_M_goes_2 : decode b_M_goes 2 = .ok (.ifCond .ne 7, 3) := by decide +kernel
theorem d_M_goes_5 : decode b_M_goes 5 = .ok (.iconst 1, 1) := by decide +kernel
theorem d_M_goes_6 : decode b_M_goes 6 = .ok (.goto 20, 3) := by decide +kernel
theorem d_M_goes_9 : decode b_M_goes 9 = .ok (.iload_n 2, 1) := by decide +kernel
theorem d_M_goes_10 : decode b_M_goes 10 = .ok (.ifCond .ne 7, 3) := by decide +kernel
theorem d_M_goes_13 : decode b_M_goes 13 = .ok (.iconst 2, 1) := by decide +kernel
theorem d_M_goes_14 : decode b_M_goes 14 = .ok (.goto 12, 3) := by decide +kernel
theorem d_M_goes_17 : decode b_M_goes 17 = .ok (.iload_n 3, 1) := by decide +kernel
theorem d_M_goes_18 : decode b_M_goes 18 = .ok (.ifCond .ne 7, 3) := by decide +kernel
theorem d_M_goes_21 : decode b_M_goes 21 = .ok (.iconst 3, 1) := by decide +kernel
theorem d_M_goes_22 : decode b_M_goes 22 = .ok (.goto 4, 3) := by decide +kernel
theorem d_M_goes_25 : decode b_M_goes 25 = .ok (.iconst 0, 1) := by decide +kernel
theorem d_M_goes_26 : decode b_M_goes 26 = .ok (.putfield 61, 3) := by decide +kernel
theorem d_M_goes_29 : decode b_M_goes 29 = .ok (.aload_n 0, 1) := by decide +kernel
theorem d_M_goes_30 : decode b_M_goes 30 = .ok (.getfield 61, 3) := by decide +kernel
theorem d_M_goes_33 : decode b_M_goes 33 = .ok (.ifCond .ne 7, 3) := by decide +kernel
theorem d_M_goes_36 : decode b_M_goes 36 = .ok (.iconst 1, 1) := by decide +kernel
theorem d_M_goes_37 : decode b_M_goes 37 = .ok (.goto 4, 3) := by decide +kernel
theorem d_M_goes_40 : decode b_M_goes 40 = .ok (.iconst 0, 1) := by decide +kernel
theorem d_M_goes_41 : decode b_M_goes 41 = .ok (.ireturn, 1) := by decide +kernel
theorem d_M_within_0 : decode b_M_within 0 = .ok (.iload_n 0, 1) := by decide +kernel
theorem d_M_within_1 : decode b_M_within 1 = .ok (.iload_n 1, 1) := by decide +kernel
theorem d_M_within_2 : decode b_M_within 2 = .ok (.if_icmp .lt 12, 3) := by decide +kernel
theorem d_M_within_5 : decode b_M_within 5 = .ok (.iload_n 0, 1) := by decide +kernel
theorem d_M_within_6 : decode b_M_within 6 = .ok (.iload_n 2, 1) := by decide +kernel
theorem d_M_within_7 : decode b_M_within 7 = .ok (.if_icmp .gt 7, 3) := by decide +kernel
theorem d_M_within_10 : decode b_M_within 10 = .ok (.iconst 1, 1) := by decide +kernel
theorem d_M_within_11 : decode b_M_within 11 = .ok (.goto 4, 3) := by decide +kernel
theorem d_M_within_14 : decode b_M_within 14 = .ok (.iconst 0, 1) := by decide +kernel
theorem d_M_within_15 : decode b_M_within 15 = .ok (.ireturn, 1) := by decide +kernel
theorem d_M_isChannel_0 : decode b_M_isChannel 0 = .ok (.iload_n 1, 1) := by decide +kernel
theorem d_M_isChannel_1 : decode b_M_isChannel 1 = .ok (.iconst 0, 1) := by decide +kernel
theorem d_M_isChannel_2 : decode b_M_isChannel 2 = .ok (.aload_n 0, 1) := by decide +kernel
theorem d_M_isChannel_3 : decode b_M_isChannel 3 = .ok (.getfield 58, 3) := by decide +kernel
theorem d_M_isChannel_6 : decode b_M_isChannel 6 = .ok (.iconst 1, 1) := by decide +kernel
theorem d_M_isChannel_7 : decode b_M_isChannel 7 = .ok (.isub, 1) := by decide +kernel
theorem d_M_isChannel_8 : decode b_M_isChannel 8 = .ok (.invokestatic 64, 3) := by decide +kernel
theorem d_M_isChannel_11 : decode b_M_isChannel 11 = .ok (.ireturn, 1) := by decide +kernel
theorem d_M_told_0 : decode b_M_told 0 = .ok (.aload_n 0, 1) := by decide +kernel
theorem d_M_told_1 : decode b_M_told 1 = .ok (.aload_n 0, 1) := by decide +kernel
theorem d_M_told_2 : decode b_M_told 2 = .ok (.iload_n 1, 1) := by decide +kernel
theorem d_M_told_3 : decode b_M_told 3 = .ok (.invokevirtual 68, 3) := by decide +kernel
theorem d_M_told_6 : decode b_M_told 6 = .ok (.iload_n 2, 1) := by decide +kernel
theorem d_M_told_7 : decode b_M_told 7 = .ok (.iconst 0, 1) := by decide +kernel
theorem d_M_told_8 : decode b_M_told 8 = .ok (.sipush 500, 3) := by decide +kernel
theorem d_M_told_11 : decode b_M_told 11 = .ok (.invokestatic 64, 3) := by decide +kernel
theorem d_M_told_14 : decode b_M_told 14 = .ok (.iconst 1, 1) := by decide +kernel
theorem d_M_told_15 : decode b_M_told 15 = .ok (.invokevirtual 72, 3) := by decide +kernel
theorem d_M_told_18 : decode b_M_told 18 = .ok (.ifCond .ne 5, 3) := by decide +kernel
theorem d_M_told_21 : decode b_M_told 21 = .ok (.iconst 0, 1) := by decide +kernel
theorem d_M_told_22 : decode b_M_told 22 = .ok (.ireturn, 1) := by decide +kernel
theorem d_M_told_23 : decode b_M_told 23 = .ok (.aload_n 0, 1) := by decide +kernel
theorem d_M_told_24 : decode b_M_told 24 = .ok (.getfield 7, 3) := by decide +kernel
theorem d_M_told_27 : decode b_M_told 27 = .ok (.iload_n 1, 1) := by decide +kernel
theorem d_M_told_28 : decode b_M_told 28 = .ok (.iaload, 1) := by decide +kernel
theorem d_M_told_29 : decode b_M_told 29 = .ok (.istore_n 3, 1) := by decide +kernel
theorem d_M_told_30 : decode b_M_told 30 = .ok (.aload_n 0, 1) := by decide +kernel
theorem d_M_told_31 : decode b_M_told 31 = .ok (.getfield 7, 3) := by decide +kernel
theorem d_M_told_34 : decode b_M_told 34 = .ok (.iload_n 1, 1) := by decide +kernel
theorem d_M_told_35 : decode b_M_told 35 = .ok (.iload_n 2, 1) := by decide +kernel
theorem d_M_told_36 : decode b_M_told 36 = .ok (.iastore, 1) := by decide +kernel
theorem d_M_told_37 : decode b_M_told 37 = .ok (.iload_n 3, 1) := by decide +kernel
theorem d_M_told_38 : decode b_M_told 38 = .ok (.ireturn, 1) := by decide +kernel
theorem d_M_background_0 : decode b_M_background 0 = .ok (.aload_n 0, 1) := by decide +kernel
theorem d_M_background_1 : decode b_M_background 1 = .ok (.iload_n 1, 1) := by decide +kernel
theorem d_M_background_2 : decode b_M_background 2 = .ok (.iconst 0, 1) := by decide +kernel
theorem d_M_background_3 : decode b_M_background 3 = .ok (.bipush 12, 2) := by decide +kernel
theorem d_M_background_5 : decode b_M_background 5 = .ok (.invokestatic 64, 3) := by decide +kernel
theorem d_M_background_8 : decode b_M_background 8 = .ok (.iconst 1, 1) := by decide +kernel
theorem d_M_background_9 : decode b_M_background 9 = .ok (.iconst 1, 1) := by decide +kernel
theorem d_M_background_10 : decode b_M_background 10 = .ok (.invokevirtual 72, 3) := by decide +kernel
theorem d_M_background_13 : decode b_M_background 13 = .ok (.ifCond .ne 5, 3) := by decide +kernel
theorem d_M_background_16 : decode b_M_background 16 = .ok (.iconst 0, 1) := by decide +kernel
theorem d_M_background_17 : decode b_M_background 17 = .ok (.ireturn, 1) := by decide +kernel
theorem d_M_background_18 : decode b_M_background 18 = .ok (.iconst 0, 1) := by decide +kernel
theorem d_M_background_19 : decode b_M_background 19 = .ok (.istore_n 2, 1) := by decide +kernel
theorem d_M_background_20 : decode b_M_background 20 = .ok (.iload_n 2, 1) := by decide +kernel
theorem d_M_background_21 : decode b_M_background 21 = .ok (.aload_n 0, 1) := by decide +kernel
theorem d_M_background_22 : decode b_M_background 22 = .ok (.getfield 58, 3) := by decide +kernel
theorem d_M_background_25 : decode b_M_background 25 = .ok (.if_icmp .ge 21, 3) := by decide +kernel
theorem d_M_background_28 : decode b_M_background 28 = .ok (.aload_n 0, 1) := by decide +kernel
theorem d_M_background_29 : decode b_M_background 29 = .ok (.getfield 13, 3) := by decide +kernel
theorem d_M_background_32 : decode b_M_background 32 = .ok (.iload_n 2, 1) := by decide +kernel
theorem d_M_background_33 : decode b_M_background 33 = .ok (.aload_n 0, 1) := by decide +kernel
theorem d_M_background_34 : decode b_M_background 34 = .ok (.getfield 7, 3) := by decide +kernel
theorem d_M_background_37 : decode b_M_background 37 = .ok (.iload_n 2, 1) := by decide +kernel
theorem d_M_background_38 : decode b_M_background 38 = .ok (.iaload, 1) := by decide +kernel
theorem d_M_background_39 : decode b_M_background 39 = .ok (.iastore, 1) := by decide +kernel
theorem d_M_background_40 : decode b_M_background 40 = .ok (.iinc 2 1, 3) := by decide +kernel
theorem d_M_background_43 : decode b_M_background 43 = .ok (.goto (-23), 3) := by decide +kernel
theorem d_M_background_46 : decode b_M_background 46 = .ok (.iconst 1, 1) := by decide +kernel
theorem d_M_background_47 : decode b_M_background 47 = .ok (.istore_n 2, 1) := by decide +kernel
theorem d_M_background_48 : decode b_M_background 48 = .ok (.iload_n 2, 1) := by decide +kernel
theorem d_M_background_49 : decode b_M_background 49 = .ok (.iload_n 1, 1) := by decide +kernel
theorem d_M_background_50 : decode b_M_background 50 = .ok (.if_icmp .gt 131, 3) := by decide +kernel
theorem d_M_background_53 : decode b_M_background 53 = .ok (.iconst 0, 1) := by decide +kernel
theorem d_M_background_54 : decode b_M_background 54 = .ok (.istore_n 3, 1) := by decide +kernel
theorem d_M_background_55 : decode b_M_background 55 = .ok (.iload_n 3, 1) := by decide +kernel
theorem d_M_background_56 : decode b_M_background 56 = .ok (.aload_n 0, 1) := by decide +kernel
theorem d_M_background_57 : decode b_M_background 57 = .ok (.getfield 58, 3) := by decide +kernel
theorem d_M_background_60 : decode b_M_background 60 = .ok (.if_icmp .ge 87, 3) := by decide +kernel
theorem d_M_background_63 : decode b_M_background 63 = .ok (.aload_n 0, 1) := by decide +kernel
theorem d_M_background_64 : decode b_M_background 64 = .ok (.iload_n 3, 1) := by decide +kernel
theorem d_M_background_65 : decode b_M_background 65 = .ok (.iload_n 2, 1) := by decide +kernel
theorem d_M_background_66 : decode b_M_background 66 = .ok (.isub, 1) := by decide +kernel
theorem d_M_background_67 : decode b_M_background 67 = .ok (.invokevirtual 68, 3) := by decide +kernel
theorem d_M_background_70 : decode b_M_background 70 = .ok (.ifCond .eq 35, 3) := by decide +kernel
theorem d_M_background_73 : decode b_M_background 73 = .ok (.aload_n 0, 1) := by decide +kernel
theorem d_M_background_74 : decode b_M_background 74 = .ok (.iload_n 3, 1) := by decide +kernel
theorem d_M_background_75 : decode b_M_background 75 = .ok (.iload_n 2, 1) := by decide +kernel
theorem d_M_background_76 : decode b_M_background 76 = .ok (.iadd, 1) := by decide +kernel
theorem d_M_background_77 : decode b_M_background 77 = .ok (.invokevirtual 68, 3) := by decide +kernel
theorem d_M_background_80 : decode b_M_background 80 = .ok (.ifCond .eq 25, 3) := by decide +kernel
theorem d_M_background_83 : decode b_M_background 83 = .ok (.aload_n 0, 1) := by decide +kernel
theorem d_M_background_84 : decode b_M_background 84 = .ok (.getfield 13, 3) := by decide +kernel
theorem d_M_background_87 : decode b_M_background 87 = .ok (.iload_n 3, 1) := by decide +kernel
theorem d_M_background_88 : decode b_M_background 88 = .ok (.iload_n 2, 1) := by decide +kernel
theorem d_M_background_89 : decode b_M_background 89 = .ok (.isub, 1) := by decide +kernel
theorem d_M_background_90 : decode b_M_background 90 = .ok (.iaload, 1) := by decide +kernel
theorem d_M_background_91 : decode b_M_background 91 = .ok (.aload_n 0, 1) := by decide +kernel
theorem d_M_background_92 : decode b_M_background 92 = .ok (.getfield 13, 3) := by decide +kernel
theorem d_M_background_95 : decode b_M_background 95 = .ok (.iload_n 3, 1) := by decide +kernel
theorem d_M_background_96 : decode b_M_background 96 = .ok (.iload_n 2, 1) := by decide +kernel
theorem d_M_background_97 : decode b_M_background 97 = .ok (.iadd, 1) := by decide +kernel
theorem d_M_background_98 : decode b_M_background 98 = .ok (.iaload, 1) := by decide +kernel
theorem d_M_background_99 : decode b_M_background 99 = .ok (.iadd, 1) := by decide +kernel
theorem d_M_background_100 : decode b_M_background 100 = .ok (.iconst 2, 1) := by decide +kernel
theorem d_M_background_101 : decode b_M_background 101 = .ok (.idiv, 1) := by decide +kernel
theorem d_M_background_102 : decode b_M_background 102 = .ok (.goto 9, 3) := by decide +kernel
theorem d_M_background_105 : decode b_M_background 105 = .ok (.aload_n 0, 1) := by decide +kernel
theorem d_M_background_106 : decode b_M_background 106 = .ok (.getfield 13, 3) := by decide +kernel
theorem d_M_background_109 : decode b_M_background 109 = .ok (.iload_n 3, 1) := by decide +kernel
theorem d_M_background_110 : decode b_M_background 110 = .ok (.iaload, 1) := by decide +kernel
theorem d_M_background_111 : decode b_M_background 111 = .ok (.istore 4, 2) := by decide +kernel
theorem d_M_background_113 : decode b_M_background 113 = .ok (.aload_n 0, 1) := by decide +kernel
theorem d_M_background_114 : decode b_M_background 114 = .ok (.getfield 16, 3) := by decide +kernel
theorem d_M_background_117 : decode b_M_background 117 = .ok (.iload_n 3, 1) := by decide +kernel
theorem d_M_background_118 : decode b_M_background 118 = .ok (.iload 4, 2) := by decide +kernel
theorem d_M_background_120 : decode b_M_background 120 = .ok (.aload_n 0, 1) := by decide +kernel
theorem d_M_background_121 : decode b_M_background 121 = .ok (.getfield 13, 3) := by decide +kernel
theorem d_M_background_124 : decode b_M_background 124 = .ok (.iload_n 3, 1) := by decide +kernel
theorem d_M_background_125 : decode b_M_background 125 = .ok (.iaload, 1) := by decide +kernel
theorem d_M_background_126 : decode b_M_background 126 = .ok (.if_icmp .ge 8, 3) := by decide +kernel
theorem d_M_background_129 : decode b_M_background 129 = .ok (.iload 4, 2) := by decide +kernel
theorem d_M_background_131 : decode b_M_background 131 = .ok (.goto 9, 3) := by decide +kernel
theorem d_M_background_134 : decode b_M_background 134 = .ok (.aload_n 0, 1) := by decide +kernel
theorem d_M_background_135 : decode b_M_background 135 = .ok (.getfield 13, 3) := by decide +kernel
theorem d_M_background_138 : decode b_M_background 138 = .ok (.iload_n 3, 1) := by decide +kernel
theorem d_M_background_139 : decode b_M_background 139 = .ok (.iaload, 1) := by decide +kernel
theorem d_M_background_140 : decode b_M_background 140 = .ok (.iastore, 1) := by decide +kernel
theorem d_M_background_141 : decode b_M_background 141 = .ok (.iinc 3 1, 3) := by decide +kernel
theorem d_M_background_144 : decode b_M_background 144 = .ok (.goto (-89), 3) := by decide +kernel
theorem d_M_background_147 : decode b_M_background 147 = .ok (.iconst 0, 1) := by decide +kernel
theorem d_M_background_148 : decode b_M_background 148 = .ok (.istore_n 3, 1) := by decide +kernel
theorem d_M_background_149 : decode b_M_background 149 = .ok (.iload_n 3, 1) := by decide +kernel
theorem d_M_background_150 : decode b_M_background 150 = .ok (.aload_n 0, 1) := by decide +kernel
theorem d_M_background_151 : decode b_M_background 151 = .ok (.getfield 58, 3) := by decide +kernel
theorem d_M_background_154 : decode b_M_background 154 = .ok (.if_icmp .ge 21, 3) := by decide +kernel
theorem d_M_background_157 : decode b_M_background 157 = .ok (.aload_n 0, 1) := by decide +kernel
theorem d_M_background_158 : decode b_M_background 158 = .ok (.getfield 13, 3) := by decide +kernel
theorem d_M_background_161 : decode b_M_background 161 = .ok (.iload_n 3, 1) := by decide +kernel
theorem d_M_background_162 : decode b_M_background 162 = .ok (.aload_n 0, 1) := by decide +kernel
theorem d_M_background_163 : decode b_M_background 163 = .ok (.getfield 16, 3) := by decide +kernel
theorem d_M_background_166 : decode b_M_background 166 = .ok (.iload_n 3, 1) := by decide +kernel
theorem d_M_background_167 : decode b_M_background 167 = .ok (.iaload, 1) := by decide +kernel
theorem d_M_background_168 : decode b_M_background 168 = .ok (.iastore, 1) := by decide +kernel
theorem d_M_background_169 : decode b_M_background 169 = .ok (.iinc 3 1, 3) := by decide +kernel
theorem d_M_background_172 : decode b_M_background 172 = .ok (.goto (-23), 3) := by decide +kernel
theorem d_M_background_175 : decode b_M_background 175 = .ok (.iinc 2 1, 3) := by decide +kernel
theorem d_M_background_178 : decode b_M_background 178 = .ok (.goto (-130), 3) := by decide +kernel
theorem d_M_background_181 : decode b_M_background 181 = .ok (.iconst 0, 1) := by decide +kernel
theorem d_M_background_182 : decode b_M_background 182 = .ok (.istore_n 2, 1) := by decide +kernel
theorem d_M_background_183 : decode b_M_background 183 = .ok (.iconst 0, 1) := by decide +kernel
theorem d_M_background_184 : decode b_M_background 184 = .ok (.istore_n 3, 1) := by decide +kernel
theorem d_M_background_185 : decode b_M_background 185 = .ok (.iload_n 3, 1) := by decide +kernel
theorem d_M_background_186 : decode b_M_background 186 = .ok (.aload_n 0, 1) := by decide +kernel
theorem d_M_background_187 : decode b_M_background 187 = .ok (.getfield 58, 3) := by decide +kernel
theorem d_M_background_190 : decode b_M_background 190 = .ok (.if_icmp .ge 18, 3) := by decide +kernel
theorem d_M_background_193 : decode b_M_background 193 = .ok (.iload_n 2, 1) := by decide +kernel
theorem d_M_background_194 : decode b_M_background 194 = .ok (.aload_n 0, 1) := by decide +kernel
theorem d_M_background_195 : decode b_M_background 195 = .ok (.getfield 13, 3) := by decide +kernel
theorem d_M_background_198 : decode b_M_background 198 = .ok (.iload_n 3, 1) := by decide +kernel
theorem d_M_background_199 : decode b_M_background 199 = .ok (.iaload, 1) := by decide +kernel
theorem d_M_background_200 : decode b_M_background 200 = .ok (.iadd, 1) := by decide +kernel
theorem d_M_background_201 : decode b_M_background 201 = .ok (.istore_n 2, 1) := by decide +kernel
theorem d_M_background_202 : decode b_M_background 202 = .ok (.iinc 3 1, 3) := by decide +kernel
theorem d_M_background_205 : decode b_M_background 205 = .ok (.goto (-20), 3) := by decide +kernel
theorem d_M_background_208 : decode b_M_background 208 = .ok (.iload_n 2, 1) := by decide +kernel
theorem d_M_background_209 : decode b_M_background 209 = .ok (.ireturn, 1) := by decide +kernel
theorem d_M_lowered_0 : decode b_M_lowered 0 = .ok (.aload_n 0, 1) := by decide +kernel
theorem d_M_lowered_1 : decode b_M_lowered 1 = .ok (.aload_n 0, 1) := by decide +kernel
theorem d_M_lowered_2 : decode b_M_lowered 2 = .ok (.iload_n 1, 1) := by decide +kernel
theorem d_M_lowered_3 : decode b_M_lowered 3 = .ok (.invokevirtual 68, 3) := by decide +kernel
theorem d_M_lowered_6 : decode b_M_lowered 6 = .ok (.iconst 1, 1) := by decide +kernel
theorem d_M_lowered_7 : decode b_M_lowered 7 = .ok (.iconst 1, 1) := by decide +kernel
theorem d_M_lowered_8 : decode b_M_lowered 8 = .ok (.invokevirtual 72, 3) := by decide +kernel
theorem d_M_lowered_11 : decode b_M_lowered 11 = .ok (.ifCond .eq 12, 3) := by decide +kernel
theorem d_M_lowered_14 : decode b_M_lowered 14 = .ok (.aload_n 0, 1) := by decide +kernel
theorem d_M_lowered_15 : decode b_M_lowered 15 = .ok (.getfield 13, 3) := by decide +kernel
theorem d_M_lowered_18 : decode b_M_lowered 18 = .ok (.iload_n 1, 1) := by decide +kernel
theorem d_M_lowered_19 : decode b_M_lowered 19 = .ok (.iaload, 1) := by decide +kernel
theorem d_M_lowered_20 : decode b_M_lowered 20 = .ok (.goto 4, 3) := by decide +kernel
theorem d_M_lowered_23 : decode b_M_lowered 23 = .ok (.iconst 0, 1) := by decide +kernel
theorem d_M_lowered_24 : decode b_M_lowered 24 = .ok (.ireturn, 1) := by decide +kernel
theorem d_M_net_0 : decode b_M_net 0 = .ok (.aload_n 0, 1) := by decide +kernel
theorem d_M_net_1 : decode b_M_net 1 = .ok (.getfield 7, 3) := by decide +kernel
theorem d_M_net_4 : decode b_M_net 4 = .ok (.iload_n 1, 1) := by decide +kernel
theorem d_M_net_5 : decode b_M_net 5 = .ok (.iaload, 1) := by decide +kernel
theorem d_M_net_6 : decode b_M_net 6 = .ok (.aload_n 0, 1) := by decide +kernel
theorem d_M_net_7 : decode b_M_net 7 = .ok (.getfield 13, 3) := by decide +kernel
theorem d_M_net_10 : decode b_M_net 10 = .ok (.iload_n 1, 1) := by decide +kernel
theorem d_M_net_11 : decode b_M_net 11 = .ok (.iaload, 1) := by decide +kernel
theorem d_M_net_12 : decode b_M_net 12 = .ok (.if_icmp .le 19, 3) := by decide +kernel
theorem d_M_net_15 : decode b_M_net 15 = .ok (.aload_n 0, 1) := by decide +kernel
theorem d_M_net_16 : decode b_M_net 16 = .ok (.getfield 7, 3) := by decide +kernel
theorem d_M_net_19 : decode b_M_net 19 = .ok (.iload_n 1, 1) := by decide +kernel
theorem d_M_net_20 : decode b_M_net 20 = .ok (.iaload, 1) := by decide +kernel
theorem d_M_net_21 : decode b_M_net 21 = .ok (.aload_n 0, 1) := by decide +kernel
theorem d_M_net_22 : decode b_M_net 22 = .ok (.getfield 13, 3) := by decide +kernel
theorem d_M_net_25 : decode b_M_net 25 = .ok (.iload_n 1, 1) := by decide +kernel
theorem d_M_net_26 : decode b_M_net 26 = .ok (.iaload, 1) := by decide +kernel
theorem d_M_net_27 : decode b_M_net 27 = .ok (.isub, 1) := by decide +kernel
theorem d_M_net_28 : decode b_M_net 28 = .ok (.goto 4, 3) := by decide +kernel
theorem d_M_net_31 : decode b_M_net 31 = .ok (.iconst 0, 1) := by decide +kernel
theorem d_M_net_32 : decode b_M_net 32 = .ok (.ireturn, 1) := by decide +kernel
theorem d_M_isPeak_0 : decode b_M_isPeak 0 = .ok (.iload_n 1, 1) := by decide +kernel
theorem d_M_isPeak_1 : decode b_M_isPeak 1 = .ok (.ifCond .eq 18, 3) := by decide +kernel
theorem d_M_isPeak_4 : decode b_M_isPeak 4 = .ok (.aload_n 0, 1) := by decide +kernel
theorem d_M_isPeak_5 : decode b_M_isPeak 5 = .ok (.iload_n 1, 1) := by decide +kernel
theorem d_M_isPeak_6 : decode b_M_isPeak 6 = .ok (.invokevirtual 76, 3) := by decide +kernel
theorem d_M_isPeak_9 : decode b_M_isPeak 9 = .ok (.aload_n 0, 1) := by decide +kernel
theorem d_M_isPeak_10 : decode b_M_isPeak 10 = .ok (.iload_n 1, 1) := by decide +kernel
theorem d_M_isPeak_11 : decode b_M_isPeak 11 = .ok (.iconst 1, 1) := by decide +kernel
theorem d_M_isPeak_12 : decode b_M_isPeak 12 = .ok (.isub, 1) := by decide +kernel
theorem d_M_isPeak_13 : decode b_M_isPeak 13 = .ok (.invokevirtual 76, 3) := by decide +kernel
theorem d_M_isPeak_16 : decode b_M_isPeak 16 = .ok (.if_icmp .le 7, 3) := by decide +kernel
theorem d_M_isPeak_19 : decode b_M_isPeak 19 = .ok (.iconst 1, 1) := by decide +kernel
theorem d_M_isPeak_20 : decode b_M_isPeak 20 = .ok (.goto 4, 3) := by decide +kernel
theorem d_M_isPeak_23 : decode b_M_isPeak 23 = .ok (.iconst 0, 1) := by decide +kernel
theorem d_M_isPeak_24 : decode b_M_isPeak 24 = .ok (.istore_n 3, 1) := by decide +kernel
theorem d_M_isPeak_25 : decode b_M_isPeak 25 = .ok (.iload_n 1, 1) := by decide +kernel
theorem d_M_isPeak_26 : decode b_M_isPeak 26 = .ok (.aload_n 0, 1) := by decide +kernel
theorem d_M_isPeak_27 : decode b_M_isPeak 27 = .ok (.getfield 58, 3) := by decide +kernel
theorem d_M_isPeak_30 : decode b_M_isPeak 30 = .ok (.iconst 1, 1) := by decide +kernel
theorem d_M_isPeak_31 : decode b_M_isPeak 31 = .ok (.isub, 1) := by decide +kernel
theorem d_M_isPeak_32 : decode b_M_isPeak 32 = .ok (.if_icmp .eq 18, 3) := by decide +kernel
theorem d_M_isPeak_35 : decode b_M_isPeak 35 = .ok (.aload_n 0, 1) := by decide +kernel
theorem d_M_isPeak_36 : decode b_M_isPeak 36 = .ok (.iload_n 1, 1) := by decide +kernel
theorem d_M_isPeak_37 : decode b_M_isPeak 37 = .ok (.invokevirtual 76, 3) := by decide +kernel
theorem d_M_isPeak_40 : decode b_M_isPeak 40 = .ok (.aload_n 0, 1) := by decide +kernel
theorem d_M_isPeak_41 : decode b_M_isPeak 41 = .ok (.iload_n 1, 1) := by decide +kernel
theorem d_M_isPeak_42 : decode b_M_isPeak 42 = .ok (.iconst 1, 1) := by decide +kernel
theorem d_M_isPeak_43 : decode b_M_isPeak 43 = .ok (.iadd, 1) := by decide +kernel
theorem d_M_isPeak_44 : decode b_M_isPeak 44 = .ok (.invokevirtual 76, 3) := by decide +kernel
theorem d_M_isPeak_47 : decode b_M_isPeak 47 = .ok (.if_icmp .lt 7, 3) := by decide +kernel
theorem d_M_isPeak_50 : decode b_M_isPeak 50 = .ok (.iconst 1, 1) := by decide +kernel
theorem d_M_isPeak_51 : decode b_M_isPeak 51 = .ok (.goto 4, 3) := by decide +kernel
theorem d_M_isPeak_54 : decode b_M_isPeak 54 = .ok (.iconst 0, 1) := by decide +kernel
theorem d_M_isPeak_55 : decode b_M_isPeak 55 = .ok (.istore 4, 2) := by decide +kernel
theorem d_M_isPeak_57 : decode b_M_isPeak 57 = .ok (.aload_n 0, 1) := by decide +kernel
theorem d_M_isPeak_58 : decode b_M_isPeak 58 = .ok (.iload_n 1, 1) := by decide +kernel
theorem d_M_isPeak_59 : decode b_M_isPeak 59 = .ok (.invokevirtual 76, 3) := by decide +kernel
theorem d_M_isPeak_62 : decode b_M_isPeak 62 = .ok (.iload_n 2, 1) := by decide +kernel
theorem d_M_isPeak_63 : decode b_M_isPeak 63 = .ok (.if_icmp .le 16, 3) := by decide +kernel
theorem d_M_isPeak_66 : decode b_M_isPeak 66 = .ok (.iload_n 3, 1) := by decide +kernel
theorem d_M_isPeak_67 : decode b_M_isPeak 67 = .ok (.ifCond .eq 12, 3) := by decide +kernel
theorem d_M_isPeak_70 : decode b_M_isPeak 70 = .ok (.iload 4, 2) := by decide +kernel
theorem d_M_isPeak_72 : decode b_M_isPeak 72 = .ok (.ifCond .eq 7, 3) := by decide +kernel
theorem d_M_isPeak_75 : decode b_M_isPeak 75 = .ok (.iconst 1, 1) := by decide +kernel
theorem d_M_isPeak_76 : decode b_M_isPeak 76 = .ok (.goto 4, 3) := by decide +kernel
theorem d_M_isPeak_79 : decode b_M_isPeak 79 = .ok (.iconst 0, 1) := by decide +kernel
theorem d_M_isPeak_80 : decode b_M_isPeak 80 = .ok (.ireturn, 1) := by decide +kernel
theorem d_M_add_0 : decode b_M_add 0 = .ok (.iload_n 1, 1) := by decide +kernel
theorem d_M_add_1 : decode b_M_add 1 = .ok (.istore_n 2, 1) := by decide +kernel
theorem d_M_add_2 : decode b_M_add 2 = .ok (.iload_n 1, 1) := by decide +kernel
theorem d_M_add_3 : decode b_M_add 3 = .ok (.istore_n 3, 1) := by decide +kernel
theorem d_M_add_4 : decode b_M_add 4 = .ok (.iload_n 2, 1) := by decide +kernel
theorem d_M_add_5 : decode b_M_add 5 = .ok (.ifCond .le 34, 3) := by decide +kernel
theorem d_M_add_8 : decode b_M_add 8 = .ok (.aload_n 0, 1) := by decide +kernel
theorem d_M_add_9 : decode b_M_add 9 = .ok (.iload_n 2, 1) := by decide +kernel
theorem d_M_add_10 : decode b_M_add 10 = .ok (.iconst 1, 1) := by decide +kernel
theorem d_M_add_11 : decode b_M_add 11 = .ok (.isub, 1) := by decide +kernel
theorem d_M_add_12 : decode b_M_add 12 = .ok (.invokevirtual 76, 3) := by decide +kernel
theorem d_M_add_15 : decode b_M_add 15 = .ok (.ifCond .le 24, 3) := by decide +kernel
theorem d_M_add_18 : decode b_M_add 18 = .ok (.aload_n 0, 1) := by decide +kernel
theorem d_M_add_19 : decode b_M_add 19 = .ok (.iload_n 2, 1) := by decide +kernel
theorem d_M_add_20 : decode b_M_add 20 = .ok (.iconst 1, 1) := by decide +kernel
theorem d_M_add_21 : decode b_M_add 21 = .ok (.isub, 1) := by decide +kernel
theorem d_M_add_22 : decode b_M_add 22 = .ok (.invokevirtual 76, 3) := by decide +kernel
theorem d_M_add_25 : decode b_M_add 25 = .ok (.aload_n 0, 1) := by decide +kernel
theorem d_M_add_26 : decode b_M_add 26 = .ok (.iload_n 2, 1) := by decide +kernel
theorem d_M_add_27 : decode b_M_add 27 = .ok (.invokevirtual 76, 3) := by decide +kernel
theorem d_M_add_30 : decode b_M_add 30 = .ok (.if_icmp .ge 9, 3) := by decide +kernel
theorem d_M_add_33 : decode b_M_add 33 = .ok (.iinc 2 (-1), 3) := by decide +kernel
theorem d_M_add_36 : decode b_M_add 36 = .ok (.goto (-32), 3) := by decide +kernel
theorem d_M_add_39 : decode b_M_add 39 = .ok (.iload_n 3, 1) := by decide +kernel
theorem d_M_add_40 : decode b_M_add 40 = .ok (.aload_n 0, 1) := by decide +kernel
theorem d_M_add_41 : decode b_M_add 41 = .ok (.getfield 58, 3) := by decide +kernel
theorem d_M_add_44 : decode b_M_add 44 = .ok (.iconst 1, 1) := by decide +kernel
theorem d_M_add_45 : decode b_M_add 45 = .ok (.isub, 1) := by decide +kernel
theorem d_M_add_46 : decode b_M_add 46 = .ok (.if_icmp .ge 34, 3) := by decide +kernel
theorem d_M_add_49 : decode b_M_add 49 = .ok (.aload_n 0, 1) := by decide +kernel
theorem d_M_add_50 : decode b_M_add 50 = .ok (.iload_n 3, 1) := by decide +kernel
theorem d_M_add_51 : decode b_M_add 51 = .ok (.iconst 1, 1) := by decide +kernel
theorem d_M_add_52 : decode b_M_add 52 = .ok (.iadd, 1) := by decide +kernel
theorem d_M_add_53 : decode b_M_add 53 = .ok (.invokevirtual 76, 3) := by decide +kernel
theorem d_M_add_56 : decode b_M_add 56 = .ok (.ifCond .le 24, 3) := by decide +kernel
theorem d_M_add_59 : decode b_M_add 59 = .ok (.aload_n 0, 1) := by decide +kernel
theorem d_M_add_60 : decode b_M_add 60 = .ok (.iload_n 3, 1) := by decide +kernel
theorem d_M_add_61 : decode b_M_add 61 = .ok (.iconst 1, 1) := by decide +kernel
theorem d_M_add_62 : decode b_M_add 62 = .ok (.iadd, 1) := by decide +kernel
theorem d_M_add_63 : decode b_M_add 63 = .ok (.invokevirtual 76, 3) := by decide +kernel
theorem d_M_add_66 : decode b_M_add 66 = .ok (.aload_n 0, 1) := by decide +kernel
theorem d_M_add_67 : decode b_M_add 67 = .ok (.iload_n 3, 1) := by decide +kernel
theorem d_M_add_68 : decode b_M_add 68 = .ok (.invokevirtual 76, 3) := by decide +kernel
theorem d_M_add_71 : decode b_M_add 71 = .ok (.if_icmp .gt 9, 3) := by decide +kernel
theorem d_M_add_74 : decode b_M_add 74 = .ok (.iinc 3 1, 3) := by decide +kernel
theorem d_M_add_77 : decode b_M_add 77 = .ok (.goto (-38), 3) := by decide +kernel
theorem d_M_add_80 : decode b_M_add 80 = .ok (.iconst 0, 1) := by decide +kernel
theorem d_M_add_81 : decode b_M_add 81 = .ok (.istore 4, 2) := by decide +kernel
theorem d_M_add_83 : decode b_M_add 83 = .ok (.iload_n 2, 1) := by decide +kernel
theorem d_M_add_84 : decode b_M_add 84 = .ok (.istore 5, 2) := by decide +kernel
theorem d_M_add_86 : decode b_M_add 86 = .ok (.iload 5, 2) := by decide +kernel
theorem d_M_add_88 : decode b_M_add 88 = .ok (.iload_n 3, 1) := by decide +kernel
theorem d_M_add_89 : decode b_M_add 89 = .ok (.if_icmp .gt 20, 3) := by decide +kernel
theorem d_M_add_92 : decode b_M_add 92 = .ok (.iload 4, 2) := by decide +kernel
theorem d_M_add_94 : decode b_M_add 94 = .ok (.aload_n 0, 1) := by decide +kernel
theorem d_M_add_95 : decode b_M_add 95 = .ok (.iload 5, 2) := by decide +kernel
theorem d_M_add_97 : decode b_M_add 97 = .ok (.invokevirtual 76, 3) := by decide +kernel
theorem d_M_add_100 : decode b_M_add 100 = .ok (.iadd, 1) := by decide +kernel
theorem d_M_add_101 : decode b_M_add 101 = .ok (.istore 4, 2) := by decide +kernel
theorem d_M_add_103 : decode b_M_add 103 = .ok (.iinc 5 1, 3) := by decide +kernel
theorem d_M_add_106 : decode b_M_add 106 = .ok (.goto (-20), 3) := by decide +kernel
theorem d_M_add_109 : decode b_M_add 109 = .ok (.aload_n 0, 1) := by decide +kernel
theorem d_M_add_110 : decode b_M_add 110 = .ok (.getfield 19, 3) := by decide +kernel
theorem d_M_add_113 : decode b_M_add 113 = .ok (.iconst 5, 1) := by decide +kernel
theorem d_M_add_114 : decode b_M_add 114 = .ok (.aload_n 0, 1) := by decide +kernel
theorem d_M_add_115 : decode b_M_add 115 = .ok (.getfield 80, 3) := by decide +kernel
theorem d_M_add_118 : decode b_M_add 118 = .ok (.imul, 1) := by decide +kernel
theorem d_M_add_119 : decode b_M_add 119 = .ok (.iload_n 1, 1) := by decide +kernel
theorem d_M_add_120 : decode b_M_add 120 = .ok (.iastore, 1) := by decide +kernel
theorem d_M_add_121 : decode b_M_add 121 = .ok (.aload_n 0, 1) := by decide +kernel
theorem d_M_add_122 : decode b_M_add 122 = .ok (.getfield 19, 3) := by decide +kernel
theorem d_M_add_125 : decode b_M_add 125 = .ok (.iconst 5, 1) := by decide +kernel
theorem d_M_add_126 : decode b_M_add 126 = .ok (.aload_n 0, 1) := by decide +kernel
theorem d_M_add_127 : decode b_M_add 127 = .ok (.getfield 80, 3) := by decide +kernel
theorem d_M_add_130 : decode b_M_add 130 = .ok (.imul, 1) := by decide +kernel
theorem d_M_add_131 : decode b_M_add 131 = .ok (.iconst 1, 1) := by decide +kernel
theorem d_M_add_132 : decode b_M_add 132 = .ok (.iadd, 1) := by decide +kernel
theorem d_M_add_133 : decode b_M_add 133 = .ok (.aload_n 0, 1) := by decide +kernel
theorem d_M_add_134 : decode b_M_add 134 = .ok (.iload_n 1, 1) := by decide +kernel
theorem d_M_add_135 : decode b_M_add 135 = .ok (.invokevirtual 76, 3) := by decide +kernel
theorem d_M_add_138 : decode b_M_add 138 = .ok (.iastore, 1) := by decide +kernel
theorem d_M_add_139 : decode b_M_add 139 = .ok (.aload_n 0, 1) := by decide +kernel
theorem d_M_add_140 : decode b_M_add 140 = .ok (.getfield 19, 3) := by decide +kernel
theorem d_M_add_143 : decode b_M_add 143 = .ok (.iconst 5, 1) := by decide +kernel
theorem d_M_add_144 : decode b_M_add 144 = .ok (.aload_n 0, 1) := by decide +kernel
theorem d_M_add_145 : decode b_M_add 145 = .ok (.getfield 80, 3) := by decide +kernel
theorem d_M_add_148 : decode b_M_add 148 = .ok (.imul, 1) := by decide +kernel
theorem d_M_add_149 : decode b_M_add 149 = .ok (.iconst 2, 1) := by decide +kernel
theorem d_M_add_150 : decode b_M_add 150 = .ok (.iadd, 1) := by decide +kernel
theorem d_M_add_151 : decode b_M_add 151 = .ok (.iload 4, 2) := by decide +kernel
theorem d_M_add_153 : decode b_M_add 153 = .ok (.iastore, 1) := by decide +kernel
theorem d_M_add_154 : decode b_M_add 154 = .ok (.aload_n 0, 1) := by decide +kernel
theorem d_M_add_155 : decode b_M_add 155 = .ok (.getfield 19, 3) := by decide +kernel
theorem d_M_add_158 : decode b_M_add 158 = .ok (.iconst 5, 1) := by decide +kernel
theorem d_M_add_159 : decode b_M_add 159 = .ok (.aload_n 0, 1) := by decide +kernel
theorem d_M_add_160 : decode b_M_add 160 = .ok (.getfield 80, 3) := by decide +kernel
theorem d_M_add_163 : decode b_M_add 163 = .ok (.imul, 1) := by decide +kernel
theorem d_M_add_164 : decode b_M_add 164 = .ok (.iconst 3, 1) := by decide +kernel
theorem d_M_add_165 : decode b_M_add 165 = .ok (.iadd, 1) := by decide +kernel
theorem d_M_add_166 : decode b_M_add 166 = .ok (.iload_n 2, 1) := by decide +kernel
theorem d_M_add_167 : decode b_M_add 167 = .ok (.iastore, 1) := by decide +kernel
theorem d_M_add_168 : decode b_M_add 168 = .ok (.aload_n 0, 1) := by decide +kernel
theorem d_M_add_169 : decode b_M_add 169 = .ok (.getfield 19, 3) := by decide +kernel
theorem d_M_add_172 : decode b_M_add 172 = .ok (.iconst 5, 1) := by decide +kernel
theorem d_M_add_173 : decode b_M_add 173 = .ok (.aload_n 0, 1) := by decide +kernel
theorem d_M_add_174 : decode b_M_add 174 = .ok (.getfield 80, 3) := by decide +kernel
theorem d_M_add_177 : decode b_M_add 177 = .ok (.imul, 1) := by decide +kernel
theorem d_M_add_178 : decode b_M_add 178 = .ok (.iconst 4, 1) := by decide +kernel
theorem d_M_add_179 : decode b_M_add 179 = .ok (.iadd, 1) := by decide +kernel
theorem d_M_add_180 : decode b_M_add 180 = .ok (.iload_n 3, 1) := by decide +kernel
theorem d_M_add_181 : decode b_M_add 181 = .ok (.iastore, 1) := by decide +kernel
theorem d_M_add_182 : decode b_M_add 182 = .ok (.aload_n 0, 1) := by decide +kernel
theorem d_M_add_183 : decode b_M_add 183 = .ok (.dup, 1) := by decide +kernel
theorem d_M_add_184 : decode b_M_add 184 = .ok (.getfield 80, 3) := by decide +kernel
theorem d_M_add_187 : decode b_M_add 187 = .ok (.iconst 1, 1) := by decide +kernel
theorem d_M_add_188 : decode b_M_add 188 = .ok (.iadd, 1) := by decide +kernel
theorem d_M_add_189 : decode b_M_add 189 = .ok (.putfield 80, 3) := by decide +kernel
theorem d_M_add_192 : decode b_M_add 192 = .ok (.return_, 1) := by decide +kernel
theorem d_M_peaks_0 : decode b_M_peaks 0 = .ok (.aload_n 0, 1) := by decide +kernel
theorem d_M_peaks_1 : decode b_M_peaks 1 = .ok (.iload_n 1, 1) := by decide +kernel
theorem d_M_peaks_2 : decode b_M_peaks 2 = .ok (.ifCond .lt 7, 3) := by decide +kernel
theorem d_M_peaks_5 : decode b_M_peaks 5 = .ok (.iconst 1, 1) := by decide +kernel
theorem d_M_peaks_6 : decode b_M_peaks 6 = .ok (.goto 4, 3) := by decide +kernel
theorem d_M_peaks_9 : decode b_M_peaks 9 = .ok (.iconst 0, 1) := by decide +kernel
theorem d_M_peaks_10 : decode b_M_peaks 10 = .ok (.iconst 1, 1) := by decide +kernel
theorem d_M_peaks_11 : decode b_M_peaks 11 = .ok (.iconst 1, 1) := by decide +kernel
theorem d_M_peaks_12 : decode b_M_peaks 12 = .ok (.invokevirtual 72, 3) := by decide +kernel
theorem d_M_peaks_15 : decode b_M_peaks 15 = .ok (.ifCond .ne 5, 3) := by decide +kernel
theorem d_M_peaks_18 : decode b_M_peaks 18 = .ok (.iconst 0, 1) := by decide +kernel
theorem d_M_peaks_19 : decode b_M_peaks 19 = .ok (.ireturn, 1) := by decide +kernel
theorem d_M_peaks_20 : decode b_M_peaks 20 = .ok (.aload_n 0, 1) := by decide +kernel
theorem d_M_peaks_21 : decode b_M_peaks 21 = .ok (.iconst 0, 1) := by decide +kernel
theorem d_M_peaks_22 : decode b_M_peaks 22 = .ok (.putfield 80, 3) := by decide +kernel
theorem d_M_peaks_25 : decode b_M_peaks 25 = .ok (.iconst 0, 1) := by decide +kernel
theorem d_M_peaks_26 : decode b_M_peaks 26 = .ok (.istore_n 2, 1) := by decide +kernel
theorem d_M_peaks_27 : decode b_M_peaks 27 = .ok (.iload_n 2, 1) := by decide +kernel
theorem d_M_peaks_28 : decode b_M_peaks 28 = .ok (.aload_n 0, 1) := by decide +kernel
theorem d_M_peaks_29 : decode b_M_peaks 29 = .ok (.getfield 58, 3) := by decide +kernel
theorem d_M_peaks_32 : decode b_M_peaks 32 = .ok (.if_icmp .ge 23, 3) := by decide +kernel
theorem d_M_peaks_35 : decode b_M_peaks 35 = .ok (.aload_n 0, 1) := by decide +kernel
theorem d_M_peaks_36 : decode b_M_peaks 36 = .ok (.iload_n 2, 1) := by decide +kernel
theorem d_M_peaks_37 : decode b_M_peaks 37 = .ok (.iload_n 1, 1) := by decide +kernel
theorem d_M_peaks_38 : decode b_M_peaks 38 = .ok (.invokevirtual 83, 3) := by decide +kernel
theorem d_M_peaks_41 : decode b_M_peaks 41 = .ok (.ifCond .eq 8, 3) := by decide +kernel
theorem d_M_peaks_44 : decode b_M_peaks 44 = .ok (.aload_n 0, 1) := by decide +kernel
theorem d_M_peaks_45 : decode b_M_peaks 45 = .ok (.iload_n 2, 1) := by decide +kernel
theorem d_M_peaks_46 : decode b_M_peaks 46 = .ok (.invokevirtual 87, 3) := by decide +kernel
theorem d_M_peaks_49 : decode b_M_peaks 49 = .ok (.iinc 2 1, 3) := by decide +kernel
theorem d_M_peaks_52 : decode b_M_peaks 52 = .ok (.goto (-25), 3) := by decide +kernel
theorem d_M_peaks_55 : decode b_M_peaks 55 = .ok (.aload_n 0, 1) := by decide +kernel
theorem d_M_peaks_56 : decode b_M_peaks 56 = .ok (.getfield 80, 3) := by decide +kernel
theorem d_M_peaks_59 : decode b_M_peaks 59 = .ok (.ireturn, 1) := by decide +kernel
theorem d_M_isFound_0 : decode b_M_isFound 0 = .ok (.iload_n 1, 1) := by decide +kernel
theorem d_M_isFound_1 : decode b_M_isFound 1 = .ok (.iconst 0, 1) := by decide +kernel
theorem d_M_isFound_2 : decode b_M_isFound 2 = .ok (.aload_n 0, 1) := by decide +kernel
theorem d_M_isFound_3 : decode b_M_isFound 3 = .ok (.getfield 80, 3) := by decide +kernel
theorem d_M_isFound_6 : decode b_M_isFound 6 = .ok (.iconst 1, 1) := by decide +kernel
theorem d_M_isFound_7 : decode b_M_isFound 7 = .ok (.isub, 1) := by decide +kernel
theorem d_M_isFound_8 : decode b_M_isFound 8 = .ok (.invokestatic 64, 3) := by decide +kernel
theorem d_M_isFound_11 : decode b_M_isFound 11 = .ok (.ireturn, 1) := by decide +kernel
theorem d_M_peak_0 : decode b_M_peak 0 = .ok (.aload_n 0, 1) := by decide +kernel
theorem d_M_peak_1 : decode b_M_peak 1 = .ok (.aload_n 0, 1) := by decide +kernel
theorem d_M_peak_2 : decode b_M_peak 2 = .ok (.iload_n 1, 1) := by decide +kernel
theorem d_M_peak_3 : decode b_M_peak 3 = .ok (.invokevirtual 91, 3) := by decide +kernel
theorem d_M_peak_6 : decode b_M_peak 6 = .ok (.ifCond .eq 16, 3) := by decide +kernel
theorem d_M_peak_9 : decode b_M_peak 9 = .ok (.iload_n 2, 1) := by decide +kernel
theorem d_M_peak_10 : decode b_M_peak 10 = .ok (.iconst 0, 1) := by decide +kernel
theorem d_M_peak_11 : decode b_M_peak 11 = .ok (.iconst 4, 1) := by decide +kernel
theorem d_M_peak_12 : decode b_M_peak 12 = .ok (.invokestatic 64, 3) := by decide +kernel
theorem d_M_peak_15 : decode b_M_peak 15 = .ok (.ifCond .eq 7, 3) := by decide +kernel
theorem d_M_peak_18 : decode b_M_peak 18 = .ok (.iconst 1, 1) := by decide +kernel
theorem d_M_peak_19 : decode b_M_peak 19 = .ok (.goto 4, 3) := by decide +kernel
theorem d_M_peak_22 : decode b_M_peak 22 = .ok (.iconst 0, 1) := by decide +kernel
theorem d_M_peak_23 : decode b_M_peak 23 = .ok (.iconst 1, 1) := by decide +kernel
theorem d_M_peak_24 : decode b_M_peak 24 = .ok (.iconst 1, 1) := by decide +kernel
theorem d_M_peak_25 : decode b_M_peak 25 = .ok (.invokevirtual 72, 3) := by decide +kernel
theorem d_M_peak_28 : decode b_M_peak 28 = .ok (.ifCond .eq 16, 3) := by decide +kernel
theorem d_M_peak_31 : decode b_M_peak 31 = .ok (.aload_n 0, 1) := by decide +kernel
theorem d_M_peak_32 : decode b_M_peak 32 = .ok (.getfield 19, 3) := by decide +kernel
theorem d_M_peak_35 : decode b_M_peak 35 = .ok (.iconst 5, 1) := by decide +kernel
theorem d_M_peak_36 : decode b_M_peak 36 = .ok (.iload_n 1, 1) := by decide +kernel
theorem d_M_peak_37 : decode b_M_peak 37 = .ok (.imul, 1) := by decide +kernel
theorem d_M_peak_38 : decode b_M_peak 38 = .ok (.iload_n 2, 1) := by decide +kernel
theorem d_M_peak_39 : decode b_M_peak 39 = .ok (.iadd, 1) := by decide +kernel
theorem d_M_peak_40 : decode b_M_peak 40 = .ok (.iaload, 1) := by decide +kernel
theorem d_M_peak_41 : decode b_M_peak 41 = .ok (.goto 4, 3) := by decide +kernel
theorem d_M_peak_44 : decode b_M_peak 44 = .ok (.iconst 0, 1) := by decide +kernel
theorem d_M_peak_45 : decode b_M_peak 45 = .ok (.ireturn, 1) := by decide +kernel
theorem d_M_line_0 : decode b_M_line 0 = .ok (.iload_n 1, 1) := by decide +kernel
theorem d_M_line_1 : decode b_M_line 1 = .ok (.iconst 0, 1) := by decide +kernel
theorem d_M_line_2 : decode b_M_line 2 = .ok (.bipush 7, 2) := by decide +kernel
theorem d_M_line_4 : decode b_M_line 4 = .ok (.invokestatic 64, 3) := by decide +kernel
theorem d_M_line_7 : decode b_M_line 7 = .ok (.ifCond .eq 15, 3) := by decide +kernel
theorem d_M_line_10 : decode b_M_line 10 = .ok (.aload_n 0, 1) := by decide +kernel
theorem d_M_line_11 : decode b_M_line 11 = .ok (.iload_n 2, 1) := by decide +kernel
theorem d_M_line_12 : decode b_M_line 12 = .ok (.invokevirtual 68, 3) := by decide +kernel
theorem d_M_line_15 : decode b_M_line 15 = .ok (.ifCond .eq 7, 3) := by decide +kernel
theorem d_M_line_18 : decode b_M_line 18 = .ok (.iconst 1, 1) := by decide +kernel
theorem d_M_line_19 : decode b_M_line 19 = .ok (.goto 4, 3) := by decide +kernel
theorem d_M_line_22 : decode b_M_line 22 = .ok (.iconst 0, 1) := by decide +kernel
theorem d_M_line_23 : decode b_M_line 23 = .ok (.istore_n 3, 1) := by decide +kernel
theorem d_M_line_24 : decode b_M_line 24 = .ok (.aload_n 0, 1) := by decide +kernel
theorem d_M_line_25 : decode b_M_line 25 = .ok (.iload_n 3, 1) := by decide +kernel
theorem d_M_line_26 : decode b_M_line 26 = .ok (.iload_n 3, 1) := by decide +kernel
theorem d_M_line_27 : decode b_M_line 27 = .ok (.ifCond .eq 25, 3) := by decide +kernel
theorem d_M_line_30 : decode b_M_line 30 = .ok (.aload_n 0, 1) := by decide +kernel
theorem d_M_line_31 : decode b_M_line 31 = .ok (.getfield 25, 3) := by decide +kernel
theorem d_M_line_34 : decode b_M_line 34 = .ok (.iload_n 3, 1) := by decide +kernel
theorem d_M_line_35 : decode b_M_line 35 = .ok (.ifCond .eq 7, 3) := by decide +kernel
theorem d_M_line_38 : decode b_M_line 38 = .ok (.iload_n 1, 1) := by decide +kernel
theorem d_M_line_39 : decode b_M_line 39 = .ok (.goto 4, 3) := by decide +kernel
theorem d_M_line_42 : decode b_M_line 42 = .ok (.iconst 0, 1) := by decide +kernel
theorem d_M_line_43 : decode b_M_line 43 = .ok (.iaload, 1) := by decide +kernel
theorem d_M_line_44 : decode b_M_line 44 = .ok (.iconst 3, 1) := by decide +kernel
theorem d_M_line_45 : decode b_M_line 45 = .ok (.if_icmp .ge 7, 3) := by decide +kernel
theorem d_M_line_48 : decode b_M_line 48 = .ok (.iconst 1, 1) := by decide +kernel
theorem d_M_line_49 : decode b_M_line 49 = .ok (.goto 4, 3) := by decide +kernel
theorem d_M_line_52 : decode b_M_line 52 = .ok (.iconst 0, 1) := by decide +kernel
theorem d_M_line_53 : decode b_M_line 53 = .ok (.iconst 1, 1) := by decide +kernel
theorem d_M_line_54 : decode b_M_line 54 = .ok (.invokevirtual 72, 3) := by decide +kernel
theorem d_M_line_57 : decode b_M_line 57 = .ok (.ifCond .ne 5, 3) := by decide +kernel
theorem d_M_line_60 : decode b_M_line 60 = .ok (.iconst 0, 1) := by decide +kernel
theorem d_M_line_61 : decode b_M_line 61 = .ok (.ireturn, 1) := by decide +kernel
theorem d_M_line_62 : decode b_M_line 62 = .ok (.aload_n 0, 1) := by decide +kernel
theorem d_M_line_63 : decode b_M_line 63 = .ok (.getfield 22, 3) := by decide +kernel
theorem d_M_line_66 : decode b_M_line 66 = .ok (.iconst 3, 1) := by decide +kernel
theorem d_M_line_67 : decode b_M_line 67 = .ok (.iload_n 1, 1) := by decide +kernel
theorem d_M_line_68 : decode b_M_line 68 = .ok (.imul, 1) := by decide +kernel
theorem d_M_line_69 : decode b_M_line 69 = .ok (.aload_n 0, 1) := by decide +kernel
theorem d_M_line_70 : decode b_M_line 70 = .ok (.getfield 25, 3) := by decide +kernel
theorem d_M_line_73 : decode b_M_line 73 = .ok (.iload_n 1, 1) := by decide +kernel
theorem d_M_line_74 : decode b_M_line 74 = .ok (.iaload, 1) := by decide +kernel
theorem d_M_line_75 : decode b_M_line 75 = .ok (.iadd, 1) := by decide +kernel
theorem d_M_line_76 : decode b_M_line 76 = .ok (.iload_n 2, 1) := by decide +kernel
theorem d_M_line_77 : decode b_M_line 77 = .ok (.iastore, 1) := by decide +kernel
theorem d_M_line_78 : decode b_M_line 78 = .ok (.aload_n 0, 1) := by decide +kernel
theorem d_M_line_79 : decode b_M_line 79 = .ok (.getfield 25, 3) := by decide +kernel
theorem d_M_line_82 : decode b_M_line 82 = .ok (.iload_n 1, 1) := by decide +kernel
theorem d_M_line_83 : decode b_M_line 83 = .ok (.dup2, 1) := by decide +kernel
theorem d_M_line_84 : decode b_M_line 84 = .ok (.iaload, 1) := by decide +kernel
theorem d_M_line_85 : decode b_M_line 85 = .ok (.iconst 1, 1) := by decide +kernel
theorem d_M_line_86 : decode b_M_line 86 = .ok (.iadd, 1) := by decide +kernel
theorem d_M_line_87 : decode b_M_line 87 = .ok (.iastore, 1) := by decide +kernel
theorem d_M_line_88 : decode b_M_line 88 = .ok (.aload_n 0, 1) := by decide +kernel
theorem d_M_line_89 : decode b_M_line 89 = .ok (.getfield 25, 3) := by decide +kernel
theorem d_M_line_92 : decode b_M_line 92 = .ok (.iload_n 1, 1) := by decide +kernel
theorem d_M_line_93 : decode b_M_line 93 = .ok (.iaload, 1) := by decide +kernel
theorem d_M_line_94 : decode b_M_line 94 = .ok (.ireturn, 1) := by decide +kernel
theorem d_M_element_0 : decode b_M_element 0 = .ok (.aload_n 0, 1) := by decide +kernel
theorem d_M_element_1 : decode b_M_element 1 = .ok (.aload_n 0, 1) := by decide +kernel
theorem d_M_element_2 : decode b_M_element 2 = .ok (.iload_n 1, 1) := by decide +kernel
theorem d_M_element_3 : decode b_M_element 3 = .ok (.invokevirtual 91, 3) := by decide +kernel
theorem d_M_element_6 : decode b_M_element 6 = .ok (.iload_n 2, 1) := by decide +kernel
theorem d_M_element_7 : decode b_M_element 7 = .ok (.iconst 0, 1) := by decide +kernel
theorem d_M_element_8 : decode b_M_element 8 = .ok (.bipush 24, 2) := by decide +kernel
theorem d_M_element_10 : decode b_M_element 10 = .ok (.invokestatic 64, 3) := by decide +kernel
theorem d_M_element_13 : decode b_M_element 13 = .ok (.iconst 1, 1) := by decide +kernel
theorem d_M_element_14 : decode b_M_element 14 = .ok (.invokevirtual 72, 3) := by decide +kernel
theorem d_M_element_17 : decode b_M_element 17 = .ok (.ifCond .ne 5, 3) := by decide +kernel
theorem d_M_element_20 : decode b_M_element 20 = .ok (.iconst 0, 1) := by decide +kernel
theorem d_M_element_21 : decode b_M_element 21 = .ok (.ireturn, 1) := by decide +kernel
theorem d_M_element_22 : decode b_M_element 22 = .ok (.iconst (-1), 1) := by decide +kernel
theorem d_M_element_23 : decode b_M_element 23 = .ok (.istore_n 3, 1) := by decide +kernel
theorem d_M_element_24 : decode b_M_element 24 = .ok (.iload_n 2, 1) := by decide +kernel
theorem d_M_element_25 : decode b_M_element 25 = .ok (.iconst 1, 1) := by decide +kernel
theorem d_M_element_26 : decode b_M_element 26 = .ok (.iadd, 1) := by decide +kernel
theorem d_M_element_27 : decode b_M_element 27 = .ok (.istore 4, 2) := by decide +kernel
theorem d_M_element_29 : decode b_M_element 29 = .ok (.iconst 0, 1) := by decide +kernel
theorem d_M_element_30 : decode b_M_element 30 = .ok (.istore 5, 2) := by decide +kernel
theorem d_M_element_32 : decode b_M_element 32 = .ok (.iload 5, 2) := by decide +kernel
theorem d_M_element_34 : decode b_M_element 34 = .ok (.bipush 8, 2) := by decide +kernel
theorem d_M_element_36 : decode b_M_element 36 = .ok (.if_icmp .ge 102, 3) := by decide +kernel
theorem d_M_element_39 : decode b_M_element 39 = .ok (.iconst 3, 1) := by decide +kernel
theorem d_M_element_40 : decode b_M_element 40 = .ok (.iload 5, 2) := by decide +kernel
theorem d_M_element_42 : decode b_M_element 42 = .ok (.imul, 1) := by decide +kernel
theorem d_M_element_43 : decode b_M_element 43 = .ok (.istore 6, 2) := by decide +kernel
theorem d_M_element_45 : decode b_M_element 45 = .ok (.iload 6, 2) := by decide +kernel
theorem d_M_element_47 : decode b_M_element 47 = .ok (.iconst 3, 1) := by decide +kernel
theorem d_M_element_48 : decode b_M_element 48 = .ok (.iload 5, 2) := by decide +kernel
theorem d_M_element_50 : decode b_M_element 50 = .ok (.imul, 1) := by decide +kernel
theorem d_M_element_51 : decode b_M_element 51 = .ok (.aload_n 0, 1) := by decide +kernel
theorem d_M_element_52 : decode b_M_element 52 = .ok (.getfield 25, 3) := by decide +kernel
theorem d_M_element_55 : decode b_M_element 55 = .ok (.iload 5, 2) := by decide +kernel
theorem d_M_element_57 : decode b_M_element 57 = .ok (.iaload, 1) := by decide +kernel
theorem d_M_element_58 : decode b_M_element 58 = .ok (.iadd, 1) := by decide +kernel
theorem d_M_element_59 : decode b_M_element 59 = .ok (.if_icmp .ge 73, 3) := by decide +kernel
theorem d_M_element_62 : decode b_M_element 62 = .ok (.aload_n 0, 1) := by decide +kernel
theorem d_M_element_63 : decode b_M_element 63 = .ok (.getfield 22, 3) := by decide +kernel
theorem d_M_element_66 : decode b_M_element 66 = .ok (.iload 6, 2) := by decide +kernel
theorem d_M_element_68 : decode b_M_element 68 = .ok (.iaload, 1) := by decide +kernel
theorem d_M_element_69 : decode b_M_element 69 = .ok (.aload_n 0, 1) := by decide +kernel
theorem d_M_element_70 : decode b_M_element 70 = .ok (.getfield 19, 3) := by decide +kernel
theorem d_M_element_73 : decode b_M_element 73 = .ok (.iconst 5, 1) := by decide +kernel
theorem d_M_element_74 : decode b_M_element 74 = .ok (.iload_n 1, 1) := by decide +kernel
theorem d_M_element_75 : decode b_M_element 75 = .ok (.imul, 1) := by decide +kernel
theorem d_M_element_76 : decode b_M_element 76 = .ok (.iaload, 1) := by decide +kernel
theorem d_M_element_77 : decode b_M_element 77 = .ok (.isub, 1) := by decide +kernel
theorem d_M_element_78 : decode b_M_element 78 = .ok (.istore 7, 2) := by decide +kernel
theorem d_M_element_80 : decode b_M_element 80 = .ok (.iload 7, 2) := by decide +kernel
theorem d_M_element_82 : decode b_M_element 82 = .ok (.ifCond .ge 10, 3) := by decide +kernel
theorem d_M_element_85 : decode b_M_element 85 = .ok (.iconst 0, 1) := by decide +kernel
theorem d_M_element_86 : decode b_M_element 86 = .ok (.iload 7, 2) := by decide +kernel
theorem d_M_element_88 : decode b_M_element 88 = .ok (.isub, 1) := by decide +kernel
theorem d_M_element_89 : decode b_M_element 89 = .ok (.goto 5, 3) := by decide +kernel
theorem d_M_element_92 : decode b_M_element 92 = .ok (.iload 7, 2) := by decide +kernel
theorem d_M_element_94 : decode b_M_element 94 = .ok (.istore 7, 2) := by decide +kernel
theorem d_M_element_96 : decode b_M_element 96 = .ok (.iload 7, 2) := by decide +kernel
theorem d_M_element_98 : decode b_M_element 98 = .ok (.iload 4, 2) := by decide +kernel
theorem d_M_element_100 : decode b_M_element 100 = .ok (.if_icmp .ge 8, 3) := by decide +kernel
theorem d_M_element_103 : decode b_M_element 103 = .ok (.iload 5, 2) := by decide +kernel
theorem d_M_element_105 : decode b_M_element 105 = .ok (.goto 4, 3) := by decide +kernel
theorem d_M_element_108 : decode b_M_element 108 = .ok (.iload_n 3, 1) := by decide +kernel
theorem d_M_element_109 : decode b_M_element 109 = .ok (.istore_n 3, 1) := by decide +kernel
theorem d_M_element_110 : decode b_M_element 110 = .ok (.iload 7, 2) := by decide +kernel
theorem d_M_element_112 : decode b_M_element 112 = .ok (.iload 4, 2) := by decide +kernel
theorem d_M_element_114 : decode b_M_element 114 = .ok (.if_icmp .ge 8, 3) := by decide +kernel
theorem d_M_element_117 : decode b_M_element 117 = .ok (.iload 7, 2) := by decide +kernel
theorem d_M_element_119 : decode b_M_element 119 = .ok (.goto 5, 3) := by decide +kernel
theorem d_M_element_122 : decode b_M_element 122 = .ok (.iload 4, 2) := by decide +kernel
theorem d_M_element_124 : decode b_M_element 124 = .ok (.istore 4, 2) := by decide +kernel
theorem d_M_element_126 : decode b_M_element 126 = .ok (.iinc 6 1, 3) := by decide +kernel
theorem d_M_element_129 : decode b_M_element 129 = .ok (.goto (-84), 3) := by decide +kernel
theorem d_M_element_132 : decode b_M_element 132 = .ok (.iinc 5 1, 3) := by decide +kernel
theorem d_M_element_135 : decode b_M_element 135 = .ok (.goto (-103), 3) := by decide +kernel
theorem d_M_element_138 : decode b_M_element 138 = .ok (.iload_n 3, 1) := by decide +kernel
theorem d_M_element_139 : decode b_M_element 139 = .ok (.ireturn, 1) := by decide +kernel
theorem d_M_detect_0 : decode b_M_detect 0 = .ok (.aload_n 0, 1) := by decide +kernel
theorem d_M_detect_1 : decode b_M_detect 1 = .ok (.iload_n 1, 1) := by decide +kernel
theorem d_M_detect_2 : decode b_M_detect 2 = .ok (.iconst 0, 1) := by decide +kernel
theorem d_M_detect_3 : decode b_M_detect 3 = .ok (.bipush 7, 2) := by decide +kernel
theorem d_M_detect_5 : decode b_M_detect 5 = .ok (.invokestatic 64, 3) := by decide +kernel
theorem d_M_detect_8 : decode b_M_detect 8 = .ok (.iconst 1, 1) := by decide +kernel
theorem d_M_detect_9 : decode b_M_detect 9 = .ok (.iconst 1, 1) := by decide +kernel
theorem d_M_detect_10 : decode b_M_detect 10 = .ok (.invokevirtual 72, 3) := by decide +kernel
theorem d_M_detect_13 : decode b_M_detect 13 = .ok (.ifCond .ne 5, 3) := by decide +kernel
theorem d_M_detect_16 : decode b_M_detect 16 = .ok (.iconst 0, 1) := by decide +kernel
theorem d_M_detect_17 : decode b_M_detect 17 = .ok (.ireturn, 1) := by decide +kernel
theorem d_M_detect_18 : decode b_M_detect 18 = .ok (.iconst 0, 1) := by decide +kernel
theorem d_M_detect_19 : decode b_M_detect 19 = .ok (.istore_n 2, 1) := by decide +kernel
theorem d_M_detect_20 : decode b_M_detect 20 = .ok (.iconst 0, 1) := by decide +kernel
theorem d_M_detect_21 : decode b_M_detect 21 = .ok (.istore_n 3, 1) := by decide +kernel
theorem d_M_detect_22 : decode b_M_detect 22 = .ok (.iload_n 3, 1) := by decide +kernel
theorem d_M_detect_23 : decode b_M_detect 23 = .ok (.aload_n 0, 1) := by decide +kernel
theorem d_M_detect_24 : decode b_M_detect 24 = .ok (.getfield 58, 3) := by decide +kernel
theorem d_M_detect_27 : decode b_M_detect 27 = .ok (.if_icmp .ge 87, 3) := by decide +kernel
theorem d_M_detect_30 : decode b_M_detect 30 = .ok (.iconst 0, 1) := by decide +kernel
theorem d_M_detect_31 : decode b_M_detect 31 = .ok (.istore 4, 2) := by decide +kernel
theorem d_M_detect_33 : decode b_M_detect 33 = .ok (.iconst 3, 1) := by decide +kernel
theorem d_M_detect_34 : decode b_M_detect 34 = .ok (.iload_n 1, 1) := by decide +kernel
theorem d_M_detect_35 : decode b_M_detect 35 = .ok (.imul, 1) := by decide +kernel
theorem d_M_detect_36 : decode b_M_detect 36 = .ok (.istore 5, 2) := by decide +kernel
theorem d_M_detect_38 : decode b_M_detect 38 = .ok (.iload 5, 2) := by decide +kernel
theorem d_M_detect_40 : decode b_M_detect 40 = .ok (.iconst 3, 1) := by decide +kernel
theorem d_M_detect_41 : decode b_M_detect 41 = .ok (.iload_n 1, 1) := by decide +kernel
theorem d_M_detect_42 : decode b_M_detect 42 = .ok (.imul, 1) := by decide +kernel
theorem d_M_detect_43 : decode b_M_detect 43 = .ok (.aload_n 0, 1) := by decide +kernel
theorem d_M_detect_44 : decode b_M_detect 44 = .ok (.getfield 25, 3) := by decide +kernel
theorem d_M_detect_47 : decode b_M_detect 47 = .ok (.iload_n 1, 1) := by decide +kernel
theorem d_M_detect_48 : decode b_M_detect 48 = .ok (.iaload, 1) := by decide +kernel
theorem d_M_detect_49 : decode b_M_detect 49 = .ok (.iadd, 1) := by decide +kernel
theorem d_M_detect_50 : decode b_M_detect 50 = .ok (.if_icmp .ge 40, 3) := by decide +kernel
theorem d_M_detect_53 : decode b_M_detect 53 = .ok (.iload 4, 2) := by decide +kernel
theorem d_M_detect_55 : decode b_M_detect 55 = .ok (.ifCond .ne 22, 3) := by decide +kernel
theorem d_M_detect_58 : decode b_M_detect 58 = .ok (.aload_n 0, 1) := by decide +kernel
theorem d_M_detect_59 : decode b_M_detect 59 = .ok (.getfield 22, 3) := by decide +kernel
theorem d_M_detect_62 : decode b_M_detect 62 = .ok (.iload 5, 2) := by decide +kernel
theorem d_M_detect_64 : decode b_M_detect 64 = .ok (.iaload, 1) := by decide +kernel
theorem d_M_detect_65 : decode b_M_detect 65 = .ok (.iload_n 3, 1) := by decide +kernel
theorem d_M_detect_66 : decode b_M_detect 66 = .ok (.iconst 1, 1) := by decide +kernel
theorem d_M_detect_67 : decode b_M_detect 67 = .ok (.isub, 1) := by decide +kernel
theorem d_M_detect_68 : decode b_M_detect 68 = .ok (.iload_n 3, 1) := by decide +kernel
theorem d_M_detect_69 : decode b_M_detect 69 = .ok (.iconst 1, 1) := by decide +kernel
theorem d_M_detect_70 : decode b_M_detect 70 = .ok (.iadd, 1) := by decide +kernel
theorem d_M_detect_71 : decode b_M_detect 71 = .ok (.invokestatic 64, 3) := by decide +kernel
theorem d_M_detect_74 : decode b_M_detect 74 = .ok (.ifCond .eq 7, 3) := by decide +kernel
theorem d_M_detect_77 : decode b_M_detect 77 = .ok (.iconst 1, 1) := by decide +kernel
theorem d_M_detect_78 : decode b_M_detect 78 = .ok (.goto 4, 3) := by decide +kernel
theorem d_M_detect_81 : decode b_M_detect 81 = .ok (.iconst 0, 1) := by decide +kernel
theorem d_M_detect_82 : decode b_M_detect 82 = .ok (.istore 4, 2) := by decide +kernel
theorem d_M_detect_84 : decode b_M_detect 84 = .ok (.iinc 5 1, 3) := by decide +kernel
theorem d_M_detect_87 : decode b_M_detect 87 = .ok (.goto (-49), 3) := by decide +kernel
theorem d_M_detect_90 : decode b_M_detect 90 = .ok (.iload 4, 2) := by decide +kernel
theorem d_M_detect_92 : decode b_M_detect 92 = .ok (.ifCond .eq 14, 3) := by decide +kernel
theorem d_M_detect_95 : decode b_M_detect 95 = .ok (.iload_n 2, 1) := by decide +kernel
theorem d_M_detect_96 : decode b_M_detect 96 = .ok (.aload_n 0, 1) := by decide +kernel
theorem d_M_detect_97 : decode b_M_detect 97 = .ok (.getfield 13, 3) := by decide +kernel
theorem d_M_detect_100 : decode b_M_detect 100 = .ok (.iload_n 3, 1) := by decide +kernel
theorem d_M_detect_101 : decode b_M_detect 101 = .ok (.iaload, 1) := by decide +kernel
theorem d_M_detect_102 : decode b_M_detect 102 = .ok (.iadd, 1) := by decide +kernel
theorem d_M_detect_103 : decode b_M_detect 103 = .ok (.goto 4, 3) := by decide +kernel
theorem d_M_detect_106 : decode b_M_detect 106 = .ok (.iload_n 2, 1) := by decide +kernel
theorem d_M_detect_107 : decode b_M_detect 107 = .ok (.istore_n 2, 1) := by decide +kernel
theorem d_M_detect_108 : decode b_M_detect 108 = .ok (.iinc 3 1, 3) := by decide +kernel
theorem d_M_detect_111 : decode b_M_detect 111 = .ok (.goto (-89), 3) := by decide +kernel
theorem d_M_detect_114 : decode b_M_detect 114 = .ok (.iconst 0, 1) := by decide +kernel
theorem d_M_detect_115 : decode b_M_detect 115 = .ok (.istore_n 3, 1) := by decide +kernel
theorem d_M_detect_116 : decode b_M_detect 116 = .ok (.iload_n 3, 1) := by decide +kernel
theorem d_M_detect_117 : decode b_M_detect 117 = .ok (.iconst 1, 1) := by decide +kernel
theorem d_M_detect_118 : decode b_M_detect 118 = .ok (.iadd, 1) := by decide +kernel
theorem d_M_detect_119 : decode b_M_detect 119 = .ok (.iload_n 3, 1) := by decide +kernel
theorem d_M_detect_120 : decode b_M_detect 120 = .ok (.iconst 1, 1) := by decide +kernel
theorem d_M_detect_121 : decode b_M_detect 121 = .ok (.iadd, 1) := by decide +kernel
theorem d_M_detect_122 : decode b_M_detect 122 = .ok (.imul, 1) := by decide +kernel
theorem d_M_detect_123 : decode b_M_detect 123 = .ok (.bipush 9, 2) := by decide +kernel
theorem d_M_detect_125 : decode b_M_detect 125 = .ok (.iload_n 2, 1) := by decide +kernel
theorem d_M_detect_126 : decode b_M_detect 126 = .ok (.imul, 1) := by decide +kernel
theorem d_M_detect_127 : decode b_M_detect 127 = .ok (.if_icmp .gt 9, 3) := by decide +kernel
theorem d_M_detect_130 : decode b_M_detect 130 = .ok (.iinc 3 1, 3) := by decide +kernel
theorem d_M_detect_133 : decode b_M_detect 133 = .ok (.goto (-17), 3) := by decide +kernel
theorem d_M_detect_136 : decode b_M_detect 136 = .ok (.iload_n 3, 1) := by decide +kernel
theorem d_M_detect_137 : decode b_M_detect 137 = .ok (.ireturn, 1) := by decide +kernel
theorem d_M_library_0 : decode b_M_library 0 = .ok (.aload_n 0, 1) := by decide +kernel
theorem d_M_library_1 : decode b_M_library 1 = .ok (.aload_n 0, 1) := by decide +kernel
theorem d_M_library_2 : decode b_M_library 2 = .ok (.getfield 94, 3) := by decide +kernel
theorem d_M_library_5 : decode b_M_library 5 = .ok (.iconst 3, 1) := by decide +kernel
theorem d_M_library_6 : decode b_M_library 6 = .ok (.if_icmp .ge 7, 3) := by decide +kernel
theorem d_M_library_9 : decode b_M_library 9 = .ok (.iconst 1, 1) := by decide +kernel
theorem d_M_library_10 : decode b_M_library 10 = .ok (.goto 4, 3) := by decide +kernel
theorem d_M_library_13 : decode b_M_library 13 = .ok (.iconst 0, 1) := by decide +kernel
theorem d_M_library_14 : decode b_M_library 14 = .ok (.iconst 1, 1) := by decide +kernel
theorem d_M_library_15 : decode b_M_library 15 = .ok (.iconst 1, 1) := by decide +kernel
theorem d_M_library_16 : decode b_M_library 16 = .ok (.invokevirtual 72, 3) := by decide +kernel
theorem d_M_library_19 : decode b_M_library 19 = .ok (.ifCond .ne 5, 3) := by decide +kernel
theorem d_M_library_22 : decode b_M_library 22 = .ok (.iconst 0, 1) := by decide +kernel
theorem d_M_library_23 : decode b_M_library 23 = .ok (.ireturn, 1) := by decide +kernel
theorem d_M_library_24 : decode b_M_library 24 = .ok (.aload_n 0, 1) := by decide +kernel
theorem d_M_library_25 : decode b_M_library 25 = .ok (.dup, 1) := by decide +kernel
theorem d_M_library_26 : decode b_M_library 26 = .ok (.getfield 94, 3) := by decide +kernel
theorem d_M_library_29 : decode b_M_library 29 = .ok (.iconst 1, 1) := by decide +kernel
theorem d_M_library_30 : decode b_M_library 30 = .ok (.iadd, 1) := by decide +kernel
theorem d_M_library_31 : decode b_M_library 31 = .ok (.putfield 94, 3) := by decide +kernel
theorem d_M_library_34 : decode b_M_library 34 = .ok (.aload_n 0, 1) := by decide +kernel
theorem d_M_library_35 : decode b_M_library 35 = .ok (.getfield 94, 3) := by decide +kernel
theorem d_M_library_38 : decode b_M_library 38 = .ok (.iconst 1, 1) := by decide +kernel
theorem d_M_library_39 : decode b_M_library 39 = .ok (.isub, 1) := by decide +kernel
theorem d_M_library_40 : decode b_M_library 40 = .ok (.ireturn, 1) := by decide +kernel
theorem d_M_entry_0 : decode b_M_entry 0 = .ok (.aload_n 0, 1) := by decide +kernel
theorem d_M_entry_1 : decode b_M_entry 1 = .ok (.iload_n 1, 1) := by decide +kernel
theorem d_M_entry_2 : decode b_M_entry 2 = .ok (.iconst 0, 1) := by decide +kernel
theorem d_M_entry_3 : decode b_M_entry 3 = .ok (.aload_n 0, 1) := by decide +kernel
theorem d_M_entry_4 : decode b_M_entry 4 = .ok (.getfield 94, 3) := by decide +kernel
theorem d_M_entry_7 : decode b_M_entry 7 = .ok (.iconst 1, 1) := by decide +kernel
theorem d_M_entry_8 : decode b_M_entry 8 = .ok (.isub, 1) := by decide +kernel
theorem d_M_entry_9 : decode b_M_entry 9 = .ok (.invokestatic 64, 3) := by decide +kernel
theorem d_M_entry_12 : decode b_M_entry 12 = .ok (.ifCond .eq 15, 3) := by decide +kernel
theorem d_M_entry_15 : decode b_M_entry 15 = .ok (.aload_n 0, 1) := by decide +kernel
theorem d_M_entry_16 : decode b_M_entry 16 = .ok (.iload_n 2, 1) := by decide +kernel
theorem d_M_entry_17 : decode b_M_entry 17 = .ok (.invokevirtual 68, 3) := by decide +kernel
theorem d_M_entry_20 : decode b_M_entry 20 = .ok (.ifCond .eq 7, 3) := by decide +kernel
theorem d_M_entry_23 : decode b_M_entry 23 = .ok (.iconst 1, 1) := by decide +kernel
theorem d_M_entry_24 : decode b_M_entry 24 = .ok (.goto 4, 3) := by decide +kernel
theorem d_M_entry_27 : decode b_M_entry 27 = .ok (.iconst 0, 1) := by decide +kernel
theorem d_M_entry_28 : decode b_M_entry 28 = .ok (.iload_n 3, 1) := by decide +kernel
theorem d_M_entry_29 : decode b_M_entry 29 = .ok (.iconst 0, 1) := by decide +kernel
theorem d_M_entry_30 : decode b_M_entry 30 = .ok (.bipush 20, 2) := by decide +kernel
theorem d_M_entry_32 : decode b_M_entry 32 = .ok (.invokestatic 64, 3) := by decide +kernel
theorem d_M_entry_35 : decode b_M_entry 35 = .ok (.iconst 1, 1) := by decide +kernel
theorem d_M_entry_36 : decode b_M_entry 36 = .ok (.invokevirtual 72, 3) := by decide +kernel
theorem d_M_entry_39 : decode b_M_entry 39 = .ok (.ifCond .ne 5, 3) := by decide +kernel
theorem d_M_entry_42 : decode b_M_entry 42 = .ok (.iconst 0, 1) := by decide +kernel
theorem d_M_entry_43 : decode b_M_entry 43 = .ok (.ireturn, 1) := by decide +kernel
theorem d_M_entry_44 : decode b_M_entry 44 = .ok (.aload_n 0, 1) := by decide +kernel
theorem d_M_entry_45 : decode b_M_entry 45 = .ok (.getfield 28, 3) := by decide +kernel
theorem d_M_entry_48 : decode b_M_entry 48 = .ok (.bipush 24, 2) := by decide +kernel
theorem d_M_entry_50 : decode b_M_entry 50 = .ok (.iload_n 1, 1) := by decide +kernel
theorem d_M_entry_51 : decode b_M_entry 51 = .ok (.imul, 1) := by decide +kernel
theorem d_M_entry_52 : decode b_M_entry 52 = .ok (.iload_n 2, 1) := by decide +kernel
theorem d_M_entry_53 : decode b_M_entry 53 = .ok (.iadd, 1) := by decide +kernel
theorem d_M_entry_54 : decode b_M_entry 54 = .ok (.iaload, 1) := by decide +kernel
theorem d_M_entry_55 : decode b_M_entry 55 = .ok (.istore 4, 2) := by decide +kernel
theorem d_M_entry_57 : decode b_M_entry 57 = .ok (.aload_n 0, 1) := by decide +kernel
theorem d_M_entry_58 : decode b_M_entry 58 = .ok (.getfield 28, 3) := by decide +kernel
theorem d_M_entry_61 : decode b_M_entry 61 = .ok (.bipush 24, 2) := by decide +kernel
theorem d_M_entry_63 : decode b_M_entry 63 = .ok (.iload_n 1, 1) := by decide +kernel
theorem d_M_entry_64 : decode b_M_entry 64 = .ok (.imul, 1) := by decide +kernel
theorem d_M_entry_65 : decode b_M_entry 65 = .ok (.iload_n 2, 1) := by decide +kernel
theorem d_M_entry_66 : decode b_M_entry 66 = .ok (.iadd, 1) := by decide +kernel
theorem d_M_entry_67 : decode b_M_entry 67 = .ok (.iload_n 3, 1) := by decide +kernel
theorem d_M_entry_68 : decode b_M_entry 68 = .ok (.iastore, 1) := by decide +kernel
theorem d_M_entry_69 : decode b_M_entry 69 = .ok (.iload 4, 2) := by decide +kernel
theorem d_M_entry_71 : decode b_M_entry 71 = .ok (.ireturn, 1) := by decide +kernel
theorem d_M_addUp_0 : decode b_M_addUp 0 = .ok (.iconst 0, 1) := by decide +kernel
theorem d_M_addUp_1 : decode b_M_addUp 1 = .ok (.istore_n 1, 1) := by decide +kernel
theorem d_M_addUp_2 : decode b_M_addUp 2 = .ok (.iload_n 1, 1) := by decide +kernel
theorem d_M_addUp_3 : decode b_M_addUp 3 = .ok (.bipush 12, 2) := by decide +kernel
theorem d_M_addUp_5 : decode b_M_addUp 5 = .ok (.if_icmp .ge 88, 3) := by decide +kernel
theorem d_M_addUp_8 : decode b_M_addUp 8 = .ok (.aload_n 0, 1) := by decide +kernel
theorem d_M_addUp_9 : decode b_M_addUp 9 = .ok (.getfield 31, 3) := by decide +kernel
theorem d_M_addUp_12 : decode b_M_addUp 12 = .ok (.iload_n 1, 1) := by decide +kernel
theorem d_M_addUp_13 : decode b_M_addUp 13 = .ok (.lconst 0, 1) := by decide +kernel
theorem d_M_addUp_14 : decode b_M_addUp 14 = .ok (.lastore, 1) := by decide +kernel
theorem d_M_addUp_15 : decode b_M_addUp 15 = .ok (.iconst 0, 1) := by decide +kernel
theorem d_M_addUp_16 : decode b_M_addUp 16 = .ok (.istore_n 2, 1) := by decide +kernel
theorem d_M_addUp_17 : decode b_M_addUp 17 = .ok (.iload_n 2, 1) := by decide +kernel
theorem d_M_addUp_18 : decode b_M_addUp 18 = .ok (.aload_n 0, 1) := by decide +kernel
theorem d_M_addUp_19 : decode b_M_addUp 19 = .ok (.getfield 58, 3) := by decide +kernel
theorem d_M_addUp_22 : decode b_M_addUp 22 = .ok (.if_icmp .ge 65, 3) := by decide +kernel
theorem d_M_addUp_25 : decode b_M_addUp 25 = .ok (.aload_n 0, 1) := by decide +kernel
theorem d_M_addUp_26 : decode b_M_addUp 26 = .ok (.getfield 31, 3) := by decide +kernel
theorem d_M_addUp_29 : decode b_M_addUp 29 = .ok (.iload_n 1, 1) := by decide +kernel
theorem d_M_addUp_30 : decode b_M_addUp 30 = .ok (.aload_n 0, 1) := by decide +kernel
theorem d_M_addUp_31 : decode b_M_addUp 31 = .ok (.getfield 31, 3) := by decide +kernel
theorem d_M_addUp_34 : decode b_M_addUp 34 = .ok (.iload_n 1, 1) := by decide +kernel
theorem d_M_addUp_35 : decode b_M_addUp 35 = .ok (.laload, 1) := by decide +kernel
theorem d_M_addUp_36 : decode b_M_addUp 36 = .ok (.aload_n 0, 1) := by decide +kernel
theorem d_M_addUp_37 : decode b_M_addUp 37 = .ok (.getfield 28, 3) := by decide +kernel
theorem d_M_addUp_40 : decode b_M_addUp 40 = .ok (.bipush 24, 2) := by decide +kernel
theorem d_M_addUp_42 : decode b_M_addUp 42 = .ok (.iload_n 1, 1) := by decide +kernel
theorem d_M_addUp_43 : decode b_M_addUp 43 = .ok (.iconst 4, 1) := by decide +kernel
theorem d_M_addUp_44 : decode b_M_addUp 44 = .ok (.idiv, 1) := by decide +kernel
theorem d_M_addUp_45 : decode b_M_addUp 45 = .ok (.imul, 1) := by decide +kernel
theorem d_M_addUp_46 : decode b_M_addUp 46 = .ok (.iload_n 2, 1) := by decide +kernel
theorem d_M_addUp_47 : decode b_M_addUp 47 = .ok (.iadd, 1) := by decide +kernel
theorem d_M_addUp_48 : decode b_M_addUp 48 = .ok (.iaload, 1) := by decide +kernel
theorem d_M_addUp_49 : decode b_M_addUp 49 = .ok (.iload_n 1, 1) := by decide +kernel
theorem d_M_addUp_50 : decode b_M_addUp 50 = .ok (.iconst 4, 1) := by decide +kernel
theorem d_M_addUp_51 : decode b_M_addUp 51 = .ok (.irem, 1) := by decide +kernel
theorem d_M_addUp_52 : decode b_M_addUp 52 = .ok (.iconst 3, 1) := by decide +kernel
theorem d_M_addUp_53 : decode b_M_addUp 53 = .ok (.if_icmp .ne 11, 3) := by decide +kernel
theorem d_M_addUp_56 : decode b_M_addUp 56 = .ok (.aload_n 0, 1) := by decide +kernel
theorem d_M_addUp_57 : decode b_M_addUp 57 = .ok (.iload_n 2, 1) := by decide +kernel
theorem d_M_addUp_58 : decode b_M_addUp 58 = .ok (.invokevirtual 76, 3) := by decide +kernel
theorem d_M_addUp_61 : decode b_M_addUp 61 = .ok (.goto 16, 3) := by decide +kernel
theorem d_M_addUp_64 : decode b_M_addUp 64 = .ok (.aload_n 0, 1) := by decide +kernel
theorem d_M_addUp_65 : decode b_M_addUp 65 = .ok (.getfield 28, 3) := by decide +kernel
theorem d_M_addUp_68 : decode b_M_addUp 68 = .ok (.bipush 24, 2) := by decide +kernel
theorem d_M_addUp_70 : decode b_M_addUp 70 = .ok (.iload_n 1, 1) := by decide +kernel
theorem d_M_addUp_71 : decode b_M_addUp 71 = .ok (.iconst 4, 1) := by decide +kernel
theorem d_M_addUp_72 : decode b_M_addUp 72 = .ok (.irem, 1) := by decide +kernel
theorem d_M_addUp_73 : decode b_M_addUp 73 = .ok (.imul, 1) := by decide +kernel
theorem d_M_addUp_74 : decode b_M_addUp 74 = .ok (.iload_n 2, 1) := by decide +kernel
theorem d_M_addUp_75 : decode b_M_addUp 75 = .ok (.iadd, 1) := by decide +kernel
theorem d_M_addUp_76 : decode b_M_addUp 76 = .ok (.iaload, 1) := by decide +kernel
theorem d_M_addUp_77 : decode b_M_addUp 77 = .ok (.imul, 1) := by decide +kernel
theorem d_M_addUp_78 : decode b_M_addUp 78 = .ok (.i2l, 1) := by decide +kernel
theorem d_M_addUp_79 : decode b_M_addUp 79 = .ok (.ladd, 1) := by decide +kernel
theorem d_M_addUp_80 : decode b_M_addUp 80 = .ok (.lastore, 1) := by decide +kernel
theorem d_M_addUp_81 : decode b_M_addUp 81 = .ok (.iinc 2 1, 3) := by decide +kernel
theorem d_M_addUp_84 : decode b_M_addUp 84 = .ok (.goto (-67), 3) := by decide +kernel
theorem d_M_addUp_87 : decode b_M_addUp 87 = .ok (.iinc 1 1, 3) := by decide +kernel
theorem d_M_addUp_90 : decode b_M_addUp 90 = .ok (.goto (-88), 3) := by decide +kernel
theorem d_M_addUp_93 : decode b_M_addUp 93 = .ok (.return_, 1) := by decide +kernel
theorem d_M_isIn_0 : decode b_M_isIn 0 = .ok (.iload_n 0, 1) := by decide +kernel
theorem d_M_isIn_1 : decode b_M_isIn 1 = .ok (.iload_n 1, 1) := by decide +kernel
theorem d_M_isIn_2 : decode b_M_isIn 2 = .ok (.ishr, 1) := by decide +kernel
theorem d_M_isIn_3 : decode b_M_isIn 3 = .ok (.iconst 1, 1) := by decide +kernel
theorem d_M_isIn_4 : decode b_M_isIn 4 = .ok (.iand, 1) := by decide +kernel
theorem d_M_isIn_5 : decode b_M_isIn 5 = .ok (.iconst 1, 1) := by decide +kernel
theorem d_M_isIn_6 : decode b_M_isIn 6 = .ok (.if_icmp .ne 7, 3) := by decide +kernel
theorem d_M_isIn_9 : decode b_M_isIn 9 = .ok (.iconst 1, 1) := by decide +kernel
theorem d_M_isIn_10 : decode b_M_isIn 10 = .ok (.goto 4, 3) := by decide +kernel
theorem d_M_isIn_13 : decode b_M_isIn 13 = .ok (.iconst 0, 1) := by decide +kernel
theorem d_M_isIn_14 : decode b_M_isIn 14 = .ok (.ireturn, 1) := by decide +kernel
theorem d_M_cell_0 : decode b_M_cell 0 = .ok (.iload_n 1, 1) := by decide +kernel
theorem d_M_cell_1 : decode b_M_cell 1 = .ok (.iload_n 2, 1) := by decide +kernel
theorem d_M_cell_2 : decode b_M_cell 2 = .ok (.invokestatic 97, 3) := by decide +kernel
theorem d_M_cell_5 : decode b_M_cell 5 = .ok (.ifCond .eq 11, 3) := by decide +kernel
theorem d_M_cell_8 : decode b_M_cell 8 = .ok (.iload_n 1, 1) := by decide +kernel
theorem d_M_cell_9 : decode b_M_cell 9 = .ok (.iload_n 3, 1) := by decide +kernel
theorem d_M_cell_10 : decode b_M_cell 10 = .ok (.invokestatic 97, 3) := by decide +kernel
theorem d_M_cell_13 : decode b_M_cell 13 = .ok (.ifCond .ne 14, 3) := by decide +kernel
theorem d_M_cell_16 : decode b_M_cell 16 = .ok (.iload_n 2, 1) := by decide +kernel
theorem d_M_cell_17 : decode b_M_cell 17 = .ok (.iload_n 3, 1) := by decide +kernel
theorem d_M_cell_18 : decode b_M_cell 18 = .ok (.if_icmp .ne 7, 3) := by decide +kernel
theorem d_M_cell_21 : decode b_M_cell 21 = .ok (.lconst 1, 1) := by decide +kernel
theorem d_M_cell_22 : decode b_M_cell 22 = .ok (.goto 4, 3) := by decide +kernel
theorem d_M_cell_25 : decode b_M_cell 25 = .ok (.lconst 0, 1) := by decide +kernel
theorem d_M_cell_26 : decode b_M_cell 26 = .ok (.lreturn, 1) := by decide +kernel
theorem d_M_cell_27 : decode b_M_cell 27 = .ok (.aload_n 0, 1) := by decide +kernel
theorem d_M_cell_28 : decode b_M_cell 28 = .ok (.getfield 31, 3) := by decide +kernel
theorem d_M_cell_31 : decode b_M_cell 31 = .ok (.iconst 4, 1) := by decide +kernel
theorem d_M_cell_32 : decode b_M_cell 32 = .ok (.iload_n 2, 1) := by decide +kernel
theorem d_M_cell_33 : decode b_M_cell 33 = .ok (.imul, 1) := by decide +kernel
theorem d_M_cell_34 : decode b_M_cell 34 = .ok (.iload_n 3, 1) := by decide +kernel
theorem d_M_cell_35 : decode b_M_cell 35 = .ok (.iload 4, 2) := by decide +kernel
theorem d_M_cell_37 : decode b_M_cell 37 = .ok (.if_icmp .ne 7, 3) := by decide +kernel
theorem d_M_cell_40 : decode b_M_cell 40 = .ok (.iconst 3, 1) := by decide +kernel
theorem d_M_cell_41 : decode b_M_cell 41 = .ok (.goto 4, 3) := by decide +kernel
theorem d_M_cell_44 : decode b_M_cell 44 = .ok (.iload_n 3, 1) := by decide +kernel
theorem d_M_cell_45 : decode b_M_cell 45 = .ok (.iadd, 1) := by decide +kernel
theorem d_M_cell_46 : decode b_M_cell 46 = .ok (.laload, 1) := by decide +kernel
theorem d_M_cell_47 : decode b_M_cell 47 = .ok (.lreturn, 1) := by decide +kernel
theorem d_M_determinant_0 : decode b_M_determinant 0 = .ok (.lconst 0, 1) := by decide +kernel
theorem d_M_determinant_1 : decode b_M_determinant 1 = .ok (.lstore_n 3, 1) := by decide +kernel
theorem d_M_determinant_2 : decode b_M_determinant 2 = .ok (.iconst 0, 1) := by decide +kernel
theorem d_M_determinant_3 : decode b_M_determinant 3 = .ok (.istore 5, 2) := by decide +kernel
theorem d_M_determinant_5 : decode b_M_determinant 5 = .ok (.iload 5, 2) := by decide +kernel
theorem d_M_determinant_7 : decode b_M_determinant 7 = .ok (.iconst 3, 1) := by decide +kernel
theorem d_M_determinant_8 : decode b_M_determinant 8 = .ok (.if_icmp .ge 81, 3) := by decide +kernel
theorem d_M_determinant_11 : decode b_M_determinant 11 = .ok (.iload 5, 2) := by decide +kernel
theorem d_M_determinant_13 : decode b_M_determinant 13 = .ok (.iconst 1, 1) := by decide +kernel
theorem d_M_determinant_14 : decode b_M_determinant 14 = .ok (.iadd, 1) := by decide +kernel
theorem d_M_determinant_15 : decode b_M_determinant 15 = .ok (.iconst 3, 1) := by decide +kernel
theorem d_M_determinant_16 : decode b_M_determinant 16 = .ok (.irem, 1) := by decide +kernel
theorem d_M_determinant_17 : decode b_M_determinant 17 = .ok (.istore 6, 2) := by decide +kernel
theorem d_M_determinant_19 : decode b_M_determinant 19 = .ok (.iload 5, 2) := by decide +kernel
theorem d_M_determinant_21 : decode b_M_determinant 21 = .ok (.iconst 2, 1) := by decide +kernel
theorem d_M_determinant_22 : decode b_M_determinant 22 = .ok (.iadd, 1) := by decide +kernel
theorem d_M_determinant_23 : decode b_M_determinant 23 = .ok (.iconst 3, 1) := by decide +kernel
theorem d_M_determinant_24 : decode b_M_determinant 24 = .ok (.irem, 1) := by decide +kernel
theorem d_M_determinant_25 : decode b_M_determinant 25 = .ok (.istore 7, 2) := by decide +kernel
theorem d_M_determinant_27 : decode b_M_determinant 27 = .ok (.aload_n 0, 1) := by decide +kernel
theorem d_M_determinant_28 : decode b_M_determinant 28 = .ok (.iload_n 1, 1) := by decide +kernel
theorem d_M_determinant_29 : decode b_M_determinant 29 = .ok (.iconst 1, 1) := by decide +kernel
theorem d_M_determinant_30 : decode b_M_determinant 30 = .ok (.iload 6, 2) := by decide +kernel
theorem d_M_determinant_32 : decode b_M_determinant 32 = .ok (.iload_n 2, 1) := by decide +kernel
theorem d_M_determinant_33 : decode b_M_determinant 33 = .ok (.invokevirtual 100, 3) := by decide +kernel
theorem d_M_determinant_36 : decode b_M_determinant 36 = .ok (.aload_n 0, 1) := by decide +kernel
theorem d_M_determinant_37 : decode b_M_determinant 37 = .ok (.iload_n 1, 1) := by decide +kernel
theorem d_M_determinant_38 : decode b_M_determinant 38 = .ok (.iconst 2, 1) := by decide +kernel
theorem d_M_determinant_39 : decode b_M_determinant 39 = .ok (.iload 7, 2) := by decide +kernel
theorem d_M_determinant_41 : decode b_M_determinant 41 = .ok (.iload_n 2, 1) := by decide +kernel
theorem d_M_determinant_42 : decode b_M_determinant 42 = .ok (.invokevirtual 100, 3) := by decide +kernel
theorem d_M_determinant_45 : decode b_M_determinant 45 = .ok (.lmul, 1) := by decide +kernel
theorem d_M_determinant_46 : decode b_M_determinant 46 = .ok (.aload_n 0, 1) := by decide +kernel
theorem d_M_determinant_47 : decode b_M_determinant 47 = .ok (.iload_n 1, 1) := by decide +kernel
theorem d_M_determinant_48 : decode b_M_determinant 48 = .ok (.iconst 1, 1) := by decide +kernel
theorem d_M_determinant_49 : decode b_M_determinant 49 = .ok (.iload 7, 2) := by decide +kernel
theorem d_M_determinant_51 : decode b_M_determinant 51 = .ok (.iload_n 2, 1) := by decide +kernel
theorem d_M_determinant_52 : decode b_M_determinant 52 = .ok (.invokevirtual 100, 3) := by decide +kernel
theorem d_M_determinant_55 : decode b_M_determinant 55 = .ok (.aload_n 0, 1) := by decide +kernel
theorem d_M_determinant_56 : decode b_M_determinant 56 = .ok (.iload_n 1, 1) := by decide +kernel
theorem d_M_determinant_57 : decode b_M_determinant 57 = .ok (.iconst 2, 1) := by decide +kernel
theorem d_M_determinant_58 : decode b_M_determinant 58 = .ok (.iload 6, 2) := by decide +kernel
theorem d_M_determinant_60 : decode b_M_determinant 60 = .ok (.iload_n 2, 1) := by decide +kernel
theorem d_M_determinant_61 : decode b_M_determinant 61 = .ok (.invokevirtual 100, 3) := by decide +kernel
theorem d_M_determinant_64 : decode b_M_determinant 64 = .ok (.lmul, 1) := by decide +kernel
theorem d_M_determinant_65 : decode b_M_determinant 65 = .ok (.lsub, 1) := by decide +kernel
theorem d_M_determinant_66 : decode b_M_determinant 66 = .ok (.lstore 8, 2) := by decide +kernel
theorem d_M_determinant_68 : decode b_M_determinant 68 = .ok (.lload_n 3, 1) := by decide +kernel
theorem d_M_determinant_69 : decode b_M_determinant 69 = .ok (.aload_n 0, 1) := by decide +kernel
theorem d_M_determinant_70 : decode b_M_determinant 70 = .ok (.iload_n 1, 1) := by decide +kernel
theorem d_M_determinant_71 : decode b_M_determinant 71 = .ok (.iconst 0, 1) := by decide +kernel
theorem d_M_determinant_72 : decode b_M_determinant 72 = .ok (.iload 5, 2) := by decide +kernel
theorem d_M_determinant_74 : decode b_M_determinant 74 = .ok (.iload_n 2, 1) := by decide +kernel
theorem d_M_determinant_75 : decode b_M_determinant 75 = .ok (.invokevirtual 100, 3) := by decide +kernel
theorem d_M_determinant_78 : decode b_M_determinant 78 = .ok (.lload 8, 2) := by decide +kernel
theorem d_M_determinant_80 : decode b_M_determinant 80 = .ok (.lmul, 1) := by decide +kernel
theorem d_M_determinant_81 : decode b_M_determinant 81 = .ok (.ladd, 1) := by decide +kernel
theorem d_M_determinant_82 : decode b_M_determinant 82 = .ok (.lstore_n 3, 1) := by decide +kernel
theorem d_M_determinant_83 : decode b_M_determinant 83 = .ok (.iinc 5 1, 3) := by decide +kernel
theorem d_M_determinant_86 : decode b_M_determinant 86 = .ok (.goto (-81), 3) := by decide +kernel
theorem d_M_determinant_89 : decode b_M_determinant 89 = .ok (.lload_n 3, 1) := by decide +kernel
theorem d_M_determinant_90 : decode b_M_determinant 90 = .ok (.lreturn, 1) := by decide +kernel
theorem d_M_pull_0 : decode b_M_pull 0 = .ok (.lload 8, 2) := by decide +kernel
theorem d_M_pull_2 : decode b_M_pull 2 = .ok (.aload_n 0, 1) := by decide +kernel
theorem d_M_pull_3 : decode b_M_pull 3 = .ok (.getfield 31, 3) := by decide +kernel
theorem d_M_pull_6 : decode b_M_pull 6 = .ok (.iconst 4, 1) := by decide +kernel
theorem d_M_pull_7 : decode b_M_pull 7 = .ok (.iload_n 1, 1) := by decide +kernel
theorem d_M_pull_8 : decode b_M_pull 8 = .ok (.imul, 1) := by decide +kernel
theorem d_M_pull_9 : decode b_M_pull 9 = .ok (.iconst 3, 1) := by decide +kernel
theorem d_M_pull_10 : decode b_M_pull 10 = .ok (.iadd, 1) := by decide +kernel
theorem d_M_pull_11 : decode b_M_pull 11 = .ok (.laload, 1) := by decide +kernel
theorem d_M_pull_12 : decode b_M_pull 12 = .ok (.lmul, 1) := by decide +kernel
theorem d_M_pull_13 : decode b_M_pull 13 = .ok (.lload_n 2, 1) := by decide +kernel
theorem d_M_pull_14 : decode b_M_pull 14 = .ok (.aload_n 0, 1) := by decide +kernel
theorem d_M_pull_15 : decode b_M_pull 15 = .ok (.getfield 31, 3) := by decide +kernel
theorem d_M_pull_18 : decode b_M_pull 18 = .ok (.iconst 4, 1) := by decide +kernel
theorem d_M_pull_19 : decode b_M_pull 19 = .ok (.iload_n 1, 1) := by decide +kernel
theorem d_M_pull_20 : decode b_M_pull 20 = .ok (.imul, 1) := by decide +kernel
theorem d_M_pull_21 : decode b_M_pull 21 = .ok (.laload, 1) := by decide +kernel
theorem d_M_pull_22 : decode b_M_pull 22 = .ok (.lmul, 1) := by decide +kernel
theorem d_M_pull_23 : decode b_M_pull 23 = .ok (.lsub, 1) := by decide +kernel
theorem d_M_pull_24 : decode b_M_pull 24 = .ok (.lload 4, 2) := by decide +kernel
theorem d_M_pull_26 : decode b_M_pull 26 = .ok (.aload_n 0, 1) := by decide +kernel
theorem d_M_pull_27 : decode b_M_pull 27 = .ok (.getfield 31, 3) := by decide +kernel
theorem d_M_pull_30 : decode b_M_pull 30 = .ok (.iconst 4, 1) := by decide +kernel
theorem d_M_pull_31 : decode b_M_pull 31 = .ok (.iload_n 1, 1) := by decide +kernel
theorem d_M_pull_32 : decode b_M_pull 32 = .ok (.imul, 1) := by decide +kernel
theorem d_M_pull_33 : decode b_M_pull 33 = .ok (.iconst 1, 1) := by decide +kernel
theorem d_M_pull_34 : decode b_M_pull 34 = .ok (.iadd, 1) := by decide +kernel
theorem d_M_pull_35 : decode b_M_pull 35 = .ok (.laload, 1) := by decide +kernel
theorem d_M_pull_36 : decode b_M_pull 36 = .ok (.lmul, 1) := by decide +kernel
theorem d_M_pull_37 : decode b_M_pull 37 = .ok (.lsub, 1) := by decide +kernel
theorem d_M_pull_38 : decode b_M_pull 38 = .ok (.lload 6, 2) := by decide +kernel
theorem d_M_pull_40 : decode b_M_pull 40 = .ok (.aload_n 0, 1) := by decide +kernel
theorem d_M_pull_41 : decode b_M_pull 41 = .ok (.getfield 31, 3) := by decide +kernel
theorem d_M_pull_44 : decode b_M_pull 44 = .ok (.iconst 4, 1) := by decide +kernel
theorem d_M_pull_45 : decode b_M_pull 45 = .ok (.iload_n 1, 1) := by decide +kernel
theorem d_M_pull_46 : decode b_M_pull 46 = .ok (.imul, 1) := by decide +kernel
theorem d_M_pull_47 : decode b_M_pull 47 = .ok (.iconst 2, 1) := by decide +kernel
theorem d_M_pull_48 : decode b_M_pull 48 = .ok (.iadd, 1) := by decide +kernel
theorem d_M_pull_49 : decode b_M_pull 49 = .ok (.laload, 1) := by decide +kernel
theorem d_M_pull_50 : decode b_M_pull 50 = .ok (.lmul, 1) := by decide +kernel
theorem d_M_pull_51 : decode b_M_pull 51 = .ok (.lsub, 1) := by decide +kernel
theorem d_M_pull_52 : decode b_M_pull 52 = .ok (.lreturn, 1) := by decide +kernel
theorem d_M_shareOf_0 : decode b_M_shareOf 0 = .ok (.iload_n 1, 1) := by decide +kernel
theorem d_M_shareOf_1 : decode b_M_shareOf 1 = .ok (.iload_n 2, 1) := by decide +kernel
theorem d_M_shareOf_2 : decode b_M_shareOf 2 = .ok (.invokestatic 97, 3) := by decide +kernel
theorem d_M_shareOf_5 : decode b_M_shareOf 5 = .ok (.ifCond .eq 12, 3) := by decide +kernel
theorem d_M_shareOf_8 : decode b_M_shareOf 8 = .ok (.aload_n 0, 1) := by decide +kernel
theorem d_M_shareOf_9 : decode b_M_shareOf 9 = .ok (.iload_n 1, 1) := by decide +kernel
theorem d_M_shareOf_10 : decode b_M_shareOf 10 = .ok (.iload_n 2, 1) := by decide +kernel
theorem d_M_shareOf_11 : decode b_M_shareOf 11 = .ok (.invokevirtual 104, 3) := by decide +kernel
theorem d_M_shareOf_14 : decode b_M_shareOf 14 = .ok (.goto 4, 3) := by decide +kernel
theorem d_M_shareOf_17 : decode b_M_shareOf 17 = .ok (.lconst 0, 1) := by decide +kernel
theorem d_M_shareOf_18 : decode b_M_shareOf 18 = .ok (.lreturn, 1) := by decide +kernel
theorem d_M_isLeast_0 : decode b_M_isLeast 0 = .ok (.aload_n 0, 1) := by decide +kernel
theorem d_M_isLeast_1 : decode b_M_isLeast 1 = .ok (.iload_n 1, 1) := by decide +kernel
theorem d_M_isLeast_2 : decode b_M_isLeast 2 = .ok (.iconst (-1), 1) := by decide +kernel
theorem d_M_isLeast_3 : decode b_M_isLeast 3 = .ok (.invokevirtual 104, 3) := by decide +kernel
theorem d_M_isLeast_6 : decode b_M_isLeast 6 = .ok (.lstore_n 2, 1) := by decide +kernel
theorem d_M_isLeast_7 : decode b_M_isLeast 7 = .ok (.lload_n 2, 1) := by decide +kernel
theorem d_M_isLeast_8 : decode b_M_isLeast 8 = .ok (.lconst 0, 1) := by decide +kernel
theorem d_M_isLeast_9 : decode b_M_isLeast 9 = .ok (.lcmp, 1) := by decide +kernel
theorem d_M_isLeast_10 : decode b_M_isLeast 10 = .ok (.ifCond .le 7, 3) := by decide +kernel
theorem d_M_isLeast_13 : decode b_M_isLeast 13 = .ok (.iconst 1, 1) := by decide +kernel
theorem d_M_isLeast_14 : decode b_M_isLeast 14 = .ok (.goto 4, 3) := by decide +kernel
theorem d_M_isLeast_17 : decode b_M_isLeast 17 = .ok (.iconst 0, 1) := by decide +kernel
theorem d_M_isLeast_18 : decode b_M_isLeast 18 = .ok (.istore 4, 2) := by decide +kernel
theorem d_M_isLeast_20 : decode b_M_isLeast 20 = .ok (.aload_n 0, 1) := by decide +kernel
theorem d_M_isLeast_21 : decode b_M_isLeast 21 = .ok (.iload_n 1, 1) := by decide +kernel
theorem d_M_isLeast_22 : decode b_M_isLeast 22 = .ok (.iconst 0, 1) := by decide +kernel
theorem d_M_isLeast_23 : decode b_M_isLeast 23 = .ok (.invokevirtual 108, 3) := by decide +kernel
theorem d_M_isLeast_26 : decode b_M_isLeast 26 = .ok (.lstore 5, 2) := by decide +kernel
theorem d_M_isLeast_28 : decode b_M_isLeast 28 = .ok (.aload_n 0, 1) := by decide +kernel
theorem d_M_isLeast_29 : decode b_M_isLeast 29 = .ok (.iload_n 1, 1) := by decide +kernel
theorem d_M_isLeast_30 : decode b_M_isLeast 30 = .ok (.iconst 1, 1) := by decide +kernel
theorem d_M_isLeast_31 : decode b_M_isLeast 31 = .ok (.invokevirtual 108, 3) := by decide +kernel
theorem d_M_isLeast_34 : decode b_M_isLeast 34 = .ok (.lstore 7, 2) := by decide +kernel
theorem d_M_isLeast_36 : decode b_M_isLeast 36 = .ok (.aload_n 0, 1) := by decide +kernel
theorem d_M_isLeast_37 : decode b_M_isLeast 37 = .ok (.iload_n 1, 1) := by decide +kernel
theorem d_M_isLeast_38 : decode b_M_isLeast 38 = .ok (.iconst 2, 1) := by decide +kernel
theorem d_M_isLeast_39 : decode b_M_isLeast 39 = .ok (.invokevirtual 108, 3) := by decide +kernel
theorem d_M_isLeast_42 : decode b_M_isLeast 42 = .ok (.lstore 9, 2) := by decide +kernel
theorem d_M_isLeast_44 : decode b_M_isLeast 44 = .ok (.iload 4, 2) := by decide +kernel
theorem d_M_isLeast_46 : decode b_M_isLeast 46 = .ok (.ifCond .eq 28, 3) := by decide +kernel
theorem d_M_isLeast_49 : decode b_M_isLeast 49 = .ok (.lload 5, 2) := by decide +kernel
theorem d_M_isLeast_51 : decode b_M_isLeast 51 = .ok (.lconst 0, 1) := by decide +kernel
theorem d_M_isLeast_52 : decode b_M_isLeast 52 = .ok (.lcmp, 1) := by decide +kernel
theorem d_M_isLeast_53 : decode b_M_isLeast 53 = .ok (.ifCond .lt 21, 3) := by decide +kernel
theorem d_M_isLeast_56 : decode b_M_isLeast 56 = .ok (.lload 7, 2) := by decide +kernel
theorem d_M_isLeast_58 : decode b_M_isLeast 58 = .ok (.lconst 0, 1) := by decide +kernel
theorem d_M_isLeast_59 : decode b_M_isLeast 59 = .ok (.lcmp, 1) := by decide +kernel
theorem d_M_isLeast_60 : decode b_M_isLeast 60 = .ok (.ifCond .lt 14, 3) := by decide +kernel
theorem d_M_isLeast_63 : decode b_M_isLeast 63 = .ok (.lload 9, 2) := by decide +kernel
theorem d_M_isLeast_65 : decode b_M_isLeast 65 = .ok (.lconst 0, 1) := by decide +kernel
theorem d_M_isLeast_66 : decode b_M_isLeast 66 = .ok (.lcmp, 1) := by decide +kernel
theorem d_M_isLeast_67 : decode b_M_isLeast 67 = .ok (.ifCond .lt 7, 3) := by decide +kernel
theorem d_M_isLeast_70 : decode b_M_isLeast 70 = .ok (.iconst 1, 1) := by decide +kernel
theorem d_M_isLeast_71 : decode b_M_isLeast 71 = .ok (.goto 4, 3) := by decide +kernel
theorem d_M_isLeast_74 : decode b_M_isLeast 74 = .ok (.iconst 0, 1) := by decide +kernel
theorem d_M_isLeast_75 : decode b_M_isLeast 75 = .ok (.istore 4, 2) := by decide +kernel
theorem d_M_isLeast_77 : decode b_M_isLeast 77 = .ok (.iconst 0, 1) := by decide +kernel
theorem d_M_isLeast_78 : decode b_M_isLeast 78 = .ok (.istore 11, 2) := by decide +kernel
theorem d_M_isLeast_80 : decode b_M_isLeast 80 = .ok (.iload 11, 2) := by decide +kernel
theorem d_M_isLeast_82 : decode b_M_isLeast 82 = .ok (.aload_n 0, 1) := by decide +kernel
theorem d_M_isLeast_83 : decode b_M_isLeast 83 = .ok (.getfield 94, 3) := by decide +kernel
theorem d_M_isLeast_86 : decode b_M_isLeast 86 = .ok (.if_icmp .ge 48, 3) := by decide +kernel
theorem d_M_isLeast_89 : decode b_M_isLeast 89 = .ok (.iload 4, 2) := by decide +kernel
theorem d_M_isLeast_91 : decode b_M_isLeast 91 = .ok (.ifCond .eq 43, 3) := by decide +kernel
theorem d_M_isLeast_94 : decode b_M_isLeast 94 = .ok (.iload_n 1, 1) := by decide +kernel
theorem d_M_isLeast_95 : decode b_M_isLeast 95 = .ok (.iload 11, 2) := by decide +kernel
theorem d_M_isLeast_97 : decode b_M_isLeast 97 = .ok (.invokestatic 97, 3) := by decide +kernel
theorem d_M_isLeast_100 : decode b_M_isLeast 100 = .ok (.ifCond .ne 21, 3) := by decide +kernel
theorem d_M_isLeast_103 : decode b_M_isLeast 103 = .ok (.aload_n 0, 1) := by decide +kernel
theorem d_M_isLeast_104 : decode b_M_isLeast 104 = .ok (.iload 11, 2) := by decide +kernel
theorem d_M_isLeast_106 : decode b_M_isLeast 106 = .ok (.lload 5, 2) := by decide +kernel
theorem d_M_isLeast_108 : decode b_M_isLeast 108 = .ok (.lload 7, 2) := by decide +kernel
theorem d_M_isLeast_110 : decode b_M_isLeast 110 = .ok (.lload 9, 2) := by decide +kernel
theorem d_M_isLeast_112 : decode b_M_isLeast 112 = .ok (.lload_n 2, 1) := by decide +kernel
theorem d_M_isLeast_113 : decode b_M_isLeast 113 = .ok (.invokevirtual 111, 3) := by decide +kernel
theorem d_M_isLeast_116 : decode b_M_isLeast 116 = .ok (.lconst 0, 1) := by decide +kernel
theorem d_M_isLeast_117 : decode b_M_isLeast 117 = .ok (.lcmp, 1) := by decide +kernel
theorem d_M_isLeast_118 : decode b_M_isLeast 118 = .ok (.ifCond .gt 7, 3) := by decide +kernel
theorem d_M_isLeast_121 : decode b_M_isLeast 121 = .ok (.iconst 1, 1) := by decide +kernel
theorem d_M_isLeast_122 : decode b_M_isLeast 122 = .ok (.goto 4, 3) := by decide +kernel
theorem d_M_isLeast_125 : decode b_M_isLeast 125 = .ok (.iconst 0, 1) := by decide +kernel
theorem d_M_isLeast_126 : decode b_M_isLeast 126 = .ok (.istore 4, 2) := by decide +kernel
theorem d_M_isLeast_128 : decode b_M_isLeast 128 = .ok (.iinc 11 1, 3) := by decide +kernel
theorem d_M_isLeast_131 : decode b_M_isLeast 131 = .ok (.goto (-51), 3) := by decide +kernel
theorem d_M_isLeast_134 : decode b_M_isLeast 134 = .ok (.iload 4, 2) := by decide +kernel
theorem d_M_isLeast_136 : decode b_M_isLeast 136 = .ok (.ireturn, 1) := by decide +kernel
theorem d_M_many_0 : decode b_M_many 0 = .ok (.iload_n 0, 1) := by decide +kernel
theorem d_M_many_1 : decode b_M_many 1 = .ok (.iconst 1, 1) := by decide +kernel
theorem d_M_many_2 : decode b_M_many 2 = .ok (.iand, 1) := by decide +kernel
theorem d_M_many_3 : decode b_M_many 3 = .ok (.iload_n 0, 1) := by decide +kernel
theorem d_M_many_4 : decode b_M_many 4 = .ok (.iconst 1, 1) := by decide +kernel
theorem d_M_many_5 : decode b_M_many 5 = .ok (.ishr, 1) := by decide +kernel
theorem d_M_many_6 : decode b_M_many 6 = .ok (.iconst 1, 1) := by decide +kernel
theorem d_M_many_7 : decode b_M_many 7 = .ok (.iand, 1) := by decide +kernel
theorem d_M_many_8 : decode b_M_many 8 = .ok (.iadd, 1) := by decide +kernel
theorem d_M_many_9 : decode b_M_many 9 = .ok (.iload_n 0, 1) := by decide +kernel
theorem d_M_many_10 : decode b_M_many 10 = .ok (.iconst 2, 1) := by decide +kernel
theorem d_M_many_11 : decode b_M_many 11 = .ok (.ishr, 1) := by decide +kernel
theorem d_M_many_12 : decode b_M_many 12 = .ok (.iadd, 1) := by decide +kernel
theorem d_M_many_13 : decode b_M_many 13 = .ok (.ireturn, 1) := by decide +kernel
theorem d_M_parts_0 : decode b_M_parts 0 = .ok (.aload_n 0, 1) := by decide +kernel
theorem d_M_parts_1 : decode b_M_parts 1 = .ok (.iconst 0, 1) := by decide +kernel
theorem d_M_parts_2 : decode b_M_parts 2 = .ok (.putfield 61, 3) := by decide +kernel
theorem d_M_parts_5 : decode b_M_parts 5 = .ok (.aload_n 0, 1) := by decide +kernel
theorem d_M_parts_6 : decode b_M_parts 6 = .ok (.invokevirtual 115, 3) := by decide +kernel
theorem d_M_parts_9 : decode b_M_parts 9 = .ok (.iconst (-1), 1) := by decide +kernel
theorem d_M_parts_10 : decode b_M_parts 10 = .ok (.istore_n 1, 1) := by decide +kernel
theorem d_M_parts_11 : decode b_M_parts 11 = .ok (.iconst 0, 1) := by decide +kernel
theorem d_M_parts_12 : decode b_M_parts 12 = .ok (.istore_n 2, 1) := by decide +kernel
theorem d_M_parts_13 : decode b_M_parts 13 = .ok (.iload_n 2, 1) := by decide +kernel
theorem d_M_parts_14 : decode b_M_parts 14 = .ok (.iconst 1, 1) := by decide +kernel
theorem d_M_parts_15 : decode b_M_parts 15 = .ok (.aload_n 0, 1) := by decide +kernel
theorem d_M_parts_16 : decode b_M_parts 16 = .ok (.getfield 94, 3) := by decide +kernel
theorem d_M_parts_19 : decode b_M_parts 19 = .ok (.ishl, 1) := by decide +kernel
theorem d_M_parts_20 : decode b_M_parts 20 = .ok (.if_icmp .ge 49, 3) := by decide +kernel
theorem d_M_parts_23 : decode b_M_parts 23 = .ok (.iload_n 1, 1) := by decide +kernel
theorem d_M_parts_24 : decode b_M_parts 24 = .ok (.iconst (-1), 1) := by decide +kernel
theorem d_M_parts_25 : decode b_M_parts 25 = .ok (.if_icmp .eq 14, 3) := by decide +kernel
theorem d_M_parts_28 : decode b_M_parts 28 = .ok (.iload_n 2, 1) := by decide +kernel
theorem d_M_parts_29 : decode b_M_parts 29 = .ok (.invokestatic 118, 3) := by decide +kernel
theorem d_M_parts_32 : decode b_M_parts 32 = .ok (.iload_n 1, 1) := by decide +kernel
theorem d_M_parts_33 : decode b_M_parts 33 = .ok (.invokestatic 118, 3) := by decide +kernel
theorem d_M_parts_36 : decode b_M_parts 36 = .ok (.if_icmp .ge 7, 3) := by decide +kernel
theorem d_M_parts_39 : decode b_M_parts 39 = .ok (.iconst 1, 1) := by decide +kernel
theorem d_M_parts_40 : decode b_M_parts 40 = .ok (.goto 4, 3) := by decide +kernel
theorem d_M_parts_43 : decode b_M_parts 43 = .ok (.iconst 0, 1) := by decide +kernel
theorem d_M_parts_44 : decode b_M_parts 44 = .ok (.istore_n 3, 1) := by decide +kernel
theorem d_M_parts_45 : decode b_M_parts 45 = .ok (.iload_n 3, 1) := by decide +kernel
theorem d_M_parts_46 : decode b_M_parts 46 = .ok (.ifCond .eq 15, 3) := by decide +kernel
theorem d_M_parts_49 : decode b_M_parts 49 = .ok (.aload_n 0, 1) := by decide +kernel
theorem d_M_parts_50 : decode b_M_parts 50 = .ok (.iload_n 2, 1) := by decide +kernel
theorem d_M_parts_51 : decode b_M_parts 51 = .ok (.invokevirtual 121, 3) := by decide +kernel
theorem d_M_parts_54 : decode b_M_parts 54 = .ok (.ifCond .eq 7, 3) := by decide +kernel
theorem d_M_parts_57 : decode b_M_parts 57 = .ok (.iload_n 2, 1) := by decide +kernel
theorem d_M_parts_58 : decode b_M_parts 58 = .ok (.goto 4, 3) := by decide +kernel
theorem d_M_parts_61 : decode b_M_parts 61 = .ok (.iload_n 1, 1) := by decide +kernel
theorem d_M_parts_62 : decode b_M_parts 62 = .ok (.istore_n 1, 1) := by decide +kernel
theorem d_M_parts_63 : decode b_M_parts 63 = .ok (.iinc 2 1, 3) := by decide +kernel
theorem d_M_parts_66 : decode b_M_parts 66 = .ok (.goto (-53), 3) := by decide +kernel
theorem d_M_parts_69 : decode b_M_parts 69 = .ok (.aload_n 0, 1) := by decide +kernel
theorem d_M_parts_70 : decode b_M_parts 70 = .ok (.aload_n 0, 1) := by decide +kernel
theorem d_M_parts_71 : decode b_M_parts 71 = .ok (.iload_n 1, 1) := by decide +kernel
theorem d_M_parts_72 : decode b_M_parts 72 = .ok (.iconst (-1), 1) := by decide +kernel
theorem d_M_parts_73 : decode b_M_parts 73 = .ok (.invokevirtual 104, 3) := by decide +kernel
theorem d_M_parts_76 : decode b_M_parts 76 = .ok (.putfield 38, 3) := by decide +kernel
theorem d_M_parts_79 : decode b_M_parts 79 = .ok (.iconst 0, 1) := by decide +kernel
theorem d_M_parts_80 : decode b_M_parts 80 = .ok (.istore_n 2, 1) := by decide +kernel
theorem d_M_parts_81 : decode b_M_parts 81 = .ok (.iload_n 2, 1) := by decide +kernel
theorem d_M_parts_82 : decode b_M_parts 82 = .ok (.iconst 3, 1) := by decide +kernel
theorem d_M_parts_83 : decode b_M_parts 83 = .ok (.if_icmp .ge 21, 3) := by decide +kernel
theorem d_M_parts_86 : decode b_M_parts 86 = .ok (.aload_n 0, 1) := by decide +kernel
theorem d_M_parts_87 : decode b_M_parts 87 = .ok (.getfield 35, 3) := by decide +kernel
theorem d_M_parts_90 : decode b_M_parts 90 = .ok (.iload_n 2, 1) := by decide +kernel
theorem d_M_parts_91 : decode b_M_parts 91 = .ok (.aload_n 0, 1) := by decide +kernel
theorem d_M_parts_92 : decode b_M_parts 92 = .ok (.iload_n 1, 1) := by decide +kernel
theorem d_M_parts_93 : decode b_M_parts 93 = .ok (.iload_n 2, 1) := by decide +kernel
theorem d_M_parts_94 : decode b_M_parts 94 = .ok (.invokevirtual 108, 3) := by decide +kernel
theorem d_M_parts_97 : decode b_M_parts 97 = .ok (.lastore, 1) := by decide +kernel
theorem d_M_parts_98 : decode b_M_parts 98 = .ok (.iinc 2 1, 3) := by decide +kernel
theorem d_M_parts_101 : decode b_M_parts 101 = .ok (.goto (-20), 3) := by decide +kernel
theorem d_M_parts_104 : decode b_M_parts 104 = .ok (.aload_n 0, 1) := by decide +kernel
theorem d_M_parts_105 : decode b_M_parts 105 = .ok (.iconst 1, 1) := by decide +kernel
theorem d_M_parts_106 : decode b_M_parts 106 = .ok (.putfield 124, 3) := by decide +kernel
theorem d_M_parts_109 : decode b_M_parts 109 = .ok (.iload_n 1, 1) := by decide +kernel
theorem d_M_parts_110 : decode b_M_parts 110 = .ok (.ireturn, 1) := by decide +kernel
theorem d_M_fraction_0 : decode b_M_fraction 0 = .ok (.lload_n 1, 1) := by decide +kernel
theorem d_M_fraction_1 : decode b_M_fraction 1 = .ok (.lconst 0, 1) := by decide +kernel
theorem d_M_fraction_2 : decode b_M_fraction 2 = .ok (.lcmp, 1) := by decide +kernel
theorem d_M_fraction_3 : decode b_M_fraction 3 = .ok (.ifCond .ge 9, 3) := by decide +kernel
theorem d_M_fraction_6 : decode b_M_fraction 6 = .ok (.lconst 0, 1) := by decide +kernel
theorem d_M_fraction_7 : decode b_M_fraction 7 = .ok (.lload_n 1, 1) := by decide +kernel
theorem d_M_fraction_8 : decode b_M_fraction 8 = .ok (.lsub, 1) := by decide +kernel
theorem d_M_fraction_9 : decode b_M_fraction 9 = .ok (.goto 4, 3) := by decide +kernel
theorem d_M_fraction_12 : decode b_M_fraction 12 = .ok (.lload_n 1, 1) := by decide +kernel
theorem d_M_fraction_13 : decode b_M_fraction 13 = .ok (.lstore 5, 2) := by decide +kernel
theorem d_M_fraction_15 : decode b_M_fraction 15 = .ok (.lload_n 3, 1) := by decide +kernel
theorem d_M_fraction_16 : decode b_M_fraction 16 = .ok (.lstore 7, 2) := by decide +kernel
theorem d_M_fraction_18 : decode b_M_fraction 18 = .ok (.lload 7, 2) := by decide +kernel
theorem d_M_fraction_20 : decode b_M_fraction 20 = .ok (.lconst 0, 1) := by decide +kernel
theorem d_M_fraction_21 : decode b_M_fraction 21 = .ok (.lcmp, 1) := by decide +kernel
theorem d_M_fraction_22 : decode b_M_fraction 22 = .ok (.ifCond .eq 21, 3) := by decide +kernel
theorem d_M_fraction_25 : decode b_M_fraction 25 = .ok (.lload 5, 2) := by decide +kernel
theorem d_M_fraction_27 : decode b_M_fraction 27 = .ok (.lload 7, 2) := by decide +kernel
theorem d_M_fraction_29 : decode b_M_fraction 29 = .ok (.lrem, 1) := by decide +kernel
theorem d_M_fraction_30 : decode b_M_fraction 30 = .ok (.lstore 9, 2) := by decide +kernel
theorem d_M_fraction_32 : decode b_M_fraction 32 = .ok (.lload 7, 2) := by decide +kernel
theorem d_M_fraction_34 : decode b_M_fraction 34 = .ok (.lstore 5, 2) := by decide +kernel
theorem d_M_fraction_36 : decode b_M_fraction 36 = .ok (.lload 9, 2) := by decide +kernel
theorem d_M_fraction_38 : decode b_M_fraction 38 = .ok (.lstore 7, 2) := by decide +kernel
theorem d_M_fraction_40 : decode b_M_fraction 40 = .ok (.goto (-22), 3) := by decide +kernel
theorem d_M_fraction_43 : decode b_M_fraction 43 = .ok (.aload_n 0, 1) := by decide +kernel
theorem d_M_fraction_44 : decode b_M_fraction 44 = .ok (.lload_n 1, 1) := by decide +kernel
theorem d_M_fraction_45 : decode b_M_fraction 45 = .ok (.lload 5, 2) := by decide +kernel
theorem d_M_fraction_47 : decode b_M_fraction 47 = .ok (.ldiv, 1) := by decide +kernel
theorem d_M_fraction_48 : decode b_M_fraction 48 = .ok (.putfield 128, 3) := by decide +kernel
theorem d_M_fraction_51 : decode b_M_fraction 51 = .ok (.aload_n 0, 1) := by decide +kernel
theorem d_M_fraction_52 : decode b_M_fraction 52 = .ok (.lload_n 3, 1) := by decide +kernel
theorem d_M_fraction_53 : decode b_M_fraction 53 = .ok (.lload 5, 2) := by decide +kernel
theorem d_M_fraction_55 : decode b_M_fraction 55 = .ok (.ldiv, 1) := by decide +kernel
theorem d_M_fraction_56 : decode b_M_fraction 56 = .ok (.putfield 131, 3) := by decide +kernel
theorem d_M_fraction_59 : decode b_M_fraction 59 = .ok (.return_, 1) := by decide +kernel
theorem d_M_share_0 : decode b_M_share 0 = .ok (.aload_n 0, 1) := by decide +kernel
theorem d_M_share_1 : decode b_M_share 1 = .ok (.iload_n 1, 1) := by decide +kernel
theorem d_M_share_2 : decode b_M_share 2 = .ok (.iconst 0, 1) := by decide +kernel
theorem d_M_share_3 : decode b_M_share 3 = .ok (.aload_n 0, 1) := by decide +kernel
theorem d_M_share_4 : decode b_M_share 4 = .ok (.getfield 94, 3) := by decide +kernel
theorem d_M_share_7 : decode b_M_share 7 = .ok (.iconst 1, 1) := by decide +kernel
theorem d_M_share_8 : decode b_M_share 8 = .ok (.isub, 1) := by decide +kernel
theorem d_M_share_9 : decode b_M_share 9 = .ok (.invokestatic 64, 3) := by decide +kernel
theorem d_M_share_12 : decode b_M_share 12 = .ok (.ifCond .eq 16, 3) := by decide +kernel
theorem d_M_share_15 : decode b_M_share 15 = .ok (.iload_n 2, 1) := by decide +kernel
theorem d_M_share_16 : decode b_M_share 16 = .ok (.iconst 0, 1) := by decide +kernel
theorem d_M_share_17 : decode b_M_share 17 = .ok (.iconst 1, 1) := by decide +kernel
theorem d_M_share_18 : decode b_M_share 18 = .ok (.invokestatic 64, 3) := by decide +kernel
theorem d_M_share_21 : decode b_M_share 21 = .ok (.ifCond .eq 7, 3) := by decide +kernel
theorem d_M_share_24 : decode b_M_share 24 = .ok (.iconst 1, 1) := by decide +kernel
theorem d_M_share_25 : decode b_M_share 25 = .ok (.goto 4, 3) := by decide +kernel
theorem d_M_share_28 : decode b_M_share 28 = .ok (.iconst 0, 1) := by decide +kernel
theorem d_M_share_29 : decode b_M_share 29 = .ok (.aload_n 0, 1) := by decide +kernel
theorem d_M_share_30 : decode b_M_share 30 = .ok (.getfield 124, 3) := by decide +kernel
theorem d_M_share_33 : decode b_M_share 33 = .ok (.iconst 1, 1) := by decide +kernel
theorem d_M_share_34 : decode b_M_share 34 = .ok (.invokevirtual 72, 3) := by decide +kernel
theorem d_M_share_37 : decode b_M_share 37 = .ok (.ifCond .ne 5, 3) := by decide +kernel
theorem d_M_share_40 : decode b_M_share 40 = .ok (.lconst 0, 1) := by decide +kernel
theorem d_M_share_41 : decode b_M_share 41 = .ok (.lreturn, 1) := by decide +kernel
theorem d_M_share_42 : decode b_M_share 42 = .ok (.aload_n 0, 1) := by decide +kernel
theorem d_M_share_43 : decode b_M_share 43 = .ok (.aload_n 0, 1) := by decide +kernel
theorem d_M_share_44 : decode b_M_share 44 = .ok (.getfield 35, 3) := by decide +kernel
theorem d_M_share_47 : decode b_M_share 47 = .ok (.iload_n 1, 1) := by decide +kernel
theorem d_M_share_48 : decode b_M_share 48 = .ok (.laload, 1) := by decide +kernel
theorem d_M_share_49 : decode b_M_share 49 = .ok (.aload_n 0, 1) := by decide +kernel
theorem d_M_share_50 : decode b_M_share 50 = .ok (.getfield 38, 3) := by decide +kernel
theorem d_M_share_53 : decode b_M_share 53 = .ok (.invokevirtual 134, 3) := by decide +kernel
theorem d_M_share_56 : decode b_M_share 56 = .ok (.iload_n 2, 1) := by decide +kernel
theorem d_M_share_57 : decode b_M_share 57 = .ok (.ifCond .ne 10, 3) := by decide +kernel
theorem d_M_share_60 : decode b_M_share 60 = .ok (.aload_n 0, 1) := by decide +kernel
theorem d_M_share_61 : decode b_M_share 61 = .ok (.getfield 128, 3) := by decide +kernel
theorem d_M_share_64 : decode b_M_share 64 = .ok (.goto 7, 3) := by decide +kernel
theorem d_M_share_67 : decode b_M_share 67 = .ok (.aload_n 0, 1) := by decide +kernel
theorem d_M_share_68 : decode b_M_share 68 = .ok (.getfield 131, 3) := by decide +kernel
theorem d_M_share_71 : decode b_M_share 71 = .ok (.lreturn, 1) := by decide +kernel
theorem d_M_least_0 : decode b_M_least 0 = .ok (.aload_n 0, 1) := by decide +kernel
theorem d_M_least_1 : decode b_M_least 1 = .ok (.aload_n 0, 1) := by decide +kernel
theorem d_M_least_2 : decode b_M_least 2 = .ok (.getfield 124, 3) := by decide +kernel
theorem d_M_least_5 : decode b_M_least 5 = .ok (.iconst 1, 1) := by decide +kernel
theorem d_M_least_6 : decode b_M_least 6 = .ok (.iconst 1, 1) := by decide +kernel
theorem d_M_least_7 : decode b_M_least 7 = .ok (.invokevirtual 72, 3) := by decide +kernel
theorem d_M_least_10 : decode b_M_least 10 = .ok (.ifCond .ne 5, 3) := by decide +kernel
theorem d_M_least_13 : decode b_M_least 13 = .ok (.iconst 0, 1) := by decide +kernel
theorem d_M_least_14 : decode b_M_least 14 = .ok (.ireturn, 1) := by decide +kernel
theorem d_M_least_15 : decode b_M_least 15 = .ok (.aload_n 0, 1) := by decide +kernel
theorem d_M_least_16 : decode b_M_least 16 = .ok (.invokevirtual 115, 3) := by decide +kernel
theorem d_M_least_19 : decode b_M_least 19 = .ok (.iconst 1, 1) := by decide +kernel
theorem d_M_least_20 : decode b_M_least 20 = .ok (.istore_n 1, 1) := by decide +kernel
theorem d_M_least_21 : decode b_M_least 21 = .ok (.iconst 0, 1) := by decide +kernel
theorem d_M_least_22 : decode b_M_least 22 = .ok (.istore_n 2, 1) := by decide +kernel
theorem d_M_least_23 : decode b_M_least 23 = .ok (.iload_n 2, 1) := by decide +kernel
theorem d_M_least_24 : decode b_M_least 24 = .ok (.aload_n 0, 1) := by decide +kernel
theorem d_M_least_25 : decode b_M_least 25 = .ok (.getfield 94, 3) := by decide +kernel
theorem d_M_least_28 : decode b_M_least 28 = .ok (.if_icmp .ge 73, 3) := by decide +kernel
theorem d_M_least_31 : decode b_M_least 31 = .ok (.aload_n 0, 1) := by decide +kernel
theorem d_M_least_32 : decode b_M_least 32 = .ok (.iload_n 2, 1) := by decide +kernel
theorem d_M_least_33 : decode b_M_least 33 = .ok (.aload_n 0, 1) := by decide +kernel
theorem d_M_least_34 : decode b_M_least 34 = .ok (.getfield 35, 3) := by decide +kernel
theorem d_M_least_37 : decode b_M_least 37 = .ok (.iconst 0, 1) := by decide +kernel
theorem d_M_least_38 : decode b_M_least 38 = .ok (.laload, 1) := by decide +kernel
theorem d_M_least_39 : decode b_M_least 39 = .ok (.aload_n 0, 1) := by decide +kernel
theorem d_M_least_40 : decode b_M_least 40 = .ok (.getfield 35, 3) := by decide +kernel
theorem d_M_least_43 : decode b_M_least 43 = .ok (.iconst 1, 1) := by decide +kernel
theorem d_M_least_44 : decode b_M_least 44 = .ok (.laload, 1) := by decide +kernel
theorem d_M_least_45 : decode b_M_least 45 = .ok (.aload_n 0, 1) := by decide +kernel
theorem d_M_least_46 : decode b_M_least 46 = .ok (.getfield 35, 3) := by decide +kernel
theorem d_M_least_49 : decode b_M_least 49 = .ok (.iconst 2, 1) := by decide +kernel
theorem d_M_least_50 : decode b_M_least 50 = .ok (.laload, 1) := by decide +kernel
theorem d_M_least_51 : decode b_M_least 51 = .ok (.aload_n 0, 1) := by decide +kernel
theorem d_M_least_52 : decode b_M_least 52 = .ok (.getfield 38, 3) := by decide +kernel
theorem d_M_least_55 : decode b_M_least 55 = .ok (.invokevirtual 111, 3) := by decide +kernel
theorem d_M_least_58 : decode b_M_least 58 = .ok (.lstore_n 3, 1) := by decide +kernel
theorem d_M_least_59 : decode b_M_least 59 = .ok (.iload_n 1, 1) := by decide +kernel
theorem d_M_least_60 : decode b_M_least 60 = .ok (.ifCond .eq 33, 3) := by decide +kernel
theorem d_M_least_63 : decode b_M_least 63 = .ok (.aload_n 0, 1) := by decide +kernel
theorem d_M_least_64 : decode b_M_least 64 = .ok (.getfield 35, 3) := by decide +kernel
theorem d_M_least_67 : decode b_M_least 67 = .ok (.iload_n 2, 1) := by decide +kernel
theorem d_M_least_68 : decode b_M_least 68 = .ok (.laload, 1) := by decide +kernel
theorem d_M_least_69 : decode b_M_least 69 = .ok (.lconst 0, 1) := by decide +kernel
theorem d_M_least_70 : decode b_M_least 70 = .ok (.lcmp, 1) := by decide +kernel
theorem d_M_least_71 : decode b_M_least 71 = .ok (.ifCond .le 12, 3) := by decide +kernel
theorem d_M_least_74 : decode b_M_least 74 = .ok (.lload_n 3, 1) := by decide +kernel
theorem d_M_least_75 : decode b_M_least 75 = .ok (.lconst 0, 1) := by decide +kernel
theorem d_M_least_76 : decode b_M_least 76 = .ok (.lcmp, 1) := by decide +kernel
theorem d_M_least_77 : decode b_M_least 77 = .ok (.ifCond .ne 16, 3) := by decide +kernel
theorem d_M_least_80 : decode b_M_least 80 = .ok (.goto 9, 3) := by decide +kernel
theorem d_M_least_83 : decode b_M_least 83 = .ok (.lload_n 3, 1) := by decide +kernel
theorem d_M_least_84 : decode b_M_least 84 = .ok (.lconst 0, 1) := by decide +kernel
theorem d_M_least_85 : decode b_M_least 85 = .ok (.lcmp, 1) := by decide +kernel
theorem d_M_least_86 : decode b_M_least 86 = .ok (.ifCond .gt 7, 3) := by decide +kernel
theorem d_M_least_89 : decode b_M_least 89 = .ok (.iconst 1, 1) := by decide +kernel
theorem d_M_least_90 : decode b_M_least 90 = .ok (.goto 4, 3) := by decide +kernel
theorem d_M_least_93 : decode b_M_least 93 = .ok (.iconst 0, 1) := by decide +kernel
theorem d_M_least_94 : decode b_M_least 94 = .ok (.istore_n 1, 1) := by decide +kernel
theorem d_M_least_95 : decode b_M_least 95 = .ok (.iinc 2 1, 3) := by decide +kernel
theorem d_M_least_98 : decode b_M_least 98 = .ok (.goto (-75), 3) := by decide +kernel
theorem d_M_least_101 : decode b_M_least 101 = .ok (.iload_n 1, 1) := by decide +kernel
theorem d_M_least_102 : decode b_M_least 102 = .ok (.ireturn, 1) := by decide +kernel
theorem d_M_sample_0 : decode b_M_sample 0 = .ok (.aload_n 0, 1) := by decide +kernel
theorem d_M_sample_1 : decode b_M_sample 1 = .ok (.aload_n 0, 1) := by decide +kernel
theorem d_M_sample_2 : decode b_M_sample 2 = .ok (.getfield 138, 3) := by decide +kernel
theorem d_M_sample_5 : decode b_M_sample 5 = .ok (.bipush 12, 2) := by decide +kernel
theorem d_M_sample_7 : decode b_M_sample 7 = .ok (.if_icmp .ge 7, 3) := by decide +kernel
theorem d_M_sample_10 : decode b_M_sample 10 = .ok (.iconst 1, 1) := by decide +kernel
theorem d_M_sample_11 : decode b_M_sample 11 = .ok (.goto 4, 3) := by decide +kernel
theorem d_M_sample_14 : decode b_M_sample 14 = .ok (.iconst 0, 1) := by decide +kernel
theorem d_M_sample_15 : decode b_M_sample 15 = .ok (.iconst 1, 1) := by decide +kernel
theorem d_M_sample_16 : decode b_M_sample 16 = .ok (.iconst 1, 1) := by decide +kernel
theorem d_M_sample_17 : decode b_M_sample 17 = .ok (.invokevirtual 72, 3) := by decide +kernel
theorem d_M_sample_20 : decode b_M_sample 20 = .ok (.ifCond .ne 5, 3) := by decide +kernel
theorem d_M_sample_23 : decode b_M_sample 23 = .ok (.iconst 0, 1) := by decide +kernel
theorem d_M_sample_24 : decode b_M_sample 24 = .ok (.ireturn, 1) := by decide +kernel
theorem d_M_sample_25 : decode b_M_sample 25 = .ok (.aload_n 0, 1) := by decide +kernel
theorem d_M_sample_26 : decode b_M_sample 26 = .ok (.dup, 1) := by decide +kernel
theorem d_M_sample_27 : decode b_M_sample 27 = .ok (.getfield 138, 3) := by decide +kernel
theorem d_M_sample_30 : decode b_M_sample 30 = .ok (.iconst 1, 1) := by decide +kernel
theorem d_M_sample_31 : decode b_M_sample 31 = .ok (.iadd, 1) := by decide +kernel
theorem d_M_sample_32 : decode b_M_sample 32 = .ok (.putfield 138, 3) := by decide +kernel
theorem d_M_sample_35 : decode b_M_sample 35 = .ok (.aload_n 0, 1) := by decide +kernel
theorem d_M_sample_36 : decode b_M_sample 36 = .ok (.getfield 138, 3) := by decide +kernel
theorem d_M_sample_39 : decode b_M_sample 39 = .ok (.iconst 1, 1) := by decide +kernel
theorem d_M_sample_40 : decode b_M_sample 40 = .ok (.isub, 1) := by decide +kernel
theorem d_M_sample_41 : decode b_M_sample 41 = .ok (.ireturn, 1) := by decide +kernel
theorem d_M_isSample_0 : decode b_M_isSample 0 = .ok (.iload_n 1, 1) := by decide +kernel
theorem d_M_isSample_1 : decode b_M_isSample 1 = .ok (.iconst 0, 1) := by decide +kernel
theorem d_M_isSample_2 : decode b_M_isSample 2 = .ok (.aload_n 0, 1) := by decide +kernel
theorem d_M_isSample_3 : decode b_M_isSample 3 = .ok (.getfield 138, 3) := by decide +kernel
theorem d_M_isSample_6 : decode b_M_isSample 6 = .ok (.iconst 1, 1) := by decide +kernel
theorem d_M_isSample_7 : decode b_M_isSample 7 = .ok (.isub, 1) := by decide +kernel
theorem d_M_isSample_8 : decode b_M_isSample 8 = .ok (.invokestatic 64, 3) := by decide +kernel
theorem d_M_isSample_11 : decode b_M_isSample 11 = .ok (.ireturn, 1) := by decide +kernel
theorem d_M_measured_0 : decode b_M_measured 0 = .ok (.aload_n 0, 1) := by decide +kernel
theorem d_M_measured_1 : decode b_M_measured 1 = .ok (.aload_n 0, 1) := by decide +kernel
theorem d_M_measured_2 : decode b_M_measured 2 = .ok (.iload_n 1, 1) := by decide +kernel
theorem d_M_measured_3 : decode b_M_measured 3 = .ok (.invokevirtual 141, 3) := by decide +kernel
theorem d_M_measured_6 : decode b_M_measured 6 = .ok (.ifCond .eq 16, 3) := by decide +kernel
theorem d_M_measured_9 : decode b_M_measured 9 = .ok (.iload_n 2, 1) := by decide +kernel
theorem d_M_measured_10 : decode b_M_measured 10 = .ok (.iconst 0, 1) := by decide +kernel
theorem d_M_measured_11 : decode b_M_measured 11 = .ok (.iconst 1, 1) := by decide +kernel
theorem d_M_measured_12 : decode b_M_measured 12 = .ok (.invokestatic 64, 3) := by decide +kernel
theorem d_M_measured_15 : decode b_M_measured 15 = .ok (.ifCond .eq 7, 3) := by decide +kernel
theorem d_M_measured_18 : decode b_M_measured 18 = .ok (.iconst 1, 1) := by decide +kernel
theorem d_M_measured_19 : decode b_M_measured 19 = .ok (.goto 4, 3) := by decide +kernel
theorem d_M_measured_22 : decode b_M_measured 22 = .ok (.iconst 0, 1) := by decide +kernel
theorem d_M_measured_23 : decode b_M_measured 23 = .ok (.iload_n 3, 1) := by decide +kernel
theorem d_M_measured_24 : decode b_M_measured 24 = .ok (.sipush (-1000), 3) := by decide +kernel
theorem d_M_measured_27 : decode b_M_measured 27 = .ok (.sipush 1000, 3) := by decide +kernel
theorem d_M_measured_30 : decode b_M_measured 30 = .ok (.invokestatic 64, 3) := by decide +kernel
theorem d_M_measured_33 : decode b_M_measured 33 = .ok (.iconst 1, 1) := by decide +kernel
theorem d_M_measured_34 : decode b_M_measured 34 = .ok (.invokevirtual 72, 3) := by decide +kernel
theorem d_M_measured_37 : decode b_M_measured 37 = .ok (.ifCond .ne 5, 3) := by decide +kernel
theorem d_M_measured_40 : decode b_M_measured 40 = .ok (.iconst 0, 1) := by decide +kernel
theorem d_M_measured_41 : decode b_M_measured 41 = .ok (.ireturn, 1) := by decide +kernel
theorem d_M_measured_42 : decode b_M_measured 42 = .ok (.aload_n 0, 1) := by decide +kernel
theorem d_M_measured_43 : decode b_M_measured 43 = .ok (.getfield 42, 3) := by decide +kernel
theorem d_M_measured_46 : decode b_M_measured 46 = .ok (.iconst 2, 1) := by decide +kernel
theorem d_M_measured_47 : decode b_M_measured 47 = .ok (.iload_n 1, 1) := by decide +kernel
theorem d_M_measured_48 : decode b_M_measured 48 = .ok (.imul, 1) := by decide +kernel
theorem d_M_measured_49 : decode b_M_measured 49 = .ok (.iload_n 2, 1) := by decide +kernel
theorem d_M_measured_50 : decode b_M_measured 50 = .ok (.iadd, 1) := by decide +kernel
theorem d_M_measured_51 : decode b_M_measured 51 = .ok (.iaload, 1) := by decide +kernel
theorem d_M_measured_52 : decode b_M_measured 52 = .ok (.istore 4, 2) := by decide +kernel
theorem d_M_measured_54 : decode b_M_measured 54 = .ok (.aload_n 0, 1) := by decide +kernel
theorem d_M_measured_55 : decode b_M_measured 55 = .ok (.getfield 42, 3) := by decide +kernel
theorem d_M_measured_58 : decode b_M_measured 58 = .ok (.iconst 2, 1) := by decide +kernel
theorem d_M_measured_59 : decode b_M_measured 59 = .ok (.iload_n 1, 1) := by decide +kernel
theorem d_M_measured_60 : decode b_M_measured 60 = .ok (.imul, 1) := by decide +kernel
theorem d_M_measured_61 : decode b_M_measured 61 = .ok (.iload_n 2, 1) := by decide +kernel
theorem d_M_measured_62 : decode b_M_measured 62 = .ok (.iadd, 1) := by decide +kernel
theorem d_M_measured_63 : decode b_M_measured 63 = .ok (.iload_n 3, 1) := by decide +kernel
theorem d_M_measured_64 : decode b_M_measured 64 = .ok (.iastore, 1) := by decide +kernel
theorem d_M_measured_65 : decode b_M_measured 65 = .ok (.iload 4, 2) := by decide +kernel
theorem d_M_measured_67 : decode b_M_measured 67 = .ok (.ireturn, 1) := by decide +kernel
theorem d_M_covariance_0 : decode b_M_covariance 0 = .ok (.iload_n 1, 1) := by decide +kernel
theorem d_M_covariance_1 : decode b_M_covariance 1 = .ok (.iconst 1, 1) := by decide +kernel
theorem d_M_covariance_2 : decode b_M_covariance 2 = .ok (.sipush 1000, 3) := by decide +kernel
theorem d_M_covariance_5 : decode b_M_covariance 5 = .ok (.invokestatic 64, 3) := by decide +kernel
theorem d_M_covariance_8 : decode b_M_covariance 8 = .ok (.ifCond .eq 31, 3) := by decide +kernel
theorem d_M_covariance_11 : decode b_M_covariance 11 = .ok (.iload_n 2, 1) := by decide +kernel
theorem d_M_covariance_12 : decode b_M_covariance 12 = .ok (.sipush (-1000), 3) := by decide +kernel
theorem d_M_covariance_15 : decode b_M_covariance 15 = .ok (.sipush 1000, 3) := by decide +kernel
theorem d_M_covariance_18 : decode b_M_covariance 18 = .ok (.invokestatic 64, 3) := by decide +kernel
theorem d_M_covariance_21 : decode b_M_covariance 21 = .ok (.ifCond .eq 18, 3) := by decide +kernel
theorem d_M_covariance_24 : decode b_M_covariance 24 = .ok (.iload_n 3, 1) := by decide +kernel
theorem d_M_covariance_25 : decode b_M_covariance 25 = .ok (.iconst 1, 1) := by decide +kernel
theorem d_M_covariance_26 : decode b_M_covariance 26 = .ok (.sipush 1000, 3) := by decide +kernel
theorem d_M_covariance_29 : decode b_M_covariance 29 = .ok (.invokestatic 64, 3) := by decide +kernel
theorem d_M_covariance_32 : decode b_M_covariance 32 = .ok (.ifCond .eq 7, 3) := by decide +kernel
theorem d_M_covariance_35 : decode b_M_covariance 35 = .ok (.iconst 1, 1) := by decide +kernel
theorem d_M_covariance_36 : decode b_M_covariance 36 = .ok (.goto 4, 3) := by decide +kernel
theorem d_M_covariance_39 : decode b_M_covariance 39 = .ok (.iconst 0, 1) := by decide +kernel
theorem d_M_covariance_40 : decode b_M_covariance 40 = .ok (.istore 4, 2) := by decide +kernel
theorem d_M_covariance_42 : decode b_M_covariance 42 = .ok (.aload_n 0, 1) := by decide +kernel
theorem d_M_covariance_43 : decode b_M_covariance 43 = .ok (.iload 4, 2) := by decide +kernel
theorem d_M_covariance_45 : decode b_M_covariance 45 = .ok (.ifCond .eq 17, 3) := by decide +kernel
theorem d_M_covariance_48 : decode b_M_covariance 48 = .ok (.iload_n 1, 1) := by decide +kernel
theorem d_M_covariance_49 : decode b_M_covariance 49 = .ok (.iload_n 3, 1) := by decide +kernel
theorem d_M_covariance_50 : decode b_M_covariance 50 = .ok (.imul, 1) := by decide +kernel
theorem d_M_covariance_51 : decode b_M_covariance 51 = .ok (.iload_n 2, 1) := by decide +kernel
theorem d_M_covariance_52 : decode b_M_covariance 52 = .ok (.iload_n 2, 1) := by decide +kernel
theorem d_M_covariance_53 : decode b_M_covariance 53 = .ok (.imul, 1) := by decide +kernel
theorem d_M_covariance_54 : decode b_M_covariance 54 = .ok (.isub, 1) := by decide +kernel
theorem d_M_covariance_55 : decode b_M_covariance 55 = .ok (.ifCond .le 7, 3) := by decide +kernel
theorem d_M_covariance_58 : decode b_M_covariance 58 = .ok (.iconst 1, 1) := by decide +kernel
theorem d_M_covariance_59 : decode b_M_covariance 59 = .ok (.goto 4, 3) := by decide +kernel
theorem d_M_covariance_62 : decode b_M_covariance 62 = .ok (.iconst 0, 1) := by decide +kernel
theorem d_M_covariance_63 : decode b_M_covariance 63 = .ok (.iconst 1, 1) := by decide +kernel
theorem d_M_covariance_64 : decode b_M_covariance 64 = .ok (.iconst 1, 1) := by decide +kernel
theorem d_M_covariance_65 : decode b_M_covariance 65 = .ok (.invokevirtual 72, 3) := by decide +kernel
theorem d_M_covariance_68 : decode b_M_covariance 68 = .ok (.ifCond .eq 18, 3) := by decide +kernel
theorem d_M_covariance_71 : decode b_M_covariance 71 = .ok (.aload_n 0, 1) := by decide +kernel
theorem d_M_covariance_72 : decode b_M_covariance 72 = .ok (.iload_n 1, 1) := by decide +kernel
theorem d_M_covariance_73 : decode b_M_covariance 73 = .ok (.putfield 45, 3) := by decide +kernel
theorem d_M_covariance_76 : decode b_M_covariance 76 = .ok (.aload_n 0, 1) := by decide +kernel
theorem d_M_covariance_77 : decode b_M_covariance 77 = .ok (.iload_n 2, 1) := by decide +kernel
theorem d_M_covariance_78 : decode b_M_covariance 78 = .ok (.putfield 144, 3) := by decide +kernel
theorem d_M_covariance_81 : decode b_M_covariance 81 = .ok (.aload_n 0, 1) := by decide +kernel
theorem d_M_covariance_82 : decode b_M_covariance 82 = .ok (.iload_n 3, 1) := by decide +kernel
theorem d_M_covariance_83 : decode b_M_covariance 83 = .ok (.putfield 49, 3) := by decide +kernel
theorem d_M_covariance_86 : decode b_M_covariance 86 = .ok (.return_, 1) := by decide +kernel
theorem d_M_apart_0 : decode b_M_apart 0 = .ok (.aload_n 0, 1) := by decide +kernel
theorem d_M_apart_1 : decode b_M_apart 1 = .ok (.getfield 42, 3) := by decide +kernel
theorem d_M_apart_4 : decode b_M_apart 4 = .ok (.iconst 2, 1) := by decide +kernel
theorem d_M_apart_5 : decode b_M_apart 5 = .ok (.iload_n 1, 1) := by decide +kernel
theorem d_M_apart_6 : decode b_M_apart 6 = .ok (.imul, 1) := by decide +kernel
theorem d_M_apart_7 : decode b_M_apart 7 = .ok (.iaload, 1) := by decide +kernel
theorem d_M_apart_8 : decode b_M_apart 8 = .ok (.aload_n 0, 1) := by decide +kernel
theorem d_M_apart_9 : decode b_M_apart 9 = .ok (.getfield 42, 3) := by decide +kernel
theorem d_M_apart_12 : decode b_M_apart 12 = .ok (.iconst 2, 1) := by decide +kernel
theorem d_M_apart_13 : decode b_M_apart 13 = .ok (.iload_n 2, 1) := by decide +kernel
theorem d_M_apart_14 : decode b_M_apart 14 = .ok (.imul, 1) := by decide +kernel
theorem d_M_apart_15 : decode b_M_apart 15 = .ok (.iaload, 1) := by decide +kernel
theorem d_M_apart_16 : decode b_M_apart 16 = .ok (.isub, 1) := by decide +kernel
theorem d_M_apart_17 : decode b_M_apart 17 = .ok (.i2l, 1) := by decide +kernel
theorem d_M_apart_18 : decode b_M_apart 18 = .ok (.lstore_n 3, 1) := by decide +kernel
theorem d_M_apart_19 : decode b_M_apart 19 = .ok (.aload_n 0, 1) := by decide +kernel
theorem d_M_apart_20 : decode b_M_apart 20 = .ok (.getfield 42, 3) := by decide +kernel
theorem d_M_apart_23 : decode b_M_apart 23 = .ok (.iconst 2, 1) := by decide +kernel
theorem d_M_apart_24 : decode b_M_apart 24 = .ok (.iload_n 1, 1) := by decide +kernel
theorem d_M_apart_25 : decode b_M_apart 25 = .ok (.imul, 1) := by decide +kernel
theorem d_M_apart_26 : decode b_M_apart 26 = .ok (.iconst 1, 1) := by decide +kernel
theorem d_M_apart_27 : decode b_M_apart 27 = .ok (.iadd, 1) := by decide +kernel
theorem d_M_apart_28 : decode b_M_apart 28 = .ok (.iaload, 1) := by decide +kernel
theorem d_M_apart_29 : decode b_M_apart 29 = .ok (.aload_n 0, 1) := by decide +kernel
theorem d_M_apart_30 : decode b_M_apart 30 = .ok (.getfield 42, 3) := by decide +kernel
theorem d_M_apart_33 : decode b_M_apart 33 = .ok (.iconst 2, 1) := by decide +kernel
theorem d_M_apart_34 : decode b_M_apart 34 = .ok (.iload_n 2, 1) := by decide +kernel
theorem d_M_apart_35 : decode b_M_apart 35 = .ok (.imul, 1) := by decide +kernel
theorem d_M_apart_36 : decode b_M_apart 36 = .ok (.iconst 1, 1) := by decide +kernel
theorem d_M_apart_37 : decode b_M_apart 37 = .ok (.iadd, 1) := by decide +kernel
theorem d_M_apart_38 : decode b_M_apart 38 = .ok (.iaload, 1) := by decide +kernel
theorem d_M_apart_39 : decode b_M_apart 39 = .ok (.isub, 1) := by decide +kernel
theorem d_M_apart_40 : decode b_M_apart 40 = .ok (.i2l, 1) := by decide +kernel
theorem d_M_apart_41 : decode b_M_apart 41 = .ok (.lstore 5, 2) := by decide +kernel
theorem d_M_apart_43 : decode b_M_apart 43 = .ok (.aload_n 0, 1) := by decide +kernel
theorem d_M_apart_44 : decode b_M_apart 44 = .ok (.getfield 49, 3) := by decide +kernel
theorem d_M_apart_47 : decode b_M_apart 47 = .ok (.i2l, 1) := by decide +kernel
theorem d_M_apart_48 : decode b_M_apart 48 = .ok (.lload_n 3, 1) := by decide +kernel
theorem d_M_apart_49 : decode b_M_apart 49 = .ok (.lmul, 1) := by decide +kernel
theorem d_M_apart_50 : decode b_M_apart 50 = .ok (.lload_n 3, 1) := by decide +kernel
theorem d_M_apart_51 : decode b_M_apart 51 = .ok (.lmul, 1) := by decide +kernel
theorem d_M_apart_52 : decode b_M_apart 52 = .ok (.ldc2_w 147, 3) := by decide +kernel
theorem d_M_apart_55 : decode b_M_apart 55 = .ok (.aload_n 0, 1) := by decide +kernel
theorem d_M_apart_56 : decode b_M_apart 56 = .ok (.getfield 144, 3) := by decide +kernel
theorem d_M_apart_59 : decode b_M_apart 59 = .ok (.i2l, 1) := by decide +kernel
theorem d_M_apart_60 : decode b_M_apart 60 = .ok (.lmul, 1) := by decide +kernel
theorem d_M_apart_61 : decode b_M_apart 61 = .ok (.lload_n 3, 1) := by decide +kernel
theorem d_M_apart_62 : decode b_M_apart 62 = .ok (.lmul, 1) := by decide +kernel
theorem d_M_apart_63 : decode b_M_apart 63 = .ok (.lload 5, 2) := by decide +kernel
theorem d_M_apart_65 : decode b_M_apart 65 = .ok (.lmul, 1) := by decide +kernel
theorem d_M_apart_66 : decode b_M_apart 66 = .ok (.lsub, 1) := by decide +kernel
theorem d_M_apart_67 : decode b_M_apart 67 = .ok (.aload_n 0, 1) := by decide +kernel
theorem d_M_apart_68 : decode b_M_apart 68 = .ok (.getfield 45, 3) := by decide +kernel
theorem d_M_apart_71 : decode b_M_apart 71 = .ok (.i2l, 1) := by decide +kernel
theorem d_M_apart_72 : decode b_M_apart 72 = .ok (.lload 5, 2) := by decide +kernel
theorem d_M_apart_74 : decode b_M_apart 74 = .ok (.lmul, 1) := by decide +kernel
theorem d_M_apart_75 : decode b_M_apart 75 = .ok (.lload 5, 2) := by decide +kernel
theorem d_M_apart_77 : decode b_M_apart 77 = .ok (.lmul, 1) := by decide +kernel
theorem d_M_apart_78 : decode b_M_apart 78 = .ok (.ladd, 1) := by decide +kernel
theorem d_M_apart_79 : decode b_M_apart 79 = .ok (.lreturn, 1) := by decide +kernel
theorem d_M_distance_0 : decode b_M_distance 0 = .ok (.aload_n 0, 1) := by decide +kernel
theorem d_M_distance_1 : decode b_M_distance 1 = .ok (.aload_n 0, 1) := by decide +kernel
theorem d_M_distance_2 : decode b_M_distance 2 = .ok (.iload_n 1, 1) := by decide +kernel
theorem d_M_distance_3 : decode b_M_distance 3 = .ok (.invokevirtual 141, 3) := by decide +kernel
theorem d_M_distance_6 : decode b_M_distance 6 = .ok (.ifCond .eq 24, 3) := by decide +kernel
theorem d_M_distance_9 : decode b_M_distance 9 = .ok (.aload_n 0, 1) := by decide +kernel
theorem d_M_distance_10 : decode b_M_distance 10 = .ok (.iload_n 2, 1) := by decide +kernel
theorem d_M_distance_11 : decode b_M_distance 11 = .ok (.invokevirtual 141, 3) := by decide +kernel
theorem d_M_distance_14 : decode b_M_distance 14 = .ok (.ifCond .eq 16, 3) := by decide +kernel
theorem d_M_distance_17 : decode b_M_distance 17 = .ok (.iload_n 3, 1) := by decide +kernel
theorem d_M_distance_18 : decode b_M_distance 18 = .ok (.iconst 0, 1) := by decide +kernel
theorem d_M_distance_19 : decode b_M_distance 19 = .ok (.iconst 1, 1) := by decide +kernel
theorem d_M_distance_20 : decode b_M_distance 20 = .ok (.invokestatic 64, 3) := by decide +kernel
theorem d_M_distance_23 : decode b_M_distance 23 = .ok (.ifCond .eq 7, 3) := by decide +kernel
theorem d_M_distance_26 : decode b_M_distance 26 = .ok (.iconst 1, 1) := by decide +kernel
theorem d_M_distance_27 : decode b_M_distance 27 = .ok (.goto 4, 3) := by decide +kernel
theorem d_M_distance_30 : decode b_M_distance 30 = .ok (.iconst 0, 1) := by decide +kernel
theorem d_M_distance_31 : decode b_M_distance 31 = .ok (.iconst 1, 1) := by decide +kernel
theorem d_M_distance_32 : decode b_M_distance 32 = .ok (.iconst 1, 1) := by decide +kernel
theorem d_M_distance_33 : decode b_M_distance 33 = .ok (.invokevirtual 72, 3) := by decide +kernel
theorem d_M_distance_36 : decode b_M_distance 36 = .ok (.ifCond .ne 5, 3) := by decide +kernel
theorem d_M_distance_39 : decode b_M_distance 39 = .ok (.lconst 0, 1) := by decide +kernel
theorem d_M_distance_40 : decode b_M_distance 40 = .ok (.lreturn, 1) := by decide +kernel
theorem d_M_distance_41 : decode b_M_distance 41 = .ok (.aload_n 0, 1) := by decide +kernel
theorem d_M_distance_42 : decode b_M_distance 42 = .ok (.aload_n 0, 1) := by decide +kernel
theorem d_M_distance_43 : decode b_M_distance 43 = .ok (.iload_n 1, 1) := by decide +kernel
theorem d_M_distance_44 : decode b_M_distance 44 = .ok (.iload_n 2, 1) := by decide +kernel
theorem d_M_distance_45 : decode b_M_distance 45 = .ok (.invokevirtual 149, 3) := by decide +kernel
theorem d_M_distance_48 : decode b_M_distance 48 = .ok (.aload_n 0, 1) := by decide +kernel
theorem d_M_distance_49 : decode b_M_distance 49 = .ok (.getfield 45, 3) := by decide +kernel
theorem d_M_distance_52 : decode b_M_distance 52 = .ok (.aload_n 0, 1) := by decide +kernel
theorem d_M_distance_53 : decode b_M_distance 53 = .ok (.getfield 49, 3) := by decide +kernel
theorem d_M_distance_56 : decode b_M_distance 56 = .ok (.imul, 1) := by decide +kernel
theorem d_M_distance_57 : decode b_M_distance 57 = .ok (.aload_n 0, 1) := by decide +kernel
theorem d_M_distance_58 : decode b_M_distance 58 = .ok (.getfield 144, 3) := by decide +kernel
theorem d_M_distance_61 : decode b_M_distance 61 = .ok (.aload_n 0, 1) := by decide +kernel
theorem d_M_distance_62 : decode b_M_distance 62 = .ok (.getfield 144, 3) := by decide +kernel
theorem d_M_distance_65 : decode b_M_distance 65 = .ok (.imul, 1) := by decide +kernel
theorem d_M_distance_66 : decode b_M_distance 66 = .ok (.isub, 1) := by decide +kernel
theorem d_M_distance_67 : decode b_M_distance 67 = .ok (.i2l, 1) := by decide +kernel
theorem d_M_distance_68 : decode b_M_distance 68 = .ok (.invokevirtual 134, 3) := by decide +kernel
theorem d_M_distance_71 : decode b_M_distance 71 = .ok (.iload_n 3, 1) := by decide +kernel
theorem d_M_distance_72 : decode b_M_distance 72 = .ok (.ifCond .ne 10, 3) := by decide +kernel
theorem d_M_distance_75 : decode b_M_distance 75 = .ok (.aload_n 0, 1) := by decide +kernel
theorem d_M_distance_76 : decode b_M_distance 76 = .ok (.getfield 128, 3) := by decide +kernel
theorem d_M_distance_79 : decode b_M_distance 79 = .ok (.goto 7, 3) := by decide +kernel
theorem d_M_distance_82 : decode b_M_distance 82 = .ok (.aload_n 0, 1) := by decide +kernel
theorem d_M_distance_83 : decode b_M_distance 83 = .ok (.getfield 131, 3) := by decide +kernel
theorem d_M_distance_86 : decode b_M_distance 86 = .ok (.lreturn, 1) := by decide +kernel
theorem d_M_group_0 : decode b_M_group 0 = .ok (.aload_n 0, 1) := by decide +kernel
theorem d_M_group_1 : decode b_M_group 1 = .ok (.aload_n 0, 1) := by decide +kernel
theorem d_M_group_2 : decode b_M_group 2 = .ok (.iload_n 1, 1) := by decide +kernel
theorem d_M_group_3 : decode b_M_group 3 = .ok (.invokevirtual 141, 3) := by decide +kernel
theorem d_M_group_6 : decode b_M_group 6 = .ok (.iload_n 2, 1) := by decide +kernel
theorem d_M_group_7 : decode b_M_group 7 = .ok (.ifCond .lt 7, 3) := by decide +kernel
theorem d_M_group_10 : decode b_M_group 10 = .ok (.iconst 1, 1) := by decide +kernel
theorem d_M_group_11 : decode b_M_group 11 = .ok (.goto 4, 3) := by decide +kernel
theorem d_M_group_14 : decode b_M_group 14 = .ok (.iconst 0, 1) := by decide +kernel
theorem d_M_group_15 : decode b_M_group 15 = .ok (.iconst 1, 1) := by decide +kernel
theorem d_M_group_16 : decode b_M_group 16 = .ok (.invokevirtual 72, 3) := by decide +kernel
theorem d_M_group_19 : decode b_M_group 19 = .ok (.ifCond .ne 5, 3) := by decide +kernel
theorem d_M_group_22 : decode b_M_group 22 = .ok (.iconst 0, 1) := by decide +kernel
theorem d_M_group_23 : decode b_M_group 23 = .ok (.ireturn, 1) := by decide +kernel
theorem d_M_group_24 : decode b_M_group 24 = .ok (.iconst 1, 1) := by decide +kernel
theorem d_M_group_25 : decode b_M_group 25 = .ok (.iload_n 1, 1) := by decide +kernel
theorem d_M_group_26 : decode b_M_group 26 = .ok (.ishl, 1) := by decide +kernel
theorem d_M_group_27 : decode b_M_group 27 = .ok (.istore_n 3, 1) := by decide +kernel
theorem d_M_group_28 : decode b_M_group 28 = .ok (.iconst 0, 1) := by decide +kernel
theorem d_M_group_29 : decode b_M_group 29 = .ok (.istore 4, 2) := by decide +kernel
theorem d_M_group_31 : decode b_M_group 31 = .ok (.iload_n 3, 1) := by decide +kernel
theorem d_M_group_32 : decode b_M_group 32 = .ok (.iload 4, 2) := by decide +kernel
theorem d_M_group_34 : decode b_M_group 34 = .ok (.if_icmp .eq 118, 3) := by decide +kernel
theorem d_M_group_37 : decode b_M_group 37 = .ok (.iload_n 3, 1) := by decide +kernel
theorem d_M_group_38 : decode b_M_group 38 = .ok (.istore 4, 2) := by decide +kernel
theorem d_M_group_40 : decode b_M_group 40 = .ok (.iconst 0, 1) := by decide +kernel
theorem d_M_group_41 : decode b_M_group 41 = .ok (.istore 5, 2) := by decide +kernel
theorem d_M_group_43 : decode b_M_group 43 = .ok (.iload 5, 2) := by decide +kernel
theorem d_M_group_45 : decode b_M_group 45 = .ok (.aload_n 0, 1) := by decide +kernel
theorem d_M_group_46 : decode b_M_group 46 = .ok (.getfield 138, 3) := by decide +kernel
theorem d_M_group_49 : decode b_M_group 49 = .ok (.aload_n 0, 1) := by decide +kernel
theorem d_M_group_50 : decode b_M_group 50 = .ok (.getfield 138, 3) := by decide +kernel
theorem d_M_group_53 : decode b_M_group 53 = .ok (.imul, 1) := by decide +kernel
theorem d_M_group_54 : decode b_M_group 54 = .ok (.if_icmp .ge 95, 3) := by decide +kernel
theorem d_M_group_57 : decode b_M_group 57 = .ok (.iload 5, 2) := by decide +kernel
theorem d_M_group_59 : decode b_M_group 59 = .ok (.aload_n 0, 1) := by decide +kernel
theorem d_M_group_60 : decode b_M_group 60 = .ok (.getfield 138, 3) := by decide +kernel
theorem d_M_group_63 : decode b_M_group 63 = .ok (.idiv, 1) := by decide +kernel
theorem d_M_group_64 : decode b_M_group 64 = .ok (.istore 6, 2) := by decide +kernel
theorem d_M_group_66 : decode b_M_group 66 = .ok (.iload 5, 2) := by decide +kernel
theorem d_M_group_68 : decode b_M_group 68 = .ok (.aload_n 0, 1) := by decide +kernel
theorem d_M_group_69 : decode b_M_group 69 = .ok (.getfield 138, 3) := by decide +kernel
theorem d_M_group_72 : decode b_M_group 72 = .ok (.irem, 1) := by decide +kernel
theorem d_M_group_73 : decode b_M_group 73 = .ok (.istore 7, 2) := by decide +kernel
theorem d_M_group_75 : decode b_M_group 75 = .ok (.iload 4, 2) := by decide +kernel
theorem d_M_group_77 : decode b_M_group 77 = .ok (.iload 6, 2) := by decide +kernel
theorem d_M_group_79 : decode b_M_group 79 = .ok (.invokestatic 97, 3) := by decide +kernel
theorem d_M_group_82 : decode b_M_group 82 = .ok (.ifCond .eq 42, 3) := by decide +kernel
theorem d_M_group_85 : decode b_M_group 85 = .ok (.aload_n 0, 1) := by decide +kernel
theorem d_M_group_86 : decode b_M_group 86 = .ok (.iload 6, 2) := by decide +kernel
theorem d_M_group_88 : decode b_M_group 88 = .ok (.iload 7, 2) := by decide +kernel
theorem d_M_group_90 : decode b_M_group 90 = .ok (.invokevirtual 149, 3) := by decide +kernel
theorem d_M_group_93 : decode b_M_group 93 = .ok (.iload_n 2, 1) := by decide +kernel
theorem d_M_group_94 : decode b_M_group 94 = .ok (.i2l, 1) := by decide +kernel
theorem d_M_group_95 : decode b_M_group 95 = .ok (.aload_n 0, 1) := by decide +kernel
theorem d_M_group_96 : decode b_M_group 96 = .ok (.getfield 45, 3) := by decide +kernel
theorem d_M_group_99 : decode b_M_group 99 = .ok (.aload_n 0, 1) := by decide +kernel
theorem d_M_group_100 : decode b_M_group 100 = .ok (.getfield 49, 3) := by decide +kernel
theorem d_M_group_103 : decode b_M_group 103 = .ok (.imul, 1) := by decide +kernel
theorem d_M_group_104 : decode b_M_group 104 = .ok (.aload_n 0, 1) := by decide +kernel
theorem d_M_group_105 : decode b_M_group 105 = .ok (.getfield 144, 3) := by decide +kernel
theorem d_M_group_108 : decode b_M_group 108 = .ok (.aload_n 0, 1) := by decide +kernel
theorem d_M_group_109 : decode b_M_group 109 = .ok (.getfield 144, 3) := by decide +kernel
theorem d_M_group_112 : decode b_M_group 112 = .ok (.imul, 1) := by decide +kernel
theorem d_M_group_113 : decode b_M_group 113 = .ok (.isub, 1) := by decide +kernel
theorem d_M_group_114 : decode b_M_group 114 = .ok (.i2l, 1) := by decide +kernel
theorem d_M_group_115 : decode b_M_group 115 = .ok (.lmul, 1) := by decide +kernel
theorem d_M_group_116 : decode b_M_group 116 = .ok (.lcmp, 1) := by decide +kernel
theorem d_M_group_117 : decode b_M_group 117 = .ok (.ifCond .gt 7, 3) := by decide +kernel
theorem d_M_group_120 : decode b_M_group 120 = .ok (.iconst 1, 1) := by decide +kernel
theorem d_M_group_121 : decode b_M_group 121 = .ok (.goto 4, 3) := by decide +kernel
theorem d_M_group_124 : decode b_M_group 124 = .ok (.iconst 0, 1) := by decide +kernel
theorem d_M_group_125 : decode b_M_group 125 = .ok (.istore 8, 2) := by decide +kernel
theorem d_M_group_127 : decode b_M_group 127 = .ok (.iload 8, 2) := by decide +kernel
theorem d_M_group_129 : decode b_M_group 129 = .ok (.ifCond .eq 12, 3) := by decide +kernel
theorem d_M_group_132 : decode b_M_group 132 = .ok (.iload_n 3, 1) := by decide +kernel
theorem d_M_group_133 : decode b_M_group 133 = .ok (.iconst 1, 1) := by decide +kernel
theorem d_M_group_134 : decode b_M_group 134 = .ok (.iload 7, 2) := by decide +kernel
theorem d_M_group_136 : decode b_M_group 136 = .ok (.ishl, 1) := by decide +kernel
theorem d_M_group_137 : decode b_M_group 137 = .ok (.ior, 1) := by decide +kernel
theorem d_M_group_138 : decode b_M_group 138 = .ok (.goto 4, 3) := by decide +kernel
theorem d_M_group_141 : decode b_M_group 141 = .ok (.iload_n 3, 1) := by decide +kernel
theorem d_M_group_142 : decode b_M_group 142 = .ok (.istore_n 3, 1) := by decide +kernel
theorem d_M_group_143 : decode b_M_group 143 = .ok (.iinc 5 1, 3) := by decide +kernel
theorem d_M_group_146 : decode b_M_group 146 = .ok (.goto (-103), 3) := by decide +kernel
theorem d_M_group_149 : decode b_M_group 149 = .ok (.goto (-118), 3) := by decide +kernel
theorem d_M_group_152 : decode b_M_group 152 = .ok (.iconst 0, 1) := by decide +kernel
theorem d_M_group_153 : decode b_M_group 153 = .ok (.istore 5, 2) := by decide +kernel
theorem d_M_group_155 : decode b_M_group 155 = .ok (.iload_n 3, 1) := by decide +kernel
theorem d_M_group_156 : decode b_M_group 156 = .ok (.iload 5, 2) := by decide +kernel
theorem d_M_group_158 : decode b_M_group 158 = .ok (.invokestatic 97, 3) := by decide +kernel
theorem d_M_group_161 : decode b_M_group 161 = .ok (.ifCond .ne 9, 3) := by decide +kernel
theorem d_M_group_164 : decode b_M_group 164 = .ok (.iinc 5 1, 3) := by decide +kernel
theorem d_M_group_167 : decode b_M_group 167 = .ok (.goto (-12), 3) := by decide +kernel
theorem d_M_group_170 : decode b_M_group 170 = .ok (.iload 5, 2) := by decide +kernel
theorem d_M_group_172 : decode b_M_group 172 = .ok (.ireturn, 1) := by decide +kernel
theorem d_M_standard_0 : decode b_M_standard 0 = .ok (.iconst (-1), 1) := by decide +kernel
theorem d_M_standard_1 : decode b_M_standard 1 = .ok (.istore_n 3, 1) := by decide +kernel
theorem d_M_standard_2 : decode b_M_standard 2 = .ok (.iconst 0, 1) := by decide +kernel
theorem d_M_standard_3 : decode b_M_standard 3 = .ok (.istore 4, 2) := by decide +kernel
theorem d_M_standard_5 : decode b_M_standard 5 = .ok (.iload 4, 2) := by decide +kernel
theorem d_M_standard_7 : decode b_M_standard 7 = .ok (.aload_n 0, 1) := by decide +kernel
theorem d_M_standard_8 : decode b_M_standard 8 = .ok (.getfield 152, 3) := by decide +kernel
theorem d_M_standard_11 : decode b_M_standard 11 = .ok (.if_icmp .ge 27, 3) := by decide +kernel
theorem d_M_standard_14 : decode b_M_standard 14 = .ok (.aload_n 0, 1) := by decide +kernel
theorem d_M_standard_15 : decode b_M_standard 15 = .ok (.getfield 52, 3) := by decide +kernel
theorem d_M_standard_18 : decode b_M_standard 18 = .ok (.iload 4, 2) := by decide +kernel
theorem d_M_standard_20 : decode b_M_standard 20 = .ok (.iaload, 1) := by decide +kernel
theorem d_M_standard_21 : decode b_M_standard 21 = .ok (.iload_n 1, 1) := by decide +kernel
theorem d_M_standard_22 : decode b_M_standard 22 = .ok (.if_icmp .ne 8, 3) := by decide +kernel
theorem d_M_standard_25 : decode b_M_standard 25 = .ok (.iload 4, 2) := by decide +kernel
theorem d_M_standard_27 : decode b_M_standard 27 = .ok (.goto 4, 3) := by decide +kernel
theorem d_M_standard_30 : decode b_M_standard 30 = .ok (.iload_n 3, 1) := by decide +kernel
theorem d_M_standard_31 : decode b_M_standard 31 = .ok (.istore_n 3, 1) := by decide +kernel
theorem d_M_standard_32 : decode b_M_standard 32 = .ok (.iinc 4 1, 3) := by decide +kernel
theorem d_M_standard_35 : decode b_M_standard 35 = .ok (.goto (-30), 3) := by decide +kernel
theorem d_M_standard_38 : decode b_M_standard 38 = .ok (.aload_n 0, 1) := by decide +kernel
theorem d_M_standard_39 : decode b_M_standard 39 = .ok (.iload_n 1, 1) := by decide +kernel
theorem d_M_standard_40 : decode b_M_standard 40 = .ok (.iconst 0, 1) := by decide +kernel
theorem d_M_standard_41 : decode b_M_standard 41 = .ok (.ldc 155, 2) := by decide +kernel
theorem d_M_standard_43 : decode b_M_standard 43 = .ok (.invokestatic 64, 3) := by decide +kernel
theorem d_M_standard_46 : decode b_M_standard 46 = .ok (.ifCond .eq 18, 3) := by decide +kernel
theorem d_M_standard_49 : decode b_M_standard 49 = .ok (.iload_n 2, 1) := by decide +kernel
theorem d_M_standard_50 : decode b_M_standard 50 = .ok (.iconst 1, 1) := by decide +kernel
theorem d_M_standard_51 : decode b_M_standard 51 = .ok (.sipush 10000, 3) := by decide +kernel
theorem d_M_standard_54 : decode b_M_standard 54 = .ok (.invokestatic 64, 3) := by decide +kernel
theorem d_M_standard_57 : decode b_M_standard 57 = .ok (.ifCond .eq 7, 3) := by decide +kernel
theorem d_M_standard_60 : decode b_M_standard 60 = .ok (.iconst 1, 1) := by decide +kernel
theorem d_M_standard_61 : decode b_M_standard 61 = .ok (.goto 4, 3) := by decide +kernel
theorem d_M_standard_64 : decode b_M_standard 64 = .ok (.iconst 0, 1) := by decide +kernel
theorem d_M_standard_65 : decode b_M_standard 65 = .ok (.iload_n 3, 1) := by decide +kernel
theorem d_M_standard_66 : decode b_M_standard 66 = .ok (.iconst (-1), 1) := by decide +kernel
theorem d_M_standard_67 : decode b_M_standard 67 = .ok (.if_icmp .ne 12, 3) := by decide +kernel
theorem d_M_standard_70 : decode b_M_standard 70 = .ok (.aload_n 0, 1) := by decide +kernel
theorem d_M_standard_71 : decode b_M_standard 71 = .ok (.getfield 152, 3) := by decide +kernel
theorem d_M_standard_74 : decode b_M_standard 74 = .ok (.bipush 10, 2) := by decide +kernel
theorem d_M_standard_76 : decode b_M_standard 76 = .ok (.if_icmp .ge 7, 3) := by decide +kernel
theorem d_M_standard_79 : decode b_M_standard 79 = .ok (.iconst 1, 1) := by decide +kernel
theorem d_M_standard_80 : decode b_M_standard 80 = .ok (.goto 4, 3) := by decide +kernel
theorem d_M_standard_83 : decode b_M_standard 83 = .ok (.iconst 0, 1) := by decide +kernel
theorem d_M_standard_84 : decode b_M_standard 84 = .ok (.iconst 1, 1) := by decide +kernel
theorem d_M_standard_85 : decode b_M_standard 85 = .ok (.invokevirtual 72, 3) := by decide +kernel
theorem d_M_standard_88 : decode b_M_standard 88 = .ok (.ifCond .ne 5, 3) := by decide +kernel
theorem d_M_standard_91 : decode b_M_standard 91 = .ok (.iconst 0, 1) := by decide +kernel
theorem d_M_standard_92 : decode b_M_standard 92 = .ok (.ireturn, 1) := by decide +kernel
theorem d_M_standard_93 : decode b_M_standard 93 = .ok (.iload_n 3, 1) := by decide +kernel
theorem d_M_standard_94 : decode b_M_standard 94 = .ok (.iconst (-1), 1) := by decide +kernel
theorem d_M_standard_95 : decode b_M_standard 95 = .ok (.if_icmp .ne 10, 3) := by decide +kernel
theorem d_M_standard_98 : decode b_M_standard 98 = .ok (.aload_n 0, 1) := by decide +kernel
theorem d_M_standard_99 : decode b_M_standard 99 = .ok (.getfield 152, 3) := by decide +kernel
theorem d_M_standard_102 : decode b_M_standard 102 = .ok (.goto 4, 3) := by decide +kernel
theorem d_M_standard_105 : decode b_M_standard 105 = .ok (.iload_n 3, 1) := by decide +kernel
theorem d_M_standard_106 : decode b_M_standard 106 = .ok (.istore 4, 2) := by decide +kernel
theorem d_M_standard_108 : decode b_M_standard 108 = .ok (.aload_n 0, 1) := by decide +kernel
theorem d_M_standard_109 : decode b_M_standard 109 = .ok (.iload_n 3, 1) := by decide +kernel
theorem d_M_standard_110 : decode b_M_standard 110 = .ok (.iconst (-1), 1) := by decide +kernel
theorem d_M_standard_111 : decode b_M_standard 111 = .ok (.if_icmp .ne 12, 3) := by decide +kernel
theorem d_M_standard_114 : decode b_M_standard 114 = .ok (.aload_n 0, 1) := by decide +kernel
theorem d_M_standard_115 : decode b_M_standard 115 = .ok (.getfield 152, 3) := by decide +kernel
theorem d_M_standard_118 : decode b_M_standard 118 = .ok (.iconst 1, 1) := by decide +kernel
theorem d_M_standard_119 : decode b_M_standard 119 = .ok (.iadd, 1) := by decide +kernel
theorem d_M_standard_120 : decode b_M_standard 120 = .ok (.goto 7, 3) := by decide +kernel
theorem d_M_standard_123 : decode b_M_standard 123 = .ok (.aload_n 0, 1) := by decide +kernel
theorem d_M_standard_124 : decode b_M_standard 124 = .ok (.getfield 152, 3) := by decide +kernel
theorem d_M_standard_127 : decode b_M_standard 127 = .ok (.putfield 152, 3) := by decide +kernel
theorem d_M_standard_130 : decode b_M_standard 130 = .ok (.aload_n 0, 1) := by decide +kernel
theorem d_M_standard_131 : decode b_M_standard 131 = .ok (.getfield 52, 3) := by decide +kernel
theorem d_M_standard_134 : decode b_M_standard 134 = .ok (.iload 4, 2) := by decide +kernel
theorem d_M_standard_136 : decode b_M_standard 136 = .ok (.iload_n 1, 1) := by decide +kernel
theorem d_M_standard_137 : decode b_M_standard 137 = .ok (.iastore, 1) := by decide +kernel
theorem d_M_standard_138 : decode b_M_standard 138 = .ok (.aload_n 0, 1) := by decide +kernel
theorem d_M_standard_139 : decode b_M_standard 139 = .ok (.getfield 55, 3) := by decide +kernel
theorem d_M_standard_142 : decode b_M_standard 142 = .ok (.iload 4, 2) := by decide +kernel
theorem d_M_standard_144 : decode b_M_standard 144 = .ok (.iload_n 2, 1) := by decide +kernel
theorem d_M_standard_145 : decode b_M_standard 145 = .ok (.iastore, 1) := by decide +kernel
theorem d_M_standard_146 : decode b_M_standard 146 = .ok (.aload_n 0, 1) := by decide +kernel
theorem d_M_standard_147 : decode b_M_standard 147 = .ok (.getfield 152, 3) := by decide +kernel
theorem d_M_standard_150 : decode b_M_standard 150 = .ok (.ireturn, 1) := by decide +kernel
theorem d_M_factorOf_0 : decode b_M_factorOf 0 = .ok (.iconst (-1), 1) := by decide +kernel
theorem d_M_factorOf_1 : decode b_M_factorOf 1 = .ok (.istore_n 2, 1) := by decide +kernel
theorem d_M_factorOf_2 : decode b_M_factorOf 2 = .ok (.iconst (-1), 1) := by decide +kernel
theorem d_M_factorOf_3 : decode b_M_factorOf 3 = .ok (.istore_n 3, 1) := by decide +kernel
theorem d_M_factorOf_4 : decode b_M_factorOf 4 = .ok (.iconst 0, 1) := by decide +kernel
theorem d_M_factorOf_5 : decode b_M_factorOf 5 = .ok (.istore 4, 2) := by decide +kernel
theorem d_M_factorOf_7 : decode b_M_factorOf 7 = .ok (.iload 4, 2) := by decide +kernel
theorem d_M_factorOf_9 : decode b_M_factorOf 9 = .ok (.aload_n 0, 1) := by decide +kernel
theorem d_M_factorOf_10 : decode b_M_factorOf 10 = .ok (.getfield 152, 3) := by decide +kernel
theorem d_M_factorOf_13 : decode b_M_factorOf 13 = .ok (.if_icmp .ge 87, 3) := by decide +kernel
theorem d_M_factorOf_16 : decode b_M_factorOf 16 = .ok (.aload_n 0, 1) := by decide +kernel
theorem d_M_factorOf_17 : decode b_M_factorOf 17 = .ok (.getfield 52, 3) := by decide +kernel
theorem d_M_factorOf_20 : decode b_M_factorOf 20 = .ok (.iload 4, 2) := by decide +kernel
theorem d_M_factorOf_22 : decode b_M_factorOf 22 = .ok (.iaload, 1) := by decide +kernel
theorem d_M_factorOf_23 : decode b_M_factorOf 23 = .ok (.iload_n 1, 1) := by decide +kernel
theorem d_M_factorOf_24 : decode b_M_factorOf 24 = .ok (.if_icmp .gt 29, 3) := by decide +kernel
theorem d_M_factorOf_27 : decode b_M_factorOf 27 = .ok (.iload_n 2, 1) := by decide +kernel
theorem d_M_factorOf_28 : decode b_M_factorOf 28 = .ok (.iconst (-1), 1) := by decide +kernel
theorem d_M_factorOf_29 : decode b_M_factorOf 29 = .ok (.if_icmp .eq 19, 3) := by decide +kernel
theorem d_M_factorOf_32 : decode b_M_factorOf 32 = .ok (.aload_n 0, 1) := by decide +kernel
theorem d_M_factorOf_33 : decode b_M_factorOf 33 = .ok (.getfield 52, 3) := by decide +kernel
theorem d_M_factorOf_36 : decode b_M_factorOf 36 = .ok (.iload 4, 2) := by decide +kernel
theorem d_M_factorOf_38 : decode b_M_factorOf 38 = .ok (.iaload, 1) := by decide +kernel
theorem d_M_factorOf_39 : decode b_M_factorOf 39 = .ok (.aload_n 0, 1) := by decide +kernel
theorem d_M_factorOf_40 : decode b_M_factorOf 40 = .ok (.getfield 52, 3) := by decide +kernel
theorem d_M_factorOf_43 : decode b_M_factorOf 43 = .ok (.iload_n 2, 1) := by decide +kernel
theorem d_M_factorOf_44 : decode b_M_factorOf 44 = .ok (.iaload, 1) := by decide +kernel
theorem d_M_factorOf_45 : decode b_M_factorOf 45 = .ok (.if_icmp .le 8, 3) := by decide +kernel
theorem d_M_factorOf_48 : decode b_M_factorOf 48 = .ok (.iload 4, 2) := by decide +kernel
theorem d_M_factorOf_50 : decode b_M_factorOf 50 = .ok (.goto 4, 3) := by decide +kernel
theorem d_M_factorOf_53 : decode b_M_factorOf 53 = .ok (.iload_n 2, 1) := by decide +kernel
theorem d_M_factorOf_54 : decode b_M_factorOf 54 = .ok (.istore_n 2, 1) := by decide +kernel
theorem d_M_factorOf_55 : decode b_M_factorOf 55 = .ok (.aload_n 0, 1) := by decide +kernel
theorem d_M_factorOf_56 : decode b_M_factorOf 56 = .ok (.getfield 52, 3) := by decide +kernel
theorem d_M_factorOf_59 : decode b_M_factorOf 59 = .ok (.iload 4, 2) := by decide +kernel
theorem d_M_factorOf_61 : decode b_M_factorOf 61 = .ok (.iaload, 1) := by decide +kernel
theorem d_M_factorOf_62 : decode b_M_factorOf 62 = .ok (.iload_n 1, 1) := by decide +kernel
theorem d_M_factorOf_63 : decode b_M_factorOf 63 = .ok (.if_icmp .lt 29, 3) := by decide +kernel
theorem d_M_factorOf_66 : decode b_M_factorOf 66 = .ok (.iload_n 3, 1) := by decide +kernel
theorem d_M_factorOf_67 : decode b_M_factorOf 67 = .ok (.iconst (-1), 1) := by decide +kernel
theorem d_M_factorOf_68 : decode b_M_factorOf 68 = .ok (.if_icmp .eq 19, 3) := by decide +kernel
theorem d_M_factorOf_71 : decode b_M_factorOf 71 = .ok (.aload_n 0, 1) := by decide +kernel
theorem d_M_factorOf_72 : decode b_M_factorOf 72 = .ok (.getfield 52, 3) := by decide +kernel
theorem d_M_factorOf_75 : decode b_M_factorOf 75 = .ok (.iload 4, 2) := by decide +kernel
theorem d_M_factorOf_77 : decode b_M_factorOf 77 = .ok (.iaload, 1) := by decide +kernel
theorem d_M_factorOf_78 : decode b_M_factorOf 78 = .ok (.aload_n 0, 1) := by decide +kernel
theorem d_M_factorOf_79 : decode b_M_factorOf 79 = .ok (.getfield 52, 3) := by decide +kernel
theorem d_M_factorOf_82 : decode b_M_factorOf 82 = .ok (.iload_n 3, 1) := by decide +kernel
theorem d_M_factorOf_83 : decode b_M_factorOf 83 = .ok (.iaload, 1) := by decide +kernel
theorem d_M_factorOf_84 : decode b_M_factorOf 84 = .ok (.if_icmp .ge 8, 3) := by decide +kernel
theorem d_M_factorOf_87 : decode b_M_factorOf 87 = .ok (.iload 4, 2) := by decide +kernel
theorem d_M_factorOf_89 : decode b_M_factorOf 89 = .ok (.goto 4, 3) := by decide +kernel
theorem d_M_factorOf_92 : decode b_M_factorOf 92 = .ok (.iload_n 3, 1) := by decide +kernel
theorem d_M_factorOf_93 : decode b_M_factorOf 93 = .ok (.istore_n 3, 1) := by decide +kernel
theorem d_M_factorOf_94 : decode b_M_factorOf 94 = .ok (.iinc 4 1, 3) := by decide +kernel
theorem d_M_factorOf_97 : decode b_M_factorOf 97 = .ok (.goto (-90), 3) := by decide +kernel
theorem d_M_factorOf_100 : decode b_M_factorOf 100 = .ok (.iload_n 2, 1) := by decide +kernel
theorem d_M_factorOf_101 : decode b_M_factorOf 101 = .ok (.iconst (-1), 1) := by decide +kernel
theorem d_M_factorOf_102 : decode b_M_factorOf 102 = .ok (.if_icmp .ne 12, 3) := by decide +kernel
theorem d_M_factorOf_105 : decode b_M_factorOf 105 = .ok (.iload_n 3, 1) := by decide +kernel
theorem d_M_factorOf_106 : decode b_M_factorOf 106 = .ok (.iconst (-1), 1) := by decide +kernel
theorem d_M_factorOf_107 : decode b_M_factorOf 107 = .ok (.if_icmp .ne 7, 3) := by decide +kernel
theorem d_M_factorOf_110 : decode b_M_factorOf 110 = .ok (.sipush 1000, 3) := by decide +kernel
theorem d_M_factorOf_113 : decode b_M_factorOf 113 = .ok (.ireturn, 1) := by decide +kernel
theorem d_M_factorOf_114 : decode b_M_factorOf 114 = .ok (.iload_n 2, 1) := by decide +kernel
theorem d_M_factorOf_115 : decode b_M_factorOf 115 = .ok (.iconst (-1), 1) := by decide +kernel
theorem d_M_factorOf_116 : decode b_M_factorOf 116 = .ok (.if_icmp .ne 7, 3) := by decide +kernel
theorem d_M_factorOf_119 : decode b_M_factorOf 119 = .ok (.iload_n 3, 1) := by decide +kernel
theorem d_M_factorOf_120 : decode b_M_factorOf 120 = .ok (.goto 4, 3) := by decide +kernel
theorem d_M_factorOf_123 : decode b_M_factorOf 123 = .ok (.iload_n 2, 1) := by decide +kernel
theorem d_M_factorOf_124 : decode b_M_factorOf 124 = .ok (.istore 4, 2) := by decide +kernel
theorem d_M_factorOf_126 : decode b_M_factorOf 126 = .ok (.iload_n 3, 1) := by decide +kernel
theorem d_M_factorOf_127 : decode b_M_factorOf 127 = .ok (.iconst (-1), 1) := by decide +kernel
theorem d_M_factorOf_128 : decode b_M_factorOf 128 = .ok (.if_icmp .ne 7, 3) := by decide +kernel
theorem d_M_factorOf_131 : decode b_M_factorOf 131 = .ok (.iload_n 2, 1) := by decide +kernel
theorem d_M_factorOf_132 : decode b_M_factorOf 132 = .ok (.goto 4, 3) := by decide +kernel
theorem d_M_factorOf_135 : decode b_M_factorOf 135 = .ok (.iload_n 3, 1) := by decide +kernel
theorem d_M_factorOf_136 : decode b_M_factorOf 136 = .ok (.istore 5, 2) := by decide +kernel
theorem d_M_factorOf_138 : decode b_M_factorOf 138 = .ok (.iload 4, 2) := by decide +kernel
theorem d_M_factorOf_140 : decode b_M_factorOf 140 = .ok (.iload 5, 2) := by decide +kernel
theorem d_M_factorOf_142 : decode b_M_factorOf 142 = .ok (.if_icmp .ne 11, 3) := by decide +kernel
theorem d_M_factorOf_145 : decode b_M_factorOf 145 = .ok (.aload_n 0, 1) := by decide +kernel
theorem d_M_factorOf_146 : decode b_M_factorOf 146 = .ok (.getfield 55, 3) := by decide +kernel
theorem d_M_factorOf_149 : decode b_M_factorOf 149 = .ok (.iload 4, 2) := by decide +kernel
theorem d_M_factorOf_151 : decode b_M_factorOf 151 = .ok (.iaload, 1) := by decide +kernel
theorem d_M_factorOf_152 : decode b_M_factorOf 152 = .ok (.ireturn, 1) := by decide +kernel
theorem d_M_factorOf_153 : decode b_M_factorOf 153 = .ok (.aload_n 0, 1) := by decide +kernel
theorem d_M_factorOf_154 : decode b_M_factorOf 154 = .ok (.getfield 55, 3) := by decide +kernel
theorem d_M_factorOf_157 : decode b_M_factorOf 157 = .ok (.iload 5, 2) := by decide +kernel
theorem d_M_factorOf_159 : decode b_M_factorOf 159 = .ok (.iaload, 1) := by decide +kernel
theorem d_M_factorOf_160 : decode b_M_factorOf 160 = .ok (.aload_n 0, 1) := by decide +kernel
theorem d_M_factorOf_161 : decode b_M_factorOf 161 = .ok (.getfield 55, 3) := by decide +kernel
theorem d_M_factorOf_164 : decode b_M_factorOf 164 = .ok (.iload 4, 2) := by decide +kernel
theorem d_M_factorOf_166 : decode b_M_factorOf 166 = .ok (.iaload, 1) := by decide +kernel
theorem d_M_factorOf_167 : decode b_M_factorOf 167 = .ok (.isub, 1) := by decide +kernel
theorem d_M_factorOf_168 : decode b_M_factorOf 168 = .ok (.i2l, 1) := by decide +kernel
theorem d_M_factorOf_169 : decode b_M_factorOf 169 = .ok (.iload_n 1, 1) := by decide +kernel
theorem d_M_factorOf_170 : decode b_M_factorOf 170 = .ok (.aload_n 0, 1) := by decide +kernel
theorem d_M_factorOf_171 : decode b_M_factorOf 171 = .ok (.getfield 52, 3) := by decide +kernel
theorem d_M_factorOf_174 : decode b_M_factorOf 174 = .ok (.iload 4, 2) := by decide +kernel
theorem d_M_factorOf_176 : decode b_M_factorOf 176 = .ok (.iaload, 1) := by decide +kernel
theorem d_M_factorOf_177 : decode b_M_factorOf 177 = .ok (.isub, 1) := by decide +kernel
theorem d_M_factorOf_178 : decode b_M_factorOf 178 = .ok (.i2l, 1) := by decide +kernel
theorem d_M_factorOf_179 : decode b_M_factorOf 179 = .ok (.lmul, 1) := by decide +kernel
theorem d_M_factorOf_180 : decode b_M_factorOf 180 = .ok (.lstore 6, 2) := by decide +kernel
theorem d_M_factorOf_182 : decode b_M_factorOf 182 = .ok (.aload_n 0, 1) := by decide +kernel
theorem d_M_factorOf_183 : decode b_M_factorOf 183 = .ok (.getfield 52, 3) := by decide +kernel
theorem d_M_factorOf_186 : decode b_M_factorOf 186 = .ok (.iload 5, 2) := by decide +kernel
theorem d_M_factorOf_188 : decode b_M_factorOf 188 = .ok (.iaload, 1) := by decide +kernel
theorem d_M_factorOf_189 : decode b_M_factorOf 189 = .ok (.aload_n 0, 1) := by decide +kernel
theorem d_M_factorOf_190 : decode b_M_factorOf 190 = .ok (.getfield 52, 3) := by decide +kernel
theorem d_M_factorOf_193 : decode b_M_factorOf 193 = .ok (.iload 4, 2) := by decide +kernel
theorem d_M_factorOf_195 : decode b_M_factorOf 195 = .ok (.iaload, 1) := by decide +kernel
theorem d_M_factorOf_196 : decode b_M_factorOf 196 = .ok (.isub, 1) := by decide +kernel
theorem d_M_factorOf_197 : decode b_M_factorOf 197 = .ok (.i2l, 1) := by decide +kernel
theorem d_M_factorOf_198 : decode b_M_factorOf 198 = .ok (.lstore 8, 2) := by decide +kernel
theorem d_M_factorOf_200 : decode b_M_factorOf 200 = .ok (.lload 6, 2) := by decide +kernel
theorem d_M_factorOf_202 : decode b_M_factorOf 202 = .ok (.lload 8, 2) := by decide +kernel
theorem d_M_factorOf_204 : decode b_M_factorOf 204 = .ok (.ldiv, 1) := by decide +kernel
theorem d_M_factorOf_205 : decode b_M_factorOf 205 = .ok (.lstore 10, 2) := by decide +kernel
theorem d_M_factorOf_207 : decode b_M_factorOf 207 = .ok (.lload 10, 2) := by decide +kernel
theorem d_M_factorOf_209 : decode b_M_factorOf 209 = .ok (.lload 8, 2) := by decide +kernel
theorem d_M_factorOf_211 : decode b_M_factorOf 211 = .ok (.lmul, 1) := by decide +kernel
theorem d_M_factorOf_212 : decode b_M_factorOf 212 = .ok (.lload 6, 2) := by decide +kernel
theorem d_M_factorOf_214 : decode b_M_factorOf 214 = .ok (.lcmp, 1) := by decide +kernel
theorem d_M_factorOf_215 : decode b_M_factorOf 215 = .ok (.ifCond .le 10, 3) := by decide +kernel
theorem d_M_factorOf_218 : decode b_M_factorOf 218 = .ok (.lload 10, 2) := by decide +kernel
theorem d_M_factorOf_220 : decode b_M_factorOf 220 = .ok (.lconst 1, 1) := by decide +kernel
theorem d_M_factorOf_221 : decode b_M_factorOf 221 = .ok (.lsub, 1) := by decide +kernel
theorem d_M_factorOf_222 : decode b_M_factorOf 222 = .ok (.goto 5, 3) := by decide +kernel
theorem d_M_factorOf_225 : decode b_M_factorOf 225 = .ok (.lload 10, 2) := by decide +kernel
theorem d_M_factorOf_227 : decode b_M_factorOf 227 = .ok (.lstore 10, 2) := by decide +kernel
theorem d_M_factorOf_229 : decode b_M_factorOf 229 = .ok (.aload_n 0, 1) := by decide +kernel
theorem d_M_factorOf_230 : decode b_M_factorOf 230 = .ok (.getfield 55, 3) := by decide +kernel
theorem d_M_factorOf_233 : decode b_M_factorOf 233 = .ok (.iload 4, 2) := by decide +kernel
theorem d_M_factorOf_235 : decode b_M_factorOf 235 = .ok (.iaload, 1) := by decide +kernel
theorem d_M_factorOf_236 : decode b_M_factorOf 236 = .ok (.lload 10, 2) := by decide +kernel
theorem d_M_factorOf_238 : decode b_M_factorOf 238 = .ok (.l2i, 1) := by decide +kernel
theorem d_M_factorOf_239 : decode b_M_factorOf 239 = .ok (.iadd, 1) := by decide +kernel
theorem d_M_factorOf_240 : decode b_M_factorOf 240 = .ok (.ireturn, 1) := by decide +kernel
theorem d_M_corrected_0 : decode b_M_corrected 0 = .ok (.aload_n 0, 1) := by decide +kernel
theorem d_M_corrected_1 : decode b_M_corrected 1 = .ok (.iload_n 1, 1) := by decide +kernel
theorem d_M_corrected_2 : decode b_M_corrected 2 = .ok (.iconst 0, 1) := by decide +kernel
theorem d_M_corrected_3 : decode b_M_corrected 3 = .ok (.ldc 155, 2) := by decide +kernel
theorem d_M_corrected_5 : decode b_M_corrected 5 = .ok (.invokestatic 64, 3) := by decide +kernel
theorem d_M_corrected_8 : decode b_M_corrected 8 = .ok (.ifCond .eq 17, 3) := by decide +kernel
theorem d_M_corrected_11 : decode b_M_corrected 11 = .ok (.iload_n 2, 1) := by decide +kernel
theorem d_M_corrected_12 : decode b_M_corrected 12 = .ok (.iconst 0, 1) := by decide +kernel
theorem d_M_corrected_13 : decode b_M_corrected 13 = .ok (.ldc 156, 2) := by decide +kernel
theorem d_M_corrected_15 : decode b_M_corrected 15 = .ok (.invokestatic 64, 3) := by decide +kernel
theorem d_M_corrected_18 : decode b_M_corrected 18 = .ok (.ifCond .eq 7, 3) := by decide +kernel
theorem d_M_corrected_21 : decode b_M_corrected 21 = .ok (.iconst 1, 1) := by decide +kernel
theorem d_M_corrected_22 : decode b_M_corrected 22 = .ok (.goto 4, 3) := by decide +kernel
theorem d_M_corrected_25 : decode b_M_corrected 25 = .ok (.iconst 0, 1) := by decide +kernel
theorem d_M_corrected_26 : decode b_M_corrected 26 = .ok (.iconst 1, 1) := by decide +kernel
theorem d_M_corrected_27 : decode b_M_corrected 27 = .ok (.iconst 1, 1) := by decide +kernel
theorem d_M_corrected_28 : decode b_M_corrected 28 = .ok (.invokevirtual 72, 3) := by decide +kernel
theorem d_M_corrected_31 : decode b_M_corrected 31 = .ok (.ifCond .ne 5, 3) := by decide +kernel
theorem d_M_corrected_34 : decode b_M_corrected 34 = .ok (.lconst 0, 1) := by decide +kernel
theorem d_M_corrected_35 : decode b_M_corrected 35 = .ok (.lreturn, 1) := by decide +kernel
theorem d_M_corrected_36 : decode b_M_corrected 36 = .ok (.ldc2_w 157, 3) := by decide +kernel
theorem d_M_corrected_39 : decode b_M_corrected 39 = .ok (.iload_n 2, 1) := by decide +kernel
theorem d_M_corrected_40 : decode b_M_corrected 40 = .ok (.i2l, 1) := by decide +kernel
theorem d_M_corrected_41 : decode b_M_corrected 41 = .ok (.lmul, 1) := by decide +kernel
theorem d_M_corrected_42 : decode b_M_corrected 42 = .ok (.aload_n 0, 1) := by decide +kernel
theorem d_M_corrected_43 : decode b_M_corrected 43 = .ok (.iload_n 1, 1) := by decide +kernel
theorem d_M_corrected_44 : decode b_M_corrected 44 = .ok (.invokevirtual 159, 3) := by decide +kernel
theorem d_M_corrected_47 : decode b_M_corrected 47 = .ok (.i2l, 1) := by decide +kernel
theorem d_M_corrected_48 : decode b_M_corrected 48 = .ok (.ldiv, 1) := by decide +kernel
theorem d_M_corrected_49 : decode b_M_corrected 49 = .ok (.lreturn, 1) := by decide +kernel
theorem d_M_count_0 : decode b_M_count 0 = .ok (.aload_n 0, 1) := by decide +kernel
theorem d_M_count_1 : decode b_M_count 1 = .ok (.iload_n 1, 1) := by decide +kernel
theorem d_M_count_2 : decode b_M_count 2 = .ok (.iconst 0, 1) := by decide +kernel
theorem d_M_count_3 : decode b_M_count 3 = .ok (.iconst 4, 1) := by decide +kernel
theorem d_M_count_4 : decode b_M_count 4 = .ok (.invokestatic 64, 3) := by decide +kernel
theorem d_M_count_7 : decode b_M_count 7 = .ok (.iconst 1, 1) := by decide +kernel
theorem d_M_count_8 : decode b_M_count 8 = .ok (.iconst 1, 1) := by decide +kernel
theorem d_M_count_9 : decode b_M_count 9 = .ok (.invokevirtual 72, 3) := by decide +kernel
theorem d_M_count_12 : decode b_M_count 12 = .ok (.ifCond .ne 5, 3) := by decide +kernel
theorem d_M_count_15 : decode b_M_count 15 = .ok (.iconst 0, 1) := by decide +kernel
theorem d_M_count_16 : decode b_M_count 16 = .ok (.ireturn, 1) := by decide +kernel
theorem d_M_count_17 : decode b_M_count 17 = .ok (.iload_n 1, 1) := by decide +kernel
theorem d_M_count_18 : decode b_M_count 18 = .ok (.ifCond .ne 10, 3) := by decide +kernel
theorem d_M_count_21 : decode b_M_count 21 = .ok (.aload_n 0, 1) := by decide +kernel
theorem d_M_count_22 : decode b_M_count 22 = .ok (.getfield 58, 3) := by decide +kernel
theorem d_M_count_25 : decode b_M_count 25 = .ok (.goto 43, 3) := by decide +kernel
theorem d_M_count_28 : decode b_M_count 28 = .ok (.iload_n 1, 1) := by decide +kernel
theorem d_M_count_29 : decode b_M_count 29 = .ok (.iconst 1, 1) := by decide +kernel
theorem d_M_count_30 : decode b_M_count 30 = .ok (.if_icmp .ne 10, 3) := by decide +kernel
theorem d_M_count_33 : decode b_M_count 33 = .ok (.aload_n 0, 1) := by decide +kernel
theorem d_M_count_34 : decode b_M_count 34 = .ok (.getfield 80, 3) := by decide +kernel
theorem d_M_count_37 : decode b_M_count 37 = .ok (.goto 31, 3) := by decide +kernel
theorem d_M_count_40 : decode b_M_count 40 = .ok (.iload_n 1, 1) := by decide +kernel
theorem d_M_count_41 : decode b_M_count 41 = .ok (.iconst 2, 1) := by decide +kernel
theorem d_M_count_42 : decode b_M_count 42 = .ok (.if_icmp .ne 10, 3) := by decide +kernel
theorem d_M_count_45 : decode b_M_count 45 = .ok (.aload_n 0, 1) := by decide +kernel
theorem d_M_count_46 : decode b_M_count 46 = .ok (.getfield 94, 3) := by decide +kernel
theorem d_M_count_49 : decode b_M_count 49 = .ok (.goto 19, 3) := by decide +kernel
theorem d_M_count_52 : decode b_M_count 52 = .ok (.iload_n 1, 1) := by decide +kernel
theorem d_M_count_53 : decode b_M_count 53 = .ok (.iconst 3, 1) := by decide +kernel
theorem d_M_count_54 : decode b_M_count 54 = .ok (.if_icmp .ne 10, 3) := by decide +kernel
theorem d_M_count_57 : decode b_M_count 57 = .ok (.aload_n 0, 1) := by decide +kernel
theorem d_M_count_58 : decode b_M_count 58 = .ok (.getfield 138, 3) := by decide +kernel
theorem d_M_count_61 : decode b_M_count 61 = .ok (.goto 7, 3) := by decide +kernel
theorem d_M_count_64 : decode b_M_count 64 = .ok (.aload_n 0, 1) := by decide +kernel
theorem d_M_count_65 : decode b_M_count 65 = .ok (.getfield 152, 3) := by decide +kernel
theorem d_M_count_68 : decode b_M_count 68 = .ok (.ireturn, 1) := by decide +kernel
