theorem d_X_needIndex_0 : decode b_X_needIndex 0 = .ok (.iload_n 0, 1) := by decide +kernel
theorem d_X_needIndex_1 : decode b_X_needIndex 1 = .ok (.ifCond .lt 8, 3) := by decide +kernel
theorem d_X_needIndex_4 : decode b_X_needIndex 4 = .ok (.iload_n 0, 1) := by decide +kernel
theorem d_X_needIndex_5 : decode b_X_needIndex 5 = .ok (.iload_n 1, 1) := by decide +kernel
theorem d_X_needIndex_6 : decode b_X_needIndex 6 = .ok (.if_icmp .lt 13, 3) := by decide +kernel
theorem d_X_needIndex_9 : decode b_X_needIndex 9 = .ok (.new 192, 3) := by decide +kernel
theorem d_X_needIndex_12 : decode b_X_needIndex 12 = .ok (.dup, 1) := by decide +kernel
theorem d_X_needIndex_13 : decode b_X_needIndex 13 = .ok (.ldc 194, 2) := by decide +kernel
theorem d_X_needIndex_15 : decode b_X_needIndex 15 = .ok (.invokespecial 196, 3) := by decide +kernel
theorem d_X_needIndex_18 : decode b_X_needIndex 18 = .ok (.athrow, 1) := by decide +kernel
theorem d_X_needIndex_19 : decode b_X_needIndex 19 = .ok (.return_, 1) := by decide +kernel
theorem d_X_needValue_0 : decode b_X_needValue 0 = .ok (.iload_n 0, 1) := by decide +kernel
theorem d_X_needValue_1 : decode b_X_needValue 1 = .ok (.iload_n 1, 1) := by decide +kernel
theorem d_X_needValue_2 : decode b_X_needValue 2 = .ok (.if_icmp .lt 8, 3) := by decide +kernel
theorem d_X_needValue_5 : decode b_X_needValue 5 = .ok (.iload_n 0, 1) := by decide +kernel
theorem d_X_needValue_6 : decode b_X_needValue 6 = .ok (.iload_n 2, 1) := by decide +kernel
theorem d_X_needValue_7 : decode b_X_needValue 7 = .ok (.if_icmp .le 13, 3) := by decide +kernel
theorem d_X_needValue_10 : decode b_X_needValue 10 = .ok (.new 199, 3) := by decide +kernel
theorem d_X_needValue_13 : decode b_X_needValue 13 = .ok (.dup, 1) := by decide +kernel
theorem d_X_needValue_14 : decode b_X_needValue 14 = .ok (.ldc 201, 2) := by decide +kernel
theorem d_X_needValue_16 : decode b_X_needValue 16 = .ok (.invokespecial 203, 3) := by decide +kernel
theorem d_X_needValue_19 : decode b_X_needValue 19 = .ok (.athrow, 1) := by decide +kernel
theorem d_X_needValue_20 : decode b_X_needValue 20 = .ok (.return_, 1) := by decide +kernel
theorem d_X_told_0 : decode b_X_told 0 = .ok (.iload_n 1, 1) := by decide +kernel
theorem d_X_told_1 : decode b_X_told 1 = .ok (.aload_n 0, 1) := by decide +kernel
theorem d_X_told_2 : decode b_X_told 2 = .ok (.getfield 23, 3) := by decide +kernel
theorem d_X_told_5 : decode b_X_told 5 = .ok (.getfield 62, 3) := by decide +kernel
theorem d_X_told_8 : decode b_X_told 8 = .ok (.invokestatic 66, 3) := by decide +kernel
theorem d_X_told_11 : decode b_X_told 11 = .ok (.iload_n 2, 1) := by decide +kernel
theorem d_X_told_12 : decode b_X_told 12 = .ok (.iconst 0, 1) := by decide +kernel
theorem d_X_told_13 : decode b_X_told 13 = .ok (.sipush 500, 3) := by decide +kernel
theorem d_X_told_16 : decode b_X_told 16 = .ok (.invokestatic 70, 3) := by decide +kernel
theorem d_X_told_19 : decode b_X_told 19 = .ok (.aload_n 0, 1) := by decide +kernel
theorem d_X_told_20 : decode b_X_told 20 = .ok (.getfield 23, 3) := by decide +kernel
theorem d_X_told_23 : decode b_X_told 23 = .ok (.getfield 74, 3) := by decide +kernel
theorem d_X_told_26 : decode b_X_told 26 = .ok (.iload_n 1, 1) := by decide +kernel
theorem d_X_told_27 : decode b_X_told 27 = .ok (.iaload, 1) := by decide +kernel
theorem d_X_told_28 : decode b_X_told 28 = .ok (.istore_n 3, 1) := by decide +kernel
theorem d_X_told_29 : decode b_X_told 29 = .ok (.aload_n 0, 1) := by decide +kernel
theorem d_X_told_30 : decode b_X_told 30 = .ok (.getfield 23, 3) := by decide +kernel
theorem d_X_told_33 : decode b_X_told 33 = .ok (.getfield 74, 3) := by decide +kernel
theorem d_X_told_36 : decode b_X_told 36 = .ok (.iload_n 1, 1) := by decide +kernel
theorem d_X_told_37 : decode b_X_told 37 = .ok (.iload_n 2, 1) := by decide +kernel
theorem d_X_told_38 : decode b_X_told 38 = .ok (.iastore, 1) := by decide +kernel
theorem d_X_told_39 : decode b_X_told 39 = .ok (.iload_n 3, 1) := by decide +kernel
theorem d_X_told_40 : decode b_X_told 40 = .ok (.ireturn, 1) := by decide +kernel
theorem d_X_background_0 : decode b_X_background 0 = .ok (.iload_n 1, 1) := by decide +kernel
theorem d_X_background_1 : decode b_X_background 1 = .ok (.iconst 0, 1) := by decide +kernel
theorem d_X_background_2 : decode b_X_background 2 = .ok (.bipush 12, 2) := by decide +kernel
theorem d_X_background_4 : decode b_X_background 4 = .ok (.invokestatic 70, 3) := by decide +kernel
theorem d_X_background_7 : decode b_X_background 7 = .ok (.aload_n 0, 1) := by decide +kernel
theorem d_X_background_8 : decode b_X_background 8 = .ok (.getfield 23, 3) := by decide +kernel
theorem d_X_background_11 : decode b_X_background 11 = .ok (.iload_n 1, 1) := by decide +kernel
theorem d_X_background_12 : decode b_X_background 12 = .ok (.invokevirtual 78, 3) := by decide +kernel
theorem d_X_background_15 : decode b_X_background 15 = .ok (.aload_n 0, 1) := by decide +kernel
theorem d_X_background_16 : decode b_X_background 16 = .ok (.getfield 23, 3) := by decide +kernel
theorem d_X_background_19 : decode b_X_background 19 = .ok (.invokevirtual 81, 3) := by decide +kernel
theorem d_X_background_22 : decode b_X_background 22 = .ok (.ireturn, 1) := by decide +kernel
theorem d_X_lowered_0 : decode b_X_lowered 0 = .ok (.iload_n 1, 1) := by decide +kernel
theorem d_X_lowered_1 : decode b_X_lowered 1 = .ok (.aload_n 0, 1) := by decide +kernel
theorem d_X_lowered_2 : decode b_X_lowered 2 = .ok (.getfield 23, 3) := by decide +kernel
theorem d_X_lowered_5 : decode b_X_lowered 5 = .ok (.getfield 62, 3) := by decide +kernel
theorem d_X_lowered_8 : decode b_X_lowered 8 = .ok (.invokestatic 66, 3) := by decide +kernel
theorem d_X_lowered_11 : decode b_X_lowered 11 = .ok (.aload_n 0, 1) := by decide +kernel
theorem d_X_lowered_12 : decode b_X_lowered 12 = .ok (.getfield 23, 3) := by decide +kernel
theorem d_X_lowered_15 : decode b_X_lowered 15 = .ok (.getfield 85, 3) := by decide +kernel
theorem d_X_lowered_18 : decode b_X_lowered 18 = .ok (.iload_n 1, 1) := by decide +kernel
theorem d_X_lowered_19 : decode b_X_lowered 19 = .ok (.iaload, 1) := by decide +kernel
theorem d_X_lowered_20 : decode b_X_lowered 20 = .ok (.ireturn, 1) := by decide +kernel
theorem d_X_peaks_0 : decode b_X_peaks 0 = .ok (.iload_n 1, 1) := by decide +kernel
theorem d_X_peaks_1 : decode b_X_peaks 1 = .ok (.iconst 0, 1) := by decide +kernel
theorem d_X_peaks_2 : decode b_X_peaks 2 = .ok (.ldc 90, 2) := by decide +kernel
theorem d_X_peaks_4 : decode b_X_peaks 4 = .ok (.invokestatic 70, 3) := by decide +kernel
theorem d_X_peaks_7 : decode b_X_peaks 7 = .ok (.aload_n 0, 1) := by decide +kernel
theorem d_X_peaks_8 : decode b_X_peaks 8 = .ok (.getfield 30, 3) := by decide +kernel
theorem d_X_peaks_11 : decode b_X_peaks 11 = .ok (.aload_n 0, 1) := by decide +kernel
theorem d_X_peaks_12 : decode b_X_peaks 12 = .ok (.getfield 23, 3) := by decide +kernel
theorem d_X_peaks_15 : decode b_X_peaks 15 = .ok (.iload_n 1, 1) := by decide +kernel
theorem d_X_peaks_16 : decode b_X_peaks 16 = .ok (.invokevirtual 91, 3) := by decide +kernel
theorem d_X_peaks_19 : decode b_X_peaks 19 = .ok (.aload_n 0, 1) := by decide +kernel
theorem d_X_peaks_20 : decode b_X_peaks 20 = .ok (.getfield 30, 3) := by decide +kernel
theorem d_X_peaks_23 : decode b_X_peaks 23 = .ok (.getfield 95, 3) := by decide +kernel
theorem d_X_peaks_26 : decode b_X_peaks 26 = .ok (.ireturn, 1) := by decide +kernel
theorem d_X_peak_0 : decode b_X_peak 0 = .ok (.iload_n 1, 1) := by decide +kernel
theorem d_X_peak_1 : decode b_X_peak 1 = .ok (.aload_n 0, 1) := by decide +kernel
theorem d_X_peak_2 : decode b_X_peak 2 = .ok (.getfield 30, 3) := by decide +kernel
theorem d_X_peak_5 : decode b_X_peak 5 = .ok (.getfield 95, 3) := by decide +kernel
theorem d_X_peak_8 : decode b_X_peak 8 = .ok (.invokestatic 66, 3) := by decide +kernel
theorem d_X_peak_11 : decode b_X_peak 11 = .ok (.iload_n 2, 1) := by decide +kernel
theorem d_X_peak_12 : decode b_X_peak 12 = .ok (.iconst 5, 1) := by decide +kernel
theorem d_X_peak_13 : decode b_X_peak 13 = .ok (.invokestatic 66, 3) := by decide +kernel
theorem d_X_peak_16 : decode b_X_peak 16 = .ok (.aload_n 0, 1) := by decide +kernel
theorem d_X_peak_17 : decode b_X_peak 17 = .ok (.getfield 30, 3) := by decide +kernel
theorem d_X_peak_20 : decode b_X_peak 20 = .ok (.getfield 98, 3) := by decide +kernel
theorem d_X_peak_23 : decode b_X_peak 23 = .ok (.iload_n 2, 1) := by decide +kernel
theorem d_X_peak_24 : decode b_X_peak 24 = .ok (.aaload, 1) := by decide +kernel
theorem d_X_peak_25 : decode b_X_peak 25 = .ok (.iload_n 1, 1) := by decide +kernel
theorem d_X_peak_26 : decode b_X_peak 26 = .ok (.iaload, 1) := by decide +kernel
theorem d_X_peak_27 : decode b_X_peak 27 = .ok (.ireturn, 1) := by decide +kernel
theorem d_X_needState_0 : decode b_X_needState 0 = .ok (.iload_n 0, 1) := by decide +kernel
theorem d_X_needState_1 : decode b_X_needState 1 = .ok (.ifCond .ne 13, 3) := by decide +kernel
theorem d_X_needState_4 : decode b_X_needState 4 = .ok (.new 204, 3) := by decide +kernel
theorem d_X_needState_7 : decode b_X_needState 7 = .ok (.dup, 1) := by decide +kernel
theorem d_X_needState_8 : decode b_X_needState 8 = .ok (.ldc 206, 2) := by decide +kernel
theorem d_X_needState_10 : decode b_X_needState 10 = .ok (.invokespecial 208, 3) := by decide +kernel
theorem d_X_needState_13 : decode b_X_needState 13 = .ok (.athrow, 1) := by decide +kernel
theorem d_X_needState_14 : decode b_X_needState 14 = .ok (.return_, 1) := by decide +kernel
theorem d_X_line_0 : decode b_X_line 0 = .ok (.iload_n 1, 1) := by decide +kernel
theorem d_X_line_1 : decode b_X_line 1 = .ok (.bipush 8, 2) := by decide +kernel
theorem d_X_line_3 : decode b_X_line 3 = .ok (.invokestatic 66, 3) := by decide +kernel
theorem d_X_line_6 : decode b_X_line 6 = .ok (.iload_n 2, 1) := by decide +kernel
theorem d_X_line_7 : decode b_X_line 7 = .ok (.aload_n 0, 1) := by decide +kernel
theorem d_X_line_8 : decode b_X_line 8 = .ok (.getfield 23, 3) := by decide +kernel
theorem d_X_line_11 : decode b_X_line 11 = .ok (.getfield 62, 3) := by decide +kernel
theorem d_X_line_14 : decode b_X_line 14 = .ok (.invokestatic 66, 3) := by decide +kernel
theorem d_X_line_17 : decode b_X_line 17 = .ok (.aload_n 0, 1) := by decide +kernel
theorem d_X_line_18 : decode b_X_line 18 = .ok (.getfield 37, 3) := by decide +kernel
theorem d_X_line_21 : decode b_X_line 21 = .ok (.getfield 102, 3) := by decide +kernel
theorem d_X_line_24 : decode b_X_line 24 = .ok (.iload_n 1, 1) := by decide +kernel
theorem d_X_line_25 : decode b_X_line 25 = .ok (.iaload, 1) := by decide +kernel
theorem d_X_line_26 : decode b_X_line 26 = .ok (.iconst 3, 1) := by decide +kernel
theorem d_X_line_27 : decode b_X_line 27 = .ok (.if_icmp .ge 7, 3) := by decide +kernel
theorem d_X_line_30 : decode b_X_line 30 = .ok (.iconst 1, 1) := by decide +kernel
theorem d_X_line_31 : decode b_X_line 31 = .ok (.goto 4, 3) := by decide +kernel
theorem d_X_line_34 : decode b_X_line 34 = .ok (.iconst 0, 1) := by decide +kernel
theorem d_X_line_35 : decode b_X_line 35 = .ok (.invokestatic 105, 3) := by decide +kernel
theorem d_X_line_38 : decode b_X_line 38 = .ok (.aload_n 0, 1) := by decide +kernel
theorem d_X_line_39 : decode b_X_line 39 = .ok (.getfield 37, 3) := by decide +kernel
theorem d_X_line_42 : decode b_X_line 42 = .ok (.iload_n 1, 1) := by decide +kernel
theorem d_X_line_43 : decode b_X_line 43 = .ok (.iload_n 2, 1) := by decide +kernel
theorem d_X_line_44 : decode b_X_line 44 = .ok (.invokevirtual 109, 3) := by decide +kernel
theorem d_X_line_47 : decode b_X_line 47 = .ok (.ireturn, 1) := by decide +kernel
theorem d_X_element_0 : decode b_X_element 0 = .ok (.iload_n 1, 1) := by decide +kernel
theorem d_X_element_1 : decode b_X_element 1 = .ok (.aload_n 0, 1) := by decide +kernel
theorem d_X_element_2 : decode b_X_element 2 = .ok (.getfield 30, 3) := by decide +kernel
theorem d_X_element_5 : decode b_X_element 5 = .ok (.getfield 95, 3) := by decide +kernel
theorem d_X_element_8 : decode b_X_element 8 = .ok (.invokestatic 66, 3) := by decide +kernel
theorem d_X_element_11 : decode b_X_element 11 = .ok (.iload_n 2, 1) := by decide +kernel
theorem d_X_element_12 : decode b_X_element 12 = .ok (.iconst 0, 1) := by decide +kernel
theorem d_X_element_13 : decode b_X_element 13 = .ok (.bipush 24, 2) := by decide +kernel
theorem d_X_element_15 : decode b_X_element 15 = .ok (.invokestatic 70, 3) := by decide +kernel
theorem d_X_element_18 : decode b_X_element 18 = .ok (.aload_n 0, 1) := by decide +kernel
theorem d_X_element_19 : decode b_X_element 19 = .ok (.getfield 37, 3) := by decide +kernel
theorem d_X_element_22 : decode b_X_element 22 = .ok (.aload_n 0, 1) := by decide +kernel
theorem d_X_element_23 : decode b_X_element 23 = .ok (.getfield 30, 3) := by decide +kernel
theorem d_X_element_26 : decode b_X_element 26 = .ok (.getfield 98, 3) := by decide +kernel
theorem d_X_element_29 : decode b_X_element 29 = .ok (.iconst 0, 1) := by decide +kernel
theorem d_X_element_30 : decode b_X_element 30 = .ok (.aaload, 1) := by decide +kernel
theorem d_X_element_31 : decode b_X_element 31 = .ok (.iload_n 1, 1) := by decide +kernel
theorem d_X_element_32 : decode b_X_element 32 = .ok (.iaload, 1) := by decide +kernel
theorem d_X_element_33 : decode b_X_element 33 = .ok (.iload_n 2, 1) := by decide +kernel
theorem d_X_element_34 : decode b_X_element 34 = .ok (.invokevirtual 112, 3) := by decide +kernel
theorem d_X_element_37 : decode b_X_element 37 = .ok (.ireturn, 1) := by decide +kernel
theorem d_X_rootDown_0 : decode b_X_rootDown 0 = .ok (.iconst 0, 1) := by decide +kernel
theorem d_X_rootDown_1 : decode b_X_rootDown 1 = .ok (.istore_n 1, 1) := by decide +kernel
theorem d_X_rootDown_2 : decode b_X_rootDown 2 = .ok (.iload_n 1, 1) := by decide +kernel
theorem d_X_rootDown_3 : decode b_X_rootDown 3 = .ok (.sipush 1000, 3) := by decide +kernel
theorem d_X_rootDown_6 : decode b_X_rootDown 6 = .ok (.if_icmp .ge 20, 3) := by decide +kernel
theorem d_X_rootDown_9 : decode b_X_rootDown 9 = .ok (.iload_n 1, 1) := by decide +kernel
theorem d_X_rootDown_10 : decode b_X_rootDown 10 = .ok (.iconst 1, 1) := by decide +kernel
theorem d_X_rootDown_11 : decode b_X_rootDown 11 = .ok (.iadd, 1) := by decide +kernel
theorem d_X_rootDown_12 : decode b_X_rootDown 12 = .ok (.iload_n 1, 1) := by decide +kernel
theorem d_X_rootDown_13 : decode b_X_rootDown 13 = .ok (.iconst 1, 1) := by decide +kernel
theorem d_X_rootDown_14 : decode b_X_rootDown 14 = .ok (.iadd, 1) := by decide +kernel
theorem d_X_rootDown_15 : decode b_X_rootDown 15 = .ok (.imul, 1) := by decide +kernel
theorem d_X_rootDown_16 : decode b_X_rootDown 16 = .ok (.iload_n 0, 1) := by decide +kernel
theorem d_X_rootDown_17 : decode b_X_rootDown 17 = .ok (.if_icmp .gt 9, 3) := by decide +kernel
theorem d_X_rootDown_20 : decode b_X_rootDown 20 = .ok (.iinc 1 1, 3) := by decide +kernel
theorem d_X_rootDown_23 : decode b_X_rootDown 23 = .ok (.goto (-21), 3) := by decide +kernel
theorem d_X_rootDown_26 : decode b_X_rootDown 26 = .ok (.iload_n 1, 1) := by decide +kernel
theorem d_X_rootDown_27 : decode b_X_rootDown 27 = .ok (.ireturn, 1) := by decide +kernel
theorem d_X_detect_0 : decode b_X_detect 0 = .ok (.iload_n 1, 1) := by decide +kernel
theorem d_X_detect_1 : decode b_X_detect 1 = .ok (.bipush 8, 2) := by decide +kernel
theorem d_X_detect_3 : decode b_X_detect 3 = .ok (.invokestatic 66, 3) := by decide +kernel
theorem d_X_detect_6 : decode b_X_detect 6 = .ok (.iconst 0, 1) := by decide +kernel
theorem d_X_detect_7 : decode b_X_detect 7 = .ok (.istore_n 2, 1) := by decide +kernel
theorem d_X_detect_8 : decode b_X_detect 8 = .ok (.iconst 0, 1) := by decide +kernel
theorem d_X_detect_9 : decode b_X_detect 9 = .ok (.istore_n 3, 1) := by decide +kernel
theorem d_X_detect_10 : decode b_X_detect 10 = .ok (.iload_n 3, 1) := by decide +kernel
theorem d_X_detect_11 : decode b_X_detect 11 = .ok (.aload_n 0, 1) := by decide +kernel
theorem d_X_detect_12 : decode b_X_detect 12 = .ok (.getfield 23, 3) := by decide +kernel
theorem d_X_detect_15 : decode b_X_detect 15 = .ok (.getfield 62, 3) := by decide +kernel
theorem d_X_detect_18 : decode b_X_detect 18 = .ok (.if_icmp .ge 33, 3) := by decide +kernel
theorem d_X_detect_21 : decode b_X_detect 21 = .ok (.aload_n 0, 1) := by decide +kernel
theorem d_X_detect_22 : decode b_X_detect 22 = .ok (.getfield 37, 3) := by decide +kernel
theorem d_X_detect_25 : decode b_X_detect 25 = .ok (.iload_n 1, 1) := by decide +kernel
theorem d_X_detect_26 : decode b_X_detect 26 = .ok (.iload_n 3, 1) := by decide +kernel
theorem d_X_detect_27 : decode b_X_detect 27 = .ok (.invokevirtual 115, 3) := by decide +kernel
theorem d_X_detect_30 : decode b_X_detect 30 = .ok (.ifCond .eq 15, 3) := by decide +kernel
theorem d_X_detect_33 : decode b_X_detect 33 = .ok (.iload_n 2, 1) := by decide +kernel
theorem d_X_detect_34 : decode b_X_detect 34 = .ok (.aload_n 0, 1) := by decide +kernel
theorem d_X_detect_35 : decode b_X_detect 35 = .ok (.getfield 23, 3) := by decide +kernel
theorem d_X_detect_38 : decode b_X_detect 38 = .ok (.getfield 85, 3) := by decide +kernel
theorem d_X_detect_41 : decode b_X_detect 41 = .ok (.iload_n 3, 1) := by decide +kernel
theorem d_X_detect_42 : decode b_X_detect 42 = .ok (.iaload, 1) := by decide +kernel
theorem d_X_detect_43 : decode b_X_detect 43 = .ok (.iadd, 1) := by decide +kernel
theorem d_X_detect_44 : decode b_X_detect 44 = .ok (.istore_n 2, 1) := by decide +kernel
theorem d_X_detect_45 : decode b_X_detect 45 = .ok (.iinc 3 1, 3) := by decide +kernel
theorem d_X_detect_48 : decode b_X_detect 48 = .ok (.goto (-38), 3) := by decide +kernel
theorem d_X_detect_51 : decode b_X_detect 51 = .ok (.bipush 9, 2) := by decide +kernel
theorem d_X_detect_53 : decode b_X_detect 53 = .ok (.iload_n 2, 1) := by decide +kernel
theorem d_X_detect_54 : decode b_X_detect 54 = .ok (.imul, 1) := by decide +kernel
theorem d_X_detect_55 : decode b_X_detect 55 = .ok (.invokestatic 119, 3) := by decide +kernel
theorem d_X_detect_58 : decode b_X_detect 58 = .ok (.ireturn, 1) := by decide +kernel
theorem d_X_library_0 : decode b_X_library 0 = .ok (.aload_n 0, 1) := by decide +kernel
theorem d_X_library_1 : decode b_X_library 1 = .ok (.getfield 44, 3) := by decide +kernel
theorem d_X_library_4 : decode b_X_library 4 = .ok (.getfield 123, 3) := by decide +kernel
theorem d_X_library_7 : decode b_X_library 7 = .ok (.iconst 3, 1) := by decide +kernel
theorem d_X_library_8 : decode b_X_library 8 = .ok (.if_icmp .ge 7, 3) := by decide +kernel
theorem d_X_library_11 : decode b_X_library 11 = .ok (.iconst 1, 1) := by decide +kernel
theorem d_X_library_12 : decode b_X_library 12 = .ok (.goto 4, 3) := by decide +kernel
theorem d_X_library_15 : decode b_X_library 15 = .ok (.iconst 0, 1) := by decide +kernel
theorem d_X_library_16 : decode b_X_library 16 = .ok (.invokestatic 105, 3) := by decide +kernel
theorem d_X_library_19 : decode b_X_library 19 = .ok (.aload_n 0, 1) := by decide +kernel
theorem d_X_library_20 : decode b_X_library 20 = .ok (.getfield 44, 3) := by decide +kernel
theorem d_X_library_23 : decode b_X_library 23 = .ok (.getfield 123, 3) := by decide +kernel
theorem d_X_library_26 : decode b_X_library 26 = .ok (.istore_n 1, 1) := by decide +kernel
theorem d_X_library_27 : decode b_X_library 27 = .ok (.aload_n 0, 1) := by decide +kernel
theorem d_X_library_28 : decode b_X_library 28 = .ok (.getfield 44, 3) := by decide +kernel
theorem d_X_library_31 : decode b_X_library 31 = .ok (.iload_n 1, 1) := by decide +kernel
theorem d_X_library_32 : decode b_X_library 32 = .ok (.iconst 1, 1) := by decide +kernel
theorem d_X_library_33 : decode b_X_library 33 = .ok (.iadd, 1) := by decide +kernel
theorem d_X_library_34 : decode b_X_library 34 = .ok (.putfield 123, 3) := by decide +kernel
theorem d_X_library_37 : decode b_X_library 37 = .ok (.iload_n 1, 1) := by decide +kernel
theorem d_X_library_38 : decode b_X_library 38 = .ok (.ireturn, 1) := by decide +kernel
theorem d_X_entry_0 : decode b_X_entry 0 = .ok (.iload_n 1, 1) := by decide +kernel
theorem d_X_entry_1 : decode b_X_entry 1 = .ok (.aload_n 0, 1) := by decide +kernel
theorem d_X_entry_2 : decode b_X_entry 2 = .ok (.getfield 44, 3) := by decide +kernel
theorem d_X_entry_5 : decode b_X_entry 5 = .ok (.getfield 123, 3) := by decide +kernel
theorem d_X_entry_8 : decode b_X_entry 8 = .ok (.invokestatic 66, 3) := by decide +kernel
theorem d_X_entry_11 : decode b_X_entry 11 = .ok (.iload_n 2, 1) := by decide +kernel
theorem d_X_entry_12 : decode b_X_entry 12 = .ok (.aload_n 0, 1) := by decide +kernel
theorem d_X_entry_13 : decode b_X_entry 13 = .ok (.getfield 23, 3) := by decide +kernel
theorem d_X_entry_16 : decode b_X_entry 16 = .ok (.getfield 62, 3) := by decide +kernel
theorem d_X_entry_19 : decode b_X_entry 19 = .ok (.invokestatic 66, 3) := by decide +kernel
theorem d_X_entry_22 : decode b_X_entry 22 = .ok (.iload_n 3, 1) := by decide +kernel
theorem d_X_entry_23 : decode b_X_entry 23 = .ok (.iconst 0, 1) := by decide +kernel
theorem d_X_entry_24 : decode b_X_entry 24 = .ok (.bipush 20, 2) := by decide +kernel
theorem d_X_entry_26 : decode b_X_entry 26 = .ok (.invokestatic 70, 3) := by decide +kernel
theorem d_X_entry_29 : decode b_X_entry 29 = .ok (.aload_n 0, 1) := by decide +kernel
theorem d_X_entry_30 : decode b_X_entry 30 = .ok (.getfield 44, 3) := by decide +kernel
theorem d_X_entry_33 : decode b_X_entry 33 = .ok (.getfield 124, 3) := by decide +kernel
theorem d_X_entry_36 : decode b_X_entry 36 = .ok (.iload_n 1, 1) := by decide +kernel
theorem d_X_entry_37 : decode b_X_entry 37 = .ok (.aaload, 1) := by decide +kernel
theorem d_X_entry_38 : decode b_X_entry 38 = .ok (.iload_n 2, 1) := by decide +kernel
theorem d_X_entry_39 : decode b_X_entry 39 = .ok (.iaload, 1) := by decide +kernel
theorem d_X_entry_40 : decode b_X_entry 40 = .ok (.istore 4, 2) := by decide +kernel
theorem d_X_entry_42 : decode b_X_entry 42 = .ok (.aload_n 0, 1) := by decide +kernel
theorem d_X_entry_43 : decode b_X_entry 43 = .ok (.getfield 44, 3) := by decide +kernel
theorem d_X_entry_46 : decode b_X_entry 46 = .ok (.getfield 124, 3) := by decide +kernel
theorem d_X_entry_49 : decode b_X_entry 49 = .ok (.iload_n 1, 1) := by decide +kernel
theorem d_X_entry_50 : decode b_X_entry 50 = .ok (.aaload, 1) := by decide +kernel
theorem d_X_entry_51 : decode b_X_entry 51 = .ok (.iload_n 2, 1) := by decide +kernel
theorem d_X_entry_52 : decode b_X_entry 52 = .ok (.iload_n 3, 1) := by decide +kernel
theorem d_X_entry_53 : decode b_X_entry 53 = .ok (.iastore, 1) := by decide +kernel
theorem d_X_entry_54 : decode b_X_entry 54 = .ok (.iload 4, 2) := by decide +kernel
theorem d_X_entry_56 : decode b_X_entry 56 = .ok (.ireturn, 1) := by decide +kernel
theorem d_X_parts_0 : decode b_X_parts 0 = .ok (.aload_n 0, 1) := by decide +kernel
theorem d_X_parts_1 : decode b_X_parts 1 = .ok (.getfield 44, 3) := by decide +kernel
theorem d_X_parts_4 : decode b_X_parts 4 = .ok (.aload_n 0, 1) := by decide +kernel
theorem d_X_parts_5 : decode b_X_parts 5 = .ok (.getfield 23, 3) := by decide +kernel
theorem d_X_parts_8 : decode b_X_parts 8 = .ok (.invokevirtual 127, 3) := by decide +kernel
theorem d_X_parts_11 : decode b_X_parts 11 = .ok (.aload_n 0, 1) := by decide +kernel
theorem d_X_parts_12 : decode b_X_parts 12 = .ok (.getfield 44, 3) := by decide +kernel
theorem d_X_parts_15 : decode b_X_parts 15 = .ok (.invokevirtual 131, 3) := by decide +kernel
theorem d_X_parts_18 : decode b_X_parts 18 = .ok (.ireturn, 1) := by decide +kernel
theorem d_X_greatestDivisor_0 : decode b_X_greatestDivisor 0 = .ok (.lload_n 0, 1) := by decide +kernel
theorem d_X_greatestDivisor_1 : decode b_X_greatestDivisor 1 = .ok (.lstore 4, 2) := by decide +kernel
theorem d_X_greatestDivisor_3 : decode b_X_greatestDivisor 3 = .ok (.lload_n 2, 1) := by decide +kernel
theorem d_X_greatestDivisor_4 : decode b_X_greatestDivisor 4 = .ok (.lstore 6, 2) := by decide +kernel
theorem d_X_greatestDivisor_6 : decode b_X_greatestDivisor 6 = .ok (.iconst 0, 1) := by decide +kernel
theorem d_X_greatestDivisor_7 : decode b_X_greatestDivisor 7 = .ok (.istore 8, 2) := by decide +kernel
theorem d_X_greatestDivisor_9 : decode b_X_greatestDivisor 9 = .ok (.iload 8, 2) := by decide +kernel
theorem d_X_greatestDivisor_11 : decode b_X_greatestDivisor 11 = .ok (.sipush 200, 3) := by decide +kernel
theorem d_X_greatestDivisor_14 : decode b_X_greatestDivisor 14 = .ok (.if_icmp .ge 31, 3) := by decide +kernel
theorem d_X_greatestDivisor_17 : decode b_X_greatestDivisor 17 = .ok (.lload 6, 2) := by decide +kernel
theorem d_X_greatestDivisor_19 : decode b_X_greatestDivisor 19 = .ok (.lconst 0, 1) := by decide +kernel
theorem d_X_greatestDivisor_20 : decode b_X_greatestDivisor 20 = .ok (.lcmp, 1) := by decide +kernel
theorem d_X_greatestDivisor_21 : decode b_X_greatestDivisor 21 = .ok (.ifCond .eq 24, 3) := by decide +kernel
theorem d_X_greatestDivisor_24 : decode b_X_greatestDivisor 24 = .ok (.lload 4, 2) := by decide +kernel
theorem d_X_greatestDivisor_26 : decode b_X_greatestDivisor 26 = .ok (.lload 6, 2) := by decide +kernel
theorem d_X_greatestDivisor_28 : decode b_X_greatestDivisor 28 = .ok (.lrem, 1) := by decide +kernel
theorem d_X_greatestDivisor_29 : decode b_X_greatestDivisor 29 = .ok (.lstore 9, 2) := by decide +kernel
theorem d_X_greatestDivisor_31 : decode b_X_greatestDivisor 31 = .ok (.lload 6, 2) := by decide +kernel
theorem d_X_greatestDivisor_33 : decode b_X_greatestDivisor 33 = .ok (.lstore 4, 2) := by decide +kernel
theorem d_X_greatestDivisor_35 : decode b_X_greatestDivisor 35 = .ok (.lload 9, 2) := by decide +kernel
theorem d_X_greatestDivisor_37 : decode b_X_greatestDivisor 37 = .ok (.lstore 6, 2) := by decide +kernel
theorem d_X_greatestDivisor_39 : decode b_X_greatestDivisor 39 = .ok (.iinc 8 1, 3) := by decide +kernel
theorem d_X_greatestDivisor_42 : decode b_X_greatestDivisor 42 = .ok (.goto (-33), 3) := by decide +kernel
theorem d_X_greatestDivisor_45 : decode b_X_greatestDivisor 45 = .ok (.lload 4, 2) := by decide +kernel
theorem d_X_greatestDivisor_47 : decode b_X_greatestDivisor 47 = .ok (.lreturn, 1) := by decide +kernel
theorem d_X_lessened_0 : decode b_X_lessened 0 = .ok (.lload_n 0, 1) := by decide +kernel
theorem d_X_lessened_1 : decode b_X_lessened 1 = .ok (.lload_n 2, 1) := by decide +kernel
theorem d_X_lessened_2 : decode b_X_lessened 2 = .ok (.invokestatic 209, 3) := by decide +kernel
theorem d_X_lessened_5 : decode b_X_lessened 5 = .ok (.lstore 5, 2) := by decide +kernel
theorem d_X_lessened_7 : decode b_X_lessened 7 = .ok (.iload 4, 2) := by decide +kernel
theorem d_X_lessened_9 : decode b_X_lessened 9 = .ok (.ifCond .ne 7, 3) := by decide +kernel
theorem d_X_lessened_12 : decode b_X_lessened 12 = .ok (.lload_n 0, 1) := by decide +kernel
theorem d_X_lessened_13 : decode b_X_lessened 13 = .ok (.goto 4, 3) := by decide +kernel
theorem d_X_lessened_16 : decode b_X_lessened 16 = .ok (.lload_n 2, 1) := by decide +kernel
theorem d_X_lessened_17 : decode b_X_lessened 17 = .ok (.lstore 7, 2) := by decide +kernel
theorem d_X_lessened_19 : decode b_X_lessened 19 = .ok (.lload 5, 2) := by decide +kernel
theorem d_X_lessened_21 : decode b_X_lessened 21 = .ok (.lconst 0, 1) := by decide +kernel
theorem d_X_lessened_22 : decode b_X_lessened 22 = .ok (.lcmp, 1) := by decide +kernel
theorem d_X_lessened_23 : decode b_X_lessened 23 = .ok (.ifCond .le 11, 3) := by decide +kernel
theorem d_X_lessened_26 : decode b_X_lessened 26 = .ok (.lload 7, 2) := by decide +kernel
theorem d_X_lessened_28 : decode b_X_lessened 28 = .ok (.lload 5, 2) := by decide +kernel
theorem d_X_lessened_30 : decode b_X_lessened 30 = .ok (.ldiv, 1) := by decide +kernel
theorem d_X_lessened_31 : decode b_X_lessened 31 = .ok (.goto 5, 3) := by decide +kernel
theorem d_X_lessened_34 : decode b_X_lessened 34 = .ok (.lload 7, 2) := by decide +kernel
theorem d_X_lessened_36 : decode b_X_lessened 36 = .ok (.lreturn, 1) := by decide +kernel
theorem d_X_share_0 : decode b_X_share 0 = .ok (.iload_n 1, 1) := by decide +kernel
theorem d_X_share_1 : decode b_X_share 1 = .ok (.aload_n 0, 1) := by decide +kernel
theorem d_X_share_2 : decode b_X_share 2 = .ok (.getfield 44, 3) := by decide +kernel
theorem d_X_share_5 : decode b_X_share 5 = .ok (.getfield 123, 3) := by decide +kernel
theorem d_X_share_8 : decode b_X_share 8 = .ok (.invokestatic 66, 3) := by decide +kernel
theorem d_X_share_11 : decode b_X_share 11 = .ok (.iload_n 2, 1) := by decide +kernel
theorem d_X_share_12 : decode b_X_share 12 = .ok (.iconst 2, 1) := by decide +kernel
theorem d_X_share_13 : decode b_X_share 13 = .ok (.invokestatic 66, 3) := by decide +kernel
theorem d_X_share_16 : decode b_X_share 16 = .ok (.aload_n 0, 1) := by decide +kernel
theorem d_X_share_17 : decode b_X_share 17 = .ok (.getfield 44, 3) := by decide +kernel
theorem d_X_share_20 : decode b_X_share 20 = .ok (.getfield 134, 3) := by decide +kernel
theorem d_X_share_23 : decode b_X_share 23 = .ok (.invokestatic 105, 3) := by decide +kernel
theorem d_X_share_26 : decode b_X_share 26 = .ok (.aload_n 0, 1) := by decide +kernel
theorem d_X_share_27 : decode b_X_share 27 = .ok (.getfield 44, 3) := by decide +kernel
theorem d_X_share_30 : decode b_X_share 30 = .ok (.getfield 138, 3) := by decide +kernel
theorem d_X_share_33 : decode b_X_share 33 = .ok (.iload_n 1, 1) := by decide +kernel
theorem d_X_share_34 : decode b_X_share 34 = .ok (.laload, 1) := by decide +kernel
theorem d_X_share_35 : decode b_X_share 35 = .ok (.aload_n 0, 1) := by decide +kernel
theorem d_X_share_36 : decode b_X_share 36 = .ok (.getfield 44, 3) := by decide +kernel
theorem d_X_share_39 : decode b_X_share 39 = .ok (.getfield 142, 3) := by decide +kernel
theorem d_X_share_42 : decode b_X_share 42 = .ok (.iload_n 2, 1) := by decide +kernel
theorem d_X_share_43 : decode b_X_share 43 = .ok (.invokestatic 146, 3) := by decide +kernel
theorem d_X_share_46 : decode b_X_share 46 = .ok (.lreturn, 1) := by decide +kernel
theorem d_X_least_0 : decode b_X_least 0 = .ok (.aload_n 0, 1) := by decide +kernel
theorem d_X_least_1 : decode b_X_least 1 = .ok (.getfield 44, 3) := by decide +kernel
theorem d_X_least_4 : decode b_X_least 4 = .ok (.getfield 134, 3) := by decide +kernel
theorem d_X_least_7 : decode b_X_least 7 = .ok (.invokestatic 105, 3) := by decide +kernel
theorem d_X_least_10 : decode b_X_least 10 = .ok (.aload_n 0, 1) := by decide +kernel
theorem d_X_least_11 : decode b_X_least 11 = .ok (.getfield 44, 3) := by decide +kernel
theorem d_X_least_14 : decode b_X_least 14 = .ok (.aload_n 0, 1) := by decide +kernel
theorem d_X_least_15 : decode b_X_least 15 = .ok (.getfield 23, 3) := by decide +kernel
theorem d_X_least_18 : decode b_X_least 18 = .ok (.invokevirtual 127, 3) := by decide +kernel
theorem d_X_least_21 : decode b_X_least 21 = .ok (.aload_n 0, 1) := by decide +kernel
theorem d_X_least_22 : decode b_X_least 22 = .ok (.getfield 44, 3) := by decide +kernel
theorem d_X_least_25 : decode b_X_least 25 = .ok (.invokevirtual 150, 3) := by decide +kernel
theorem d_X_least_28 : decode b_X_least 28 = .ok (.ireturn, 1) := by decide +kernel
theorem d_X_sample_0 : decode b_X_sample 0 = .ok (.aload_n 0, 1) := by decide +kernel
theorem d_X_sample_1 : decode b_X_sample 1 = .ok (.getfield 51, 3) := by decide +kernel
theorem d_X_sample_4 : decode b_X_sample 4 = .ok (.getfield 154, 3) := by decide +kernel
theorem d_X_sample_7 : decode b_X_sample 7 = .ok (.bipush 12, 2) := by decide +kernel
theorem d_X_sample_9 : decode b_X_sample 9 = .ok (.if_icmp .ge 7, 3) := by decide +kernel
theorem d_X_sample_12 : decode b_X_sample 12 = .ok (.iconst 1, 1) := by decide +kernel
theorem d_X_sample_13 : decode b_X_sample 13 = .ok (.goto 4, 3) := by decide +kernel
theorem d_X_sample_16 : decode b_X_sample 16 = .ok (.iconst 0, 1) := by decide +kernel
theorem d_X_sample_17 : decode b_X_sample 17 = .ok (.invokestatic 105, 3) := by decide +kernel
theorem d_X_sample_20 : decode b_X_sample 20 = .ok (.aload_n 0, 1) := by decide +kernel
theorem d_X_sample_21 : decode b_X_sample 21 = .ok (.getfield 51, 3) := by decide +kernel
theorem d_X_sample_24 : decode b_X_sample 24 = .ok (.getfield 154, 3) := by decide +kernel
theorem d_X_sample_27 : decode b_X_sample 27 = .ok (.istore_n 1, 1) := by decide +kernel
theorem d_X_sample_28 : decode b_X_sample 28 = .ok (.aload_n 0, 1) := by decide +kernel
theorem d_X_sample_29 : decode b_X_sample 29 = .ok (.getfield 51, 3) := by decide +kernel
theorem d_X_sample_32 : decode b_X_sample 32 = .ok (.iload_n 1, 1) := by decide +kernel
theorem d_X_sample_33 : decode b_X_sample 33 = .ok (.iconst 1, 1) := by decide +kernel
theorem d_X_sample_34 : decode b_X_sample 34 = .ok (.iadd, 1) := by decide +kernel
theorem d_X_sample_35 : decode b_X_sample 35 = .ok (.putfield 154, 3) := by decide +kernel
theorem d_X_sample_38 : decode b_X_sample 38 = .ok (.iload_n 1, 1) := by decide +kernel
theorem d_X_sample_39 : decode b_X_sample 39 = .ok (.ireturn, 1) := by decide +kernel
theorem d_X_measured_0 : decode b_X_measured 0 = .ok (.iload_n 1, 1) := by decide +kernel
theorem d_X_measured_1 : decode b_X_measured 1 = .ok (.aload_n 0, 1) := by decide +kernel
theorem d_X_measured_2 : decode b_X_measured 2 = .ok (.getfield 51, 3) := by decide +kernel
theorem d_X_measured_5 : decode b_X_measured 5 = .ok (.getfield 154, 3) := by decide +kernel
theorem d_X_measured_8 : decode b_X_measured 8 = .ok (.invokestatic 66, 3) := by decide +kernel
theorem d_X_measured_11 : decode b_X_measured 11 = .ok (.iload_n 2, 1) := by decide +kernel
theorem d_X_measured_12 : decode b_X_measured 12 = .ok (.iconst 2, 1) := by decide +kernel
theorem d_X_measured_13 : decode b_X_measured 13 = .ok (.invokestatic 66, 3) := by decide +kernel
theorem d_X_measured_16 : decode b_X_measured 16 = .ok (.iload_n 3, 1) := by decide +kernel
theorem d_X_measured_17 : decode b_X_measured 17 = .ok (.sipush (-1000), 3) := by decide +kernel
theorem d_X_measured_20 : decode b_X_measured 20 = .ok (.sipush 1000, 3) := by decide +kernel
theorem d_X_measured_23 : decode b_X_measured 23 = .ok (.invokestatic 70, 3) := by decide +kernel
theorem d_X_measured_26 : decode b_X_measured 26 = .ok (.aload_n 0, 1) := by decide +kernel
theorem d_X_measured_27 : decode b_X_measured 27 = .ok (.getfield 51, 3) := by decide +kernel
theorem d_X_measured_30 : decode b_X_measured 30 = .ok (.getfield 155, 3) := by decide +kernel
theorem d_X_measured_33 : decode b_X_measured 33 = .ok (.iload_n 2, 1) := by decide +kernel
theorem d_X_measured_34 : decode b_X_measured 34 = .ok (.aaload, 1) := by decide +kernel
theorem d_X_measured_35 : decode b_X_measured 35 = .ok (.iload_n 1, 1) := by decide +kernel
theorem d_X_measured_36 : decode b_X_measured 36 = .ok (.iaload, 1) := by decide +kernel
theorem d_X_measured_37 : decode b_X_measured 37 = .ok (.istore 4, 2) := by decide +kernel
theorem d_X_measured_39 : decode b_X_measured 39 = .ok (.aload_n 0, 1) := by decide +kernel
theorem d_X_measured_40 : decode b_X_measured 40 = .ok (.getfield 51, 3) := by decide +kernel
theorem d_X_measured_43 : decode b_X_measured 43 = .ok (.getfield 155, 3) := by decide +kernel
theorem d_X_measured_46 : decode b_X_measured 46 = .ok (.iload_n 2, 1) := by decide +kernel
theorem d_X_measured_47 : decode b_X_measured 47 = .ok (.aaload, 1) := by decide +kernel
theorem d_X_measured_48 : decode b_X_measured 48 = .ok (.iload_n 1, 1) := by decide +kernel
theorem d_X_measured_49 : decode b_X_measured 49 = .ok (.iload_n 3, 1) := by decide +kernel
theorem d_X_measured_50 : decode b_X_measured 50 = .ok (.iastore, 1) := by decide +kernel
theorem d_X_measured_51 : decode b_X_measured 51 = .ok (.iload 4, 2) := by decide +kernel
theorem d_X_measured_53 : decode b_X_measured 53 = .ok (.ireturn, 1) := by decide +kernel
theorem d_X_covariance_0 : decode b_X_covariance 0 = .ok (.iload_n 1, 1) := by decide +kernel
theorem d_X_covariance_1 : decode b_X_covariance 1 = .ok (.iconst 1, 1) := by decide +kernel
theorem d_X_covariance_2 : decode b_X_covariance 2 = .ok (.sipush 1000, 3) := by decide +kernel
theorem d_X_covariance_5 : decode b_X_covariance 5 = .ok (.invokestatic 70, 3) := by decide +kernel
theorem d_X_covariance_8 : decode b_X_covariance 8 = .ok (.iload_n 2, 1) := by decide +kernel
theorem d_X_covariance_9 : decode b_X_covariance 9 = .ok (.sipush (-1000), 3) := by decide +kernel
theorem d_X_covariance_12 : decode b_X_covariance 12 = .ok (.sipush 1000, 3) := by decide +kernel
theorem d_X_covariance_15 : decode b_X_covariance 15 = .ok (.invokestatic 70, 3) := by decide +kernel
theorem d_X_covariance_18 : decode b_X_covariance 18 = .ok (.iload_n 3, 1) := by decide +kernel
theorem d_X_covariance_19 : decode b_X_covariance 19 = .ok (.iconst 1, 1) := by decide +kernel
theorem d_X_covariance_20 : decode b_X_covariance 20 = .ok (.sipush 1000, 3) := by decide +kernel
theorem d_X_covariance_23 : decode b_X_covariance 23 = .ok (.invokestatic 70, 3) := by decide +kernel
theorem d_X_covariance_26 : decode b_X_covariance 26 = .ok (.iload_n 1, 1) := by decide +kernel
theorem d_X_covariance_27 : decode b_X_covariance 27 = .ok (.iload_n 3, 1) := by decide +kernel
theorem d_X_covariance_28 : decode b_X_covariance 28 = .ok (.imul, 1) := by decide +kernel
theorem d_X_covariance_29 : decode b_X_covariance 29 = .ok (.iload_n 2, 1) := by decide +kernel
theorem d_X_covariance_30 : decode b_X_covariance 30 = .ok (.iload_n 2, 1) := by decide +kernel
theorem d_X_covariance_31 : decode b_X_covariance 31 = .ok (.imul, 1) := by decide +kernel
theorem d_X_covariance_32 : decode b_X_covariance 32 = .ok (.isub, 1) := by decide +kernel
theorem d_X_covariance_33 : decode b_X_covariance 33 = .ok (.iconst 1, 1) := by decide +kernel
theorem d_X_covariance_34 : decode b_X_covariance 34 = .ok (.ldc 90, 2) := by decide +kernel
theorem d_X_covariance_36 : decode b_X_covariance 36 = .ok (.invokestatic 70, 3) := by decide +kernel
theorem d_X_covariance_39 : decode b_X_covariance 39 = .ok (.aload_n 0, 1) := by decide +kernel
theorem d_X_covariance_40 : decode b_X_covariance 40 = .ok (.getfield 51, 3) := by decide +kernel
theorem d_X_covariance_43 : decode b_X_covariance 43 = .ok (.iload_n 1, 1) := by decide +kernel
theorem d_X_covariance_44 : decode b_X_covariance 44 = .ok (.i2l, 1) := by decide +kernel
theorem d_X_covariance_45 : decode b_X_covariance 45 = .ok (.putfield 158, 3) := by decide +kernel
theorem d_X_covariance_48 : decode b_X_covariance 48 = .ok (.aload_n 0, 1) := by decide +kernel
theorem d_X_covariance_49 : decode b_X_covariance 49 = .ok (.getfield 51, 3) := by decide +kernel
theorem d_X_covariance_52 : decode b_X_covariance 52 = .ok (.iload_n 2, 1) := by decide +kernel
theorem d_X_covariance_53 : decode b_X_covariance 53 = .ok (.i2l, 1) := by decide +kernel
theorem d_X_covariance_54 : decode b_X_covariance 54 = .ok (.putfield 161, 3) := by decide +kernel
theorem d_X_covariance_57 : decode b_X_covariance 57 = .ok (.aload_n 0, 1) := by decide +kernel
theorem d_X_covariance_58 : decode b_X_covariance 58 = .ok (.getfield 51, 3) := by decide +kernel
theorem d_X_covariance_61 : decode b_X_covariance 61 = .ok (.iload_n 3, 1) := by decide +kernel
theorem d_X_covariance_62 : decode b_X_covariance 62 = .ok (.i2l, 1) := by decide +kernel
theorem d_X_covariance_63 : decode b_X_covariance 63 = .ok (.putfield 164, 3) := by decide +kernel
theorem d_X_covariance_66 : decode b_X_covariance 66 = .ok (.return_, 1) := by decide +kernel
theorem d_X_distance_0 : decode b_X_distance 0 = .ok (.iload_n 1, 1) := by decide +kernel
theorem d_X_distance_1 : decode b_X_distance 1 = .ok (.aload_n 0, 1) := by decide +kernel
theorem d_X_distance_2 : decode b_X_distance 2 = .ok (.getfield 51, 3) := by decide +kernel
theorem d_X_distance_5 : decode b_X_distance 5 = .ok (.getfield 154, 3) := by decide +kernel
theorem d_X_distance_8 : decode b_X_distance 8 = .ok (.invokestatic 66, 3) := by decide +kernel
theorem d_X_distance_11 : decode b_X_distance 11 = .ok (.iload_n 2, 1) := by decide +kernel
theorem d_X_distance_12 : decode b_X_distance 12 = .ok (.aload_n 0, 1) := by decide +kernel
theorem d_X_distance_13 : decode b_X_distance 13 = .ok (.getfield 51, 3) := by decide +kernel
theorem d_X_distance_16 : decode b_X_distance 16 = .ok (.getfield 154, 3) := by decide +kernel
theorem d_X_distance_19 : decode b_X_distance 19 = .ok (.invokestatic 66, 3) := by decide +kernel
theorem d_X_distance_22 : decode b_X_distance 22 = .ok (.iload_n 3, 1) := by decide +kernel
theorem d_X_distance_23 : decode b_X_distance 23 = .ok (.iconst 2, 1) := by decide +kernel
theorem d_X_distance_24 : decode b_X_distance 24 = .ok (.invokestatic 66, 3) := by decide +kernel
theorem d_X_distance_27 : decode b_X_distance 27 = .ok (.aload_n 0, 1) := by decide +kernel
theorem d_X_distance_28 : decode b_X_distance 28 = .ok (.getfield 51, 3) := by decide +kernel
theorem d_X_distance_31 : decode b_X_distance 31 = .ok (.iload_n 1, 1) := by decide +kernel
theorem d_X_distance_32 : decode b_X_distance 32 = .ok (.iload_n 2, 1) := by decide +kernel
theorem d_X_distance_33 : decode b_X_distance 33 = .ok (.invokevirtual 167, 3) := by decide +kernel
theorem d_X_distance_36 : decode b_X_distance 36 = .ok (.aload_n 0, 1) := by decide +kernel
theorem d_X_distance_37 : decode b_X_distance 37 = .ok (.getfield 51, 3) := by decide +kernel
theorem d_X_distance_40 : decode b_X_distance 40 = .ok (.invokevirtual 171, 3) := by decide +kernel
theorem d_X_distance_43 : decode b_X_distance 43 = .ok (.iload_n 3, 1) := by decide +kernel
theorem d_X_distance_44 : decode b_X_distance 44 = .ok (.invokestatic 146, 3) := by decide +kernel
theorem d_X_distance_47 : decode b_X_distance 47 = .ok (.lreturn, 1) := by decide +kernel
theorem d_X_group_0 : decode b_X_group 0 = .ok (.iload_n 1, 1) := by decide +kernel
theorem d_X_group_1 : decode b_X_group 1 = .ok (.aload_n 0, 1) := by decide +kernel
theorem d_X_group_2 : decode b_X_group 2 = .ok (.getfield 51, 3) := by decide +kernel
theorem d_X_group_5 : decode b_X_group 5 = .ok (.getfield 154, 3) := by decide +kernel
theorem d_X_group_8 : decode b_X_group 8 = .ok (.invokestatic 66, 3) := by decide +kernel
theorem d_X_group_11 : decode b_X_group 11 = .ok (.iload_n 2, 1) := by decide +kernel
theorem d_X_group_12 : decode b_X_group 12 = .ok (.iconst 0, 1) := by decide +kernel
theorem d_X_group_13 : decode b_X_group 13 = .ok (.ldc 90, 2) := by decide +kernel
theorem d_X_group_15 : decode b_X_group 15 = .ok (.invokestatic 70, 3) := by decide +kernel
theorem d_X_group_18 : decode b_X_group 18 = .ok (.aload_n 0, 1) := by decide +kernel
theorem d_X_group_19 : decode b_X_group 19 = .ok (.getfield 51, 3) := by decide +kernel
theorem d_X_group_22 : decode b_X_group 22 = .ok (.iload_n 1, 1) := by decide +kernel
theorem d_X_group_23 : decode b_X_group 23 = .ok (.iload_n 2, 1) := by decide +kernel
theorem d_X_group_24 : decode b_X_group 24 = .ok (.invokevirtual 175, 3) := by decide +kernel
theorem d_X_group_27 : decode b_X_group 27 = .ok (.ireturn, 1) := by decide +kernel
theorem d_X_standard_0 : decode b_X_standard 0 = .ok (.iload_n 1, 1) := by decide +kernel
theorem d_X_standard_1 : decode b_X_standard 1 = .ok (.iconst 0, 1) := by decide +kernel
theorem d_X_standard_2 : decode b_X_standard 2 = .ok (.ldc 178, 2) := by decide +kernel
theorem d_X_standard_4 : decode b_X_standard 4 = .ok (.invokestatic 70, 3) := by decide +kernel
theorem d_X_standard_7 : decode b_X_standard 7 = .ok (.iload_n 2, 1) := by decide +kernel
theorem d_X_standard_8 : decode b_X_standard 8 = .ok (.iconst 1, 1) := by decide +kernel
theorem d_X_standard_9 : decode b_X_standard 9 = .ok (.sipush 10000, 3) := by decide +kernel
theorem d_X_standard_12 : decode b_X_standard 12 = .ok (.invokestatic 70, 3) := by decide +kernel
theorem d_X_standard_15 : decode b_X_standard 15 = .ok (.aload_n 0, 1) := by decide +kernel
theorem d_X_standard_16 : decode b_X_standard 16 = .ok (.getfield 58, 3) := by decide +kernel
theorem d_X_standard_19 : decode b_X_standard 19 = .ok (.iload_n 1, 1) := by decide +kernel
theorem d_X_standard_20 : decode b_X_standard 20 = .ok (.invokevirtual 179, 3) := by decide +kernel
theorem d_X_standard_23 : decode b_X_standard 23 = .ok (.istore_n 3, 1) := by decide +kernel
theorem d_X_standard_24 : decode b_X_standard 24 = .ok (.iload_n 3, 1) := by decide +kernel
theorem d_X_standard_25 : decode b_X_standard 25 = .ok (.bipush 10, 2) := by decide +kernel
theorem d_X_standard_27 : decode b_X_standard 27 = .ok (.if_icmp .ge 7, 3) := by decide +kernel
theorem d_X_standard_30 : decode b_X_standard 30 = .ok (.iconst 1, 1) := by decide +kernel
theorem d_X_standard_31 : decode b_X_standard 31 = .ok (.goto 4, 3) := by decide +kernel
theorem d_X_standard_34 : decode b_X_standard 34 = .ok (.iconst 0, 1) := by decide +kernel
theorem d_X_standard_35 : decode b_X_standard 35 = .ok (.invokestatic 105, 3) := by decide +kernel
theorem d_X_standard_38 : decode b_X_standard 38 = .ok (.aload_n 0, 1) := by decide +kernel
theorem d_X_standard_39 : decode b_X_standard 39 = .ok (.getfield 58, 3) := by decide +kernel
theorem d_X_standard_42 : decode b_X_standard 42 = .ok (.iload_n 3, 1) := by decide +kernel
theorem d_X_standard_43 : decode b_X_standard 43 = .ok (.iload_n 1, 1) := by decide +kernel
theorem d_X_standard_44 : decode b_X_standard 44 = .ok (.iload_n 2, 1) := by decide +kernel
theorem d_X_standard_45 : decode b_X_standard 45 = .ok (.invokevirtual 182, 3) := by decide +kernel
theorem d_X_standard_48 : decode b_X_standard 48 = .ok (.aload_n 0, 1) := by decide +kernel
theorem d_X_standard_49 : decode b_X_standard 49 = .ok (.getfield 58, 3) := by decide +kernel
theorem d_X_standard_52 : decode b_X_standard 52 = .ok (.getfield 185, 3) := by decide +kernel
theorem d_X_standard_55 : decode b_X_standard 55 = .ok (.ireturn, 1) := by decide +kernel
theorem d_X_corrected_0 : decode b_X_corrected 0 = .ok (.iload_n 1, 1) := by decide +kernel
theorem d_X_corrected_1 : decode b_X_corrected 1 = .ok (.iconst 0, 1) := by decide +kernel
theorem d_X_corrected_2 : decode b_X_corrected 2 = .ok (.ldc 178, 2) := by decide +kernel
theorem d_X_corrected_4 : decode b_X_corrected 4 = .ok (.invokestatic 70, 3) := by decide +kernel
theorem d_X_corrected_7 : decode b_X_corrected 7 = .ok (.iload_n 2, 1) := by decide +kernel
theorem d_X_corrected_8 : decode b_X_corrected 8 = .ok (.iconst 0, 1) := by decide +kernel
theorem d_X_corrected_9 : decode b_X_corrected 9 = .ok (.ldc 186, 2) := by decide +kernel
theorem d_X_corrected_11 : decode b_X_corrected 11 = .ok (.invokestatic 70, 3) := by decide +kernel
theorem d_X_corrected_14 : decode b_X_corrected 14 = .ok (.aload_n 0, 1) := by decide +kernel
theorem d_X_corrected_15 : decode b_X_corrected 15 = .ok (.getfield 58, 3) := by decide +kernel
theorem d_X_corrected_18 : decode b_X_corrected 18 = .ok (.iload_n 1, 1) := by decide +kernel
theorem d_X_corrected_19 : decode b_X_corrected 19 = .ok (.invokevirtual 187, 3) := by decide +kernel
theorem d_X_corrected_22 : decode b_X_corrected 22 = .ok (.istore_n 3, 1) := by decide +kernel
theorem d_X_corrected_23 : decode b_X_corrected 23 = .ok (.iload_n 3, 1) := by decide +kernel
theorem d_X_corrected_24 : decode b_X_corrected 24 = .ok (.ifCond .le 15, 3) := by decide +kernel
theorem d_X_corrected_27 : decode b_X_corrected 27 = .ok (.iload_n 2, 1) := by decide +kernel
theorem d_X_corrected_28 : decode b_X_corrected 28 = .ok (.i2l, 1) := by decide +kernel
theorem d_X_corrected_29 : decode b_X_corrected 29 = .ok (.ldc2_w 190, 3) := by decide +kernel
theorem d_X_corrected_32 : decode b_X_corrected 32 = .ok (.lmul, 1) := by decide +kernel
theorem d_X_corrected_33 : decode b_X_corrected 33 = .ok (.iload_n 3, 1) := by decide +kernel
theorem d_X_corrected_34 : decode b_X_corrected 34 = .ok (.i2l, 1) := by decide +kernel
theorem d_X_corrected_35 : decode b_X_corrected 35 = .ok (.ldiv, 1) := by decide +kernel
theorem d_X_corrected_36 : decode b_X_corrected 36 = .ok (.goto 4, 3) := by decide +kernel
theorem d_X_corrected_39 : decode b_X_corrected 39 = .ok (.lconst 0, 1) := by decide +kernel
theorem d_X_corrected_40 : decode b_X_corrected 40 = .ok (.lreturn, 1) := by decide +kernel
theorem d_X_count_0 : decode b_X_count 0 = .ok (.iload_n 1, 1) := by decide +kernel
theorem d_X_count_1 : decode b_X_count 1 = .ok (.iconst 5, 1) := by decide +kernel
theorem d_X_count_2 : decode b_X_count 2 = .ok (.invokestatic 66, 3) := by decide +kernel
theorem d_X_count_5 : decode b_X_count 5 = .ok (.iload_n 1, 1) := by decide +kernel
theorem d_X_count_6 : decode b_X_count 6 = .ok (.tableswitch 62 0 3 #[30, 38, 46, 54], 30) := by decide +kernel
theorem d_X_count_36 : decode b_X_count 36 = .ok (.aload_n 0, 1) := by decide +kernel
theorem d_X_count_37 : decode b_X_count 37 = .ok (.getfield 23, 3) := by decide +kernel
theorem d_X_count_40 : decode b_X_count 40 = .ok (.getfield 62, 3) := by decide +kernel
theorem d_X_count_43 : decode b_X_count 43 = .ok (.ireturn, 1) := by decide +kernel
theorem d_X_count_44 : decode b_X_count 44 = .ok (.aload_n 0, 1) := by decide +kernel
theorem d_X_count_45 : decode b_X_count 45 = .ok (.getfield 30, 3) := by decide +kernel
theorem d_X_count_48 : decode b_X_count 48 = .ok (.getfield 95, 3) := by decide +kernel
theorem d_X_count_51 : decode b_X_count 51 = .ok (.ireturn, 1) := by decide +kernel
theorem d_X_count_52 : decode b_X_count 52 = .ok (.aload_n 0, 1) := by decide +kernel
theorem d_X_count_53 : decode b_X_count 53 = .ok (.getfield 44, 3) := by decide +kernel
theorem d_X_count_56 : decode b_X_count 56 = .ok (.getfield 123, 3) := by decide +kernel
theorem d_X_count_59 : decode b_X_count 59 = .ok (.ireturn, 1) := by decide +kernel
theorem d_X_count_60 : decode b_X_count 60 = .ok (.aload_n 0, 1) := by decide +kernel
theorem d_X_count_61 : decode b_X_count 61 = .ok (.getfield 51, 3) := by decide +kernel
theorem d_X_count_64 : decode b_X_count 64 = .ok (.getfield 154, 3) := by decide +kernel
theorem d_X_count_67 : decode b_X_count 67 = .ok (.ireturn, 1) := by decide +kernel
theorem d_X_count_68 : decode b_X_count 68 = .ok (.aload_n 0, 1) := by decide +kernel
theorem d_X_count_69 : decode b_X_count 69 = .ok (.getfield 58, 3) := by decide +kernel
theorem d_X_count_72 : decode b_X_count 72 = .ok (.getfield 185, 3) := by decide +kernel
theorem d_X_count_75 : decode b_X_count 75 = .ok (.ireturn, 1) := by decide +kernel
