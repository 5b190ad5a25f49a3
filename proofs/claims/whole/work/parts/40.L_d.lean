theorem d_L_told_0 : decode b_L_told 0 = .ok (.aload_n 3, 1) := by decide +kernel
theorem d_L_told_1 : decode b_L_told 1 = .ok (.iconst 0, 1) := by decide +kernel
theorem d_L_told_2 : decode b_L_told 2 = .ok (.aload_n 0, 1) := by decide +kernel
theorem d_L_told_3 : decode b_L_told 3 = .ok (.iload_n 1, 1) := by decide +kernel
theorem d_L_told_4 : decode b_L_told 4 = .ok (.iload_n 2, 1) := by decide +kernel
theorem d_L_told_5 : decode b_L_told 5 = .ok (.invokevirtual 7, 3) := by decide +kernel
theorem d_L_told_8 : decode b_L_told 8 = .ok (.i2l, 1) := by decide +kernel
theorem d_L_told_9 : decode b_L_told 9 = .ok (.lastore, 1) := by decide +kernel
theorem d_L_told_10 : decode b_L_told 10 = .ok (.goto 11, 3) := by decide +kernel
theorem d_L_told_13 : decode b_L_told 13 = .ok (.astore 4, 2) := by decide +kernel
theorem d_L_told_15 : decode b_L_told 15 = .ok (.iconst 1, 1) := by decide +kernel
theorem d_L_told_16 : decode b_L_told 16 = .ok (.ireturn, 1) := by decide +kernel
theorem d_L_told_17 : decode b_L_told 17 = .ok (.astore 4, 2) := by decide +kernel
theorem d_L_told_19 : decode b_L_told 19 = .ok (.iconst 2, 1) := by decide +kernel
theorem d_L_told_20 : decode b_L_told 20 = .ok (.ireturn, 1) := by decide +kernel
theorem d_L_told_21 : decode b_L_told 21 = .ok (.iconst 0, 1) := by decide +kernel
theorem d_L_told_22 : decode b_L_told 22 = .ok (.ireturn, 1) := by decide +kernel
theorem d_L_background_0 : decode b_L_background 0 = .ok (.aload_n 2, 1) := by decide +kernel
theorem d_L_background_1 : decode b_L_background 1 = .ok (.iconst 0, 1) := by decide +kernel
theorem d_L_background_2 : decode b_L_background 2 = .ok (.aload_n 0, 1) := by decide +kernel
theorem d_L_background_3 : decode b_L_background 3 = .ok (.iload_n 1, 1) := by decide +kernel
theorem d_L_background_4 : decode b_L_background 4 = .ok (.invokevirtual 17, 3) := by decide +kernel
theorem d_L_background_7 : decode b_L_background 7 = .ok (.i2l, 1) := by decide +kernel
theorem d_L_background_8 : decode b_L_background 8 = .ok (.lastore, 1) := by decide +kernel
theorem d_L_background_9 : decode b_L_background 9 = .ok (.goto 6, 3) := by decide +kernel
theorem d_L_background_12 : decode b_L_background 12 = .ok (.astore_n 3, 1) := by decide +kernel
theorem d_L_background_13 : decode b_L_background 13 = .ok (.iconst 1, 1) := by decide +kernel
theorem d_L_background_14 : decode b_L_background 14 = .ok (.ireturn, 1) := by decide +kernel
theorem d_L_background_15 : decode b_L_background 15 = .ok (.iconst 0, 1) := by decide +kernel
theorem d_L_background_16 : decode b_L_background 16 = .ok (.ireturn, 1) := by decide +kernel
theorem d_L_lowered_0 : decode b_L_lowered 0 = .ok (.aload_n 2, 1) := by decide +kernel
theorem d_L_lowered_1 : decode b_L_lowered 1 = .ok (.iconst 0, 1) := by decide +kernel
theorem d_L_lowered_2 : decode b_L_lowered 2 = .ok (.aload_n 0, 1) := by decide +kernel
theorem d_L_lowered_3 : decode b_L_lowered 3 = .ok (.iload_n 1, 1) := by decide +kernel
theorem d_L_lowered_4 : decode b_L_lowered 4 = .ok (.invokevirtual 21, 3) := by decide +kernel
theorem d_L_lowered_7 : decode b_L_lowered 7 = .ok (.i2l, 1) := by decide +kernel
theorem d_L_lowered_8 : decode b_L_lowered 8 = .ok (.lastore, 1) := by decide +kernel
theorem d_L_lowered_9 : decode b_L_lowered 9 = .ok (.goto 6, 3) := by decide +kernel
theorem d_L_lowered_12 : decode b_L_lowered 12 = .ok (.astore_n 3, 1) := by decide +kernel
theorem d_L_lowered_13 : decode b_L_lowered 13 = .ok (.iconst 1, 1) := by decide +kernel
theorem d_L_lowered_14 : decode b_L_lowered 14 = .ok (.ireturn, 1) := by decide +kernel
theorem d_L_lowered_15 : decode b_L_lowered 15 = .ok (.iconst 0, 1) := by decide +kernel
theorem d_L_lowered_16 : decode b_L_lowered 16 = .ok (.ireturn, 1) := by decide +kernel
theorem d_L_peaks_0 : decode b_L_peaks 0 = .ok (.aload_n 2, 1) := by decide +kernel
theorem d_L_peaks_1 : decode b_L_peaks 1 = .ok (.iconst 0, 1) := by decide +kernel
theorem d_L_peaks_2 : decode b_L_peaks 2 = .ok (.aload_n 0, 1) := by decide +kernel
theorem d_L_peaks_3 : decode b_L_peaks 3 = .ok (.iload_n 1, 1) := by decide +kernel
theorem d_L_peaks_4 : decode b_L_peaks 4 = .ok (.invokevirtual 24, 3) := by decide +kernel
theorem d_L_peaks_7 : decode b_L_peaks 7 = .ok (.i2l, 1) := by decide +kernel
theorem d_L_peaks_8 : decode b_L_peaks 8 = .ok (.lastore, 1) := by decide +kernel
theorem d_L_peaks_9 : decode b_L_peaks 9 = .ok (.goto 6, 3) := by decide +kernel
theorem d_L_peaks_12 : decode b_L_peaks 12 = .ok (.astore_n 3, 1) := by decide +kernel
theorem d_L_peaks_13 : decode b_L_peaks 13 = .ok (.iconst 1, 1) := by decide +kernel
theorem d_L_peaks_14 : decode b_L_peaks 14 = .ok (.ireturn, 1) := by decide +kernel
theorem d_L_peaks_15 : decode b_L_peaks 15 = .ok (.iconst 0, 1) := by decide +kernel
theorem d_L_peaks_16 : decode b_L_peaks 16 = .ok (.ireturn, 1) := by decide +kernel
theorem d_L_peak_0 : decode b_L_peak 0 = .ok (.aload_n 3, 1) := by decide +kernel
theorem d_L_peak_1 : decode b_L_peak 1 = .ok (.iconst 0, 1) := by decide +kernel
theorem d_L_peak_2 : decode b_L_peak 2 = .ok (.aload_n 0, 1) := by decide +kernel
theorem d_L_peak_3 : decode b_L_peak 3 = .ok (.iload_n 1, 1) := by decide +kernel
theorem d_L_peak_4 : decode b_L_peak 4 = .ok (.iload_n 2, 1) := by decide +kernel
theorem d_L_peak_5 : decode b_L_peak 5 = .ok (.invokevirtual 27, 3) := by decide +kernel
theorem d_L_peak_8 : decode b_L_peak 8 = .ok (.i2l, 1) := by decide +kernel
theorem d_L_peak_9 : decode b_L_peak 9 = .ok (.lastore, 1) := by decide +kernel
theorem d_L_peak_10 : decode b_L_peak 10 = .ok (.goto 7, 3) := by decide +kernel
theorem d_L_peak_13 : decode b_L_peak 13 = .ok (.astore 4, 2) := by decide +kernel
theorem d_L_peak_15 : decode b_L_peak 15 = .ok (.iconst 1, 1) := by decide +kernel
theorem d_L_peak_16 : decode b_L_peak 16 = .ok (.ireturn, 1) := by decide +kernel
theorem d_L_peak_17 : decode b_L_peak 17 = .ok (.iconst 0, 1) := by decide +kernel
theorem d_L_peak_18 : decode b_L_peak 18 = .ok (.ireturn, 1) := by decide +kernel
theorem d_L_line_0 : decode b_L_line 0 = .ok (.aload_n 3, 1) := by decide +kernel
theorem d_L_line_1 : decode b_L_line 1 = .ok (.iconst 0, 1) := by decide +kernel
theorem d_L_line_2 : decode b_L_line 2 = .ok (.aload_n 0, 1) := by decide +kernel
theorem d_L_line_3 : decode b_L_line 3 = .ok (.iload_n 1, 1) := by decide +kernel
theorem d_L_line_4 : decode b_L_line 4 = .ok (.iload_n 2, 1) := by decide +kernel
theorem d_L_line_5 : decode b_L_line 5 = .ok (.invokevirtual 30, 3) := by decide +kernel
theorem d_L_line_8 : decode b_L_line 8 = .ok (.i2l, 1) := by decide +kernel
theorem d_L_line_9 : decode b_L_line 9 = .ok (.lastore, 1) := by decide +kernel
theorem d_L_line_10 : decode b_L_line 10 = .ok (.goto 11, 3) := by decide +kernel
theorem d_L_line_13 : decode b_L_line 13 = .ok (.astore 4, 2) := by decide +kernel
theorem d_L_line_15 : decode b_L_line 15 = .ok (.iconst 1, 1) := by decide +kernel
theorem d_L_line_16 : decode b_L_line 16 = .ok (.ireturn, 1) := by decide +kernel
theorem d_L_line_17 : decode b_L_line 17 = .ok (.astore 4, 2) := by decide +kernel
theorem d_L_line_19 : decode b_L_line 19 = .ok (.iconst 2, 1) := by decide +kernel
theorem d_L_line_20 : decode b_L_line 20 = .ok (.ireturn, 1) := by decide +kernel
theorem d_L_line_21 : decode b_L_line 21 = .ok (.iconst 0, 1) := by decide +kernel
theorem d_L_line_22 : decode b_L_line 22 = .ok (.ireturn, 1) := by decide +kernel
theorem d_L_element_0 : decode b_L_element 0 = .ok (.aload_n 3, 1) := by decide +kernel
theorem d_L_element_1 : decode b_L_element 1 = .ok (.iconst 0, 1) := by decide +kernel
theorem d_L_element_2 : decode b_L_element 2 = .ok (.aload_n 0, 1) := by decide +kernel
theorem d_L_element_3 : decode b_L_element 3 = .ok (.iload_n 1, 1) := by decide +kernel
theorem d_L_element_4 : decode b_L_element 4 = .ok (.iload_n 2, 1) := by decide +kernel
theorem d_L_element_5 : decode b_L_element 5 = .ok (.invokevirtual 35, 3) := by decide +kernel
theorem d_L_element_8 : decode b_L_element 8 = .ok (.i2l, 1) := by decide +kernel
theorem d_L_element_9 : decode b_L_element 9 = .ok (.lastore, 1) := by decide +kernel
theorem d_L_element_10 : decode b_L_element 10 = .ok (.goto 11, 3) := by decide +kernel
theorem d_L_element_13 : decode b_L_element 13 = .ok (.astore 4, 2) := by decide +kernel
theorem d_L_element_15 : decode b_L_element 15 = .ok (.iconst 1, 1) := by decide +kernel
theorem d_L_element_16 : decode b_L_element 16 = .ok (.ireturn, 1) := by decide +kernel
theorem d_L_element_17 : decode b_L_element 17 = .ok (.astore 4, 2) := by decide +kernel
theorem d_L_element_19 : decode b_L_element 19 = .ok (.iconst 2, 1) := by decide +kernel
theorem d_L_element_20 : decode b_L_element 20 = .ok (.ireturn, 1) := by decide +kernel
theorem d_L_element_21 : decode b_L_element 21 = .ok (.iconst 0, 1) := by decide +kernel
theorem d_L_element_22 : decode b_L_element 22 = .ok (.ireturn, 1) := by decide +kernel
theorem d_L_detect_0 : decode b_L_detect 0 = .ok (.aload_n 2, 1) := by decide +kernel
theorem d_L_detect_1 : decode b_L_detect 1 = .ok (.iconst 0, 1) := by decide +kernel
theorem d_L_detect_2 : decode b_L_detect 2 = .ok (.aload_n 0, 1) := by decide +kernel
theorem d_L_detect_3 : decode b_L_detect 3 = .ok (.iload_n 1, 1) := by decide +kernel
theorem d_L_detect_4 : decode b_L_detect 4 = .ok (.invokevirtual 38, 3) := by decide +kernel
theorem d_L_detect_7 : decode b_L_detect 7 = .ok (.i2l, 1) := by decide +kernel
theorem d_L_detect_8 : decode b_L_detect 8 = .ok (.lastore, 1) := by decide +kernel
theorem d_L_detect_9 : decode b_L_detect 9 = .ok (.goto 6, 3) := by decide +kernel
theorem d_L_detect_12 : decode b_L_detect 12 = .ok (.astore_n 3, 1) := by decide +kernel
theorem d_L_detect_13 : decode b_L_detect 13 = .ok (.iconst 1, 1) := by decide +kernel
theorem d_L_detect_14 : decode b_L_detect 14 = .ok (.ireturn, 1) := by decide +kernel
theorem d_L_detect_15 : decode b_L_detect 15 = .ok (.iconst 0, 1) := by decide +kernel
theorem d_L_detect_16 : decode b_L_detect 16 = .ok (.ireturn, 1) := by decide +kernel
theorem d_L_library_0 : decode b_L_library 0 = .ok (.aload_n 1, 1) := by decide +kernel
theorem d_L_library_1 : decode b_L_library 1 = .ok (.iconst 0, 1) := by decide +kernel
theorem d_L_library_2 : decode b_L_library 2 = .ok (.aload_n 0, 1) := by decide +kernel
theorem d_L_library_3 : decode b_L_library 3 = .ok (.invokevirtual 41, 3) := by decide +kernel
theorem d_L_library_6 : decode b_L_library 6 = .ok (.i2l, 1) := by decide +kernel
theorem d_L_library_7 : decode b_L_library 7 = .ok (.lastore, 1) := by decide +kernel
theorem d_L_library_8 : decode b_L_library 8 = .ok (.goto 6, 3) := by decide +kernel
theorem d_L_library_11 : decode b_L_library 11 = .ok (.astore_n 2, 1) := by decide +kernel
theorem d_L_library_12 : decode b_L_library 12 = .ok (.iconst 1, 1) := by decide +kernel
theorem d_L_library_13 : decode b_L_library 13 = .ok (.ireturn, 1) := by decide +kernel
theorem d_L_library_14 : decode b_L_library 14 = .ok (.iconst 0, 1) := by decide +kernel
theorem d_L_library_15 : decode b_L_library 15 = .ok (.ireturn, 1) := by decide +kernel
theorem d_L_entry_0 : decode b_L_entry 0 = .ok (.aload 4, 2) := by decide +kernel
theorem d_L_entry_2 : decode b_L_entry 2 = .ok (.iconst 0, 1) := by decide +kernel
theorem d_L_entry_3 : decode b_L_entry 3 = .ok (.aload_n 0, 1) := by decide +kernel
theorem d_L_entry_4 : decode b_L_entry 4 = .ok (.iload_n 1, 1) := by decide +kernel
theorem d_L_entry_5 : decode b_L_entry 5 = .ok (.iload_n 2, 1) := by decide +kernel
theorem d_L_entry_6 : decode b_L_entry 6 = .ok (.iload_n 3, 1) := by decide +kernel
theorem d_L_entry_7 : decode b_L_entry 7 = .ok (.invokevirtual 45, 3) := by decide +kernel
theorem d_L_entry_10 : decode b_L_entry 10 = .ok (.i2l, 1) := by decide +kernel
theorem d_L_entry_11 : decode b_L_entry 11 = .ok (.lastore, 1) := by decide +kernel
theorem d_L_entry_12 : decode b_L_entry 12 = .ok (.goto 11, 3) := by decide +kernel
theorem d_L_entry_15 : decode b_L_entry 15 = .ok (.astore 5, 2) := by decide +kernel
theorem d_L_entry_17 : decode b_L_entry 17 = .ok (.iconst 1, 1) := by decide +kernel
theorem d_L_entry_18 : decode b_L_entry 18 = .ok (.ireturn, 1) := by decide +kernel
theorem d_L_entry_19 : decode b_L_entry 19 = .ok (.astore 5, 2) := by decide +kernel
theorem d_L_entry_21 : decode b_L_entry 21 = .ok (.iconst 2, 1) := by decide +kernel
theorem d_L_entry_22 : decode b_L_entry 22 = .ok (.ireturn, 1) := by decide +kernel
theorem d_L_entry_23 : decode b_L_entry 23 = .ok (.iconst 0, 1) := by decide +kernel
theorem d_L_entry_24 : decode b_L_entry 24 = .ok (.ireturn, 1) := by decide +kernel
theorem d_L_share_0 : decode b_L_share 0 = .ok (.aload_n 3, 1) := by decide +kernel
theorem d_L_share_1 : decode b_L_share 1 = .ok (.iconst 0, 1) := by decide +kernel
theorem d_L_share_2 : decode b_L_share 2 = .ok (.aload_n 0, 1) := by decide +kernel
theorem d_L_share_3 : decode b_L_share 3 = .ok (.iload_n 1, 1) := by decide +kernel
theorem d_L_share_4 : decode b_L_share 4 = .ok (.iload_n 2, 1) := by decide +kernel
theorem d_L_share_5 : decode b_L_share 5 = .ok (.invokevirtual 49, 3) := by decide +kernel
theorem d_L_share_8 : decode b_L_share 8 = .ok (.lastore, 1) := by decide +kernel
theorem d_L_share_9 : decode b_L_share 9 = .ok (.goto 11, 3) := by decide +kernel
theorem d_L_share_12 : decode b_L_share 12 = .ok (.astore 4, 2) := by decide +kernel
theorem d_L_share_14 : decode b_L_share 14 = .ok (.iconst 1, 1) := by decide +kernel
theorem d_L_share_15 : decode b_L_share 15 = .ok (.ireturn, 1) := by decide +kernel
theorem d_L_share_16 : decode b_L_share 16 = .ok (.astore 4, 2) := by decide +kernel
theorem d_L_share_18 : decode b_L_share 18 = .ok (.iconst 2, 1) := by decide +kernel
theorem d_L_share_19 : decode b_L_share 19 = .ok (.ireturn, 1) := by decide +kernel
theorem d_L_share_20 : decode b_L_share 20 = .ok (.iconst 0, 1) := by decide +kernel
theorem d_L_share_21 : decode b_L_share 21 = .ok (.ireturn, 1) := by decide +kernel
theorem d_L_least_0 : decode b_L_least 0 = .ok (.aload_n 1, 1) := by decide +kernel
theorem d_L_least_1 : decode b_L_least 1 = .ok (.iconst 0, 1) := by decide +kernel
theorem d_L_least_2 : decode b_L_least 2 = .ok (.aload_n 0, 1) := by decide +kernel
theorem d_L_least_3 : decode b_L_least 3 = .ok (.invokevirtual 53, 3) := by decide +kernel
theorem d_L_least_6 : decode b_L_least 6 = .ok (.ifCond .eq 7, 3) := by decide +kernel
theorem d_L_least_9 : decode b_L_least 9 = .ok (.lconst 1, 1) := by decide +kernel
theorem d_L_least_10 : decode b_L_least 10 = .ok (.goto 4, 3) := by decide +kernel
theorem d_L_least_13 : decode b_L_least 13 = .ok (.lconst 0, 1) := by decide +kernel
theorem d_L_least_14 : decode b_L_least 14 = .ok (.lastore, 1) := by decide +kernel
theorem d_L_least_15 : decode b_L_least 15 = .ok (.goto 6, 3) := by decide +kernel
theorem d_L_least_18 : decode b_L_least 18 = .ok (.astore_n 2, 1) := by decide +kernel
theorem d_L_least_19 : decode b_L_least 19 = .ok (.iconst 1, 1) := by decide +kernel
theorem d_L_least_20 : decode b_L_least 20 = .ok (.ireturn, 1) := by decide +kernel
theorem d_L_least_21 : decode b_L_least 21 = .ok (.iconst 0, 1) := by decide +kernel
theorem d_L_least_22 : decode b_L_least 22 = .ok (.ireturn, 1) := by decide +kernel
theorem d_L_sample_0 : decode b_L_sample 0 = .ok (.aload_n 1, 1) := by decide +kernel
theorem d_L_sample_1 : decode b_L_sample 1 = .ok (.iconst 0, 1) := by decide +kernel
theorem d_L_sample_2 : decode b_L_sample 2 = .ok (.aload_n 0, 1) := by decide +kernel
theorem d_L_sample_3 : decode b_L_sample 3 = .ok (.invokevirtual 57, 3) := by decide +kernel
theorem d_L_sample_6 : decode b_L_sample 6 = .ok (.i2l, 1) := by decide +kernel
theorem d_L_sample_7 : decode b_L_sample 7 = .ok (.lastore, 1) := by decide +kernel
theorem d_L_sample_8 : decode b_L_sample 8 = .ok (.goto 6, 3) := by decide +kernel
theorem d_L_sample_11 : decode b_L_sample 11 = .ok (.astore_n 2, 1) := by decide +kernel
theorem d_L_sample_12 : decode b_L_sample 12 = .ok (.iconst 1, 1) := by decide +kernel
theorem d_L_sample_13 : decode b_L_sample 13 = .ok (.ireturn, 1) := by decide +kernel
theorem d_L_sample_14 : decode b_L_sample 14 = .ok (.iconst 0, 1) := by decide +kernel
theorem d_L_sample_15 : decode b_L_sample 15 = .ok (.ireturn, 1) := by decide +kernel
theorem d_L_measured_0 : decode b_L_measured 0 = .ok (.aload 4, 2) := by decide +kernel
theorem d_L_measured_2 : decode b_L_measured 2 = .ok (.iconst 0, 1) := by decide +kernel
theorem d_L_measured_3 : decode b_L_measured 3 = .ok (.aload_n 0, 1) := by decide +kernel
theorem d_L_measured_4 : decode b_L_measured 4 = .ok (.iload_n 1, 1) := by decide +kernel
theorem d_L_measured_5 : decode b_L_measured 5 = .ok (.iload_n 2, 1) := by decide +kernel
theorem d_L_measured_6 : decode b_L_measured 6 = .ok (.iload_n 3, 1) := by decide +kernel
theorem d_L_measured_7 : decode b_L_measured 7 = .ok (.invokevirtual 60, 3) := by decide +kernel
theorem d_L_measured_10 : decode b_L_measured 10 = .ok (.i2l, 1) := by decide +kernel
theorem d_L_measured_11 : decode b_L_measured 11 = .ok (.lastore, 1) := by decide +kernel
theorem d_L_measured_12 : decode b_L_measured 12 = .ok (.goto 11, 3) := by decide +kernel
theorem d_L_measured_15 : decode b_L_measured 15 = .ok (.astore 5, 2) := by decide +kernel
theorem d_L_measured_17 : decode b_L_measured 17 = .ok (.iconst 1, 1) := by decide +kernel
theorem d_L_measured_18 : decode b_L_measured 18 = .ok (.ireturn, 1) := by decide +kernel
theorem d_L_measured_19 : decode b_L_measured 19 = .ok (.astore 5, 2) := by decide +kernel
theorem d_L_measured_21 : decode b_L_measured 21 = .ok (.iconst 2, 1) := by decide +kernel
theorem d_L_measured_22 : decode b_L_measured 22 = .ok (.ireturn, 1) := by decide +kernel
theorem d_L_measured_23 : decode b_L_measured 23 = .ok (.iconst 0, 1) := by decide +kernel
theorem d_L_measured_24 : decode b_L_measured 24 = .ok (.ireturn, 1) := by decide +kernel
theorem d_L_covariance_0 : decode b_L_covariance 0 = .ok (.aload_n 0, 1) := by decide +kernel
theorem d_L_covariance_1 : decode b_L_covariance 1 = .ok (.iload_n 1, 1) := by decide +kernel
theorem d_L_covariance_2 : decode b_L_covariance 2 = .ok (.iload_n 2, 1) := by decide +kernel
theorem d_L_covariance_3 : decode b_L_covariance 3 = .ok (.iload_n 3, 1) := by decide +kernel
theorem d_L_covariance_4 : decode b_L_covariance 4 = .ok (.invokevirtual 63, 3) := by decide +kernel
theorem d_L_covariance_7 : decode b_L_covariance 7 = .ok (.goto 7, 3) := by decide +kernel
theorem d_L_covariance_10 : decode b_L_covariance 10 = .ok (.astore 4, 2) := by decide +kernel
theorem d_L_covariance_12 : decode b_L_covariance 12 = .ok (.iconst 1, 1) := by decide +kernel
theorem d_L_covariance_13 : decode b_L_covariance 13 = .ok (.ireturn, 1) := by decide +kernel
theorem d_L_covariance_14 : decode b_L_covariance 14 = .ok (.iconst 0, 1) := by decide +kernel
theorem d_L_covariance_15 : decode b_L_covariance 15 = .ok (.ireturn, 1) := by decide +kernel
theorem d_L_distance_0 : decode b_L_distance 0 = .ok (.aload 4, 2) := by decide +kernel
theorem d_L_distance_2 : decode b_L_distance 2 = .ok (.iconst 0, 1) := by decide +kernel
theorem d_L_distance_3 : decode b_L_distance 3 = .ok (.aload_n 0, 1) := by decide +kernel
theorem d_L_distance_4 : decode b_L_distance 4 = .ok (.iload_n 1, 1) := by decide +kernel
theorem d_L_distance_5 : decode b_L_distance 5 = .ok (.iload_n 2, 1) := by decide +kernel
theorem d_L_distance_6 : decode b_L_distance 6 = .ok (.iload_n 3, 1) := by decide +kernel
theorem d_L_distance_7 : decode b_L_distance 7 = .ok (.invokevirtual 67, 3) := by decide +kernel
theorem d_L_distance_10 : decode b_L_distance 10 = .ok (.lastore, 1) := by decide +kernel
theorem d_L_distance_11 : decode b_L_distance 11 = .ok (.goto 7, 3) := by decide +kernel
theorem d_L_distance_14 : decode b_L_distance 14 = .ok (.astore 5, 2) := by decide +kernel
theorem d_L_distance_16 : decode b_L_distance 16 = .ok (.iconst 1, 1) := by decide +kernel
theorem d_L_distance_17 : decode b_L_distance 17 = .ok (.ireturn, 1) := by decide +kernel
theorem d_L_distance_18 : decode b_L_distance 18 = .ok (.iconst 0, 1) := by decide +kernel
theorem d_L_distance_19 : decode b_L_distance 19 = .ok (.ireturn, 1) := by decide +kernel
theorem d_L_group_0 : decode b_L_group 0 = .ok (.aload_n 3, 1) := by decide +kernel
theorem d_L_group_1 : decode b_L_group 1 = .ok (.iconst 0, 1) := by decide +kernel
theorem d_L_group_2 : decode b_L_group 2 = .ok (.aload_n 0, 1) := by decide +kernel
theorem d_L_group_3 : decode b_L_group 3 = .ok (.iload_n 1, 1) := by decide +kernel
theorem d_L_group_4 : decode b_L_group 4 = .ok (.iload_n 2, 1) := by decide +kernel
theorem d_L_group_5 : decode b_L_group 5 = .ok (.invokevirtual 71, 3) := by decide +kernel
theorem d_L_group_8 : decode b_L_group 8 = .ok (.i2l, 1) := by decide +kernel
theorem d_L_group_9 : decode b_L_group 9 = .ok (.lastore, 1) := by decide +kernel
theorem d_L_group_10 : decode b_L_group 10 = .ok (.goto 11, 3) := by decide +kernel
theorem d_L_group_13 : decode b_L_group 13 = .ok (.astore 4, 2) := by decide +kernel
theorem d_L_group_15 : decode b_L_group 15 = .ok (.iconst 1, 1) := by decide +kernel
theorem d_L_group_16 : decode b_L_group 16 = .ok (.ireturn, 1) := by decide +kernel
theorem d_L_group_17 : decode b_L_group 17 = .ok (.astore 4, 2) := by decide +kernel
theorem d_L_group_19 : decode b_L_group 19 = .ok (.iconst 2, 1) := by decide +kernel
theorem d_L_group_20 : decode b_L_group 20 = .ok (.ireturn, 1) := by decide +kernel
theorem d_L_group_21 : decode b_L_group 21 = .ok (.iconst 0, 1) := by decide +kernel
theorem d_L_group_22 : decode b_L_group 22 = .ok (.ireturn, 1) := by decide +kernel
theorem d_L_standard_0 : decode b_L_standard 0 = .ok (.aload_n 3, 1) := by decide +kernel
theorem d_L_standard_1 : decode b_L_standard 1 = .ok (.iconst 0, 1) := by decide +kernel
theorem d_L_standard_2 : decode b_L_standard 2 = .ok (.aload_n 0, 1) := by decide +kernel
theorem d_L_standard_3 : decode b_L_standard 3 = .ok (.iload_n 1, 1) := by decide +kernel
theorem d_L_standard_4 : decode b_L_standard 4 = .ok (.iload_n 2, 1) := by decide +kernel
theorem d_L_standard_5 : decode b_L_standard 5 = .ok (.invokevirtual 74, 3) := by decide +kernel
theorem d_L_standard_8 : decode b_L_standard 8 = .ok (.i2l, 1) := by decide +kernel
theorem d_L_standard_9 : decode b_L_standard 9 = .ok (.lastore, 1) := by decide +kernel
theorem d_L_standard_10 : decode b_L_standard 10 = .ok (.goto 11, 3) := by decide +kernel
theorem d_L_standard_13 : decode b_L_standard 13 = .ok (.astore 4, 2) := by decide +kernel
theorem d_L_standard_15 : decode b_L_standard 15 = .ok (.iconst 1, 1) := by decide +kernel
theorem d_L_standard_16 : decode b_L_standard 16 = .ok (.ireturn, 1) := by decide +kernel
theorem d_L_standard_17 : decode b_L_standard 17 = .ok (.astore 4, 2) := by decide +kernel
theorem d_L_standard_19 : decode b_L_standard 19 = .ok (.iconst 2, 1) := by decide +kernel
theorem d_L_standard_20 : decode b_L_standard 20 = .ok (.ireturn, 1) := by decide +kernel
theorem d_L_standard_21 : decode b_L_standard 21 = .ok (.iconst 0, 1) := by decide +kernel
theorem d_L_standard_22 : decode b_L_standard 22 = .ok (.ireturn, 1) := by decide +kernel
theorem d_L_corrected_0 : decode b_L_corrected 0 = .ok (.aload_n 3, 1) := by decide +kernel
theorem d_L_corrected_1 : decode b_L_corrected 1 = .ok (.iconst 0, 1) := by decide +kernel
theorem d_L_corrected_2 : decode b_L_corrected 2 = .ok (.aload_n 0, 1) := by decide +kernel
theorem d_L_corrected_3 : decode b_L_corrected 3 = .ok (.iload_n 1, 1) := by decide +kernel
theorem d_L_corrected_4 : decode b_L_corrected 4 = .ok (.iload_n 2, 1) := by decide +kernel
theorem d_L_corrected_5 : decode b_L_corrected 5 = .ok (.invokevirtual 77, 3) := by decide +kernel
theorem d_L_corrected_8 : decode b_L_corrected 8 = .ok (.lastore, 1) := by decide +kernel
theorem d_L_corrected_9 : decode b_L_corrected 9 = .ok (.goto 7, 3) := by decide +kernel
theorem d_L_corrected_12 : decode b_L_corrected 12 = .ok (.astore 4, 2) := by decide +kernel
theorem d_L_corrected_14 : decode b_L_corrected 14 = .ok (.iconst 1, 1) := by decide +kernel
theorem d_L_corrected_15 : decode b_L_corrected 15 = .ok (.ireturn, 1) := by decide +kernel
theorem d_L_corrected_16 : decode b_L_corrected 16 = .ok (.iconst 0, 1) := by decide +kernel
theorem d_L_corrected_17 : decode b_L_corrected 17 = .ok (.ireturn, 1) := by decide +kernel
theorem d_L_count_0 : decode b_L_count 0 = .ok (.aload_n 2, 1) := by decide +kernel
theorem d_L_count_1 : decode b_L_count 1 = .ok (.iconst 0, 1) := by decide +kernel
theorem d_L_count_2 : decode b_L_count 2 = .ok (.aload_n 0, 1) := by decide +kernel
theorem d_L_count_3 : decode b_L_count 3 = .ok (.iload_n 1, 1) := by decide +kernel
theorem d_L_count_4 : decode b_L_count 4 = .ok (.invokevirtual 80, 3) := by decide +kernel
theorem d_L_count_7 : decode b_L_count 7 = .ok (.i2l, 1) := by decide +kernel
theorem d_L_count_8 : decode b_L_count 8 = .ok (.lastore, 1) := by decide +kernel
theorem d_L_count_9 : decode b_L_count 9 = .ok (.goto 6, 3) := by decide +kernel
theorem d_L_count_12 : decode b_L_count 12 = .ok (.astore_n 3, 1) := by decide +kernel
theorem d_L_count_13 : decode b_L_count 13 = .ok (.iconst 1, 1) := by decide +kernel
theorem d_L_count_14 : decode b_L_count 14 = .ok (.ireturn, 1) := by decide +kernel
theorem d_L_count_15 : decode b_L_count 15 = .ok (.iconst 0, 1) := by decide +kernel
theorem d_L_count_16 : decode b_L_count 16 = .ok (.ireturn, 1) := by decide +kernel
