theorem dL_put_0 : decode cL_put 0 = .ok (.aload 4, 2) := by decide +kernel
theorem dL_put_2 : decode cL_put 2 = .ok (.iconst 0, 1) := by decide +kernel
theorem dL_put_3 : decode cL_put 3 = .ok (.aload_n 0, 1) := by decide +kernel
theorem dL_put_4 : decode cL_put 4 = .ok (.iload_n 1, 1) := by decide +kernel
theorem dL_put_5 : decode cL_put 5 = .ok (.iload_n 2, 1) := by decide +kernel
theorem dL_put_6 : decode cL_put 6 = .ok (.iload_n 3, 1) := by decide +kernel
theorem dL_put_7 : decode cL_put 7 = .ok (.invokevirtual 7, 3) := by decide +kernel
theorem dL_put_10 : decode cL_put 10 = .ok (.i2l, 1) := by decide +kernel
theorem dL_put_11 : decode cL_put 11 = .ok (.lastore, 1) := by decide +kernel
theorem dL_put_12 : decode cL_put 12 = .ok (.goto 11, 3) := by decide +kernel
theorem dL_put_15 : decode cL_put 15 = .ok (.astore 5, 2) := by decide +kernel
theorem dL_put_17 : decode cL_put 17 = .ok (.iconst 1, 1) := by decide +kernel
theorem dL_put_18 : decode cL_put 18 = .ok (.ireturn, 1) := by decide +kernel
theorem dL_put_19 : decode cL_put 19 = .ok (.astore 5, 2) := by decide +kernel
theorem dL_put_21 : decode cL_put 21 = .ok (.iconst 2, 1) := by decide +kernel
theorem dL_put_22 : decode cL_put 22 = .ok (.ireturn, 1) := by decide +kernel
theorem dL_put_23 : decode cL_put 23 = .ok (.iconst 0, 1) := by decide +kernel
theorem dL_put_24 : decode cL_put 24 = .ok (.ireturn, 1) := by decide +kernel
theorem dL_take_0 : decode cL_take 0 = .ok (.aload 5, 2) := by decide +kernel
theorem dL_take_2 : decode cL_take 2 = .ok (.iconst 0, 1) := by decide +kernel
theorem dL_take_3 : decode cL_take 3 = .ok (.aload_n 0, 1) := by decide +kernel
theorem dL_take_4 : decode cL_take 4 = .ok (.iload_n 1, 1) := by decide +kernel
theorem dL_take_5 : decode cL_take 5 = .ok (.iload_n 2, 1) := by decide +kernel
theorem dL_take_6 : decode cL_take 6 = .ok (.iload_n 3, 1) := by decide +kernel
theorem dL_take_7 : decode cL_take 7 = .ok (.iload 4, 2) := by decide +kernel
theorem dL_take_9 : decode cL_take 9 = .ok (.invokevirtual 17, 3) := by decide +kernel
theorem dL_take_12 : decode cL_take 12 = .ok (.i2l, 1) := by decide +kernel
theorem dL_take_13 : decode cL_take 13 = .ok (.lastore, 1) := by decide +kernel
theorem dL_take_14 : decode cL_take 14 = .ok (.goto 11, 3) := by decide +kernel
theorem dL_take_17 : decode cL_take 17 = .ok (.astore 6, 2) := by decide +kernel
theorem dL_take_19 : decode cL_take 19 = .ok (.iconst 1, 1) := by decide +kernel
theorem dL_take_20 : decode cL_take 20 = .ok (.ireturn, 1) := by decide +kernel
theorem dL_take_21 : decode cL_take 21 = .ok (.astore 6, 2) := by decide +kernel
theorem dL_take_23 : decode cL_take 23 = .ok (.iconst 2, 1) := by decide +kernel
theorem dL_take_24 : decode cL_take 24 = .ok (.ireturn, 1) := by decide +kernel
theorem dL_take_25 : decode cL_take 25 = .ok (.iconst 0, 1) := by decide +kernel
theorem dL_take_26 : decode cL_take 26 = .ok (.ireturn, 1) := by decide +kernel
theorem dL_multiply_0 : decode cL_multiply 0 = .ok (.aload_n 3, 1) := by decide +kernel
theorem dL_multiply_1 : decode cL_multiply 1 = .ok (.iconst 0, 1) := by decide +kernel
theorem dL_multiply_2 : decode cL_multiply 2 = .ok (.aload_n 0, 1) := by decide +kernel
theorem dL_multiply_3 : decode cL_multiply 3 = .ok (.iload_n 1, 1) := by decide +kernel
theorem dL_multiply_4 : decode cL_multiply 4 = .ok (.iload_n 2, 1) := by decide +kernel
theorem dL_multiply_5 : decode cL_multiply 5 = .ok (.invokevirtual 21, 3) := by decide +kernel
theorem dL_multiply_8 : decode cL_multiply 8 = .ok (.i2l, 1) := by decide +kernel
theorem dL_multiply_9 : decode cL_multiply 9 = .ok (.lastore, 1) := by decide +kernel
theorem dL_multiply_10 : decode cL_multiply 10 = .ok (.goto 11, 3) := by decide +kernel
theorem dL_multiply_13 : decode cL_multiply 13 = .ok (.astore 4, 2) := by decide +kernel
theorem dL_multiply_15 : decode cL_multiply 15 = .ok (.iconst 1, 1) := by decide +kernel
theorem dL_multiply_16 : decode cL_multiply 16 = .ok (.ireturn, 1) := by decide +kernel
theorem dL_multiply_17 : decode cL_multiply 17 = .ok (.astore 4, 2) := by decide +kernel
theorem dL_multiply_19 : decode cL_multiply 19 = .ok (.iconst 2, 1) := by decide +kernel
theorem dL_multiply_20 : decode cL_multiply 20 = .ok (.ireturn, 1) := by decide +kernel
theorem dL_multiply_21 : decode cL_multiply 21 = .ok (.iconst 0, 1) := by decide +kernel
theorem dL_multiply_22 : decode cL_multiply 22 = .ok (.ireturn, 1) := by decide +kernel
theorem dL_rotate_0 : decode cL_rotate 0 = .ok (.aload_n 3, 1) := by decide +kernel
theorem dL_rotate_1 : decode cL_rotate 1 = .ok (.iconst 0, 1) := by decide +kernel
theorem dL_rotate_2 : decode cL_rotate 2 = .ok (.aload_n 0, 1) := by decide +kernel
theorem dL_rotate_3 : decode cL_rotate 3 = .ok (.iload_n 1, 1) := by decide +kernel
theorem dL_rotate_4 : decode cL_rotate 4 = .ok (.iload_n 2, 1) := by decide +kernel
theorem dL_rotate_5 : decode cL_rotate 5 = .ok (.invokevirtual 25, 3) := by decide +kernel
theorem dL_rotate_8 : decode cL_rotate 8 = .ok (.i2l, 1) := by decide +kernel
theorem dL_rotate_9 : decode cL_rotate 9 = .ok (.lastore, 1) := by decide +kernel
theorem dL_rotate_10 : decode cL_rotate 10 = .ok (.goto 11, 3) := by decide +kernel
theorem dL_rotate_13 : decode cL_rotate 13 = .ok (.astore 4, 2) := by decide +kernel
theorem dL_rotate_15 : decode cL_rotate 15 = .ok (.iconst 1, 1) := by decide +kernel
theorem dL_rotate_16 : decode cL_rotate 16 = .ok (.ireturn, 1) := by decide +kernel
theorem dL_rotate_17 : decode cL_rotate 17 = .ok (.astore 4, 2) := by decide +kernel
theorem dL_rotate_19 : decode cL_rotate 19 = .ok (.iconst 2, 1) := by decide +kernel
theorem dL_rotate_20 : decode cL_rotate 20 = .ok (.ireturn, 1) := by decide +kernel
theorem dL_rotate_21 : decode cL_rotate 21 = .ok (.iconst 0, 1) := by decide +kernel
theorem dL_rotate_22 : decode cL_rotate 22 = .ok (.ireturn, 1) := by decide +kernel
theorem dL_tone_0 : decode cL_tone 0 = .ok (.aload_n 3, 1) := by decide +kernel
theorem dL_tone_1 : decode cL_tone 1 = .ok (.iconst 0, 1) := by decide +kernel
theorem dL_tone_2 : decode cL_tone 2 = .ok (.aload_n 0, 1) := by decide +kernel
theorem dL_tone_3 : decode cL_tone 3 = .ok (.iload_n 1, 1) := by decide +kernel
theorem dL_tone_4 : decode cL_tone 4 = .ok (.iload_n 2, 1) := by decide +kernel
theorem dL_tone_5 : decode cL_tone 5 = .ok (.invokevirtual 28, 3) := by decide +kernel
theorem dL_tone_8 : decode cL_tone 8 = .ok (.i2l, 1) := by decide +kernel
theorem dL_tone_9 : decode cL_tone 9 = .ok (.lastore, 1) := by decide +kernel
theorem dL_tone_10 : decode cL_tone 10 = .ok (.goto 7, 3) := by decide +kernel
theorem dL_tone_13 : decode cL_tone 13 = .ok (.astore 4, 2) := by decide +kernel
theorem dL_tone_15 : decode cL_tone 15 = .ok (.iconst 1, 1) := by decide +kernel
theorem dL_tone_16 : decode cL_tone 16 = .ok (.ireturn, 1) := by decide +kernel
theorem dL_tone_17 : decode cL_tone 17 = .ok (.iconst 0, 1) := by decide +kernel
theorem dL_tone_18 : decode cL_tone 18 = .ok (.ireturn, 1) := by decide +kernel
theorem dL_interval_0 : decode cL_interval 0 = .ok (.aload_n 3, 1) := by decide +kernel
theorem dL_interval_1 : decode cL_interval 1 = .ok (.iconst 0, 1) := by decide +kernel
theorem dL_interval_2 : decode cL_interval 2 = .ok (.aload_n 0, 1) := by decide +kernel
theorem dL_interval_3 : decode cL_interval 3 = .ok (.iload_n 1, 1) := by decide +kernel
theorem dL_interval_4 : decode cL_interval 4 = .ok (.iload_n 2, 1) := by decide +kernel
theorem dL_interval_5 : decode cL_interval 5 = .ok (.invokevirtual 31, 3) := by decide +kernel
theorem dL_interval_8 : decode cL_interval 8 = .ok (.i2l, 1) := by decide +kernel
theorem dL_interval_9 : decode cL_interval 9 = .ok (.lastore, 1) := by decide +kernel
theorem dL_interval_10 : decode cL_interval 10 = .ok (.goto 7, 3) := by decide +kernel
theorem dL_interval_13 : decode cL_interval 13 = .ok (.astore 4, 2) := by decide +kernel
theorem dL_interval_15 : decode cL_interval 15 = .ok (.iconst 1, 1) := by decide +kernel
theorem dL_interval_16 : decode cL_interval 16 = .ok (.ireturn, 1) := by decide +kernel
theorem dL_interval_17 : decode cL_interval 17 = .ok (.iconst 0, 1) := by decide +kernel
theorem dL_interval_18 : decode cL_interval 18 = .ok (.ireturn, 1) := by decide +kernel
theorem dL_hasAllIntervals_0 : decode cL_hasAllIntervals 0 = .ok (.aload_n 2, 1) := by decide +kernel
theorem dL_hasAllIntervals_1 : decode cL_hasAllIntervals 1 = .ok (.iconst 0, 1) := by decide +kernel
theorem dL_hasAllIntervals_2 : decode cL_hasAllIntervals 2 = .ok (.aload_n 0, 1) := by decide +kernel
theorem dL_hasAllIntervals_3 : decode cL_hasAllIntervals 3 = .ok (.iload_n 1, 1) := by decide +kernel
theorem dL_hasAllIntervals_4 : decode cL_hasAllIntervals 4 = .ok (.invokevirtual 34, 3) := by decide +kernel
theorem dL_hasAllIntervals_7 : decode cL_hasAllIntervals 7 = .ok (.ifCond .eq 7, 3) := by decide +kernel
theorem dL_hasAllIntervals_10 : decode cL_hasAllIntervals 10 = .ok (.lconst 1, 1) := by decide +kernel
theorem dL_hasAllIntervals_11 : decode cL_hasAllIntervals 11 = .ok (.goto 4, 3) := by decide +kernel
theorem dL_hasAllIntervals_14 : decode cL_hasAllIntervals 14 = .ok (.lconst 0, 1) := by decide +kernel
theorem dL_hasAllIntervals_15 : decode cL_hasAllIntervals 15 = .ok (.lastore, 1) := by decide +kernel
theorem dL_hasAllIntervals_16 : decode cL_hasAllIntervals 16 = .ok (.goto 6, 3) := by decide +kernel
theorem dL_hasAllIntervals_19 : decode cL_hasAllIntervals 19 = .ok (.astore_n 3, 1) := by decide +kernel
theorem dL_hasAllIntervals_20 : decode cL_hasAllIntervals 20 = .ok (.iconst 1, 1) := by decide +kernel
theorem dL_hasAllIntervals_21 : decode cL_hasAllIntervals 21 = .ok (.ireturn, 1) := by decide +kernel
theorem dL_hasAllIntervals_22 : decode cL_hasAllIntervals 22 = .ok (.iconst 0, 1) := by decide +kernel
theorem dL_hasAllIntervals_23 : decode cL_hasAllIntervals 23 = .ok (.ireturn, 1) := by decide +kernel
theorem dL_toneOf_0 : decode cL_toneOf 0 = .ok (.aload 5, 2) := by decide +kernel
theorem dL_toneOf_2 : decode cL_toneOf 2 = .ok (.iconst 0, 1) := by decide +kernel
theorem dL_toneOf_3 : decode cL_toneOf 3 = .ok (.aload_n 0, 1) := by decide +kernel
theorem dL_toneOf_4 : decode cL_toneOf 4 = .ok (.iload_n 1, 1) := by decide +kernel
theorem dL_toneOf_5 : decode cL_toneOf 5 = .ok (.iload_n 2, 1) := by decide +kernel
theorem dL_toneOf_6 : decode cL_toneOf 6 = .ok (.iload_n 3, 1) := by decide +kernel
theorem dL_toneOf_7 : decode cL_toneOf 7 = .ok (.iload 4, 2) := by decide +kernel
theorem dL_toneOf_9 : decode cL_toneOf 9 = .ok (.invokevirtual 38, 3) := by decide +kernel
theorem dL_toneOf_12 : decode cL_toneOf 12 = .ok (.i2l, 1) := by decide +kernel
theorem dL_toneOf_13 : decode cL_toneOf 13 = .ok (.lastore, 1) := by decide +kernel
theorem dL_toneOf_14 : decode cL_toneOf 14 = .ok (.goto 11, 3) := by decide +kernel
theorem dL_toneOf_17 : decode cL_toneOf 17 = .ok (.astore 6, 2) := by decide +kernel
theorem dL_toneOf_19 : decode cL_toneOf 19 = .ok (.iconst 1, 1) := by decide +kernel
theorem dL_toneOf_20 : decode cL_toneOf 20 = .ok (.ireturn, 1) := by decide +kernel
theorem dL_toneOf_21 : decode cL_toneOf 21 = .ok (.astore 6, 2) := by decide +kernel
theorem dL_toneOf_23 : decode cL_toneOf 23 = .ok (.iconst 2, 1) := by decide +kernel
theorem dL_toneOf_24 : decode cL_toneOf 24 = .ok (.ireturn, 1) := by decide +kernel
theorem dL_toneOf_25 : decode cL_toneOf 25 = .ok (.iconst 0, 1) := by decide +kernel
theorem dL_toneOf_26 : decode cL_toneOf 26 = .ok (.ireturn, 1) := by decide +kernel
theorem dL_matrix_0 : decode cL_matrix 0 = .ok (.aload 4, 2) := by decide +kernel
theorem dL_matrix_2 : decode cL_matrix 2 = .ok (.iconst 0, 1) := by decide +kernel
theorem dL_matrix_3 : decode cL_matrix 3 = .ok (.aload_n 0, 1) := by decide +kernel
theorem dL_matrix_4 : decode cL_matrix 4 = .ok (.iload_n 1, 1) := by decide +kernel
theorem dL_matrix_5 : decode cL_matrix 5 = .ok (.iload_n 2, 1) := by decide +kernel
theorem dL_matrix_6 : decode cL_matrix 6 = .ok (.iload_n 3, 1) := by decide +kernel
theorem dL_matrix_7 : decode cL_matrix 7 = .ok (.invokevirtual 41, 3) := by decide +kernel
theorem dL_matrix_10 : decode cL_matrix 10 = .ok (.i2l, 1) := by decide +kernel
theorem dL_matrix_11 : decode cL_matrix 11 = .ok (.lastore, 1) := by decide +kernel
theorem dL_matrix_12 : decode cL_matrix 12 = .ok (.goto 7, 3) := by decide +kernel
theorem dL_matrix_15 : decode cL_matrix 15 = .ok (.astore 5, 2) := by decide +kernel
theorem dL_matrix_17 : decode cL_matrix 17 = .ok (.iconst 1, 1) := by decide +kernel
theorem dL_matrix_18 : decode cL_matrix 18 = .ok (.ireturn, 1) := by decide +kernel
theorem dL_matrix_19 : decode cL_matrix 19 = .ok (.iconst 0, 1) := by decide +kernel
theorem dL_matrix_20 : decode cL_matrix 20 = .ok (.ireturn, 1) := by decide +kernel
theorem dL_differentForms_0 : decode cL_differentForms 0 = .ok (.aload_n 2, 1) := by decide +kernel
theorem dL_differentForms_1 : decode cL_differentForms 1 = .ok (.iconst 0, 1) := by decide +kernel
theorem dL_differentForms_2 : decode cL_differentForms 2 = .ok (.aload_n 0, 1) := by decide +kernel
theorem dL_differentForms_3 : decode cL_differentForms 3 = .ok (.iload_n 1, 1) := by decide +kernel
theorem dL_differentForms_4 : decode cL_differentForms 4 = .ok (.invokevirtual 44, 3) := by decide +kernel
theorem dL_differentForms_7 : decode cL_differentForms 7 = .ok (.i2l, 1) := by decide +kernel
theorem dL_differentForms_8 : decode cL_differentForms 8 = .ok (.lastore, 1) := by decide +kernel
theorem dL_differentForms_9 : decode cL_differentForms 9 = .ok (.goto 6, 3) := by decide +kernel
theorem dL_differentForms_12 : decode cL_differentForms 12 = .ok (.astore_n 3, 1) := by decide +kernel
theorem dL_differentForms_13 : decode cL_differentForms 13 = .ok (.iconst 1, 1) := by decide +kernel
theorem dL_differentForms_14 : decode cL_differentForms 14 = .ok (.ireturn, 1) := by decide +kernel
theorem dL_differentForms_15 : decode cL_differentForms 15 = .ok (.iconst 0, 1) := by decide +kernel
theorem dL_differentForms_16 : decode cL_differentForms 16 = .ok (.ireturn, 1) := by decide +kernel
theorem dL_formOfOther_0 : decode cL_formOfOther 0 = .ok (.aload_n 2, 1) := by decide +kernel
theorem dL_formOfOther_1 : decode cL_formOfOther 1 = .ok (.iconst 0, 1) := by decide +kernel
theorem dL_formOfOther_2 : decode cL_formOfOther 2 = .ok (.aload_n 0, 1) := by decide +kernel
theorem dL_formOfOther_3 : decode cL_formOfOther 3 = .ok (.iload_n 1, 1) := by decide +kernel
theorem dL_formOfOther_4 : decode cL_formOfOther 4 = .ok (.invokevirtual 48, 3) := by decide +kernel
theorem dL_formOfOther_7 : decode cL_formOfOther 7 = .ok (.i2l, 1) := by decide +kernel
theorem dL_formOfOther_8 : decode cL_formOfOther 8 = .ok (.lastore, 1) := by decide +kernel
theorem dL_formOfOther_9 : decode cL_formOfOther 9 = .ok (.goto 6, 3) := by decide +kernel
theorem dL_formOfOther_12 : decode cL_formOfOther 12 = .ok (.astore_n 3, 1) := by decide +kernel
theorem dL_formOfOther_13 : decode cL_formOfOther 13 = .ok (.iconst 1, 1) := by decide +kernel
theorem dL_formOfOther_14 : decode cL_formOfOther 14 = .ok (.ireturn, 1) := by decide +kernel
theorem dL_formOfOther_15 : decode cL_formOfOther 15 = .ok (.iconst 0, 1) := by decide +kernel
theorem dL_formOfOther_16 : decode cL_formOfOther 16 = .ok (.ireturn, 1) := by decide +kernel
theorem dL_segment_0 : decode cL_segment 0 = .ok (.aload 4, 2) := by decide +kernel
theorem dL_segment_2 : decode cL_segment 2 = .ok (.iconst 0, 1) := by decide +kernel
theorem dL_segment_3 : decode cL_segment 3 = .ok (.aload_n 0, 1) := by decide +kernel
theorem dL_segment_4 : decode cL_segment 4 = .ok (.iload_n 1, 1) := by decide +kernel
theorem dL_segment_5 : decode cL_segment 5 = .ok (.iload_n 2, 1) := by decide +kernel
theorem dL_segment_6 : decode cL_segment 6 = .ok (.iload_n 3, 1) := by decide +kernel
theorem dL_segment_7 : decode cL_segment 7 = .ok (.invokevirtual 51, 3) := by decide +kernel
theorem dL_segment_10 : decode cL_segment 10 = .ok (.i2l, 1) := by decide +kernel
theorem dL_segment_11 : decode cL_segment 11 = .ok (.lastore, 1) := by decide +kernel
theorem dL_segment_12 : decode cL_segment 12 = .ok (.goto 11, 3) := by decide +kernel
theorem dL_segment_15 : decode cL_segment 15 = .ok (.astore 5, 2) := by decide +kernel
theorem dL_segment_17 : decode cL_segment 17 = .ok (.iconst 1, 1) := by decide +kernel
theorem dL_segment_18 : decode cL_segment 18 = .ok (.ireturn, 1) := by decide +kernel
theorem dL_segment_19 : decode cL_segment 19 = .ok (.astore 5, 2) := by decide +kernel
theorem dL_segment_21 : decode cL_segment 21 = .ok (.iconst 2, 1) := by decide +kernel
theorem dL_segment_22 : decode cL_segment 22 = .ok (.ireturn, 1) := by decide +kernel
theorem dL_segment_23 : decode cL_segment 23 = .ok (.iconst 0, 1) := by decide +kernel
theorem dL_segment_24 : decode cL_segment 24 = .ok (.ireturn, 1) := by decide +kernel
theorem dL_classOf_0 : decode cL_classOf 0 = .ok (.aload_n 2, 1) := by decide +kernel
theorem dL_classOf_1 : decode cL_classOf 1 = .ok (.iconst 0, 1) := by decide +kernel
theorem dL_classOf_2 : decode cL_classOf 2 = .ok (.aload_n 0, 1) := by decide +kernel
theorem dL_classOf_3 : decode cL_classOf 3 = .ok (.iload_n 1, 1) := by decide +kernel
theorem dL_classOf_4 : decode cL_classOf 4 = .ok (.invokevirtual 54, 3) := by decide +kernel
theorem dL_classOf_7 : decode cL_classOf 7 = .ok (.i2l, 1) := by decide +kernel
theorem dL_classOf_8 : decode cL_classOf 8 = .ok (.lastore, 1) := by decide +kernel
theorem dL_classOf_9 : decode cL_classOf 9 = .ok (.goto 6, 3) := by decide +kernel
theorem dL_classOf_12 : decode cL_classOf 12 = .ok (.astore_n 3, 1) := by decide +kernel
theorem dL_classOf_13 : decode cL_classOf 13 = .ok (.iconst 1, 1) := by decide +kernel
theorem dL_classOf_14 : decode cL_classOf 14 = .ok (.ireturn, 1) := by decide +kernel
theorem dL_classOf_15 : decode cL_classOf 15 = .ok (.iconst 0, 1) := by decide +kernel
theorem dL_classOf_16 : decode cL_classOf 16 = .ok (.ireturn, 1) := by decide +kernel
theorem dL_pairs_0 : decode cL_pairs 0 = .ok (.aload_n 3, 1) := by decide +kernel
theorem dL_pairs_1 : decode cL_pairs 1 = .ok (.iconst 0, 1) := by decide +kernel
theorem dL_pairs_2 : decode cL_pairs 2 = .ok (.aload_n 0, 1) := by decide +kernel
theorem dL_pairs_3 : decode cL_pairs 3 = .ok (.iload_n 1, 1) := by decide +kernel
theorem dL_pairs_4 : decode cL_pairs 4 = .ok (.iload_n 2, 1) := by decide +kernel
theorem dL_pairs_5 : decode cL_pairs 5 = .ok (.invokevirtual 57, 3) := by decide +kernel
theorem dL_pairs_8 : decode cL_pairs 8 = .ok (.i2l, 1) := by decide +kernel
theorem dL_pairs_9 : decode cL_pairs 9 = .ok (.lastore, 1) := by decide +kernel
theorem dL_pairs_10 : decode cL_pairs 10 = .ok (.goto 7, 3) := by decide +kernel
theorem dL_pairs_13 : decode cL_pairs 13 = .ok (.astore 4, 2) := by decide +kernel
theorem dL_pairs_15 : decode cL_pairs 15 = .ok (.iconst 1, 1) := by decide +kernel
theorem dL_pairs_16 : decode cL_pairs 16 = .ok (.ireturn, 1) := by decide +kernel
theorem dL_pairs_17 : decode cL_pairs 17 = .ok (.iconst 0, 1) := by decide +kernel
theorem dL_pairs_18 : decode cL_pairs 18 = .ok (.ireturn, 1) := by decide +kernel
theorem dL_combining_0 : decode cL_combining 0 = .ok (.aload_n 2, 1) := by decide +kernel
theorem dL_combining_1 : decode cL_combining 1 = .ok (.iconst 0, 1) := by decide +kernel
theorem dL_combining_2 : decode cL_combining 2 = .ok (.aload_n 0, 1) := by decide +kernel
theorem dL_combining_3 : decode cL_combining 3 = .ok (.iload_n 1, 1) := by decide +kernel
theorem dL_combining_4 : decode cL_combining 4 = .ok (.invokevirtual 60, 3) := by decide +kernel
theorem dL_combining_7 : decode cL_combining 7 = .ok (.lastore, 1) := by decide +kernel
theorem dL_combining_8 : decode cL_combining 8 = .ok (.goto 6, 3) := by decide +kernel
theorem dL_combining_11 : decode cL_combining 11 = .ok (.astore_n 3, 1) := by decide +kernel
theorem dL_combining_12 : decode cL_combining 12 = .ok (.iconst 1, 1) := by decide +kernel
theorem dL_combining_13 : decode cL_combining 13 = .ok (.ireturn, 1) := by decide +kernel
theorem dL_combining_14 : decode cL_combining 14 = .ok (.iconst 0, 1) := by decide +kernel
theorem dL_combining_15 : decode cL_combining 15 = .ok (.ireturn, 1) := by decide +kernel
theorem dL_isDerived_0 : decode cL_isDerived 0 = .ok (.aload_n 3, 1) := by decide +kernel
theorem dL_isDerived_1 : decode cL_isDerived 1 = .ok (.iconst 0, 1) := by decide +kernel
theorem dL_isDerived_2 : decode cL_isDerived 2 = .ok (.aload_n 0, 1) := by decide +kernel
theorem dL_isDerived_3 : decode cL_isDerived 3 = .ok (.iload_n 1, 1) := by decide +kernel
theorem dL_isDerived_4 : decode cL_isDerived 4 = .ok (.iload_n 2, 1) := by decide +kernel
theorem dL_isDerived_5 : decode cL_isDerived 5 = .ok (.invokevirtual 64, 3) := by decide +kernel
theorem dL_isDerived_8 : decode cL_isDerived 8 = .ok (.ifCond .eq 7, 3) := by decide +kernel
theorem dL_isDerived_11 : decode cL_isDerived 11 = .ok (.lconst 1, 1) := by decide +kernel
theorem dL_isDerived_12 : decode cL_isDerived 12 = .ok (.goto 4, 3) := by decide +kernel
theorem dL_isDerived_15 : decode cL_isDerived 15 = .ok (.lconst 0, 1) := by decide +kernel
theorem dL_isDerived_16 : decode cL_isDerived 16 = .ok (.lastore, 1) := by decide +kernel
theorem dL_isDerived_17 : decode cL_isDerived 17 = .ok (.goto 11, 3) := by decide +kernel
theorem dL_isDerived_20 : decode cL_isDerived 20 = .ok (.astore 4, 2) := by decide +kernel
theorem dL_isDerived_22 : decode cL_isDerived 22 = .ok (.iconst 1, 1) := by decide +kernel
theorem dL_isDerived_23 : decode cL_isDerived 23 = .ok (.ireturn, 1) := by decide +kernel
theorem dL_isDerived_24 : decode cL_isDerived 24 = .ok (.astore 4, 2) := by decide +kernel
theorem dL_isDerived_26 : decode cL_isDerived 26 = .ok (.iconst 2, 1) := by decide +kernel
theorem dL_isDerived_27 : decode cL_isDerived 27 = .ok (.ireturn, 1) := by decide +kernel
theorem dL_isDerived_28 : decode cL_isDerived 28 = .ok (.iconst 0, 1) := by decide +kernel
theorem dL_isDerived_29 : decode cL_isDerived 29 = .ok (.ireturn, 1) := by decide +kernel
theorem dL_keptSets_0 : decode cL_keptSets 0 = .ok (.aload 5, 2) := by decide +kernel
theorem dL_keptSets_2 : decode cL_keptSets 2 = .ok (.iconst 0, 1) := by decide +kernel
theorem dL_keptSets_3 : decode cL_keptSets 3 = .ok (.aload_n 0, 1) := by decide +kernel
theorem dL_keptSets_4 : decode cL_keptSets 4 = .ok (.iload_n 1, 1) := by decide +kernel
theorem dL_keptSets_5 : decode cL_keptSets 5 = .ok (.iload_n 2, 1) := by decide +kernel
theorem dL_keptSets_6 : decode cL_keptSets 6 = .ok (.iload_n 3, 1) := by decide +kernel
theorem dL_keptSets_7 : decode cL_keptSets 7 = .ok (.iload 4, 2) := by decide +kernel
theorem dL_keptSets_9 : decode cL_keptSets 9 = .ok (.invokevirtual 68, 3) := by decide +kernel
theorem dL_keptSets_12 : decode cL_keptSets 12 = .ok (.i2l, 1) := by decide +kernel
theorem dL_keptSets_13 : decode cL_keptSets 13 = .ok (.lastore, 1) := by decide +kernel
theorem dL_keptSets_14 : decode cL_keptSets 14 = .ok (.goto 11, 3) := by decide +kernel
theorem dL_keptSets_17 : decode cL_keptSets 17 = .ok (.astore 6, 2) := by decide +kernel
theorem dL_keptSets_19 : decode cL_keptSets 19 = .ok (.iconst 1, 1) := by decide +kernel
theorem dL_keptSets_20 : decode cL_keptSets 20 = .ok (.ireturn, 1) := by decide +kernel
theorem dL_keptSets_21 : decode cL_keptSets 21 = .ok (.astore 6, 2) := by decide +kernel
theorem dL_keptSets_23 : decode cL_keptSets 23 = .ok (.iconst 2, 1) := by decide +kernel
theorem dL_keptSets_24 : decode cL_keptSets 24 = .ok (.ireturn, 1) := by decide +kernel
theorem dL_keptSets_25 : decode cL_keptSets 25 = .ok (.iconst 0, 1) := by decide +kernel
theorem dL_keptSets_26 : decode cL_keptSets 26 = .ok (.ireturn, 1) := by decide +kernel
theorem dL_longestKept_0 : decode cL_longestKept 0 = .ok (.aload 4, 2) := by decide +kernel
theorem dL_longestKept_2 : decode cL_longestKept 2 = .ok (.iconst 0, 1) := by decide +kernel
theorem dL_longestKept_3 : decode cL_longestKept 3 = .ok (.aload_n 0, 1) := by decide +kernel
theorem dL_longestKept_4 : decode cL_longestKept 4 = .ok (.iload_n 1, 1) := by decide +kernel
theorem dL_longestKept_5 : decode cL_longestKept 5 = .ok (.iload_n 2, 1) := by decide +kernel
theorem dL_longestKept_6 : decode cL_longestKept 6 = .ok (.iload_n 3, 1) := by decide +kernel
theorem dL_longestKept_7 : decode cL_longestKept 7 = .ok (.invokevirtual 71, 3) := by decide +kernel
theorem dL_longestKept_10 : decode cL_longestKept 10 = .ok (.i2l, 1) := by decide +kernel
theorem dL_longestKept_11 : decode cL_longestKept 11 = .ok (.lastore, 1) := by decide +kernel
theorem dL_longestKept_12 : decode cL_longestKept 12 = .ok (.goto 11, 3) := by decide +kernel
theorem dL_longestKept_15 : decode cL_longestKept 15 = .ok (.astore 5, 2) := by decide +kernel
theorem dL_longestKept_17 : decode cL_longestKept 17 = .ok (.iconst 1, 1) := by decide +kernel
theorem dL_longestKept_18 : decode cL_longestKept 18 = .ok (.ireturn, 1) := by decide +kernel
theorem dL_longestKept_19 : decode cL_longestKept 19 = .ok (.astore 5, 2) := by decide +kernel
theorem dL_longestKept_21 : decode cL_longestKept 21 = .ok (.iconst 2, 1) := by decide +kernel
theorem dL_longestKept_22 : decode cL_longestKept 22 = .ok (.ireturn, 1) := by decide +kernel
theorem dL_longestKept_23 : decode cL_longestKept 23 = .ok (.iconst 0, 1) := by decide +kernel
theorem dL_longestKept_24 : decode cL_longestKept 24 = .ok (.ireturn, 1) := by decide +kernel
theorem dL_mostKept_0 : decode cL_mostKept 0 = .ok (.aload_n 3, 1) := by decide +kernel
theorem dL_mostKept_1 : decode cL_mostKept 1 = .ok (.iconst 0, 1) := by decide +kernel
theorem dL_mostKept_2 : decode cL_mostKept 2 = .ok (.aload_n 0, 1) := by decide +kernel
theorem dL_mostKept_3 : decode cL_mostKept 3 = .ok (.iload_n 1, 1) := by decide +kernel
theorem dL_mostKept_4 : decode cL_mostKept 4 = .ok (.iload_n 2, 1) := by decide +kernel
theorem dL_mostKept_5 : decode cL_mostKept 5 = .ok (.invokevirtual 74, 3) := by decide +kernel
theorem dL_mostKept_8 : decode cL_mostKept 8 = .ok (.i2l, 1) := by decide +kernel
theorem dL_mostKept_9 : decode cL_mostKept 9 = .ok (.lastore, 1) := by decide +kernel
theorem dL_mostKept_10 : decode cL_mostKept 10 = .ok (.goto 11, 3) := by decide +kernel
theorem dL_mostKept_13 : decode cL_mostKept 13 = .ok (.astore 4, 2) := by decide +kernel
theorem dL_mostKept_15 : decode cL_mostKept 15 = .ok (.iconst 1, 1) := by decide +kernel
theorem dL_mostKept_16 : decode cL_mostKept 16 = .ok (.ireturn, 1) := by decide +kernel
theorem dL_mostKept_17 : decode cL_mostKept 17 = .ok (.astore 4, 2) := by decide +kernel
theorem dL_mostKept_19 : decode cL_mostKept 19 = .ok (.iconst 2, 1) := by decide +kernel
theorem dL_mostKept_20 : decode cL_mostKept 20 = .ok (.ireturn, 1) := by decide +kernel
theorem dL_mostKept_21 : decode cL_mostKept 21 = .ok (.iconst 0, 1) := by decide +kernel
theorem dL_mostKept_22 : decode cL_mostKept 22 = .ok (.ireturn, 1) := by decide +kernel
theorem dL_cuts_0 : decode cL_cuts 0 = .ok (.aload_n 3, 1) := by decide +kernel
theorem dL_cuts_1 : decode cL_cuts 1 = .ok (.iconst 0, 1) := by decide +kernel
theorem dL_cuts_2 : decode cL_cuts 2 = .ok (.aload_n 0, 1) := by decide +kernel
theorem dL_cuts_3 : decode cL_cuts 3 = .ok (.iload_n 1, 1) := by decide +kernel
theorem dL_cuts_4 : decode cL_cuts 4 = .ok (.iload_n 2, 1) := by decide +kernel
theorem dL_cuts_5 : decode cL_cuts 5 = .ok (.invokevirtual 77, 3) := by decide +kernel
theorem dL_cuts_8 : decode cL_cuts 8 = .ok (.i2l, 1) := by decide +kernel
theorem dL_cuts_9 : decode cL_cuts 9 = .ok (.lastore, 1) := by decide +kernel
theorem dL_cuts_10 : decode cL_cuts 10 = .ok (.goto 7, 3) := by decide +kernel
theorem dL_cuts_13 : decode cL_cuts 13 = .ok (.astore 4, 2) := by decide +kernel
theorem dL_cuts_15 : decode cL_cuts 15 = .ok (.iconst 1, 1) := by decide +kernel
theorem dL_cuts_16 : decode cL_cuts 16 = .ok (.ireturn, 1) := by decide +kernel
theorem dL_cuts_17 : decode cL_cuts 17 = .ok (.iconst 0, 1) := by decide +kernel
theorem dL_cuts_18 : decode cL_cuts 18 = .ok (.ireturn, 1) := by decide +kernel
theorem dL_write_0 : decode cL_write 0 = .ok (.aload_n 2, 1) := by decide +kernel
theorem dL_write_1 : decode cL_write 1 = .ok (.iconst 0, 1) := by decide +kernel
theorem dL_write_2 : decode cL_write 2 = .ok (.aload_n 0, 1) := by decide +kernel
theorem dL_write_3 : decode cL_write 3 = .ok (.iload_n 1, 1) := by decide +kernel
theorem dL_write_4 : decode cL_write 4 = .ok (.invokevirtual 80, 3) := by decide +kernel
theorem dL_write_7 : decode cL_write 7 = .ok (.i2l, 1) := by decide +kernel
theorem dL_write_8 : decode cL_write 8 = .ok (.lastore, 1) := by decide +kernel
theorem dL_write_9 : decode cL_write 9 = .ok (.goto 9, 3) := by decide +kernel
theorem dL_write_12 : decode cL_write 12 = .ok (.astore_n 3, 1) := by decide +kernel
theorem dL_write_13 : decode cL_write 13 = .ok (.iconst 1, 1) := by decide +kernel
theorem dL_write_14 : decode cL_write 14 = .ok (.ireturn, 1) := by decide +kernel
theorem dL_write_15 : decode cL_write 15 = .ok (.astore_n 3, 1) := by decide +kernel
theorem dL_write_16 : decode cL_write 16 = .ok (.iconst 2, 1) := by decide +kernel
theorem dL_write_17 : decode cL_write 17 = .ok (.ireturn, 1) := by decide +kernel
theorem dL_write_18 : decode cL_write 18 = .ok (.iconst 0, 1) := by decide +kernel
theorem dL_write_19 : decode cL_write 19 = .ok (.ireturn, 1) := by decide +kernel
theorem dL_formsWithPhrase_0 : decode cL_formsWithPhrase 0 = .ok (.aload_n 2, 1) := by decide +kernel
theorem dL_formsWithPhrase_1 : decode cL_formsWithPhrase 1 = .ok (.iconst 0, 1) := by decide +kernel
theorem dL_formsWithPhrase_2 : decode cL_formsWithPhrase 2 = .ok (.aload_n 0, 1) := by decide +kernel
theorem dL_formsWithPhrase_3 : decode cL_formsWithPhrase 3 = .ok (.iload_n 1, 1) := by decide +kernel
theorem dL_formsWithPhrase_4 : decode cL_formsWithPhrase 4 = .ok (.invokevirtual 85, 3) := by decide +kernel
theorem dL_formsWithPhrase_7 : decode cL_formsWithPhrase 7 = .ok (.lastore, 1) := by decide +kernel
theorem dL_formsWithPhrase_8 : decode cL_formsWithPhrase 8 = .ok (.goto 6, 3) := by decide +kernel
theorem dL_formsWithPhrase_11 : decode cL_formsWithPhrase 11 = .ok (.astore_n 3, 1) := by decide +kernel
theorem dL_formsWithPhrase_12 : decode cL_formsWithPhrase 12 = .ok (.iconst 1, 1) := by decide +kernel
theorem dL_formsWithPhrase_13 : decode cL_formsWithPhrase 13 = .ok (.ireturn, 1) := by decide +kernel
theorem dL_formsWithPhrase_14 : decode cL_formsWithPhrase 14 = .ok (.iconst 0, 1) := by decide +kernel
theorem dL_formsWithPhrase_15 : decode cL_formsWithPhrase 15 = .ok (.ireturn, 1) := by decide +kernel
theorem dL_placeOfPhrase_0 : decode cL_placeOfPhrase 0 = .ok (.aload_n 3, 1) := by decide +kernel
theorem dL_placeOfPhrase_1 : decode cL_placeOfPhrase 1 = .ok (.iconst 0, 1) := by decide +kernel
theorem dL_placeOfPhrase_2 : decode cL_placeOfPhrase 2 = .ok (.aload_n 0, 1) := by decide +kernel
theorem dL_placeOfPhrase_3 : decode cL_placeOfPhrase 3 = .ok (.iload_n 1, 1) := by decide +kernel
theorem dL_placeOfPhrase_4 : decode cL_placeOfPhrase 4 = .ok (.iload_n 2, 1) := by decide +kernel
theorem dL_placeOfPhrase_5 : decode cL_placeOfPhrase 5 = .ok (.invokevirtual 88, 3) := by decide +kernel
theorem dL_placeOfPhrase_8 : decode cL_placeOfPhrase 8 = .ok (.i2l, 1) := by decide +kernel
theorem dL_placeOfPhrase_9 : decode cL_placeOfPhrase 9 = .ok (.lastore, 1) := by decide +kernel
theorem dL_placeOfPhrase_10 : decode cL_placeOfPhrase 10 = .ok (.goto 11, 3) := by decide +kernel
theorem dL_placeOfPhrase_13 : decode cL_placeOfPhrase 13 = .ok (.astore 4, 2) := by decide +kernel
theorem dL_placeOfPhrase_15 : decode cL_placeOfPhrase 15 = .ok (.iconst 1, 1) := by decide +kernel
theorem dL_placeOfPhrase_16 : decode cL_placeOfPhrase 16 = .ok (.ireturn, 1) := by decide +kernel
theorem dL_placeOfPhrase_17 : decode cL_placeOfPhrase 17 = .ok (.astore 4, 2) := by decide +kernel
theorem dL_placeOfPhrase_19 : decode cL_placeOfPhrase 19 = .ok (.iconst 2, 1) := by decide +kernel
theorem dL_placeOfPhrase_20 : decode cL_placeOfPhrase 20 = .ok (.ireturn, 1) := by decide +kernel
theorem dL_placeOfPhrase_21 : decode cL_placeOfPhrase 21 = .ok (.iconst 0, 1) := by decide +kernel
theorem dL_placeOfPhrase_22 : decode cL_placeOfPhrase 22 = .ok (.ireturn, 1) := by decide +kernel
theorem dL_complete_0 : decode cL_complete 0 = .ok (.aload_n 2, 1) := by decide +kernel
theorem dL_complete_1 : decode cL_complete 1 = .ok (.iconst 0, 1) := by decide +kernel
theorem dL_complete_2 : decode cL_complete 2 = .ok (.aload_n 0, 1) := by decide +kernel
theorem dL_complete_3 : decode cL_complete 3 = .ok (.iload_n 1, 1) := by decide +kernel
theorem dL_complete_4 : decode cL_complete 4 = .ok (.invokevirtual 91, 3) := by decide +kernel
theorem dL_complete_7 : decode cL_complete 7 = .ok (.i2l, 1) := by decide +kernel
theorem dL_complete_8 : decode cL_complete 8 = .ok (.lastore, 1) := by decide +kernel
theorem dL_complete_9 : decode cL_complete 9 = .ok (.goto 6, 3) := by decide +kernel
theorem dL_complete_12 : decode cL_complete 12 = .ok (.astore_n 3, 1) := by decide +kernel
theorem dL_complete_13 : decode cL_complete 13 = .ok (.iconst 1, 1) := by decide +kernel
theorem dL_complete_14 : decode cL_complete 14 = .ok (.ireturn, 1) := by decide +kernel
theorem dL_complete_15 : decode cL_complete 15 = .ok (.iconst 0, 1) := by decide +kernel
theorem dL_complete_16 : decode cL_complete 16 = .ok (.ireturn, 1) := by decide +kernel
