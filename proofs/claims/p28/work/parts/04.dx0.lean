theorem dX0_init_0 : decode cX0_init 0 = .ok (.aload_n 0, 1) := by decide +kernel
theorem dX0_init_1 : decode cX0_init 1 = .ok (.invokespecial 3, 3) := by decide +kernel
theorem dX0_init_4 : decode cX0_init 4 = .ok (.lconst 0, 1) := by decide +kernel
theorem dX0_init_5 : decode cX0_init 5 = .ok (.lstore_n 1, 1) := by decide +kernel
theorem dX0_init_6 : decode cX0_init 6 = .ok (.iconst 0, 1) := by decide +kernel
theorem dX0_init_7 : decode cX0_init 7 = .ok (.istore_n 3, 1) := by decide +kernel
theorem dX0_init_8 : decode cX0_init 8 = .ok (.iload_n 3, 1) := by decide +kernel
theorem dX0_init_9 : decode cX0_init 9 = .ok (.bipush 12, 2) := by decide +kernel
theorem dX0_init_11 : decode cX0_init 11 = .ok (.if_icmp .ge 16, 3) := by decide +kernel
theorem dX0_init_14 : decode cX0_init 14 = .ok (.lload_n 1, 1) := by decide +kernel
theorem dX0_init_15 : decode cX0_init 15 = .ok (.iload_n 3, 1) := by decide +kernel
theorem dX0_init_16 : decode cX0_init 16 = .ok (.iload_n 3, 1) := by decide +kernel
theorem dX0_init_17 : decode cX0_init 17 = .ok (.invokestatic 9, 3) := by decide +kernel
theorem dX0_init_20 : decode cX0_init 20 = .ok (.lstore_n 1, 1) := by decide +kernel
theorem dX0_init_21 : decode cX0_init 21 = .ok (.iinc 3 1, 3) := by decide +kernel
theorem dX0_init_24 : decode cX0_init 24 = .ok (.goto (-16), 3) := by decide +kernel
theorem dX0_init_27 : decode cX0_init 27 = .ok (.aload_n 0, 1) := by decide +kernel
theorem dX0_init_28 : decode cX0_init 28 = .ok (.lload_n 1, 1) := by decide +kernel
theorem dX0_init_29 : decode cX0_init 29 = .ok (.putfield 13, 3) := by decide +kernel
theorem dX0_init_32 : decode cX0_init 32 = .ok (.aload_n 0, 1) := by decide +kernel
theorem dX0_init_33 : decode cX0_init 33 = .ok (.lload_n 1, 1) := by decide +kernel
theorem dX0_init_34 : decode cX0_init 34 = .ok (.putfield 17, 3) := by decide +kernel
theorem dX0_init_37 : decode cX0_init 37 = .ok (.return_, 1) := by decide +kernel
theorem dX0_put_0 : decode cX0_put 0 = .ok (.iload_n 1, 1) := by decide +kernel
theorem dX0_put_1 : decode cX0_put 1 = .ok (.invokestatic 20, 3) := by decide +kernel
theorem dX0_put_4 : decode cX0_put 4 = .ok (.iload_n 2, 1) := by decide +kernel
theorem dX0_put_5 : decode cX0_put 5 = .ok (.bipush 11, 2) := by decide +kernel
theorem dX0_put_7 : decode cX0_put 7 = .ok (.invokestatic 24, 3) := by decide +kernel
theorem dX0_put_10 : decode cX0_put 10 = .ok (.iload_n 3, 1) := by decide +kernel
theorem dX0_put_11 : decode cX0_put 11 = .ok (.iconst 0, 1) := by decide +kernel
theorem dX0_put_12 : decode cX0_put 12 = .ok (.bipush 11, 2) := by decide +kernel
theorem dX0_put_14 : decode cX0_put 14 = .ok (.invokestatic 28, 3) := by decide +kernel
theorem dX0_put_17 : decode cX0_put 17 = .ok (.aload_n 0, 1) := by decide +kernel
theorem dX0_put_18 : decode cX0_put 18 = .ok (.iload_n 1, 1) := by decide +kernel
theorem dX0_put_19 : decode cX0_put 19 = .ok (.invokevirtual 32, 3) := by decide +kernel
theorem dX0_put_22 : decode cX0_put 22 = .ok (.lstore 4, 2) := by decide +kernel
theorem dX0_put_24 : decode cX0_put 24 = .ok (.lload 4, 2) := by decide +kernel
theorem dX0_put_26 : decode cX0_put 26 = .ok (.iload_n 2, 1) := by decide +kernel
theorem dX0_put_27 : decode cX0_put 27 = .ok (.invokestatic 36, 3) := by decide +kernel
theorem dX0_put_30 : decode cX0_put 30 = .ok (.istore 6, 2) := by decide +kernel
theorem dX0_put_32 : decode cX0_put 32 = .ok (.lload 4, 2) := by decide +kernel
theorem dX0_put_34 : decode cX0_put 34 = .ok (.lload 4, 2) := by decide +kernel
theorem dX0_put_36 : decode cX0_put 36 = .ok (.iload_n 3, 1) := by decide +kernel
theorem dX0_put_37 : decode cX0_put 37 = .ok (.invokestatic 40, 3) := by decide +kernel
theorem dX0_put_40 : decode cX0_put 40 = .ok (.iload 6, 2) := by decide +kernel
theorem dX0_put_42 : decode cX0_put 42 = .ok (.invokestatic 9, 3) := by decide +kernel
theorem dX0_put_45 : decode cX0_put 45 = .ok (.lstore 7, 2) := by decide +kernel
theorem dX0_put_47 : decode cX0_put 47 = .ok (.aload_n 0, 1) := by decide +kernel
theorem dX0_put_48 : decode cX0_put 48 = .ok (.iload_n 1, 1) := by decide +kernel
theorem dX0_put_49 : decode cX0_put 49 = .ok (.lload 7, 2) := by decide +kernel
theorem dX0_put_51 : decode cX0_put 51 = .ok (.iload_n 2, 1) := by decide +kernel
theorem dX0_put_52 : decode cX0_put 52 = .ok (.iload_n 3, 1) := by decide +kernel
theorem dX0_put_53 : decode cX0_put 53 = .ok (.invokestatic 9, 3) := by decide +kernel
theorem dX0_put_56 : decode cX0_put 56 = .ok (.invokevirtual 43, 3) := by decide +kernel
theorem dX0_put_59 : decode cX0_put 59 = .ok (.iload 6, 2) := by decide +kernel
theorem dX0_put_61 : decode cX0_put 61 = .ok (.ireturn, 1) := by decide +kernel
theorem dX0_take_0 : decode cX0_take 0 = .ok (.iload_n 1, 1) := by decide +kernel
theorem dX0_take_1 : decode cX0_take 1 = .ok (.invokestatic 20, 3) := by decide +kernel
theorem dX0_take_4 : decode cX0_take 4 = .ok (.iload 4, 2) := by decide +kernel
theorem dX0_take_6 : decode cX0_take 6 = .ok (.invokestatic 20, 3) := by decide +kernel
theorem dX0_take_9 : decode cX0_take 9 = .ok (.iload_n 2, 1) := by decide +kernel
theorem dX0_take_10 : decode cX0_take 10 = .ok (.iload_n 3, 1) := by decide +kernel
theorem dX0_take_11 : decode cX0_take 11 = .ok (.invokestatic 47, 3) := by decide +kernel
theorem dX0_take_14 : decode cX0_take 14 = .ok (.aload_n 0, 1) := by decide +kernel
theorem dX0_take_15 : decode cX0_take 15 = .ok (.iload 4, 2) := by decide +kernel
theorem dX0_take_17 : decode cX0_take 17 = .ok (.aload_n 0, 1) := by decide +kernel
theorem dX0_take_18 : decode cX0_take 18 = .ok (.iload_n 1, 1) := by decide +kernel
theorem dX0_take_19 : decode cX0_take 19 = .ok (.invokevirtual 32, 3) := by decide +kernel
theorem dX0_take_22 : decode cX0_take 22 = .ok (.iload_n 2, 1) := by decide +kernel
theorem dX0_take_23 : decode cX0_take 23 = .ok (.iload_n 3, 1) := by decide +kernel
theorem dX0_take_24 : decode cX0_take 24 = .ok (.invokestatic 50, 3) := by decide +kernel
theorem dX0_take_27 : decode cX0_take 27 = .ok (.invokestatic 54, 3) := by decide +kernel
theorem dX0_take_30 : decode cX0_take 30 = .ok (.invokevirtual 58, 3) := by decide +kernel
theorem dX0_take_33 : decode cX0_take 33 = .ok (.ireturn, 1) := by decide +kernel
theorem dX0_multiply_0 : decode cX0_multiply 0 = .ok (.iload_n 1, 1) := by decide +kernel
theorem dX0_multiply_1 : decode cX0_multiply 1 = .ok (.invokestatic 20, 3) := by decide +kernel
theorem dX0_multiply_4 : decode cX0_multiply 4 = .ok (.iload_n 2, 1) := by decide +kernel
theorem dX0_multiply_5 : decode cX0_multiply 5 = .ok (.invokestatic 62, 3) := by decide +kernel
theorem dX0_multiply_8 : decode cX0_multiply 8 = .ok (.aload_n 0, 1) := by decide +kernel
theorem dX0_multiply_9 : decode cX0_multiply 9 = .ok (.iload_n 1, 1) := by decide +kernel
theorem dX0_multiply_10 : decode cX0_multiply 10 = .ok (.invokevirtual 32, 3) := by decide +kernel
theorem dX0_multiply_13 : decode cX0_multiply 13 = .ok (.lstore_n 3, 1) := by decide +kernel
theorem dX0_multiply_14 : decode cX0_multiply 14 = .ok (.lconst 0, 1) := by decide +kernel
theorem dX0_multiply_15 : decode cX0_multiply 15 = .ok (.lstore 5, 2) := by decide +kernel
theorem dX0_multiply_17 : decode cX0_multiply 17 = .ok (.iconst 0, 1) := by decide +kernel
theorem dX0_multiply_18 : decode cX0_multiply 18 = .ok (.istore 7, 2) := by decide +kernel
theorem dX0_multiply_20 : decode cX0_multiply 20 = .ok (.iload 7, 2) := by decide +kernel
theorem dX0_multiply_22 : decode cX0_multiply 22 = .ok (.bipush 12, 2) := by decide +kernel
theorem dX0_multiply_24 : decode cX0_multiply 24 = .ok (.if_icmp .ge 29, 3) := by decide +kernel
theorem dX0_multiply_27 : decode cX0_multiply 27 = .ok (.lload 5, 2) := by decide +kernel
theorem dX0_multiply_29 : decode cX0_multiply 29 = .ok (.iload 7, 2) := by decide +kernel
theorem dX0_multiply_31 : decode cX0_multiply 31 = .ok (.lload_n 3, 1) := by decide +kernel
theorem dX0_multiply_32 : decode cX0_multiply 32 = .ok (.iload 7, 2) := by decide +kernel
theorem dX0_multiply_34 : decode cX0_multiply 34 = .ok (.invokestatic 36, 3) := by decide +kernel
theorem dX0_multiply_37 : decode cX0_multiply 37 = .ok (.iload_n 2, 1) := by decide +kernel
theorem dX0_multiply_38 : decode cX0_multiply 38 = .ok (.imul, 1) := by decide +kernel
theorem dX0_multiply_39 : decode cX0_multiply 39 = .ok (.invokestatic 65, 3) := by decide +kernel
theorem dX0_multiply_42 : decode cX0_multiply 42 = .ok (.invokestatic 9, 3) := by decide +kernel
theorem dX0_multiply_45 : decode cX0_multiply 45 = .ok (.lstore 5, 2) := by decide +kernel
theorem dX0_multiply_47 : decode cX0_multiply 47 = .ok (.iinc 7 1, 3) := by decide +kernel
theorem dX0_multiply_50 : decode cX0_multiply 50 = .ok (.goto (-30), 3) := by decide +kernel
theorem dX0_multiply_53 : decode cX0_multiply 53 = .ok (.aload_n 0, 1) := by decide +kernel
theorem dX0_multiply_54 : decode cX0_multiply 54 = .ok (.iload_n 1, 1) := by decide +kernel
theorem dX0_multiply_55 : decode cX0_multiply 55 = .ok (.lload 5, 2) := by decide +kernel
theorem dX0_multiply_57 : decode cX0_multiply 57 = .ok (.invokevirtual 58, 3) := by decide +kernel
theorem dX0_multiply_60 : decode cX0_multiply 60 = .ok (.ireturn, 1) := by decide +kernel
theorem dX0_rotate_0 : decode cX0_rotate 0 = .ok (.iload_n 1, 1) := by decide +kernel
theorem dX0_rotate_1 : decode cX0_rotate 1 = .ok (.invokestatic 20, 3) := by decide +kernel
theorem dX0_rotate_4 : decode cX0_rotate 4 = .ok (.iload_n 2, 1) := by decide +kernel
theorem dX0_rotate_5 : decode cX0_rotate 5 = .ok (.iconst 0, 1) := by decide +kernel
theorem dX0_rotate_6 : decode cX0_rotate 6 = .ok (.bipush 11, 2) := by decide +kernel
theorem dX0_rotate_8 : decode cX0_rotate 8 = .ok (.invokestatic 28, 3) := by decide +kernel
theorem dX0_rotate_11 : decode cX0_rotate 11 = .ok (.aload_n 0, 1) := by decide +kernel
theorem dX0_rotate_12 : decode cX0_rotate 12 = .ok (.iload_n 1, 1) := by decide +kernel
theorem dX0_rotate_13 : decode cX0_rotate 13 = .ok (.invokevirtual 32, 3) := by decide +kernel
theorem dX0_rotate_16 : decode cX0_rotate 16 = .ok (.lstore_n 3, 1) := by decide +kernel
theorem dX0_rotate_17 : decode cX0_rotate 17 = .ok (.lconst 0, 1) := by decide +kernel
theorem dX0_rotate_18 : decode cX0_rotate 18 = .ok (.lstore 5, 2) := by decide +kernel
theorem dX0_rotate_20 : decode cX0_rotate 20 = .ok (.iconst 0, 1) := by decide +kernel
theorem dX0_rotate_21 : decode cX0_rotate 21 = .ok (.istore 7, 2) := by decide +kernel
theorem dX0_rotate_23 : decode cX0_rotate 23 = .ok (.iload 7, 2) := by decide +kernel
theorem dX0_rotate_25 : decode cX0_rotate 25 = .ok (.bipush 12, 2) := by decide +kernel
theorem dX0_rotate_27 : decode cX0_rotate 27 = .ok (.if_icmp .ge 29, 3) := by decide +kernel
theorem dX0_rotate_30 : decode cX0_rotate 30 = .ok (.lload 5, 2) := by decide +kernel
theorem dX0_rotate_32 : decode cX0_rotate 32 = .ok (.iload 7, 2) := by decide +kernel
theorem dX0_rotate_34 : decode cX0_rotate 34 = .ok (.lload_n 3, 1) := by decide +kernel
theorem dX0_rotate_35 : decode cX0_rotate 35 = .ok (.iload 7, 2) := by decide +kernel
theorem dX0_rotate_37 : decode cX0_rotate 37 = .ok (.iload_n 2, 1) := by decide +kernel
theorem dX0_rotate_38 : decode cX0_rotate 38 = .ok (.iadd, 1) := by decide +kernel
theorem dX0_rotate_39 : decode cX0_rotate 39 = .ok (.invokestatic 65, 3) := by decide +kernel
theorem dX0_rotate_42 : decode cX0_rotate 42 = .ok (.invokestatic 36, 3) := by decide +kernel
theorem dX0_rotate_45 : decode cX0_rotate 45 = .ok (.invokestatic 9, 3) := by decide +kernel
theorem dX0_rotate_48 : decode cX0_rotate 48 = .ok (.lstore 5, 2) := by decide +kernel
theorem dX0_rotate_50 : decode cX0_rotate 50 = .ok (.iinc 7 1, 3) := by decide +kernel
theorem dX0_rotate_53 : decode cX0_rotate 53 = .ok (.goto (-30), 3) := by decide +kernel
theorem dX0_rotate_56 : decode cX0_rotate 56 = .ok (.aload_n 0, 1) := by decide +kernel
theorem dX0_rotate_57 : decode cX0_rotate 57 = .ok (.iload_n 1, 1) := by decide +kernel
theorem dX0_rotate_58 : decode cX0_rotate 58 = .ok (.lload 5, 2) := by decide +kernel
theorem dX0_rotate_60 : decode cX0_rotate 60 = .ok (.invokevirtual 58, 3) := by decide +kernel
theorem dX0_rotate_63 : decode cX0_rotate 63 = .ok (.ireturn, 1) := by decide +kernel
theorem dX0_tone_0 : decode cX0_tone 0 = .ok (.iload_n 1, 1) := by decide +kernel
theorem dX0_tone_1 : decode cX0_tone 1 = .ok (.invokestatic 20, 3) := by decide +kernel
theorem dX0_tone_4 : decode cX0_tone 4 = .ok (.iload_n 2, 1) := by decide +kernel
theorem dX0_tone_5 : decode cX0_tone 5 = .ok (.bipush 11, 2) := by decide +kernel
theorem dX0_tone_7 : decode cX0_tone 7 = .ok (.invokestatic 24, 3) := by decide +kernel
theorem dX0_tone_10 : decode cX0_tone 10 = .ok (.aload_n 0, 1) := by decide +kernel
theorem dX0_tone_11 : decode cX0_tone 11 = .ok (.iload_n 1, 1) := by decide +kernel
theorem dX0_tone_12 : decode cX0_tone 12 = .ok (.invokevirtual 32, 3) := by decide +kernel
theorem dX0_tone_15 : decode cX0_tone 15 = .ok (.iload_n 2, 1) := by decide +kernel
theorem dX0_tone_16 : decode cX0_tone 16 = .ok (.invokestatic 36, 3) := by decide +kernel
theorem dX0_tone_19 : decode cX0_tone 19 = .ok (.ireturn, 1) := by decide +kernel
theorem dX0_interval_0 : decode cX0_interval 0 = .ok (.iload_n 1, 1) := by decide +kernel
theorem dX0_interval_1 : decode cX0_interval 1 = .ok (.invokestatic 20, 3) := by decide +kernel
theorem dX0_interval_4 : decode cX0_interval 4 = .ok (.iload_n 2, 1) := by decide +kernel
theorem dX0_interval_5 : decode cX0_interval 5 = .ok (.bipush 10, 2) := by decide +kernel
theorem dX0_interval_7 : decode cX0_interval 7 = .ok (.invokestatic 24, 3) := by decide +kernel
theorem dX0_interval_10 : decode cX0_interval 10 = .ok (.aload_n 0, 1) := by decide +kernel
theorem dX0_interval_11 : decode cX0_interval 11 = .ok (.iload_n 1, 1) := by decide +kernel
theorem dX0_interval_12 : decode cX0_interval 12 = .ok (.invokevirtual 32, 3) := by decide +kernel
theorem dX0_interval_15 : decode cX0_interval 15 = .ok (.iload_n 2, 1) := by decide +kernel
theorem dX0_interval_16 : decode cX0_interval 16 = .ok (.invokestatic 69, 3) := by decide +kernel
theorem dX0_interval_19 : decode cX0_interval 19 = .ok (.ireturn, 1) := by decide +kernel
theorem dX0_toneOf_0 : decode cX0_toneOf 0 = .ok (.iload_n 1, 1) := by decide +kernel
theorem dX0_toneOf_1 : decode cX0_toneOf 1 = .ok (.invokestatic 20, 3) := by decide +kernel
theorem dX0_toneOf_4 : decode cX0_toneOf 4 = .ok (.iload 4, 2) := by decide +kernel
theorem dX0_toneOf_6 : decode cX0_toneOf 6 = .ok (.bipush 11, 2) := by decide +kernel
theorem dX0_toneOf_8 : decode cX0_toneOf 8 = .ok (.invokestatic 24, 3) := by decide +kernel
theorem dX0_toneOf_11 : decode cX0_toneOf 11 = .ok (.iload_n 2, 1) := by decide +kernel
theorem dX0_toneOf_12 : decode cX0_toneOf 12 = .ok (.iload_n 3, 1) := by decide +kernel
theorem dX0_toneOf_13 : decode cX0_toneOf 13 = .ok (.invokestatic 47, 3) := by decide +kernel
theorem dX0_toneOf_16 : decode cX0_toneOf 16 = .ok (.aload_n 0, 1) := by decide +kernel
theorem dX0_toneOf_17 : decode cX0_toneOf 17 = .ok (.iload_n 1, 1) := by decide +kernel
theorem dX0_toneOf_18 : decode cX0_toneOf 18 = .ok (.invokevirtual 32, 3) := by decide +kernel
theorem dX0_toneOf_21 : decode cX0_toneOf 21 = .ok (.iload_n 2, 1) := by decide +kernel
theorem dX0_toneOf_22 : decode cX0_toneOf 22 = .ok (.iload_n 3, 1) := by decide +kernel
theorem dX0_toneOf_23 : decode cX0_toneOf 23 = .ok (.invokestatic 50, 3) := by decide +kernel
theorem dX0_toneOf_26 : decode cX0_toneOf 26 = .ok (.invokestatic 54, 3) := by decide +kernel
theorem dX0_toneOf_29 : decode cX0_toneOf 29 = .ok (.iload 4, 2) := by decide +kernel
theorem dX0_toneOf_31 : decode cX0_toneOf 31 = .ok (.invokestatic 36, 3) := by decide +kernel
theorem dX0_toneOf_34 : decode cX0_toneOf 34 = .ok (.ireturn, 1) := by decide +kernel
theorem dX0_matrix_0 : decode cX0_matrix 0 = .ok (.iload_n 1, 1) := by decide +kernel
theorem dX0_matrix_1 : decode cX0_matrix 1 = .ok (.invokestatic 20, 3) := by decide +kernel
theorem dX0_matrix_4 : decode cX0_matrix 4 = .ok (.iload_n 2, 1) := by decide +kernel
theorem dX0_matrix_5 : decode cX0_matrix 5 = .ok (.bipush 11, 2) := by decide +kernel
theorem dX0_matrix_7 : decode cX0_matrix 7 = .ok (.invokestatic 24, 3) := by decide +kernel
theorem dX0_matrix_10 : decode cX0_matrix 10 = .ok (.iload_n 3, 1) := by decide +kernel
theorem dX0_matrix_11 : decode cX0_matrix 11 = .ok (.bipush 11, 2) := by decide +kernel
theorem dX0_matrix_13 : decode cX0_matrix 13 = .ok (.invokestatic 24, 3) := by decide +kernel
theorem dX0_matrix_16 : decode cX0_matrix 16 = .ok (.aload_n 0, 1) := by decide +kernel
theorem dX0_matrix_17 : decode cX0_matrix 17 = .ok (.iload_n 1, 1) := by decide +kernel
theorem dX0_matrix_18 : decode cX0_matrix 18 = .ok (.invokevirtual 32, 3) := by decide +kernel
theorem dX0_matrix_21 : decode cX0_matrix 21 = .ok (.lstore 4, 2) := by decide +kernel
theorem dX0_matrix_23 : decode cX0_matrix 23 = .ok (.lload 4, 2) := by decide +kernel
theorem dX0_matrix_25 : decode cX0_matrix 25 = .ok (.iconst 0, 1) := by decide +kernel
theorem dX0_matrix_26 : decode cX0_matrix 26 = .ok (.invokestatic 36, 3) := by decide +kernel
theorem dX0_matrix_29 : decode cX0_matrix 29 = .ok (.istore 6, 2) := by decide +kernel
theorem dX0_matrix_31 : decode cX0_matrix 31 = .ok (.iload 6, 2) := by decide +kernel
theorem dX0_matrix_33 : decode cX0_matrix 33 = .ok (.lload 4, 2) := by decide +kernel
theorem dX0_matrix_35 : decode cX0_matrix 35 = .ok (.iload_n 2, 1) := by decide +kernel
theorem dX0_matrix_36 : decode cX0_matrix 36 = .ok (.invokestatic 36, 3) := by decide +kernel
theorem dX0_matrix_39 : decode cX0_matrix 39 = .ok (.isub, 1) := by decide +kernel
theorem dX0_matrix_40 : decode cX0_matrix 40 = .ok (.iload 6, 2) := by decide +kernel
theorem dX0_matrix_42 : decode cX0_matrix 42 = .ok (.iadd, 1) := by decide +kernel
theorem dX0_matrix_43 : decode cX0_matrix 43 = .ok (.invokestatic 65, 3) := by decide +kernel
theorem dX0_matrix_46 : decode cX0_matrix 46 = .ok (.istore 7, 2) := by decide +kernel
theorem dX0_matrix_48 : decode cX0_matrix 48 = .ok (.lload 4, 2) := by decide +kernel
theorem dX0_matrix_50 : decode cX0_matrix 50 = .ok (.iload_n 3, 1) := by decide +kernel
theorem dX0_matrix_51 : decode cX0_matrix 51 = .ok (.invokestatic 36, 3) := by decide +kernel
theorem dX0_matrix_54 : decode cX0_matrix 54 = .ok (.iload 6, 2) := by decide +kernel
theorem dX0_matrix_56 : decode cX0_matrix 56 = .ok (.isub, 1) := by decide +kernel
theorem dX0_matrix_57 : decode cX0_matrix 57 = .ok (.iload 7, 2) := by decide +kernel
theorem dX0_matrix_59 : decode cX0_matrix 59 = .ok (.iadd, 1) := by decide +kernel
theorem dX0_matrix_60 : decode cX0_matrix 60 = .ok (.invokestatic 65, 3) := by decide +kernel
theorem dX0_matrix_63 : decode cX0_matrix 63 = .ok (.ireturn, 1) := by decide +kernel
theorem dX0_differentForms_0 : decode cX0_differentForms 0 = .ok (.iload_n 1, 1) := by decide +kernel
theorem dX0_differentForms_1 : decode cX0_differentForms 1 = .ok (.invokestatic 20, 3) := by decide +kernel
theorem dX0_differentForms_4 : decode cX0_differentForms 4 = .ok (.aload_n 0, 1) := by decide +kernel
theorem dX0_differentForms_5 : decode cX0_differentForms 5 = .ok (.iload_n 1, 1) := by decide +kernel
theorem dX0_differentForms_6 : decode cX0_differentForms 6 = .ok (.invokevirtual 32, 3) := by decide +kernel
theorem dX0_differentForms_9 : decode cX0_differentForms 9 = .ok (.lstore_n 2, 1) := by decide +kernel
theorem dX0_differentForms_10 : decode cX0_differentForms 10 = .ok (.lload_n 2, 1) := by decide +kernel
theorem dX0_differentForms_11 : decode cX0_differentForms 11 = .ok (.iconst 0, 1) := by decide +kernel
theorem dX0_differentForms_12 : decode cX0_differentForms 12 = .ok (.iconst 0, 1) := by decide +kernel
theorem dX0_differentForms_13 : decode cX0_differentForms 13 = .ok (.invokestatic 50, 3) := by decide +kernel
theorem dX0_differentForms_16 : decode cX0_differentForms 16 = .ok (.invokestatic 54, 3) := by decide +kernel
theorem dX0_differentForms_19 : decode cX0_differentForms 19 = .ok (.lstore 4, 2) := by decide +kernel
theorem dX0_differentForms_21 : decode cX0_differentForms 21 = .ok (.iconst 2, 1) := by decide +kernel
theorem dX0_differentForms_22 : decode cX0_differentForms 22 = .ok (.iconst 0, 1) := by decide +kernel
theorem dX0_differentForms_23 : decode cX0_differentForms 23 = .ok (.invokestatic 50, 3) := by decide +kernel
theorem dX0_differentForms_26 : decode cX0_differentForms 26 = .ok (.istore 6, 2) := by decide +kernel
theorem dX0_differentForms_28 : decode cX0_differentForms 28 = .ok (.iload 6, 2) := by decide +kernel
theorem dX0_differentForms_30 : decode cX0_differentForms 30 = .ok (.bipush 48, 2) := by decide +kernel
theorem dX0_differentForms_32 : decode cX0_differentForms 32 = .ok (.if_icmp .ge 24, 3) := by decide +kernel
theorem dX0_differentForms_35 : decode cX0_differentForms 35 = .ok (.lload_n 2, 1) := by decide +kernel
theorem dX0_differentForms_36 : decode cX0_differentForms 36 = .ok (.iload 6, 2) := by decide +kernel
theorem dX0_differentForms_38 : decode cX0_differentForms 38 = .ok (.invokestatic 54, 3) := by decide +kernel
theorem dX0_differentForms_41 : decode cX0_differentForms 41 = .ok (.lload 4, 2) := by decide +kernel
theorem dX0_differentForms_43 : decode cX0_differentForms 43 = .ok (.lcmp, 1) := by decide +kernel
theorem dX0_differentForms_44 : decode cX0_differentForms 44 = .ok (.ifCond .ne 6, 3) := by decide +kernel
theorem dX0_differentForms_47 : decode cX0_differentForms 47 = .ok (.bipush 24, 2) := by decide +kernel
theorem dX0_differentForms_49 : decode cX0_differentForms 49 = .ok (.ireturn, 1) := by decide +kernel
theorem dX0_differentForms_50 : decode cX0_differentForms 50 = .ok (.iinc 6 1, 3) := by decide +kernel
theorem dX0_differentForms_53 : decode cX0_differentForms 53 = .ok (.goto (-25), 3) := by decide +kernel
theorem dX0_differentForms_56 : decode cX0_differentForms 56 = .ok (.bipush 48, 2) := by decide +kernel
theorem dX0_differentForms_58 : decode cX0_differentForms 58 = .ok (.ireturn, 1) := by decide +kernel
theorem dX0_segment_0 : decode cX0_segment 0 = .ok (.iload_n 1, 1) := by decide +kernel
theorem dX0_segment_1 : decode cX0_segment 1 = .ok (.invokestatic 20, 3) := by decide +kernel
theorem dX0_segment_4 : decode cX0_segment 4 = .ok (.iload_n 2, 1) := by decide +kernel
theorem dX0_segment_5 : decode cX0_segment 5 = .ok (.bipush 11, 2) := by decide +kernel
theorem dX0_segment_7 : decode cX0_segment 7 = .ok (.invokestatic 24, 3) := by decide +kernel
theorem dX0_segment_10 : decode cX0_segment 10 = .ok (.iload_n 3, 1) := by decide +kernel
theorem dX0_segment_11 : decode cX0_segment 11 = .ok (.iconst 1, 1) := by decide +kernel
theorem dX0_segment_12 : decode cX0_segment 12 = .ok (.bipush 12, 2) := by decide +kernel
theorem dX0_segment_14 : decode cX0_segment 14 = .ok (.iload_n 2, 1) := by decide +kernel
theorem dX0_segment_15 : decode cX0_segment 15 = .ok (.isub, 1) := by decide +kernel
theorem dX0_segment_16 : decode cX0_segment 16 = .ok (.invokestatic 28, 3) := by decide +kernel
theorem dX0_segment_19 : decode cX0_segment 19 = .ok (.aload_n 0, 1) := by decide +kernel
theorem dX0_segment_20 : decode cX0_segment 20 = .ok (.iload_n 1, 1) := by decide +kernel
theorem dX0_segment_21 : decode cX0_segment 21 = .ok (.invokevirtual 32, 3) := by decide +kernel
theorem dX0_segment_24 : decode cX0_segment 24 = .ok (.iload_n 2, 1) := by decide +kernel
theorem dX0_segment_25 : decode cX0_segment 25 = .ok (.iload_n 3, 1) := by decide +kernel
theorem dX0_segment_26 : decode cX0_segment 26 = .ok (.invokestatic 77, 3) := by decide +kernel
theorem dX0_segment_29 : decode cX0_segment 29 = .ok (.ireturn, 1) := by decide +kernel
theorem dX0_classOf_0 : decode cX0_classOf 0 = .ok (.iload_n 1, 1) := by decide +kernel
theorem dX0_classOf_1 : decode cX0_classOf 1 = .ok (.iconst 0, 1) := by decide +kernel
theorem dX0_classOf_2 : decode cX0_classOf 2 = .ok (.sipush 4095, 3) := by decide +kernel
theorem dX0_classOf_5 : decode cX0_classOf 5 = .ok (.invokestatic 28, 3) := by decide +kernel
theorem dX0_classOf_8 : decode cX0_classOf 8 = .ok (.iload_n 1, 1) := by decide +kernel
theorem dX0_classOf_9 : decode cX0_classOf 9 = .ok (.invokestatic 81, 3) := by decide +kernel
theorem dX0_classOf_12 : decode cX0_classOf 12 = .ok (.ireturn, 1) := by decide +kernel
theorem dX0_pairs_0 : decode cX0_pairs 0 = .ok (.iload_n 1, 1) := by decide +kernel
theorem dX0_pairs_1 : decode cX0_pairs 1 = .ok (.iconst 0, 1) := by decide +kernel
theorem dX0_pairs_2 : decode cX0_pairs 2 = .ok (.sipush 4095, 3) := by decide +kernel
theorem dX0_pairs_5 : decode cX0_pairs 5 = .ok (.invokestatic 28, 3) := by decide +kernel
theorem dX0_pairs_8 : decode cX0_pairs 8 = .ok (.iload_n 2, 1) := by decide +kernel
theorem dX0_pairs_9 : decode cX0_pairs 9 = .ok (.iconst 1, 1) := by decide +kernel
theorem dX0_pairs_10 : decode cX0_pairs 10 = .ok (.bipush 6, 2) := by decide +kernel
theorem dX0_pairs_12 : decode cX0_pairs 12 = .ok (.invokestatic 28, 3) := by decide +kernel
theorem dX0_pairs_15 : decode cX0_pairs 15 = .ok (.iload_n 1, 1) := by decide +kernel
theorem dX0_pairs_16 : decode cX0_pairs 16 = .ok (.iload_n 1, 1) := by decide +kernel
theorem dX0_pairs_17 : decode cX0_pairs 17 = .ok (.iload_n 2, 1) := by decide +kernel
theorem dX0_pairs_18 : decode cX0_pairs 18 = .ok (.invokestatic 84, 3) := by decide +kernel
theorem dX0_pairs_21 : decode cX0_pairs 21 = .ok (.iand, 1) := by decide +kernel
theorem dX0_pairs_22 : decode cX0_pairs 22 = .ok (.invokestatic 72, 3) := by decide +kernel
theorem dX0_pairs_25 : decode cX0_pairs 25 = .ok (.istore_n 3, 1) := by decide +kernel
theorem dX0_pairs_26 : decode cX0_pairs 26 = .ok (.iload_n 2, 1) := by decide +kernel
theorem dX0_pairs_27 : decode cX0_pairs 27 = .ok (.bipush 6, 2) := by decide +kernel
theorem dX0_pairs_29 : decode cX0_pairs 29 = .ok (.if_icmp .ne 9, 3) := by decide +kernel
theorem dX0_pairs_32 : decode cX0_pairs 32 = .ok (.iload_n 3, 1) := by decide +kernel
theorem dX0_pairs_33 : decode cX0_pairs 33 = .ok (.iconst 2, 1) := by decide +kernel
theorem dX0_pairs_34 : decode cX0_pairs 34 = .ok (.idiv, 1) := by decide +kernel
theorem dX0_pairs_35 : decode cX0_pairs 35 = .ok (.goto 4, 3) := by decide +kernel
theorem dX0_pairs_38 : decode cX0_pairs 38 = .ok (.iload_n 3, 1) := by decide +kernel
theorem dX0_pairs_39 : decode cX0_pairs 39 = .ok (.ireturn, 1) := by decide +kernel
theorem dX0_combining_0 : decode cX0_combining 0 = .ok (.iload_n 1, 1) := by decide +kernel
theorem dX0_combining_1 : decode cX0_combining 1 = .ok (.invokestatic 20, 3) := by decide +kernel
theorem dX0_combining_4 : decode cX0_combining 4 = .ok (.aload_n 0, 1) := by decide +kernel
theorem dX0_combining_5 : decode cX0_combining 5 = .ok (.iload_n 1, 1) := by decide +kernel
theorem dX0_combining_6 : decode cX0_combining 6 = .ok (.invokevirtual 32, 3) := by decide +kernel
theorem dX0_combining_9 : decode cX0_combining 9 = .ok (.lstore_n 2, 1) := by decide +kernel
theorem dX0_combining_10 : decode cX0_combining 10 = .ok (.lload_n 2, 1) := by decide +kernel
theorem dX0_combining_11 : decode cX0_combining 11 = .ok (.iconst 0, 1) := by decide +kernel
theorem dX0_combining_12 : decode cX0_combining 12 = .ok (.bipush 6, 2) := by decide +kernel
theorem dX0_combining_14 : decode cX0_combining 14 = .ok (.invokestatic 77, 3) := by decide +kernel
theorem dX0_combining_17 : decode cX0_combining 17 = .ok (.istore 4, 2) := by decide +kernel
theorem dX0_combining_19 : decode cX0_combining 19 = .ok (.lconst 0, 1) := by decide +kernel
theorem dX0_combining_20 : decode cX0_combining 20 = .ok (.lstore 5, 2) := by decide +kernel
theorem dX0_combining_22 : decode cX0_combining 22 = .ok (.iconst 0, 1) := by decide +kernel
theorem dX0_combining_23 : decode cX0_combining 23 = .ok (.istore 7, 2) := by decide +kernel
theorem dX0_combining_25 : decode cX0_combining 25 = .ok (.iload 7, 2) := by decide +kernel
theorem dX0_combining_27 : decode cX0_combining 27 = .ok (.bipush 48, 2) := by decide +kernel
theorem dX0_combining_29 : decode cX0_combining 29 = .ok (.if_icmp .ge 36, 3) := by decide +kernel
theorem dX0_combining_32 : decode cX0_combining 32 = .ok (.iload 4, 2) := by decide +kernel
theorem dX0_combining_34 : decode cX0_combining 34 = .ok (.lload_n 2, 1) := by decide +kernel
theorem dX0_combining_35 : decode cX0_combining 35 = .ok (.iload 7, 2) := by decide +kernel
theorem dX0_combining_37 : decode cX0_combining 37 = .ok (.invokestatic 54, 3) := by decide +kernel
theorem dX0_combining_40 : decode cX0_combining 40 = .ok (.iconst 0, 1) := by decide +kernel
theorem dX0_combining_41 : decode cX0_combining 41 = .ok (.bipush 6, 2) := by decide +kernel
theorem dX0_combining_43 : decode cX0_combining 43 = .ok (.invokestatic 77, 3) := by decide +kernel
theorem dX0_combining_46 : decode cX0_combining 46 = .ok (.iand, 1) := by decide +kernel
theorem dX0_combining_47 : decode cX0_combining 47 = .ok (.ifCond .ne 12, 3) := by decide +kernel
theorem dX0_combining_50 : decode cX0_combining 50 = .ok (.lload 5, 2) := by decide +kernel
theorem dX0_combining_52 : decode cX0_combining 52 = .ok (.lconst 1, 1) := by decide +kernel
theorem dX0_combining_53 : decode cX0_combining 53 = .ok (.iload 7, 2) := by decide +kernel
theorem dX0_combining_55 : decode cX0_combining 55 = .ok (.lshl, 1) := by decide +kernel
theorem dX0_combining_56 : decode cX0_combining 56 = .ok (.lor, 1) := by decide +kernel
theorem dX0_combining_57 : decode cX0_combining 57 = .ok (.lstore 5, 2) := by decide +kernel
theorem dX0_combining_59 : decode cX0_combining 59 = .ok (.iinc 7 1, 3) := by decide +kernel
theorem dX0_combining_62 : decode cX0_combining 62 = .ok (.goto (-37), 3) := by decide +kernel
theorem dX0_combining_65 : decode cX0_combining 65 = .ok (.lload 5, 2) := by decide +kernel
theorem dX0_combining_67 : decode cX0_combining 67 = .ok (.lreturn, 1) := by decide +kernel
theorem dX0_isDerived_0 : decode cX0_isDerived 0 = .ok (.iload_n 1, 1) := by decide +kernel
theorem dX0_isDerived_1 : decode cX0_isDerived 1 = .ok (.invokestatic 20, 3) := by decide +kernel
theorem dX0_isDerived_4 : decode cX0_isDerived 4 = .ok (.iload_n 2, 1) := by decide +kernel
theorem dX0_isDerived_5 : decode cX0_isDerived 5 = .ok (.invokestatic 87, 3) := by decide +kernel
theorem dX0_isDerived_8 : decode cX0_isDerived 8 = .ok (.aload_n 0, 1) := by decide +kernel
theorem dX0_isDerived_9 : decode cX0_isDerived 9 = .ok (.iload_n 1, 1) := by decide +kernel
theorem dX0_isDerived_10 : decode cX0_isDerived 10 = .ok (.invokevirtual 32, 3) := by decide +kernel
theorem dX0_isDerived_13 : decode cX0_isDerived 13 = .ok (.lstore_n 3, 1) := by decide +kernel
theorem dX0_isDerived_14 : decode cX0_isDerived 14 = .ok (.lload_n 3, 1) := by decide +kernel
theorem dX0_isDerived_15 : decode cX0_isDerived 15 = .ok (.iconst 0, 1) := by decide +kernel
theorem dX0_isDerived_16 : decode cX0_isDerived 16 = .ok (.iload_n 2, 1) := by decide +kernel
theorem dX0_isDerived_17 : decode cX0_isDerived 17 = .ok (.invokestatic 77, 3) := by decide +kernel
theorem dX0_isDerived_20 : decode cX0_isDerived 20 = .ok (.invokestatic 81, 3) := by decide +kernel
theorem dX0_isDerived_23 : decode cX0_isDerived 23 = .ok (.istore 5, 2) := by decide +kernel
theorem dX0_isDerived_25 : decode cX0_isDerived 25 = .ok (.iconst 1, 1) := by decide +kernel
theorem dX0_isDerived_26 : decode cX0_isDerived 26 = .ok (.istore 6, 2) := by decide +kernel
theorem dX0_isDerived_28 : decode cX0_isDerived 28 = .ok (.iload 6, 2) := by decide +kernel
theorem dX0_isDerived_30 : decode cX0_isDerived 30 = .ok (.bipush 12, 2) := by decide +kernel
theorem dX0_isDerived_32 : decode cX0_isDerived 32 = .ok (.if_icmp .ge 39, 3) := by decide +kernel
theorem dX0_isDerived_35 : decode cX0_isDerived 35 = .ok (.iload 6, 2) := by decide +kernel
theorem dX0_isDerived_37 : decode cX0_isDerived 37 = .ok (.iload_n 2, 1) := by decide +kernel
theorem dX0_isDerived_38 : decode cX0_isDerived 38 = .ok (.imul, 1) := by decide +kernel
theorem dX0_isDerived_39 : decode cX0_isDerived 39 = .ok (.istore 7, 2) := by decide +kernel
theorem dX0_isDerived_41 : decode cX0_isDerived 41 = .ok (.iload 7, 2) := by decide +kernel
theorem dX0_isDerived_43 : decode cX0_isDerived 43 = .ok (.bipush 12, 2) := by decide +kernel
theorem dX0_isDerived_45 : decode cX0_isDerived 45 = .ok (.if_icmp .ge 20, 3) := by decide +kernel
theorem dX0_isDerived_48 : decode cX0_isDerived 48 = .ok (.lload_n 3, 1) := by decide +kernel
theorem dX0_isDerived_49 : decode cX0_isDerived 49 = .ok (.iload 7, 2) := by decide +kernel
theorem dX0_isDerived_51 : decode cX0_isDerived 51 = .ok (.iload_n 2, 1) := by decide +kernel
theorem dX0_isDerived_52 : decode cX0_isDerived 52 = .ok (.invokestatic 77, 3) := by decide +kernel
theorem dX0_isDerived_55 : decode cX0_isDerived 55 = .ok (.invokestatic 81, 3) := by decide +kernel
theorem dX0_isDerived_58 : decode cX0_isDerived 58 = .ok (.iload 5, 2) := by decide +kernel
theorem dX0_isDerived_60 : decode cX0_isDerived 60 = .ok (.if_icmp .eq 5, 3) := by decide +kernel
theorem dX0_isDerived_63 : decode cX0_isDerived 63 = .ok (.iconst 0, 1) := by decide +kernel
theorem dX0_isDerived_64 : decode cX0_isDerived 64 = .ok (.ireturn, 1) := by decide +kernel
theorem dX0_isDerived_65 : decode cX0_isDerived 65 = .ok (.iinc 6 1, 3) := by decide +kernel
theorem dX0_isDerived_68 : decode cX0_isDerived 68 = .ok (.goto (-40), 3) := by decide +kernel
theorem dX0_isDerived_71 : decode cX0_isDerived 71 = .ok (.iconst 1, 1) := by decide +kernel
theorem dX0_isDerived_72 : decode cX0_isDerived 72 = .ok (.ireturn, 1) := by decide +kernel
theorem dX0_keptSets_0 : decode cX0_keptSets 0 = .ok (.iload_n 1, 1) := by decide +kernel
theorem dX0_keptSets_1 : decode cX0_keptSets 1 = .ok (.invokestatic 20, 3) := by decide +kernel
theorem dX0_keptSets_4 : decode cX0_keptSets 4 = .ok (.iload_n 2, 1) := by decide +kernel
theorem dX0_keptSets_5 : decode cX0_keptSets 5 = .ok (.iload_n 3, 1) := by decide +kernel
theorem dX0_keptSets_6 : decode cX0_keptSets 6 = .ok (.invokestatic 47, 3) := by decide +kernel
theorem dX0_keptSets_9 : decode cX0_keptSets 9 = .ok (.iload 4, 2) := by decide +kernel
theorem dX0_keptSets_11 : decode cX0_keptSets 11 = .ok (.iconst 1, 1) := by decide +kernel
theorem dX0_keptSets_12 : decode cX0_keptSets 12 = .ok (.bipush 12, 2) := by decide +kernel
theorem dX0_keptSets_14 : decode cX0_keptSets 14 = .ok (.invokestatic 28, 3) := by decide +kernel
theorem dX0_keptSets_17 : decode cX0_keptSets 17 = .ok (.aload_n 0, 1) := by decide +kernel
theorem dX0_keptSets_18 : decode cX0_keptSets 18 = .ok (.iload_n 1, 1) := by decide +kernel
theorem dX0_keptSets_19 : decode cX0_keptSets 19 = .ok (.invokevirtual 32, 3) := by decide +kernel
theorem dX0_keptSets_22 : decode cX0_keptSets 22 = .ok (.lstore 5, 2) := by decide +kernel
theorem dX0_keptSets_24 : decode cX0_keptSets 24 = .ok (.lload 5, 2) := by decide +kernel
theorem dX0_keptSets_26 : decode cX0_keptSets 26 = .ok (.lload 5, 2) := by decide +kernel
theorem dX0_keptSets_28 : decode cX0_keptSets 28 = .ok (.iload_n 2, 1) := by decide +kernel
theorem dX0_keptSets_29 : decode cX0_keptSets 29 = .ok (.iload_n 3, 1) := by decide +kernel
theorem dX0_keptSets_30 : decode cX0_keptSets 30 = .ok (.invokestatic 50, 3) := by decide +kernel
theorem dX0_keptSets_33 : decode cX0_keptSets 33 = .ok (.invokestatic 54, 3) := by decide +kernel
theorem dX0_keptSets_36 : decode cX0_keptSets 36 = .ok (.iload 4, 2) := by decide +kernel
theorem dX0_keptSets_38 : decode cX0_keptSets 38 = .ok (.invokestatic 90, 3) := by decide +kernel
theorem dX0_keptSets_41 : decode cX0_keptSets 41 = .ok (.ireturn, 1) := by decide +kernel
theorem dX0_longestKept_0 : decode cX0_longestKept 0 = .ok (.iload_n 1, 1) := by decide +kernel
theorem dX0_longestKept_1 : decode cX0_longestKept 1 = .ok (.invokestatic 20, 3) := by decide +kernel
theorem dX0_longestKept_4 : decode cX0_longestKept 4 = .ok (.iload_n 2, 1) := by decide +kernel
theorem dX0_longestKept_5 : decode cX0_longestKept 5 = .ok (.iload_n 3, 1) := by decide +kernel
theorem dX0_longestKept_6 : decode cX0_longestKept 6 = .ok (.invokestatic 47, 3) := by decide +kernel
theorem dX0_longestKept_9 : decode cX0_longestKept 9 = .ok (.aload_n 0, 1) := by decide +kernel
theorem dX0_longestKept_10 : decode cX0_longestKept 10 = .ok (.iload_n 1, 1) := by decide +kernel
theorem dX0_longestKept_11 : decode cX0_longestKept 11 = .ok (.invokevirtual 32, 3) := by decide +kernel
theorem dX0_longestKept_14 : decode cX0_longestKept 14 = .ok (.lstore 4, 2) := by decide +kernel
theorem dX0_longestKept_16 : decode cX0_longestKept 16 = .ok (.lload 4, 2) := by decide +kernel
theorem dX0_longestKept_18 : decode cX0_longestKept 18 = .ok (.lload 4, 2) := by decide +kernel
theorem dX0_longestKept_20 : decode cX0_longestKept 20 = .ok (.iload_n 2, 1) := by decide +kernel
theorem dX0_longestKept_21 : decode cX0_longestKept 21 = .ok (.iload_n 3, 1) := by decide +kernel
theorem dX0_longestKept_22 : decode cX0_longestKept 22 = .ok (.invokestatic 50, 3) := by decide +kernel
theorem dX0_longestKept_25 : decode cX0_longestKept 25 = .ok (.invokestatic 54, 3) := by decide +kernel
theorem dX0_longestKept_28 : decode cX0_longestKept 28 = .ok (.invokestatic 94, 3) := by decide +kernel
theorem dX0_longestKept_31 : decode cX0_longestKept 31 = .ok (.lstore 6, 2) := by decide +kernel
theorem dX0_longestKept_33 : decode cX0_longestKept 33 = .ok (.iconst 1, 1) := by decide +kernel
theorem dX0_longestKept_34 : decode cX0_longestKept 34 = .ok (.istore 8, 2) := by decide +kernel
theorem dX0_longestKept_36 : decode cX0_longestKept 36 = .ok (.iconst 1, 1) := by decide +kernel
theorem dX0_longestKept_37 : decode cX0_longestKept 37 = .ok (.istore 9, 2) := by decide +kernel
theorem dX0_longestKept_39 : decode cX0_longestKept 39 = .ok (.iconst 1, 1) := by decide +kernel
theorem dX0_longestKept_40 : decode cX0_longestKept 40 = .ok (.istore 10, 2) := by decide +kernel
theorem dX0_longestKept_42 : decode cX0_longestKept 42 = .ok (.iload 10, 2) := by decide +kernel
theorem dX0_longestKept_44 : decode cX0_longestKept 44 = .ok (.bipush 12, 2) := by decide +kernel
theorem dX0_longestKept_46 : decode cX0_longestKept 46 = .ok (.if_icmp .ge 61, 3) := by decide +kernel
theorem dX0_longestKept_49 : decode cX0_longestKept 49 = .ok (.lload 6, 2) := by decide +kernel
theorem dX0_longestKept_51 : decode cX0_longestKept 51 = .ok (.iload 10, 2) := by decide +kernel
theorem dX0_longestKept_53 : decode cX0_longestKept 53 = .ok (.invokestatic 36, 3) := by decide +kernel
theorem dX0_longestKept_56 : decode cX0_longestKept 56 = .ok (.lload 6, 2) := by decide +kernel
theorem dX0_longestKept_58 : decode cX0_longestKept 58 = .ok (.iload 10, 2) := by decide +kernel
theorem dX0_longestKept_60 : decode cX0_longestKept 60 = .ok (.iconst 1, 1) := by decide +kernel
theorem dX0_longestKept_61 : decode cX0_longestKept 61 = .ok (.isub, 1) := by decide +kernel
theorem dX0_longestKept_62 : decode cX0_longestKept 62 = .ok (.invokestatic 36, 3) := by decide +kernel
theorem dX0_longestKept_65 : decode cX0_longestKept 65 = .ok (.iconst 1, 1) := by decide +kernel
theorem dX0_longestKept_66 : decode cX0_longestKept 66 = .ok (.iadd, 1) := by decide +kernel
theorem dX0_longestKept_67 : decode cX0_longestKept 67 = .ok (.if_icmp .ne 7, 3) := by decide +kernel
theorem dX0_longestKept_70 : decode cX0_longestKept 70 = .ok (.iconst 1, 1) := by decide +kernel
theorem dX0_longestKept_71 : decode cX0_longestKept 71 = .ok (.goto 4, 3) := by decide +kernel
theorem dX0_longestKept_74 : decode cX0_longestKept 74 = .ok (.iconst 0, 1) := by decide +kernel
theorem dX0_longestKept_75 : decode cX0_longestKept 75 = .ok (.istore 11, 2) := by decide +kernel
theorem dX0_longestKept_77 : decode cX0_longestKept 77 = .ok (.iload 11, 2) := by decide +kernel
theorem dX0_longestKept_79 : decode cX0_longestKept 79 = .ok (.ifCond .eq 10, 3) := by decide +kernel
theorem dX0_longestKept_82 : decode cX0_longestKept 82 = .ok (.iload 9, 2) := by decide +kernel
theorem dX0_longestKept_84 : decode cX0_longestKept 84 = .ok (.iconst 1, 1) := by decide +kernel
theorem dX0_longestKept_85 : decode cX0_longestKept 85 = .ok (.iadd, 1) := by decide +kernel
theorem dX0_longestKept_86 : decode cX0_longestKept 86 = .ok (.goto 4, 3) := by decide +kernel
theorem dX0_longestKept_89 : decode cX0_longestKept 89 = .ok (.iconst 1, 1) := by decide +kernel
theorem dX0_longestKept_90 : decode cX0_longestKept 90 = .ok (.istore 9, 2) := by decide +kernel
theorem dX0_longestKept_92 : decode cX0_longestKept 92 = .ok (.iload 8, 2) := by decide +kernel
theorem dX0_longestKept_94 : decode cX0_longestKept 94 = .ok (.iload 9, 2) := by decide +kernel
theorem dX0_longestKept_96 : decode cX0_longestKept 96 = .ok (.invokestatic 98, 3) := by decide +kernel
theorem dX0_longestKept_99 : decode cX0_longestKept 99 = .ok (.istore 8, 2) := by decide +kernel
theorem dX0_longestKept_101 : decode cX0_longestKept 101 = .ok (.iinc 10 1, 3) := by decide +kernel
theorem dX0_longestKept_104 : decode cX0_longestKept 104 = .ok (.goto (-62), 3) := by decide +kernel
theorem dX0_longestKept_107 : decode cX0_longestKept 107 = .ok (.iload 8, 2) := by decide +kernel
theorem dX0_longestKept_109 : decode cX0_longestKept 109 = .ok (.ireturn, 1) := by decide +kernel
theorem dX0_mostKept_0 : decode cX0_mostKept 0 = .ok (.iload_n 1, 1) := by decide +kernel
theorem dX0_mostKept_1 : decode cX0_mostKept 1 = .ok (.invokestatic 20, 3) := by decide +kernel
theorem dX0_mostKept_4 : decode cX0_mostKept 4 = .ok (.iload_n 2, 1) := by decide +kernel
theorem dX0_mostKept_5 : decode cX0_mostKept 5 = .ok (.iconst 2, 1) := by decide +kernel
theorem dX0_mostKept_6 : decode cX0_mostKept 6 = .ok (.bipush 11, 2) := by decide +kernel
theorem dX0_mostKept_8 : decode cX0_mostKept 8 = .ok (.invokestatic 28, 3) := by decide +kernel
theorem dX0_mostKept_11 : decode cX0_mostKept 11 = .ok (.aload_n 0, 1) := by decide +kernel
theorem dX0_mostKept_12 : decode cX0_mostKept 12 = .ok (.iload_n 1, 1) := by decide +kernel
theorem dX0_mostKept_13 : decode cX0_mostKept 13 = .ok (.invokevirtual 32, 3) := by decide +kernel
theorem dX0_mostKept_16 : decode cX0_mostKept 16 = .ok (.lstore_n 3, 1) := by decide +kernel
theorem dX0_mostKept_17 : decode cX0_mostKept 17 = .ok (.iconst 0, 1) := by decide +kernel
theorem dX0_mostKept_18 : decode cX0_mostKept 18 = .ok (.lload_n 3, 1) := by decide +kernel
theorem dX0_mostKept_19 : decode cX0_mostKept 19 = .ok (.iconst 0, 1) := by decide +kernel
theorem dX0_mostKept_20 : decode cX0_mostKept 20 = .ok (.invokestatic 36, 3) := by decide +kernel
theorem dX0_mostKept_23 : decode cX0_mostKept 23 = .ok (.invokestatic 50, 3) := by decide +kernel
theorem dX0_mostKept_26 : decode cX0_mostKept 26 = .ok (.istore 5, 2) := by decide +kernel
theorem dX0_mostKept_28 : decode cX0_mostKept 28 = .ok (.iconst (-1), 1) := by decide +kernel
theorem dX0_mostKept_29 : decode cX0_mostKept 29 = .ok (.istore 6, 2) := by decide +kernel
theorem dX0_mostKept_31 : decode cX0_mostKept 31 = .ok (.iconst (-1), 1) := by decide +kernel
theorem dX0_mostKept_32 : decode cX0_mostKept 32 = .ok (.istore 7, 2) := by decide +kernel
theorem dX0_mostKept_34 : decode cX0_mostKept 34 = .ok (.iconst 0, 1) := by decide +kernel
theorem dX0_mostKept_35 : decode cX0_mostKept 35 = .ok (.istore 8, 2) := by decide +kernel
theorem dX0_mostKept_37 : decode cX0_mostKept 37 = .ok (.iload 8, 2) := by decide +kernel
theorem dX0_mostKept_39 : decode cX0_mostKept 39 = .ok (.bipush 48, 2) := by decide +kernel
theorem dX0_mostKept_41 : decode cX0_mostKept 41 = .ok (.if_icmp .ge 44, 3) := by decide +kernel
theorem dX0_mostKept_44 : decode cX0_mostKept 44 = .ok (.lload_n 3, 1) := by decide +kernel
theorem dX0_mostKept_45 : decode cX0_mostKept 45 = .ok (.lload_n 3, 1) := by decide +kernel
theorem dX0_mostKept_46 : decode cX0_mostKept 46 = .ok (.iload 8, 2) := by decide +kernel
theorem dX0_mostKept_48 : decode cX0_mostKept 48 = .ok (.invokestatic 54, 3) := by decide +kernel
theorem dX0_mostKept_51 : decode cX0_mostKept 51 = .ok (.iload_n 2, 1) := by decide +kernel
theorem dX0_mostKept_52 : decode cX0_mostKept 52 = .ok (.invokestatic 90, 3) := by decide +kernel
theorem dX0_mostKept_55 : decode cX0_mostKept 55 = .ok (.istore 9, 2) := by decide +kernel
theorem dX0_mostKept_57 : decode cX0_mostKept 57 = .ok (.iload 8, 2) := by decide +kernel
theorem dX0_mostKept_59 : decode cX0_mostKept 59 = .ok (.iload 5, 2) := by decide +kernel
theorem dX0_mostKept_61 : decode cX0_mostKept 61 = .ok (.if_icmp .eq 18, 3) := by decide +kernel
theorem dX0_mostKept_64 : decode cX0_mostKept 64 = .ok (.iload 9, 2) := by decide +kernel
theorem dX0_mostKept_66 : decode cX0_mostKept 66 = .ok (.iload 7, 2) := by decide +kernel
theorem dX0_mostKept_68 : decode cX0_mostKept 68 = .ok (.if_icmp .le 11, 3) := by decide +kernel
theorem dX0_mostKept_71 : decode cX0_mostKept 71 = .ok (.iload 9, 2) := by decide +kernel
theorem dX0_mostKept_73 : decode cX0_mostKept 73 = .ok (.istore 7, 2) := by decide +kernel
theorem dX0_mostKept_75 : decode cX0_mostKept 75 = .ok (.iload 8, 2) := by decide +kernel
theorem dX0_mostKept_77 : decode cX0_mostKept 77 = .ok (.istore 6, 2) := by decide +kernel
theorem dX0_mostKept_79 : decode cX0_mostKept 79 = .ok (.iinc 8 1, 3) := by decide +kernel
theorem dX0_mostKept_82 : decode cX0_mostKept 82 = .ok (.goto (-45), 3) := by decide +kernel
theorem dX0_mostKept_85 : decode cX0_mostKept 85 = .ok (.iload 6, 2) := by decide +kernel
theorem dX0_mostKept_87 : decode cX0_mostKept 87 = .ok (.ireturn, 1) := by decide +kernel
theorem dX0_cuts_0 : decode cX0_cuts 0 = .ok (.iload_n 1, 1) := by decide +kernel
theorem dX0_cuts_1 : decode cX0_cuts 1 = .ok (.iconst 0, 1) := by decide +kernel
theorem dX0_cuts_2 : decode cX0_cuts 2 = .ok (.bipush 47, 2) := by decide +kernel
theorem dX0_cuts_4 : decode cX0_cuts 4 = .ok (.invokestatic 28, 3) := by decide +kernel
theorem dX0_cuts_7 : decode cX0_cuts 7 = .ok (.iload_n 2, 1) := by decide +kernel
theorem dX0_cuts_8 : decode cX0_cuts 8 = .ok (.iconst 0, 1) := by decide +kernel
theorem dX0_cuts_9 : decode cX0_cuts 9 = .ok (.bipush 47, 2) := by decide +kernel
theorem dX0_cuts_11 : decode cX0_cuts 11 = .ok (.invokestatic 28, 3) := by decide +kernel
theorem dX0_cuts_14 : decode cX0_cuts 14 = .ok (.aload_n 0, 1) := by decide +kernel
theorem dX0_cuts_15 : decode cX0_cuts 15 = .ok (.getfield 13, 3) := by decide +kernel
theorem dX0_cuts_18 : decode cX0_cuts 18 = .ok (.iload_n 1, 1) := by decide +kernel
theorem dX0_cuts_19 : decode cX0_cuts 19 = .ok (.invokestatic 54, 3) := by decide +kernel
theorem dX0_cuts_22 : decode cX0_cuts 22 = .ok (.lstore_n 3, 1) := by decide +kernel
theorem dX0_cuts_23 : decode cX0_cuts 23 = .ok (.aload_n 0, 1) := by decide +kernel
theorem dX0_cuts_24 : decode cX0_cuts 24 = .ok (.getfield 17, 3) := by decide +kernel
theorem dX0_cuts_27 : decode cX0_cuts 27 = .ok (.iload_n 2, 1) := by decide +kernel
theorem dX0_cuts_28 : decode cX0_cuts 28 = .ok (.invokestatic 54, 3) := by decide +kernel
theorem dX0_cuts_31 : decode cX0_cuts 31 = .ok (.lstore 5, 2) := by decide +kernel
theorem dX0_cuts_33 : decode cX0_cuts 33 = .ok (.iconst 0, 1) := by decide +kernel
theorem dX0_cuts_34 : decode cX0_cuts 34 = .ok (.istore 7, 2) := by decide +kernel
theorem dX0_cuts_36 : decode cX0_cuts 36 = .ok (.iconst 0, 1) := by decide +kernel
theorem dX0_cuts_37 : decode cX0_cuts 37 = .ok (.istore 8, 2) := by decide +kernel
theorem dX0_cuts_39 : decode cX0_cuts 39 = .ok (.iload 8, 2) := by decide +kernel
theorem dX0_cuts_41 : decode cX0_cuts 41 = .ok (.bipush 12, 2) := by decide +kernel
theorem dX0_cuts_43 : decode cX0_cuts 43 = .ok (.if_icmp .gt 43, 3) := by decide +kernel
theorem dX0_cuts_46 : decode cX0_cuts 46 = .ok (.lload_n 3, 1) := by decide +kernel
theorem dX0_cuts_47 : decode cX0_cuts 47 = .ok (.iconst 0, 1) := by decide +kernel
theorem dX0_cuts_48 : decode cX0_cuts 48 = .ok (.iload 8, 2) := by decide +kernel
theorem dX0_cuts_50 : decode cX0_cuts 50 = .ok (.invokestatic 77, 3) := by decide +kernel
theorem dX0_cuts_53 : decode cX0_cuts 53 = .ok (.lload 5, 2) := by decide +kernel
theorem dX0_cuts_55 : decode cX0_cuts 55 = .ok (.iconst 0, 1) := by decide +kernel
theorem dX0_cuts_56 : decode cX0_cuts 56 = .ok (.bipush 12, 2) := by decide +kernel
theorem dX0_cuts_58 : decode cX0_cuts 58 = .ok (.iload 8, 2) := by decide +kernel
theorem dX0_cuts_60 : decode cX0_cuts 60 = .ok (.isub, 1) := by decide +kernel
theorem dX0_cuts_61 : decode cX0_cuts 61 = .ok (.invokestatic 77, 3) := by decide +kernel
theorem dX0_cuts_64 : decode cX0_cuts 64 = .ok (.ior, 1) := by decide +kernel
theorem dX0_cuts_65 : decode cX0_cuts 65 = .ok (.sipush 4095, 3) := by decide +kernel
theorem dX0_cuts_68 : decode cX0_cuts 68 = .ok (.if_icmp .ne 12, 3) := by decide +kernel
theorem dX0_cuts_71 : decode cX0_cuts 71 = .ok (.iload 7, 2) := by decide +kernel
theorem dX0_cuts_73 : decode cX0_cuts 73 = .ok (.iconst 1, 1) := by decide +kernel
theorem dX0_cuts_74 : decode cX0_cuts 74 = .ok (.iload 8, 2) := by decide +kernel
theorem dX0_cuts_76 : decode cX0_cuts 76 = .ok (.ishl, 1) := by decide +kernel
theorem dX0_cuts_77 : decode cX0_cuts 77 = .ok (.ior, 1) := by decide +kernel
theorem dX0_cuts_78 : decode cX0_cuts 78 = .ok (.istore 7, 2) := by decide +kernel
theorem dX0_cuts_80 : decode cX0_cuts 80 = .ok (.iinc 8 1, 3) := by decide +kernel
theorem dX0_cuts_83 : decode cX0_cuts 83 = .ok (.goto (-44), 3) := by decide +kernel
theorem dX0_cuts_86 : decode cX0_cuts 86 = .ok (.iload 7, 2) := by decide +kernel
theorem dX0_cuts_88 : decode cX0_cuts 88 = .ok (.ireturn, 1) := by decide +kernel
theorem dX0_write_0 : decode cX0_write 0 = .ok (.iload_n 1, 1) := by decide +kernel
theorem dX0_write_1 : decode cX0_write 1 = .ok (.iconst 0, 1) := by decide +kernel
theorem dX0_write_2 : decode cX0_write 2 = .ok (.bipush 11, 2) := by decide +kernel
theorem dX0_write_4 : decode cX0_write 4 = .ok (.invokestatic 28, 3) := by decide +kernel
theorem dX0_write_7 : decode cX0_write 7 = .ok (.aload_n 0, 1) := by decide +kernel
theorem dX0_write_8 : decode cX0_write 8 = .ok (.iload_n 1, 1) := by decide +kernel
theorem dX0_write_9 : decode cX0_write 9 = .ok (.invokevirtual 103, 3) := by decide +kernel
theorem dX0_write_12 : decode cX0_write 12 = .ok (.ifCond .eq 13, 3) := by decide +kernel
theorem dX0_write_15 : decode cX0_write 15 = .ok (.new 107, 3) := by decide +kernel
theorem dX0_write_18 : decode cX0_write 18 = .ok (.dup, 1) := by decide +kernel
theorem dX0_write_19 : decode cX0_write 19 = .ok (.ldc 109, 2) := by decide +kernel
theorem dX0_write_21 : decode cX0_write 21 = .ok (.invokespecial 111, 3) := by decide +kernel
theorem dX0_write_24 : decode cX0_write 24 = .ok (.athrow, 1) := by decide +kernel
theorem dX0_write_25 : decode cX0_write 25 = .ok (.aload_n 0, 1) := by decide +kernel
theorem dX0_write_26 : decode cX0_write 26 = .ok (.aload_n 0, 1) := by decide +kernel
theorem dX0_write_27 : decode cX0_write 27 = .ok (.getfield 114, 3) := by decide +kernel
theorem dX0_write_30 : decode cX0_write 30 = .ok (.aload_n 0, 1) := by decide +kernel
theorem dX0_write_31 : decode cX0_write 31 = .ok (.getfield 117, 3) := by decide +kernel
theorem dX0_write_34 : decode cX0_write 34 = .ok (.iload_n 1, 1) := by decide +kernel
theorem dX0_write_35 : decode cX0_write 35 = .ok (.invokestatic 9, 3) := by decide +kernel
theorem dX0_write_38 : decode cX0_write 38 = .ok (.putfield 114, 3) := by decide +kernel
theorem dX0_write_41 : decode cX0_write 41 = .ok (.aload_n 0, 1) := by decide +kernel
theorem dX0_write_42 : decode cX0_write 42 = .ok (.dup, 1) := by decide +kernel
theorem dX0_write_43 : decode cX0_write 43 = .ok (.getfield 117, 3) := by decide +kernel
theorem dX0_write_46 : decode cX0_write 46 = .ok (.iconst 1, 1) := by decide +kernel
theorem dX0_write_47 : decode cX0_write 47 = .ok (.iadd, 1) := by decide +kernel
theorem dX0_write_48 : decode cX0_write 48 = .ok (.putfield 117, 3) := by decide +kernel
theorem dX0_write_51 : decode cX0_write 51 = .ok (.aload_n 0, 1) := by decide +kernel
theorem dX0_write_52 : decode cX0_write 52 = .ok (.getfield 117, 3) := by decide +kernel
theorem dX0_write_55 : decode cX0_write 55 = .ok (.ireturn, 1) := by decide +kernel
theorem dX0_erase_0 : decode cX0_erase 0 = .ok (.aload_n 0, 1) := by decide +kernel
theorem dX0_erase_1 : decode cX0_erase 1 = .ok (.getfield 117, 3) := by decide +kernel
theorem dX0_erase_4 : decode cX0_erase 4 = .ok (.istore_n 1, 1) := by decide +kernel
theorem dX0_erase_5 : decode cX0_erase 5 = .ok (.aload_n 0, 1) := by decide +kernel
theorem dX0_erase_6 : decode cX0_erase 6 = .ok (.lconst 0, 1) := by decide +kernel
theorem dX0_erase_7 : decode cX0_erase 7 = .ok (.putfield 114, 3) := by decide +kernel
theorem dX0_erase_10 : decode cX0_erase 10 = .ok (.aload_n 0, 1) := by decide +kernel
theorem dX0_erase_11 : decode cX0_erase 11 = .ok (.iconst 0, 1) := by decide +kernel
theorem dX0_erase_12 : decode cX0_erase 12 = .ok (.putfield 117, 3) := by decide +kernel
theorem dX0_erase_15 : decode cX0_erase 15 = .ok (.iload_n 1, 1) := by decide +kernel
theorem dX0_erase_16 : decode cX0_erase 16 = .ok (.ireturn, 1) := by decide +kernel
theorem dX0_formsWithPhrase_0 : decode cX0_formsWithPhrase 0 = .ok (.iload_n 1, 1) := by decide +kernel
theorem dX0_formsWithPhrase_1 : decode cX0_formsWithPhrase 1 = .ok (.invokestatic 20, 3) := by decide +kernel
theorem dX0_formsWithPhrase_4 : decode cX0_formsWithPhrase 4 = .ok (.aload_n 0, 1) := by decide +kernel
theorem dX0_formsWithPhrase_5 : decode cX0_formsWithPhrase 5 = .ok (.getfield 117, 3) := by decide +kernel
theorem dX0_formsWithPhrase_8 : decode cX0_formsWithPhrase 8 = .ok (.ifCond .ne 7, 3) := by decide +kernel
theorem dX0_formsWithPhrase_11 : decode cX0_formsWithPhrase 11 = .ok (.ldc2_w 121, 3) := by decide +kernel
theorem dX0_formsWithPhrase_14 : decode cX0_formsWithPhrase 14 = .ok (.lreturn, 1) := by decide +kernel
theorem dX0_formsWithPhrase_15 : decode cX0_formsWithPhrase 15 = .ok (.aload_n 0, 1) := by decide +kernel
theorem dX0_formsWithPhrase_16 : decode cX0_formsWithPhrase 16 = .ok (.iload_n 1, 1) := by decide +kernel
theorem dX0_formsWithPhrase_17 : decode cX0_formsWithPhrase 17 = .ok (.invokevirtual 32, 3) := by decide +kernel
theorem dX0_formsWithPhrase_20 : decode cX0_formsWithPhrase 20 = .ok (.lstore_n 2, 1) := by decide +kernel
theorem dX0_formsWithPhrase_21 : decode cX0_formsWithPhrase 21 = .ok (.lconst 0, 1) := by decide +kernel
theorem dX0_formsWithPhrase_22 : decode cX0_formsWithPhrase 22 = .ok (.lstore 4, 2) := by decide +kernel
theorem dX0_formsWithPhrase_24 : decode cX0_formsWithPhrase 24 = .ok (.iconst 0, 1) := by decide +kernel
theorem dX0_formsWithPhrase_25 : decode cX0_formsWithPhrase 25 = .ok (.istore 6, 2) := by decide +kernel
theorem dX0_formsWithPhrase_27 : decode cX0_formsWithPhrase 27 = .ok (.iload 6, 2) := by decide +kernel
theorem dX0_formsWithPhrase_29 : decode cX0_formsWithPhrase 29 = .ok (.bipush 48, 2) := by decide +kernel
theorem dX0_formsWithPhrase_31 : decode cX0_formsWithPhrase 31 = .ok (.if_icmp .ge 32, 3) := by decide +kernel
theorem dX0_formsWithPhrase_34 : decode cX0_formsWithPhrase 34 = .ok (.aload_n 0, 1) := by decide +kernel
theorem dX0_formsWithPhrase_35 : decode cX0_formsWithPhrase 35 = .ok (.lload_n 2, 1) := by decide +kernel
theorem dX0_formsWithPhrase_36 : decode cX0_formsWithPhrase 36 = .ok (.iload 6, 2) := by decide +kernel
theorem dX0_formsWithPhrase_38 : decode cX0_formsWithPhrase 38 = .ok (.invokestatic 54, 3) := by decide +kernel
theorem dX0_formsWithPhrase_41 : decode cX0_formsWithPhrase 41 = .ok (.invokevirtual 123, 3) := by decide +kernel
theorem dX0_formsWithPhrase_44 : decode cX0_formsWithPhrase 44 = .ok (.iconst (-1), 1) := by decide +kernel
theorem dX0_formsWithPhrase_45 : decode cX0_formsWithPhrase 45 = .ok (.if_icmp .eq 12, 3) := by decide +kernel
theorem dX0_formsWithPhrase_48 : decode cX0_formsWithPhrase 48 = .ok (.lload 4, 2) := by decide +kernel
theorem dX0_formsWithPhrase_50 : decode cX0_formsWithPhrase 50 = .ok (.lconst 1, 1) := by decide +kernel
theorem dX0_formsWithPhrase_51 : decode cX0_formsWithPhrase 51 = .ok (.iload 6, 2) := by decide +kernel
theorem dX0_formsWithPhrase_53 : decode cX0_formsWithPhrase 53 = .ok (.lshl, 1) := by decide +kernel
theorem dX0_formsWithPhrase_54 : decode cX0_formsWithPhrase 54 = .ok (.lor, 1) := by decide +kernel
theorem dX0_formsWithPhrase_55 : decode cX0_formsWithPhrase 55 = .ok (.lstore 4, 2) := by decide +kernel
theorem dX0_formsWithPhrase_57 : decode cX0_formsWithPhrase 57 = .ok (.iinc 6 1, 3) := by decide +kernel
theorem dX0_formsWithPhrase_60 : decode cX0_formsWithPhrase 60 = .ok (.goto (-33), 3) := by decide +kernel
theorem dX0_formsWithPhrase_63 : decode cX0_formsWithPhrase 63 = .ok (.lload 4, 2) := by decide +kernel
theorem dX0_formsWithPhrase_65 : decode cX0_formsWithPhrase 65 = .ok (.lreturn, 1) := by decide +kernel
theorem dX0_placeOfPhrase_0 : decode cX0_placeOfPhrase 0 = .ok (.iload_n 1, 1) := by decide +kernel
theorem dX0_placeOfPhrase_1 : decode cX0_placeOfPhrase 1 = .ok (.invokestatic 20, 3) := by decide +kernel
theorem dX0_placeOfPhrase_4 : decode cX0_placeOfPhrase 4 = .ok (.iload_n 2, 1) := by decide +kernel
theorem dX0_placeOfPhrase_5 : decode cX0_placeOfPhrase 5 = .ok (.iconst 0, 1) := by decide +kernel
theorem dX0_placeOfPhrase_6 : decode cX0_placeOfPhrase 6 = .ok (.bipush 47, 2) := by decide +kernel
theorem dX0_placeOfPhrase_8 : decode cX0_placeOfPhrase 8 = .ok (.invokestatic 28, 3) := by decide +kernel
theorem dX0_placeOfPhrase_11 : decode cX0_placeOfPhrase 11 = .ok (.aload_n 0, 1) := by decide +kernel
theorem dX0_placeOfPhrase_12 : decode cX0_placeOfPhrase 12 = .ok (.getfield 117, 3) := by decide +kernel
theorem dX0_placeOfPhrase_15 : decode cX0_placeOfPhrase 15 = .ok (.ifCond .ne 7, 3) := by decide +kernel
theorem dX0_placeOfPhrase_18 : decode cX0_placeOfPhrase 18 = .ok (.iconst (-1), 1) := by decide +kernel
theorem dX0_placeOfPhrase_19 : decode cX0_placeOfPhrase 19 = .ok (.goto 16, 3) := by decide +kernel
theorem dX0_placeOfPhrase_22 : decode cX0_placeOfPhrase 22 = .ok (.aload_n 0, 1) := by decide +kernel
theorem dX0_placeOfPhrase_23 : decode cX0_placeOfPhrase 23 = .ok (.aload_n 0, 1) := by decide +kernel
theorem dX0_placeOfPhrase_24 : decode cX0_placeOfPhrase 24 = .ok (.iload_n 1, 1) := by decide +kernel
theorem dX0_placeOfPhrase_25 : decode cX0_placeOfPhrase 25 = .ok (.invokevirtual 32, 3) := by decide +kernel
theorem dX0_placeOfPhrase_28 : decode cX0_placeOfPhrase 28 = .ok (.iload_n 2, 1) := by decide +kernel
theorem dX0_placeOfPhrase_29 : decode cX0_placeOfPhrase 29 = .ok (.invokestatic 54, 3) := by decide +kernel
theorem dX0_placeOfPhrase_32 : decode cX0_placeOfPhrase 32 = .ok (.invokevirtual 123, 3) := by decide +kernel
theorem dX0_placeOfPhrase_35 : decode cX0_placeOfPhrase 35 = .ok (.ireturn, 1) := by decide +kernel
theorem dX0_complete_0 : decode cX0_complete 0 = .ok (.iload_n 1, 1) := by decide +kernel
theorem dX0_complete_1 : decode cX0_complete 1 = .ok (.invokestatic 20, 3) := by decide +kernel
theorem dX0_complete_4 : decode cX0_complete 4 = .ok (.aload_n 0, 1) := by decide +kernel
theorem dX0_complete_5 : decode cX0_complete 5 = .ok (.iload_n 1, 1) := by decide +kernel
theorem dX0_complete_6 : decode cX0_complete 6 = .ok (.invokevirtual 32, 3) := by decide +kernel
theorem dX0_complete_9 : decode cX0_complete 9 = .ok (.lstore_n 2, 1) := by decide +kernel
theorem dX0_complete_10 : decode cX0_complete 10 = .ok (.aload_n 0, 1) := by decide +kernel
theorem dX0_complete_11 : decode cX0_complete 11 = .ok (.getfield 114, 3) := by decide +kernel
theorem dX0_complete_14 : decode cX0_complete 14 = .ok (.lstore 4, 2) := by decide +kernel
theorem dX0_complete_16 : decode cX0_complete 16 = .ok (.aload_n 0, 1) := by decide +kernel
theorem dX0_complete_17 : decode cX0_complete 17 = .ok (.getfield 117, 3) := by decide +kernel
theorem dX0_complete_20 : decode cX0_complete 20 = .ok (.istore 6, 2) := by decide +kernel
theorem dX0_complete_22 : decode cX0_complete 22 = .ok (.iconst 0, 1) := by decide +kernel
theorem dX0_complete_23 : decode cX0_complete 23 = .ok (.istore 7, 2) := by decide +kernel
theorem dX0_complete_25 : decode cX0_complete 25 = .ok (.iload 7, 2) := by decide +kernel
theorem dX0_complete_27 : decode cX0_complete 27 = .ok (.bipush 12, 2) := by decide +kernel
theorem dX0_complete_29 : decode cX0_complete 29 = .ok (.if_icmp .ge 40, 3) := by decide +kernel
theorem dX0_complete_32 : decode cX0_complete 32 = .ok (.lload_n 2, 1) := by decide +kernel
theorem dX0_complete_33 : decode cX0_complete 33 = .ok (.iload 7, 2) := by decide +kernel
theorem dX0_complete_35 : decode cX0_complete 35 = .ok (.invokestatic 36, 3) := by decide +kernel
theorem dX0_complete_38 : decode cX0_complete 38 = .ok (.istore 8, 2) := by decide +kernel
theorem dX0_complete_40 : decode cX0_complete 40 = .ok (.aload_n 0, 1) := by decide +kernel
theorem dX0_complete_41 : decode cX0_complete 41 = .ok (.iload 8, 2) := by decide +kernel
theorem dX0_complete_43 : decode cX0_complete 43 = .ok (.invokevirtual 103, 3) := by decide +kernel
theorem dX0_complete_46 : decode cX0_complete 46 = .ok (.ifCond .ne 17, 3) := by decide +kernel
theorem dX0_complete_49 : decode cX0_complete 49 = .ok (.lload 4, 2) := by decide +kernel
theorem dX0_complete_51 : decode cX0_complete 51 = .ok (.iload 6, 2) := by decide +kernel
theorem dX0_complete_53 : decode cX0_complete 53 = .ok (.iload 8, 2) := by decide +kernel
theorem dX0_complete_55 : decode cX0_complete 55 = .ok (.invokestatic 9, 3) := by decide +kernel
theorem dX0_complete_58 : decode cX0_complete 58 = .ok (.lstore 4, 2) := by decide +kernel
theorem dX0_complete_60 : decode cX0_complete 60 = .ok (.iinc 6 1, 3) := by decide +kernel
theorem dX0_complete_63 : decode cX0_complete 63 = .ok (.iinc 7 1, 3) := by decide +kernel
theorem dX0_complete_66 : decode cX0_complete 66 = .ok (.goto (-41), 3) := by decide +kernel
theorem dX0_complete_69 : decode cX0_complete 69 = .ok (.aload_n 0, 1) := by decide +kernel
theorem dX0_complete_70 : decode cX0_complete 70 = .ok (.iload_n 1, 1) := by decide +kernel
theorem dX0_complete_71 : decode cX0_complete 71 = .ok (.lload 4, 2) := by decide +kernel
theorem dX0_complete_73 : decode cX0_complete 73 = .ok (.invokevirtual 58, 3) := by decide +kernel
theorem dX0_complete_76 : decode cX0_complete 76 = .ok (.ireturn, 1) := by decide +kernel
theorem dX0_requireRow_0 : decode cX0_requireRow 0 = .ok (.iload_n 0, 1) := by decide +kernel
theorem dX0_requireRow_1 : decode cX0_requireRow 1 = .ok (.ifCond .eq 18, 3) := by decide +kernel
theorem dX0_requireRow_4 : decode cX0_requireRow 4 = .ok (.iload_n 0, 1) := by decide +kernel
theorem dX0_requireRow_5 : decode cX0_requireRow 5 = .ok (.iconst 1, 1) := by decide +kernel
theorem dX0_requireRow_6 : decode cX0_requireRow 6 = .ok (.if_icmp .eq 13, 3) := by decide +kernel
theorem dX0_requireRow_9 : decode cX0_requireRow 9 = .ok (.new 127, 3) := by decide +kernel
theorem dX0_requireRow_12 : decode cX0_requireRow 12 = .ok (.dup, 1) := by decide +kernel
theorem dX0_requireRow_13 : decode cX0_requireRow 13 = .ok (.ldc 129, 2) := by decide +kernel
theorem dX0_requireRow_15 : decode cX0_requireRow 15 = .ok (.invokespecial 131, 3) := by decide +kernel
theorem dX0_requireRow_18 : decode cX0_requireRow 18 = .ok (.athrow, 1) := by decide +kernel
theorem dX0_requireRow_19 : decode cX0_requireRow 19 = .ok (.return_, 1) := by decide +kernel
theorem dX0_requirePlace_0 : decode cX0_requirePlace 0 = .ok (.iload_n 0, 1) := by decide +kernel
theorem dX0_requirePlace_1 : decode cX0_requirePlace 1 = .ok (.ifCond .lt 8, 3) := by decide +kernel
theorem dX0_requirePlace_4 : decode cX0_requirePlace 4 = .ok (.iload_n 0, 1) := by decide +kernel
theorem dX0_requirePlace_5 : decode cX0_requirePlace 5 = .ok (.iload_n 1, 1) := by decide +kernel
theorem dX0_requirePlace_6 : decode cX0_requirePlace 6 = .ok (.if_icmp .le 13, 3) := by decide +kernel
theorem dX0_requirePlace_9 : decode cX0_requirePlace 9 = .ok (.new 127, 3) := by decide +kernel
theorem dX0_requirePlace_12 : decode cX0_requirePlace 12 = .ok (.dup, 1) := by decide +kernel
theorem dX0_requirePlace_13 : decode cX0_requirePlace 13 = .ok (.ldc 132, 2) := by decide +kernel
theorem dX0_requirePlace_15 : decode cX0_requirePlace 15 = .ok (.invokespecial 131, 3) := by decide +kernel
theorem dX0_requirePlace_18 : decode cX0_requirePlace 18 = .ok (.athrow, 1) := by decide +kernel
theorem dX0_requirePlace_19 : decode cX0_requirePlace 19 = .ok (.return_, 1) := by decide +kernel
theorem dX0_requireRange_0 : decode cX0_requireRange 0 = .ok (.iload_n 0, 1) := by decide +kernel
theorem dX0_requireRange_1 : decode cX0_requireRange 1 = .ok (.iload_n 1, 1) := by decide +kernel
theorem dX0_requireRange_2 : decode cX0_requireRange 2 = .ok (.if_icmp .lt 8, 3) := by decide +kernel
theorem dX0_requireRange_5 : decode cX0_requireRange 5 = .ok (.iload_n 0, 1) := by decide +kernel
theorem dX0_requireRange_6 : decode cX0_requireRange 6 = .ok (.iload_n 2, 1) := by decide +kernel
theorem dX0_requireRange_7 : decode cX0_requireRange 7 = .ok (.if_icmp .le 13, 3) := by decide +kernel
theorem dX0_requireRange_10 : decode cX0_requireRange 10 = .ok (.new 134, 3) := by decide +kernel
theorem dX0_requireRange_13 : decode cX0_requireRange 13 = .ok (.dup, 1) := by decide +kernel
theorem dX0_requireRange_14 : decode cX0_requireRange 14 = .ok (.ldc 136, 2) := by decide +kernel
theorem dX0_requireRange_16 : decode cX0_requireRange 16 = .ok (.invokespecial 138, 3) := by decide +kernel
theorem dX0_requireRange_19 : decode cX0_requireRange 19 = .ok (.athrow, 1) := by decide +kernel
theorem dX0_requireRange_20 : decode cX0_requireRange 20 = .ok (.return_, 1) := by decide +kernel
theorem dX0_requireForm_0 : decode cX0_requireForm 0 = .ok (.iload_n 0, 1) := by decide +kernel
theorem dX0_requireForm_1 : decode cX0_requireForm 1 = .ok (.iconst 0, 1) := by decide +kernel
theorem dX0_requireForm_2 : decode cX0_requireForm 2 = .ok (.iconst 3, 1) := by decide +kernel
theorem dX0_requireForm_3 : decode cX0_requireForm 3 = .ok (.invokestatic 28, 3) := by decide +kernel
theorem dX0_requireForm_6 : decode cX0_requireForm 6 = .ok (.iload_n 1, 1) := by decide +kernel
theorem dX0_requireForm_7 : decode cX0_requireForm 7 = .ok (.iconst 0, 1) := by decide +kernel
theorem dX0_requireForm_8 : decode cX0_requireForm 8 = .ok (.bipush 11, 2) := by decide +kernel
theorem dX0_requireForm_10 : decode cX0_requireForm 10 = .ok (.invokestatic 28, 3) := by decide +kernel
theorem dX0_requireForm_13 : decode cX0_requireForm 13 = .ok (.return_, 1) := by decide +kernel
theorem dX0_requireFactor_0 : decode cX0_requireFactor 0 = .ok (.iload_n 0, 1) := by decide +kernel
theorem dX0_requireFactor_1 : decode cX0_requireFactor 1 = .ok (.iconst 1, 1) := by decide +kernel
theorem dX0_requireFactor_2 : decode cX0_requireFactor 2 = .ok (.if_icmp .eq 30, 3) := by decide +kernel
theorem dX0_requireFactor_5 : decode cX0_requireFactor 5 = .ok (.iload_n 0, 1) := by decide +kernel
theorem dX0_requireFactor_6 : decode cX0_requireFactor 6 = .ok (.iconst 5, 1) := by decide +kernel
theorem dX0_requireFactor_7 : decode cX0_requireFactor 7 = .ok (.if_icmp .eq 25, 3) := by decide +kernel
theorem dX0_requireFactor_10 : decode cX0_requireFactor 10 = .ok (.iload_n 0, 1) := by decide +kernel
theorem dX0_requireFactor_11 : decode cX0_requireFactor 11 = .ok (.bipush 7, 2) := by decide +kernel
theorem dX0_requireFactor_13 : decode cX0_requireFactor 13 = .ok (.if_icmp .eq 19, 3) := by decide +kernel
theorem dX0_requireFactor_16 : decode cX0_requireFactor 16 = .ok (.iload_n 0, 1) := by decide +kernel
theorem dX0_requireFactor_17 : decode cX0_requireFactor 17 = .ok (.bipush 11, 2) := by decide +kernel
theorem dX0_requireFactor_19 : decode cX0_requireFactor 19 = .ok (.if_icmp .eq 13, 3) := by decide +kernel
theorem dX0_requireFactor_22 : decode cX0_requireFactor 22 = .ok (.new 134, 3) := by decide +kernel
theorem dX0_requireFactor_25 : decode cX0_requireFactor 25 = .ok (.dup, 1) := by decide +kernel
theorem dX0_requireFactor_26 : decode cX0_requireFactor 26 = .ok (.ldc 139, 2) := by decide +kernel
theorem dX0_requireFactor_28 : decode cX0_requireFactor 28 = .ok (.invokespecial 138, 3) := by decide +kernel
theorem dX0_requireFactor_31 : decode cX0_requireFactor 31 = .ok (.athrow, 1) := by decide +kernel
theorem dX0_requireFactor_32 : decode cX0_requireFactor 32 = .ok (.return_, 1) := by decide +kernel
theorem dX0_requireSize_0 : decode cX0_requireSize 0 = .ok (.iload_n 0, 1) := by decide +kernel
theorem dX0_requireSize_1 : decode cX0_requireSize 1 = .ok (.iconst 1, 1) := by decide +kernel
theorem dX0_requireSize_2 : decode cX0_requireSize 2 = .ok (.if_icmp .eq 40, 3) := by decide +kernel
theorem dX0_requireSize_5 : decode cX0_requireSize 5 = .ok (.iload_n 0, 1) := by decide +kernel
theorem dX0_requireSize_6 : decode cX0_requireSize 6 = .ok (.iconst 2, 1) := by decide +kernel
theorem dX0_requireSize_7 : decode cX0_requireSize 7 = .ok (.if_icmp .eq 35, 3) := by decide +kernel
theorem dX0_requireSize_10 : decode cX0_requireSize 10 = .ok (.iload_n 0, 1) := by decide +kernel
theorem dX0_requireSize_11 : decode cX0_requireSize 11 = .ok (.iconst 3, 1) := by decide +kernel
theorem dX0_requireSize_12 : decode cX0_requireSize 12 = .ok (.if_icmp .eq 30, 3) := by decide +kernel
theorem dX0_requireSize_15 : decode cX0_requireSize 15 = .ok (.iload_n 0, 1) := by decide +kernel
theorem dX0_requireSize_16 : decode cX0_requireSize 16 = .ok (.iconst 4, 1) := by decide +kernel
theorem dX0_requireSize_17 : decode cX0_requireSize 17 = .ok (.if_icmp .eq 25, 3) := by decide +kernel
theorem dX0_requireSize_20 : decode cX0_requireSize 20 = .ok (.iload_n 0, 1) := by decide +kernel
theorem dX0_requireSize_21 : decode cX0_requireSize 21 = .ok (.bipush 6, 2) := by decide +kernel
theorem dX0_requireSize_23 : decode cX0_requireSize 23 = .ok (.if_icmp .eq 19, 3) := by decide +kernel
theorem dX0_requireSize_26 : decode cX0_requireSize 26 = .ok (.iload_n 0, 1) := by decide +kernel
theorem dX0_requireSize_27 : decode cX0_requireSize 27 = .ok (.bipush 12, 2) := by decide +kernel
theorem dX0_requireSize_29 : decode cX0_requireSize 29 = .ok (.if_icmp .eq 13, 3) := by decide +kernel
theorem dX0_requireSize_32 : decode cX0_requireSize 32 = .ok (.new 134, 3) := by decide +kernel
theorem dX0_requireSize_35 : decode cX0_requireSize 35 = .ok (.dup, 1) := by decide +kernel
theorem dX0_requireSize_36 : decode cX0_requireSize 36 = .ok (.ldc 141, 2) := by decide +kernel
theorem dX0_requireSize_38 : decode cX0_requireSize 38 = .ok (.invokespecial 138, 3) := by decide +kernel
theorem dX0_requireSize_41 : decode cX0_requireSize 41 = .ok (.athrow, 1) := by decide +kernel
theorem dX0_requireSize_42 : decode cX0_requireSize 42 = .ok (.return_, 1) := by decide +kernel
theorem dX0_rowAt_0 : decode cX0_rowAt 0 = .ok (.iload_n 1, 1) := by decide +kernel
theorem dX0_rowAt_1 : decode cX0_rowAt 1 = .ok (.ifCond .ne 10, 3) := by decide +kernel
theorem dX0_rowAt_4 : decode cX0_rowAt 4 = .ok (.aload_n 0, 1) := by decide +kernel
theorem dX0_rowAt_5 : decode cX0_rowAt 5 = .ok (.getfield 13, 3) := by decide +kernel
theorem dX0_rowAt_8 : decode cX0_rowAt 8 = .ok (.goto 7, 3) := by decide +kernel
theorem dX0_rowAt_11 : decode cX0_rowAt 11 = .ok (.aload_n 0, 1) := by decide +kernel
theorem dX0_rowAt_12 : decode cX0_rowAt 12 = .ok (.getfield 17, 3) := by decide +kernel
theorem dX0_rowAt_15 : decode cX0_rowAt 15 = .ok (.lreturn, 1) := by decide +kernel
theorem dX0_setRow_0 : decode cX0_setRow 0 = .ok (.iload_n 1, 1) := by decide +kernel
theorem dX0_setRow_1 : decode cX0_setRow 1 = .ok (.ifCond .ne 11, 3) := by decide +kernel
theorem dX0_setRow_4 : decode cX0_setRow 4 = .ok (.aload_n 0, 1) := by decide +kernel
theorem dX0_setRow_5 : decode cX0_setRow 5 = .ok (.lload_n 2, 1) := by decide +kernel
theorem dX0_setRow_6 : decode cX0_setRow 6 = .ok (.putfield 13, 3) := by decide +kernel
theorem dX0_setRow_9 : decode cX0_setRow 9 = .ok (.goto 8, 3) := by decide +kernel
theorem dX0_setRow_12 : decode cX0_setRow 12 = .ok (.aload_n 0, 1) := by decide +kernel
theorem dX0_setRow_13 : decode cX0_setRow 13 = .ok (.lload_n 2, 1) := by decide +kernel
theorem dX0_setRow_14 : decode cX0_setRow 14 = .ok (.putfield 17, 3) := by decide +kernel
theorem dX0_setRow_17 : decode cX0_setRow 17 = .ok (.return_, 1) := by decide +kernel
theorem dX0_replaceRow_0 : decode cX0_replaceRow 0 = .ok (.aload_n 0, 1) := by decide +kernel
theorem dX0_replaceRow_1 : decode cX0_replaceRow 1 = .ok (.iload_n 1, 1) := by decide +kernel
theorem dX0_replaceRow_2 : decode cX0_replaceRow 2 = .ok (.lload_n 2, 1) := by decide +kernel
theorem dX0_replaceRow_3 : decode cX0_replaceRow 3 = .ok (.invokevirtual 43, 3) := by decide +kernel
theorem dX0_replaceRow_6 : decode cX0_replaceRow 6 = .ok (.lload_n 2, 1) := by decide +kernel
theorem dX0_replaceRow_7 : decode cX0_replaceRow 7 = .ok (.iconst 0, 1) := by decide +kernel
theorem dX0_replaceRow_8 : decode cX0_replaceRow 8 = .ok (.invokestatic 36, 3) := by decide +kernel
theorem dX0_replaceRow_11 : decode cX0_replaceRow 11 = .ok (.ireturn, 1) := by decide +kernel
theorem dX0_phraseHas_0 : decode cX0_phraseHas 0 = .ok (.aload_n 0, 1) := by decide +kernel
theorem dX0_phraseHas_1 : decode cX0_phraseHas 1 = .ok (.getfield 114, 3) := by decide +kernel
theorem dX0_phraseHas_4 : decode cX0_phraseHas 4 = .ok (.iconst 0, 1) := by decide +kernel
theorem dX0_phraseHas_5 : decode cX0_phraseHas 5 = .ok (.aload_n 0, 1) := by decide +kernel
theorem dX0_phraseHas_6 : decode cX0_phraseHas 6 = .ok (.getfield 117, 3) := by decide +kernel
theorem dX0_phraseHas_9 : decode cX0_phraseHas 9 = .ok (.invokestatic 77, 3) := by decide +kernel
theorem dX0_phraseHas_12 : decode cX0_phraseHas 12 = .ok (.iload_n 1, 1) := by decide +kernel
theorem dX0_phraseHas_13 : decode cX0_phraseHas 13 = .ok (.ishr, 1) := by decide +kernel
theorem dX0_phraseHas_14 : decode cX0_phraseHas 14 = .ok (.iconst 1, 1) := by decide +kernel
theorem dX0_phraseHas_15 : decode cX0_phraseHas 15 = .ok (.iand, 1) := by decide +kernel
theorem dX0_phraseHas_16 : decode cX0_phraseHas 16 = .ok (.ifCond .eq 7, 3) := by decide +kernel
theorem dX0_phraseHas_19 : decode cX0_phraseHas 19 = .ok (.iconst 1, 1) := by decide +kernel
theorem dX0_phraseHas_20 : decode cX0_phraseHas 20 = .ok (.goto 4, 3) := by decide +kernel
theorem dX0_phraseHas_23 : decode cX0_phraseHas 23 = .ok (.iconst 0, 1) := by decide +kernel
theorem dX0_phraseHas_24 : decode cX0_phraseHas 24 = .ok (.ireturn, 1) := by decide +kernel
theorem dX0_phraseBegin_0 : decode cX0_phraseBegin 0 = .ok (.lload_n 1, 1) := by decide +kernel
theorem dX0_phraseBegin_1 : decode cX0_phraseBegin 1 = .ok (.aload_n 0, 1) := by decide +kernel
theorem dX0_phraseBegin_2 : decode cX0_phraseBegin 2 = .ok (.getfield 114, 3) := by decide +kernel
theorem dX0_phraseBegin_5 : decode cX0_phraseBegin 5 = .ok (.iconst 0, 1) := by decide +kernel
theorem dX0_phraseBegin_6 : decode cX0_phraseBegin 6 = .ok (.invokestatic 36, 3) := by decide +kernel
theorem dX0_phraseBegin_9 : decode cX0_phraseBegin 9 = .ok (.invokestatic 40, 3) := by decide +kernel
theorem dX0_phraseBegin_12 : decode cX0_phraseBegin 12 = .ok (.istore_n 3, 1) := by decide +kernel
theorem dX0_phraseBegin_13 : decode cX0_phraseBegin 13 = .ok (.iload_n 3, 1) := by decide +kernel
theorem dX0_phraseBegin_14 : decode cX0_phraseBegin 14 = .ok (.aload_n 0, 1) := by decide +kernel
theorem dX0_phraseBegin_15 : decode cX0_phraseBegin 15 = .ok (.getfield 117, 3) := by decide +kernel
theorem dX0_phraseBegin_18 : decode cX0_phraseBegin 18 = .ok (.iadd, 1) := by decide +kernel
theorem dX0_phraseBegin_19 : decode cX0_phraseBegin 19 = .ok (.bipush 12, 2) := by decide +kernel
theorem dX0_phraseBegin_21 : decode cX0_phraseBegin 21 = .ok (.if_icmp .le 5, 3) := by decide +kernel
theorem dX0_phraseBegin_24 : decode cX0_phraseBegin 24 = .ok (.iconst (-1), 1) := by decide +kernel
theorem dX0_phraseBegin_25 : decode cX0_phraseBegin 25 = .ok (.ireturn, 1) := by decide +kernel
theorem dX0_phraseBegin_26 : decode cX0_phraseBegin 26 = .ok (.iconst 1, 1) := by decide +kernel
theorem dX0_phraseBegin_27 : decode cX0_phraseBegin 27 = .ok (.istore 4, 2) := by decide +kernel
theorem dX0_phraseBegin_29 : decode cX0_phraseBegin 29 = .ok (.iload 4, 2) := by decide +kernel
theorem dX0_phraseBegin_31 : decode cX0_phraseBegin 31 = .ok (.aload_n 0, 1) := by decide +kernel
theorem dX0_phraseBegin_32 : decode cX0_phraseBegin 32 = .ok (.getfield 117, 3) := by decide +kernel
theorem dX0_phraseBegin_35 : decode cX0_phraseBegin 35 = .ok (.if_icmp .ge 31, 3) := by decide +kernel
theorem dX0_phraseBegin_38 : decode cX0_phraseBegin 38 = .ok (.lload_n 1, 1) := by decide +kernel
theorem dX0_phraseBegin_39 : decode cX0_phraseBegin 39 = .ok (.iload_n 3, 1) := by decide +kernel
theorem dX0_phraseBegin_40 : decode cX0_phraseBegin 40 = .ok (.iload 4, 2) := by decide +kernel
theorem dX0_phraseBegin_42 : decode cX0_phraseBegin 42 = .ok (.iadd, 1) := by decide +kernel
theorem dX0_phraseBegin_43 : decode cX0_phraseBegin 43 = .ok (.invokestatic 36, 3) := by decide +kernel
theorem dX0_phraseBegin_46 : decode cX0_phraseBegin 46 = .ok (.aload_n 0, 1) := by decide +kernel
theorem dX0_phraseBegin_47 : decode cX0_phraseBegin 47 = .ok (.getfield 114, 3) := by decide +kernel
theorem dX0_phraseBegin_50 : decode cX0_phraseBegin 50 = .ok (.iload 4, 2) := by decide +kernel
theorem dX0_phraseBegin_52 : decode cX0_phraseBegin 52 = .ok (.invokestatic 36, 3) := by decide +kernel
theorem dX0_phraseBegin_55 : decode cX0_phraseBegin 55 = .ok (.if_icmp .eq 5, 3) := by decide +kernel
theorem dX0_phraseBegin_58 : decode cX0_phraseBegin 58 = .ok (.iconst (-1), 1) := by decide +kernel
theorem dX0_phraseBegin_59 : decode cX0_phraseBegin 59 = .ok (.ireturn, 1) := by decide +kernel
theorem dX0_phraseBegin_60 : decode cX0_phraseBegin 60 = .ok (.iinc 4 1, 3) := by decide +kernel
theorem dX0_phraseBegin_63 : decode cX0_phraseBegin 63 = .ok (.goto (-34), 3) := by decide +kernel
theorem dX0_phraseBegin_66 : decode cX0_phraseBegin 66 = .ok (.iload_n 3, 1) := by decide +kernel
theorem dX0_phraseBegin_67 : decode cX0_phraseBegin 67 = .ok (.ireturn, 1) := by decide +kernel
theorem dX0_entryAt_0 : decode cX0_entryAt 0 = .ok (.lload_n 0, 1) := by decide +kernel
theorem dX0_entryAt_1 : decode cX0_entryAt 1 = .ok (.iconst 4, 1) := by decide +kernel
theorem dX0_entryAt_2 : decode cX0_entryAt 2 = .ok (.iload_n 2, 1) := by decide +kernel
theorem dX0_entryAt_3 : decode cX0_entryAt 3 = .ok (.imul, 1) := by decide +kernel
theorem dX0_entryAt_4 : decode cX0_entryAt 4 = .ok (.lushr, 1) := by decide +kernel
theorem dX0_entryAt_5 : decode cX0_entryAt 5 = .ok (.ldc2_w 143, 3) := by decide +kernel
theorem dX0_entryAt_8 : decode cX0_entryAt 8 = .ok (.land, 1) := by decide +kernel
theorem dX0_entryAt_9 : decode cX0_entryAt 9 = .ok (.l2i, 1) := by decide +kernel
theorem dX0_entryAt_10 : decode cX0_entryAt 10 = .ok (.ireturn, 1) := by decide +kernel
theorem dX0_withEntry_0 : decode cX0_withEntry 0 = .ok (.iconst 4, 1) := by decide +kernel
theorem dX0_withEntry_1 : decode cX0_withEntry 1 = .ok (.iload_n 2, 1) := by decide +kernel
theorem dX0_withEntry_2 : decode cX0_withEntry 2 = .ok (.imul, 1) := by decide +kernel
theorem dX0_withEntry_3 : decode cX0_withEntry 3 = .ok (.istore 4, 2) := by decide +kernel
theorem dX0_withEntry_5 : decode cX0_withEntry 5 = .ok (.lload_n 0, 1) := by decide +kernel
theorem dX0_withEntry_6 : decode cX0_withEntry 6 = .ok (.ldc2_w 143, 3) := by decide +kernel
theorem dX0_withEntry_9 : decode cX0_withEntry 9 = .ok (.iload 4, 2) := by decide +kernel
theorem dX0_withEntry_11 : decode cX0_withEntry 11 = .ok (.lshl, 1) := by decide +kernel
theorem dX0_withEntry_12 : decode cX0_withEntry 12 = .ok (.ldc2_w 145, 3) := by decide +kernel
theorem dX0_withEntry_15 : decode cX0_withEntry 15 = .ok (.lxor, 1) := by decide +kernel
theorem dX0_withEntry_16 : decode cX0_withEntry 16 = .ok (.land, 1) := by decide +kernel
theorem dX0_withEntry_17 : decode cX0_withEntry 17 = .ok (.iload_n 3, 1) := by decide +kernel
theorem dX0_withEntry_18 : decode cX0_withEntry 18 = .ok (.i2l, 1) := by decide +kernel
theorem dX0_withEntry_19 : decode cX0_withEntry 19 = .ok (.iload 4, 2) := by decide +kernel
theorem dX0_withEntry_21 : decode cX0_withEntry 21 = .ok (.lshl, 1) := by decide +kernel
theorem dX0_withEntry_22 : decode cX0_withEntry 22 = .ok (.lor, 1) := by decide +kernel
theorem dX0_withEntry_23 : decode cX0_withEntry 23 = .ok (.lreturn, 1) := by decide +kernel
theorem dX0_wrap_0 : decode cX0_wrap 0 = .ok (.iload_n 0, 1) := by decide +kernel
theorem dX0_wrap_1 : decode cX0_wrap 1 = .ok (.bipush 12, 2) := by decide +kernel
theorem dX0_wrap_3 : decode cX0_wrap 3 = .ok (.invokestatic 147, 3) := by decide +kernel
theorem dX0_wrap_6 : decode cX0_wrap 6 = .ok (.ireturn, 1) := by decide +kernel
theorem dX0_intervalAt_0 : decode cX0_intervalAt 0 = .ok (.lload_n 0, 1) := by decide +kernel
theorem dX0_intervalAt_1 : decode cX0_intervalAt 1 = .ok (.iload_n 2, 1) := by decide +kernel
theorem dX0_intervalAt_2 : decode cX0_intervalAt 2 = .ok (.iconst 1, 1) := by decide +kernel
theorem dX0_intervalAt_3 : decode cX0_intervalAt 3 = .ok (.iadd, 1) := by decide +kernel
theorem dX0_intervalAt_4 : decode cX0_intervalAt 4 = .ok (.invokestatic 36, 3) := by decide +kernel
theorem dX0_intervalAt_7 : decode cX0_intervalAt 7 = .ok (.lload_n 0, 1) := by decide +kernel
theorem dX0_intervalAt_8 : decode cX0_intervalAt 8 = .ok (.iload_n 2, 1) := by decide +kernel
theorem dX0_intervalAt_9 : decode cX0_intervalAt 9 = .ok (.invokestatic 36, 3) := by decide +kernel
theorem dX0_intervalAt_12 : decode cX0_intervalAt 12 = .ok (.isub, 1) := by decide +kernel
theorem dX0_intervalAt_13 : decode cX0_intervalAt 13 = .ok (.invokestatic 65, 3) := by decide +kernel
theorem dX0_intervalAt_16 : decode cX0_intervalAt 16 = .ok (.ireturn, 1) := by decide +kernel
theorem dX0_placeIn_0 : decode cX0_placeIn 0 = .ok (.iconst 0, 1) := by decide +kernel
theorem dX0_placeIn_1 : decode cX0_placeIn 1 = .ok (.istore_n 3, 1) := by decide +kernel
theorem dX0_placeIn_2 : decode cX0_placeIn 2 = .ok (.iload_n 3, 1) := by decide +kernel
theorem dX0_placeIn_3 : decode cX0_placeIn 3 = .ok (.bipush 12, 2) := by decide +kernel
theorem dX0_placeIn_5 : decode cX0_placeIn 5 = .ok (.if_icmp .ge 20, 3) := by decide +kernel
theorem dX0_placeIn_8 : decode cX0_placeIn 8 = .ok (.lload_n 0, 1) := by decide +kernel
theorem dX0_placeIn_9 : decode cX0_placeIn 9 = .ok (.iload_n 3, 1) := by decide +kernel
theorem dX0_placeIn_10 : decode cX0_placeIn 10 = .ok (.invokestatic 36, 3) := by decide +kernel
theorem dX0_placeIn_13 : decode cX0_placeIn 13 = .ok (.iload_n 2, 1) := by decide +kernel
theorem dX0_placeIn_14 : decode cX0_placeIn 14 = .ok (.if_icmp .ne 5, 3) := by decide +kernel
theorem dX0_placeIn_17 : decode cX0_placeIn 17 = .ok (.iload_n 3, 1) := by decide +kernel
theorem dX0_placeIn_18 : decode cX0_placeIn 18 = .ok (.ireturn, 1) := by decide +kernel
theorem dX0_placeIn_19 : decode cX0_placeIn 19 = .ok (.iinc 3 1, 3) := by decide +kernel
theorem dX0_placeIn_22 : decode cX0_placeIn 22 = .ok (.goto (-20), 3) := by decide +kernel
theorem dX0_placeIn_25 : decode cX0_placeIn 25 = .ok (.iconst (-1), 1) := by decide +kernel
theorem dX0_placeIn_26 : decode cX0_placeIn 26 = .ok (.ireturn, 1) := by decide +kernel
theorem dX0_codeOf_0 : decode cX0_codeOf 0 = .ok (.bipush 12, 2) := by decide +kernel
theorem dX0_codeOf_2 : decode cX0_codeOf 2 = .ok (.iload_n 0, 1) := by decide +kernel
theorem dX0_codeOf_3 : decode cX0_codeOf 3 = .ok (.imul, 1) := by decide +kernel
theorem dX0_codeOf_4 : decode cX0_codeOf 4 = .ok (.iload_n 1, 1) := by decide +kernel
theorem dX0_codeOf_5 : decode cX0_codeOf 5 = .ok (.iadd, 1) := by decide +kernel
theorem dX0_codeOf_6 : decode cX0_codeOf 6 = .ok (.ireturn, 1) := by decide +kernel
theorem dX0_formWith_0 : decode cX0_formWith 0 = .ok (.iload_n 2, 1) := by decide +kernel
theorem dX0_formWith_1 : decode cX0_formWith 1 = .ok (.bipush 12, 2) := by decide +kernel
theorem dX0_formWith_3 : decode cX0_formWith 3 = .ok (.idiv, 1) := by decide +kernel
theorem dX0_formWith_4 : decode cX0_formWith 4 = .ok (.istore_n 3, 1) := by decide +kernel
theorem dX0_formWith_5 : decode cX0_formWith 5 = .ok (.iload_n 2, 1) := by decide +kernel
theorem dX0_formWith_6 : decode cX0_formWith 6 = .ok (.bipush 12, 2) := by decide +kernel
theorem dX0_formWith_8 : decode cX0_formWith 8 = .ok (.irem, 1) := by decide +kernel
theorem dX0_formWith_9 : decode cX0_formWith 9 = .ok (.istore 4, 2) := by decide +kernel
theorem dX0_formWith_11 : decode cX0_formWith 11 = .ok (.iload_n 3, 1) := by decide +kernel
theorem dX0_formWith_12 : decode cX0_formWith 12 = .ok (.iconst 1, 1) := by decide +kernel
theorem dX0_formWith_13 : decode cX0_formWith 13 = .ok (.if_icmp .eq 8, 3) := by decide +kernel
theorem dX0_formWith_16 : decode cX0_formWith 16 = .ok (.iload_n 3, 1) := by decide +kernel
theorem dX0_formWith_17 : decode cX0_formWith 17 = .ok (.iconst 3, 1) := by decide +kernel
theorem dX0_formWith_18 : decode cX0_formWith 18 = .ok (.if_icmp .ne 7, 3) := by decide +kernel
theorem dX0_formWith_21 : decode cX0_formWith 21 = .ok (.iconst 1, 1) := by decide +kernel
theorem dX0_formWith_22 : decode cX0_formWith 22 = .ok (.goto 4, 3) := by decide +kernel
theorem dX0_formWith_25 : decode cX0_formWith 25 = .ok (.iconst 0, 1) := by decide +kernel
theorem dX0_formWith_26 : decode cX0_formWith 26 = .ok (.istore 5, 2) := by decide +kernel
theorem dX0_formWith_28 : decode cX0_formWith 28 = .ok (.iload_n 3, 1) := by decide +kernel
theorem dX0_formWith_29 : decode cX0_formWith 29 = .ok (.iconst 2, 1) := by decide +kernel
theorem dX0_formWith_30 : decode cX0_formWith 30 = .ok (.if_icmp .eq 8, 3) := by decide +kernel
theorem dX0_formWith_33 : decode cX0_formWith 33 = .ok (.iload_n 3, 1) := by decide +kernel
theorem dX0_formWith_34 : decode cX0_formWith 34 = .ok (.iconst 3, 1) := by decide +kernel
theorem dX0_formWith_35 : decode cX0_formWith 35 = .ok (.if_icmp .ne 7, 3) := by decide +kernel
theorem dX0_formWith_38 : decode cX0_formWith 38 = .ok (.iconst 1, 1) := by decide +kernel
theorem dX0_formWith_39 : decode cX0_formWith 39 = .ok (.goto 4, 3) := by decide +kernel
theorem dX0_formWith_42 : decode cX0_formWith 42 = .ok (.iconst 0, 1) := by decide +kernel
theorem dX0_formWith_43 : decode cX0_formWith 43 = .ok (.istore 6, 2) := by decide +kernel
theorem dX0_formWith_45 : decode cX0_formWith 45 = .ok (.lload_n 0, 1) := by decide +kernel
theorem dX0_formWith_46 : decode cX0_formWith 46 = .ok (.iconst 0, 1) := by decide +kernel
theorem dX0_formWith_47 : decode cX0_formWith 47 = .ok (.invokestatic 36, 3) := by decide +kernel
theorem dX0_formWith_50 : decode cX0_formWith 50 = .ok (.istore 7, 2) := by decide +kernel
theorem dX0_formWith_52 : decode cX0_formWith 52 = .ok (.lconst 0, 1) := by decide +kernel
theorem dX0_formWith_53 : decode cX0_formWith 53 = .ok (.lstore 8, 2) := by decide +kernel
theorem dX0_formWith_55 : decode cX0_formWith 55 = .ok (.iconst 0, 1) := by decide +kernel
theorem dX0_formWith_56 : decode cX0_formWith 56 = .ok (.istore 10, 2) := by decide +kernel
theorem dX0_formWith_58 : decode cX0_formWith 58 = .ok (.iload 10, 2) := by decide +kernel
theorem dX0_formWith_60 : decode cX0_formWith 60 = .ok (.bipush 12, 2) := by decide +kernel
theorem dX0_formWith_62 : decode cX0_formWith 62 = .ok (.if_icmp .ge 67, 3) := by decide +kernel
theorem dX0_formWith_65 : decode cX0_formWith 65 = .ok (.lload_n 0, 1) := by decide +kernel
theorem dX0_formWith_66 : decode cX0_formWith 66 = .ok (.iload 10, 2) := by decide +kernel
theorem dX0_formWith_68 : decode cX0_formWith 68 = .ok (.invokestatic 36, 3) := by decide +kernel
theorem dX0_formWith_71 : decode cX0_formWith 71 = .ok (.iload 7, 2) := by decide +kernel
theorem dX0_formWith_73 : decode cX0_formWith 73 = .ok (.isub, 1) := by decide +kernel
theorem dX0_formWith_74 : decode cX0_formWith 74 = .ok (.istore 11, 2) := by decide +kernel
theorem dX0_formWith_76 : decode cX0_formWith 76 = .ok (.iload 5, 2) := by decide +kernel
theorem dX0_formWith_78 : decode cX0_formWith 78 = .ok (.ifCond .eq 11, 3) := by decide +kernel
theorem dX0_formWith_81 : decode cX0_formWith 81 = .ok (.iload 4, 2) := by decide +kernel
theorem dX0_formWith_83 : decode cX0_formWith 83 = .ok (.iload 11, 2) := by decide +kernel
theorem dX0_formWith_85 : decode cX0_formWith 85 = .ok (.isub, 1) := by decide +kernel
theorem dX0_formWith_86 : decode cX0_formWith 86 = .ok (.goto 8, 3) := by decide +kernel
theorem dX0_formWith_89 : decode cX0_formWith 89 = .ok (.iload 4, 2) := by decide +kernel
theorem dX0_formWith_91 : decode cX0_formWith 91 = .ok (.iload 11, 2) := by decide +kernel
theorem dX0_formWith_93 : decode cX0_formWith 93 = .ok (.iadd, 1) := by decide +kernel
theorem dX0_formWith_94 : decode cX0_formWith 94 = .ok (.invokestatic 65, 3) := by decide +kernel
theorem dX0_formWith_97 : decode cX0_formWith 97 = .ok (.istore 12, 2) := by decide +kernel
theorem dX0_formWith_99 : decode cX0_formWith 99 = .ok (.lload 8, 2) := by decide +kernel
theorem dX0_formWith_101 : decode cX0_formWith 101 = .ok (.iload 6, 2) := by decide +kernel
theorem dX0_formWith_103 : decode cX0_formWith 103 = .ok (.ifCond .eq 11, 3) := by decide +kernel
theorem dX0_formWith_106 : decode cX0_formWith 106 = .ok (.bipush 11, 2) := by decide +kernel
theorem dX0_formWith_108 : decode cX0_formWith 108 = .ok (.iload 10, 2) := by decide +kernel
theorem dX0_formWith_110 : decode cX0_formWith 110 = .ok (.isub, 1) := by decide +kernel
theorem dX0_formWith_111 : decode cX0_formWith 111 = .ok (.goto 5, 3) := by decide +kernel
theorem dX0_formWith_114 : decode cX0_formWith 114 = .ok (.iload 10, 2) := by decide +kernel
theorem dX0_formWith_116 : decode cX0_formWith 116 = .ok (.iload 12, 2) := by decide +kernel
theorem dX0_formWith_118 : decode cX0_formWith 118 = .ok (.invokestatic 9, 3) := by decide +kernel
theorem dX0_formWith_121 : decode cX0_formWith 121 = .ok (.lstore 8, 2) := by decide +kernel
theorem dX0_formWith_123 : decode cX0_formWith 123 = .ok (.iinc 10 1, 3) := by decide +kernel
theorem dX0_formWith_126 : decode cX0_formWith 126 = .ok (.goto (-68), 3) := by decide +kernel
theorem dX0_formWith_129 : decode cX0_formWith 129 = .ok (.lload 8, 2) := by decide +kernel
theorem dX0_formWith_131 : decode cX0_formWith 131 = .ok (.lreturn, 1) := by decide +kernel
theorem dX0_setOf_0 : decode cX0_setOf 0 = .ok (.iconst 0, 1) := by decide +kernel
theorem dX0_setOf_1 : decode cX0_setOf 1 = .ok (.istore 4, 2) := by decide +kernel
theorem dX0_setOf_3 : decode cX0_setOf 3 = .ok (.iconst 0, 1) := by decide +kernel
theorem dX0_setOf_4 : decode cX0_setOf 4 = .ok (.istore 5, 2) := by decide +kernel
theorem dX0_setOf_6 : decode cX0_setOf 6 = .ok (.iload 5, 2) := by decide +kernel
theorem dX0_setOf_8 : decode cX0_setOf 8 = .ok (.iload_n 3, 1) := by decide +kernel
theorem dX0_setOf_9 : decode cX0_setOf 9 = .ok (.if_icmp .ge 24, 3) := by decide +kernel
theorem dX0_setOf_12 : decode cX0_setOf 12 = .ok (.iload 4, 2) := by decide +kernel
theorem dX0_setOf_14 : decode cX0_setOf 14 = .ok (.iconst 1, 1) := by decide +kernel
theorem dX0_setOf_15 : decode cX0_setOf 15 = .ok (.lload_n 0, 1) := by decide +kernel
theorem dX0_setOf_16 : decode cX0_setOf 16 = .ok (.iload_n 2, 1) := by decide +kernel
theorem dX0_setOf_17 : decode cX0_setOf 17 = .ok (.iload 5, 2) := by decide +kernel
theorem dX0_setOf_19 : decode cX0_setOf 19 = .ok (.iadd, 1) := by decide +kernel
theorem dX0_setOf_20 : decode cX0_setOf 20 = .ok (.invokestatic 36, 3) := by decide +kernel
theorem dX0_setOf_23 : decode cX0_setOf 23 = .ok (.ishl, 1) := by decide +kernel
theorem dX0_setOf_24 : decode cX0_setOf 24 = .ok (.ior, 1) := by decide +kernel
theorem dX0_setOf_25 : decode cX0_setOf 25 = .ok (.istore 4, 2) := by decide +kernel
theorem dX0_setOf_27 : decode cX0_setOf 27 = .ok (.iinc 5 1, 3) := by decide +kernel
theorem dX0_setOf_30 : decode cX0_setOf 30 = .ok (.goto (-24), 3) := by decide +kernel
theorem dX0_setOf_33 : decode cX0_setOf 33 = .ok (.iload 4, 2) := by decide +kernel
theorem dX0_setOf_35 : decode cX0_setOf 35 = .ok (.ireturn, 1) := by decide +kernel
theorem dX0_transposed_0 : decode cX0_transposed 0 = .ok (.iload_n 0, 1) := by decide +kernel
theorem dX0_transposed_1 : decode cX0_transposed 1 = .ok (.iload_n 1, 1) := by decide +kernel
theorem dX0_transposed_2 : decode cX0_transposed 2 = .ok (.ishl, 1) := by decide +kernel
theorem dX0_transposed_3 : decode cX0_transposed 3 = .ok (.iload_n 0, 1) := by decide +kernel
theorem dX0_transposed_4 : decode cX0_transposed 4 = .ok (.bipush 12, 2) := by decide +kernel
theorem dX0_transposed_6 : decode cX0_transposed 6 = .ok (.iload_n 1, 1) := by decide +kernel
theorem dX0_transposed_7 : decode cX0_transposed 7 = .ok (.isub, 1) := by decide +kernel
theorem dX0_transposed_8 : decode cX0_transposed 8 = .ok (.iushr, 1) := by decide +kernel
theorem dX0_transposed_9 : decode cX0_transposed 9 = .ok (.ior, 1) := by decide +kernel
theorem dX0_transposed_10 : decode cX0_transposed 10 = .ok (.sipush 4095, 3) := by decide +kernel
theorem dX0_transposed_13 : decode cX0_transposed 13 = .ok (.iand, 1) := by decide +kernel
theorem dX0_transposed_14 : decode cX0_transposed 14 = .ok (.ireturn, 1) := by decide +kernel
theorem dX0_inverted_0 : decode cX0_inverted 0 = .ok (.iconst 0, 1) := by decide +kernel
theorem dX0_inverted_1 : decode cX0_inverted 1 = .ok (.istore_n 1, 1) := by decide +kernel
theorem dX0_inverted_2 : decode cX0_inverted 2 = .ok (.iconst 0, 1) := by decide +kernel
theorem dX0_inverted_3 : decode cX0_inverted 3 = .ok (.istore_n 2, 1) := by decide +kernel
theorem dX0_inverted_4 : decode cX0_inverted 4 = .ok (.iload_n 2, 1) := by decide +kernel
theorem dX0_inverted_5 : decode cX0_inverted 5 = .ok (.bipush 12, 2) := by decide +kernel
theorem dX0_inverted_7 : decode cX0_inverted 7 = .ok (.if_icmp .ge 23, 3) := by decide +kernel
theorem dX0_inverted_10 : decode cX0_inverted 10 = .ok (.iload_n 1, 1) := by decide +kernel
theorem dX0_inverted_11 : decode cX0_inverted 11 = .ok (.iload_n 0, 1) := by decide +kernel
theorem dX0_inverted_12 : decode cX0_inverted 12 = .ok (.iload_n 2, 1) := by decide +kernel
theorem dX0_inverted_13 : decode cX0_inverted 13 = .ok (.ishr, 1) := by decide +kernel
theorem dX0_inverted_14 : decode cX0_inverted 14 = .ok (.iconst 1, 1) := by decide +kernel
theorem dX0_inverted_15 : decode cX0_inverted 15 = .ok (.iand, 1) := by decide +kernel
theorem dX0_inverted_16 : decode cX0_inverted 16 = .ok (.iload_n 2, 1) := by decide +kernel
theorem dX0_inverted_17 : decode cX0_inverted 17 = .ok (.ineg, 1) := by decide +kernel
theorem dX0_inverted_18 : decode cX0_inverted 18 = .ok (.invokestatic 65, 3) := by decide +kernel
theorem dX0_inverted_21 : decode cX0_inverted 21 = .ok (.ishl, 1) := by decide +kernel
theorem dX0_inverted_22 : decode cX0_inverted 22 = .ok (.ior, 1) := by decide +kernel
theorem dX0_inverted_23 : decode cX0_inverted 23 = .ok (.istore_n 1, 1) := by decide +kernel
theorem dX0_inverted_24 : decode cX0_inverted 24 = .ok (.iinc 2 1, 3) := by decide +kernel
theorem dX0_inverted_27 : decode cX0_inverted 27 = .ok (.goto (-23), 3) := by decide +kernel
theorem dX0_inverted_30 : decode cX0_inverted 30 = .ok (.iload_n 1, 1) := by decide +kernel
theorem dX0_inverted_31 : decode cX0_inverted 31 = .ok (.ireturn, 1) := by decide +kernel
theorem dX0_leastLike_0 : decode cX0_leastLike 0 = .ok (.iload_n 0, 1) := by decide +kernel
theorem dX0_leastLike_1 : decode cX0_leastLike 1 = .ok (.invokestatic 150, 3) := by decide +kernel
theorem dX0_leastLike_4 : decode cX0_leastLike 4 = .ok (.istore_n 1, 1) := by decide +kernel
theorem dX0_leastLike_5 : decode cX0_leastLike 5 = .ok (.iload_n 0, 1) := by decide +kernel
theorem dX0_leastLike_6 : decode cX0_leastLike 6 = .ok (.istore_n 2, 1) := by decide +kernel
theorem dX0_leastLike_7 : decode cX0_leastLike 7 = .ok (.iconst 0, 1) := by decide +kernel
theorem dX0_leastLike_8 : decode cX0_leastLike 8 = .ok (.istore_n 3, 1) := by decide +kernel
theorem dX0_leastLike_9 : decode cX0_leastLike 9 = .ok (.iload_n 3, 1) := by decide +kernel
theorem dX0_leastLike_10 : decode cX0_leastLike 10 = .ok (.bipush 12, 2) := by decide +kernel
theorem dX0_leastLike_12 : decode cX0_leastLike 12 = .ok (.if_icmp .ge 27, 3) := by decide +kernel
theorem dX0_leastLike_15 : decode cX0_leastLike 15 = .ok (.iload_n 2, 1) := by decide +kernel
theorem dX0_leastLike_16 : decode cX0_leastLike 16 = .ok (.iload_n 0, 1) := by decide +kernel
theorem dX0_leastLike_17 : decode cX0_leastLike 17 = .ok (.iload_n 3, 1) := by decide +kernel
theorem dX0_leastLike_18 : decode cX0_leastLike 18 = .ok (.invokestatic 84, 3) := by decide +kernel
theorem dX0_leastLike_21 : decode cX0_leastLike 21 = .ok (.iload_n 1, 1) := by decide +kernel
theorem dX0_leastLike_22 : decode cX0_leastLike 22 = .ok (.iload_n 3, 1) := by decide +kernel
theorem dX0_leastLike_23 : decode cX0_leastLike 23 = .ok (.invokestatic 84, 3) := by decide +kernel
theorem dX0_leastLike_26 : decode cX0_leastLike 26 = .ok (.invokestatic 153, 3) := by decide +kernel
theorem dX0_leastLike_29 : decode cX0_leastLike 29 = .ok (.invokestatic 153, 3) := by decide +kernel
theorem dX0_leastLike_32 : decode cX0_leastLike 32 = .ok (.istore_n 2, 1) := by decide +kernel
theorem dX0_leastLike_33 : decode cX0_leastLike 33 = .ok (.iinc 3 1, 3) := by decide +kernel
theorem dX0_leastLike_36 : decode cX0_leastLike 36 = .ok (.goto (-27), 3) := by decide +kernel
theorem dX0_leastLike_39 : decode cX0_leastLike 39 = .ok (.iload_n 2, 1) := by decide +kernel
theorem dX0_leastLike_40 : decode cX0_leastLike 40 = .ok (.ireturn, 1) := by decide +kernel
theorem dX0_placesOf_0 : decode cX0_placesOf 0 = .ok (.lconst 0, 1) := by decide +kernel
theorem dX0_placesOf_1 : decode cX0_placesOf 1 = .ok (.lstore 4, 2) := by decide +kernel
theorem dX0_placesOf_3 : decode cX0_placesOf 3 = .ok (.iconst 0, 1) := by decide +kernel
theorem dX0_placesOf_4 : decode cX0_placesOf 4 = .ok (.istore 6, 2) := by decide +kernel
theorem dX0_placesOf_6 : decode cX0_placesOf 6 = .ok (.iload 6, 2) := by decide +kernel
theorem dX0_placesOf_8 : decode cX0_placesOf 8 = .ok (.bipush 12, 2) := by decide +kernel
theorem dX0_placesOf_10 : decode cX0_placesOf 10 = .ok (.if_icmp .ge 28, 3) := by decide +kernel
theorem dX0_placesOf_13 : decode cX0_placesOf 13 = .ok (.lload 4, 2) := by decide +kernel
theorem dX0_placesOf_15 : decode cX0_placesOf 15 = .ok (.iload 6, 2) := by decide +kernel
theorem dX0_placesOf_17 : decode cX0_placesOf 17 = .ok (.lload_n 2, 1) := by decide +kernel
theorem dX0_placesOf_18 : decode cX0_placesOf 18 = .ok (.lload_n 0, 1) := by decide +kernel
theorem dX0_placesOf_19 : decode cX0_placesOf 19 = .ok (.iload 6, 2) := by decide +kernel
theorem dX0_placesOf_21 : decode cX0_placesOf 21 = .ok (.invokestatic 36, 3) := by decide +kernel
theorem dX0_placesOf_24 : decode cX0_placesOf 24 = .ok (.invokestatic 40, 3) := by decide +kernel
theorem dX0_placesOf_27 : decode cX0_placesOf 27 = .ok (.invokestatic 9, 3) := by decide +kernel
theorem dX0_placesOf_30 : decode cX0_placesOf 30 = .ok (.lstore 4, 2) := by decide +kernel
theorem dX0_placesOf_32 : decode cX0_placesOf 32 = .ok (.iinc 6 1, 3) := by decide +kernel
theorem dX0_placesOf_35 : decode cX0_placesOf 35 = .ok (.goto (-29), 3) := by decide +kernel
theorem dX0_placesOf_38 : decode cX0_placesOf 38 = .ok (.lload 4, 2) := by decide +kernel
theorem dX0_placesOf_40 : decode cX0_placesOf 40 = .ok (.lreturn, 1) := by decide +kernel
theorem dX0_countKept_0 : decode cX0_countKept 0 = .ok (.lload_n 0, 1) := by decide +kernel
theorem dX0_countKept_1 : decode cX0_countKept 1 = .ok (.lload_n 2, 1) := by decide +kernel
theorem dX0_countKept_2 : decode cX0_countKept 2 = .ok (.invokestatic 94, 3) := by decide +kernel
theorem dX0_countKept_5 : decode cX0_countKept 5 = .ok (.lstore 5, 2) := by decide +kernel
theorem dX0_countKept_7 : decode cX0_countKept 7 = .ok (.iconst 0, 1) := by decide +kernel
theorem dX0_countKept_8 : decode cX0_countKept 8 = .ok (.istore 7, 2) := by decide +kernel
theorem dX0_countKept_10 : decode cX0_countKept 10 = .ok (.iconst 0, 1) := by decide +kernel
theorem dX0_countKept_11 : decode cX0_countKept 11 = .ok (.istore 8, 2) := by decide +kernel
theorem dX0_countKept_13 : decode cX0_countKept 13 = .ok (.iload 8, 2) := by decide +kernel
theorem dX0_countKept_15 : decode cX0_countKept 15 = .ok (.iload 4, 2) := by decide +kernel
theorem dX0_countKept_17 : decode cX0_countKept 17 = .ok (.iadd, 1) := by decide +kernel
theorem dX0_countKept_18 : decode cX0_countKept 18 = .ok (.bipush 12, 2) := by decide +kernel
theorem dX0_countKept_20 : decode cX0_countKept 20 = .ok (.if_icmp .gt 24, 3) := by decide +kernel
theorem dX0_countKept_23 : decode cX0_countKept 23 = .ok (.lload 5, 2) := by decide +kernel
theorem dX0_countKept_25 : decode cX0_countKept 25 = .ok (.iload 8, 2) := by decide +kernel
theorem dX0_countKept_27 : decode cX0_countKept 27 = .ok (.iload 4, 2) := by decide +kernel
theorem dX0_countKept_29 : decode cX0_countKept 29 = .ok (.invokestatic 156, 3) := by decide +kernel
theorem dX0_countKept_32 : decode cX0_countKept 32 = .ok (.ifCond .eq 6, 3) := by decide +kernel
theorem dX0_countKept_35 : decode cX0_countKept 35 = .ok (.iinc 7 1, 3) := by decide +kernel
theorem dX0_countKept_38 : decode cX0_countKept 38 = .ok (.iinc 8 1, 3) := by decide +kernel
theorem dX0_countKept_41 : decode cX0_countKept 41 = .ok (.goto (-28), 3) := by decide +kernel
theorem dX0_countKept_44 : decode cX0_countKept 44 = .ok (.iload 7, 2) := by decide +kernel
theorem dX0_countKept_46 : decode cX0_countKept 46 = .ok (.ireturn, 1) := by decide +kernel
theorem dX0_areNeighbours_0 : decode cX0_areNeighbours 0 = .ok (.bipush 12, 2) := by decide +kernel
theorem dX0_areNeighbours_2 : decode cX0_areNeighbours 2 = .ok (.istore 4, 2) := by decide +kernel
theorem dX0_areNeighbours_4 : decode cX0_areNeighbours 4 = .ok (.iconst (-1), 1) := by decide +kernel
theorem dX0_areNeighbours_5 : decode cX0_areNeighbours 5 = .ok (.istore 5, 2) := by decide +kernel
theorem dX0_areNeighbours_7 : decode cX0_areNeighbours 7 = .ok (.iload_n 2, 1) := by decide +kernel
theorem dX0_areNeighbours_8 : decode cX0_areNeighbours 8 = .ok (.istore 6, 2) := by decide +kernel
theorem dX0_areNeighbours_10 : decode cX0_areNeighbours 10 = .ok (.iload 6, 2) := by decide +kernel
theorem dX0_areNeighbours_12 : decode cX0_areNeighbours 12 = .ok (.iload_n 2, 1) := by decide +kernel
theorem dX0_areNeighbours_13 : decode cX0_areNeighbours 13 = .ok (.iload_n 3, 1) := by decide +kernel
theorem dX0_areNeighbours_14 : decode cX0_areNeighbours 14 = .ok (.iadd, 1) := by decide +kernel
theorem dX0_areNeighbours_15 : decode cX0_areNeighbours 15 = .ok (.if_icmp .ge 35, 3) := by decide +kernel
theorem dX0_areNeighbours_18 : decode cX0_areNeighbours 18 = .ok (.iload 4, 2) := by decide +kernel
theorem dX0_areNeighbours_20 : decode cX0_areNeighbours 20 = .ok (.lload_n 0, 1) := by decide +kernel
theorem dX0_areNeighbours_21 : decode cX0_areNeighbours 21 = .ok (.iload 6, 2) := by decide +kernel
theorem dX0_areNeighbours_23 : decode cX0_areNeighbours 23 = .ok (.invokestatic 36, 3) := by decide +kernel
theorem dX0_areNeighbours_26 : decode cX0_areNeighbours 26 = .ok (.invokestatic 153, 3) := by decide +kernel
theorem dX0_areNeighbours_29 : decode cX0_areNeighbours 29 = .ok (.istore 4, 2) := by decide +kernel
theorem dX0_areNeighbours_31 : decode cX0_areNeighbours 31 = .ok (.iload 5, 2) := by decide +kernel
theorem dX0_areNeighbours_33 : decode cX0_areNeighbours 33 = .ok (.lload_n 0, 1) := by decide +kernel
theorem dX0_areNeighbours_34 : decode cX0_areNeighbours 34 = .ok (.iload 6, 2) := by decide +kernel
theorem dX0_areNeighbours_36 : decode cX0_areNeighbours 36 = .ok (.invokestatic 36, 3) := by decide +kernel
theorem dX0_areNeighbours_39 : decode cX0_areNeighbours 39 = .ok (.invokestatic 98, 3) := by decide +kernel
theorem dX0_areNeighbours_42 : decode cX0_areNeighbours 42 = .ok (.istore 5, 2) := by decide +kernel
theorem dX0_areNeighbours_44 : decode cX0_areNeighbours 44 = .ok (.iinc 6 1, 3) := by decide +kernel
theorem dX0_areNeighbours_47 : decode cX0_areNeighbours 47 = .ok (.goto (-37), 3) := by decide +kernel
theorem dX0_areNeighbours_50 : decode cX0_areNeighbours 50 = .ok (.iload 5, 2) := by decide +kernel
theorem dX0_areNeighbours_52 : decode cX0_areNeighbours 52 = .ok (.iload 4, 2) := by decide +kernel
theorem dX0_areNeighbours_54 : decode cX0_areNeighbours 54 = .ok (.isub, 1) := by decide +kernel
theorem dX0_areNeighbours_55 : decode cX0_areNeighbours 55 = .ok (.iload_n 3, 1) := by decide +kernel
theorem dX0_areNeighbours_56 : decode cX0_areNeighbours 56 = .ok (.iconst 1, 1) := by decide +kernel
theorem dX0_areNeighbours_57 : decode cX0_areNeighbours 57 = .ok (.isub, 1) := by decide +kernel
theorem dX0_areNeighbours_58 : decode cX0_areNeighbours 58 = .ok (.if_icmp .ne 7, 3) := by decide +kernel
theorem dX0_areNeighbours_61 : decode cX0_areNeighbours 61 = .ok (.iconst 1, 1) := by decide +kernel
theorem dX0_areNeighbours_62 : decode cX0_areNeighbours 62 = .ok (.goto 4, 3) := by decide +kernel
theorem dX0_areNeighbours_65 : decode cX0_areNeighbours 65 = .ok (.iconst 0, 1) := by decide +kernel
theorem dX0_areNeighbours_66 : decode cX0_areNeighbours 66 = .ok (.ireturn, 1) := by decide +kernel
theorem dJ6_bitCount_0f7a4_0 : decode cJ6_bitCount_0f7a4 0 = .ok (.iload_n 0, 1) := by decide +kernel
theorem dJ6_bitCount_0f7a4_1 : decode cJ6_bitCount_0f7a4 1 = .ok (.iload_n 0, 1) := by decide +kernel
theorem dJ6_bitCount_0f7a4_2 : decode cJ6_bitCount_0f7a4 2 = .ok (.iconst 1, 1) := by decide +kernel
theorem dJ6_bitCount_0f7a4_3 : decode cJ6_bitCount_0f7a4 3 = .ok (.iushr, 1) := by decide +kernel
theorem dJ6_bitCount_0f7a4_4 : decode cJ6_bitCount_0f7a4 4 = .ok (.ldc_w 265, 3) := by decide +kernel
theorem dJ6_bitCount_0f7a4_7 : decode cJ6_bitCount_0f7a4 7 = .ok (.iand, 1) := by decide +kernel
theorem dJ6_bitCount_0f7a4_8 : decode cJ6_bitCount_0f7a4 8 = .ok (.isub, 1) := by decide +kernel
theorem dJ6_bitCount_0f7a4_9 : decode cJ6_bitCount_0f7a4 9 = .ok (.istore_n 0, 1) := by decide +kernel
theorem dJ6_bitCount_0f7a4_10 : decode cJ6_bitCount_0f7a4 10 = .ok (.iload_n 0, 1) := by decide +kernel
theorem dJ6_bitCount_0f7a4_11 : decode cJ6_bitCount_0f7a4 11 = .ok (.ldc_w 266, 3) := by decide +kernel
theorem dJ6_bitCount_0f7a4_14 : decode cJ6_bitCount_0f7a4 14 = .ok (.iand, 1) := by decide +kernel
theorem dJ6_bitCount_0f7a4_15 : decode cJ6_bitCount_0f7a4 15 = .ok (.iload_n 0, 1) := by decide +kernel
theorem dJ6_bitCount_0f7a4_16 : decode cJ6_bitCount_0f7a4 16 = .ok (.iconst 2, 1) := by decide +kernel
theorem dJ6_bitCount_0f7a4_17 : decode cJ6_bitCount_0f7a4 17 = .ok (.iushr, 1) := by decide +kernel
theorem dJ6_bitCount_0f7a4_18 : decode cJ6_bitCount_0f7a4 18 = .ok (.ldc_w 266, 3) := by decide +kernel
theorem dJ6_bitCount_0f7a4_21 : decode cJ6_bitCount_0f7a4 21 = .ok (.iand, 1) := by decide +kernel
theorem dJ6_bitCount_0f7a4_22 : decode cJ6_bitCount_0f7a4 22 = .ok (.iadd, 1) := by decide +kernel
theorem dJ6_bitCount_0f7a4_23 : decode cJ6_bitCount_0f7a4 23 = .ok (.istore_n 0, 1) := by decide +kernel
theorem dJ6_bitCount_0f7a4_24 : decode cJ6_bitCount_0f7a4 24 = .ok (.iload_n 0, 1) := by decide +kernel
theorem dJ6_bitCount_0f7a4_25 : decode cJ6_bitCount_0f7a4 25 = .ok (.iload_n 0, 1) := by decide +kernel
theorem dJ6_bitCount_0f7a4_26 : decode cJ6_bitCount_0f7a4 26 = .ok (.iconst 4, 1) := by decide +kernel
theorem dJ6_bitCount_0f7a4_27 : decode cJ6_bitCount_0f7a4 27 = .ok (.iushr, 1) := by decide +kernel
theorem dJ6_bitCount_0f7a4_28 : decode cJ6_bitCount_0f7a4 28 = .ok (.iadd, 1) := by decide +kernel
theorem dJ6_bitCount_0f7a4_29 : decode cJ6_bitCount_0f7a4 29 = .ok (.ldc_w 267, 3) := by decide +kernel
theorem dJ6_bitCount_0f7a4_32 : decode cJ6_bitCount_0f7a4 32 = .ok (.iand, 1) := by decide +kernel
theorem dJ6_bitCount_0f7a4_33 : decode cJ6_bitCount_0f7a4 33 = .ok (.istore_n 0, 1) := by decide +kernel
theorem dJ6_bitCount_0f7a4_34 : decode cJ6_bitCount_0f7a4 34 = .ok (.iload_n 0, 1) := by decide +kernel
theorem dJ6_bitCount_0f7a4_35 : decode cJ6_bitCount_0f7a4 35 = .ok (.iload_n 0, 1) := by decide +kernel
theorem dJ6_bitCount_0f7a4_36 : decode cJ6_bitCount_0f7a4 36 = .ok (.bipush 8, 2) := by decide +kernel
theorem dJ6_bitCount_0f7a4_38 : decode cJ6_bitCount_0f7a4 38 = .ok (.iushr, 1) := by decide +kernel
theorem dJ6_bitCount_0f7a4_39 : decode cJ6_bitCount_0f7a4 39 = .ok (.iadd, 1) := by decide +kernel
theorem dJ6_bitCount_0f7a4_40 : decode cJ6_bitCount_0f7a4 40 = .ok (.istore_n 0, 1) := by decide +kernel
theorem dJ6_bitCount_0f7a4_41 : decode cJ6_bitCount_0f7a4 41 = .ok (.iload_n 0, 1) := by decide +kernel
theorem dJ6_bitCount_0f7a4_42 : decode cJ6_bitCount_0f7a4 42 = .ok (.iload_n 0, 1) := by decide +kernel
theorem dJ6_bitCount_0f7a4_43 : decode cJ6_bitCount_0f7a4 43 = .ok (.bipush 16, 2) := by decide +kernel
theorem dJ6_bitCount_0f7a4_45 : decode cJ6_bitCount_0f7a4 45 = .ok (.iushr, 1) := by decide +kernel
theorem dJ6_bitCount_0f7a4_46 : decode cJ6_bitCount_0f7a4 46 = .ok (.iadd, 1) := by decide +kernel
theorem dJ6_bitCount_0f7a4_47 : decode cJ6_bitCount_0f7a4 47 = .ok (.istore_n 0, 1) := by decide +kernel
theorem dJ6_bitCount_0f7a4_48 : decode cJ6_bitCount_0f7a4 48 = .ok (.iload_n 0, 1) := by decide +kernel
theorem dJ6_bitCount_0f7a4_49 : decode cJ6_bitCount_0f7a4 49 = .ok (.bipush 63, 2) := by decide +kernel
theorem dJ6_bitCount_0f7a4_51 : decode cJ6_bitCount_0f7a4 51 = .ok (.iand, 1) := by decide +kernel
theorem dJ6_bitCount_0f7a4_52 : decode cJ6_bitCount_0f7a4 52 = .ok (.ireturn, 1) := by decide +kernel
theorem dJ9_floorMod_7cf53_0 : decode cJ9_floorMod_7cf53 0 = .ok (.iload_n 0, 1) := by decide +kernel
theorem dJ9_floorMod_7cf53_1 : decode cJ9_floorMod_7cf53 1 = .ok (.iload_n 1, 1) := by decide +kernel
theorem dJ9_floorMod_7cf53_2 : decode cJ9_floorMod_7cf53 2 = .ok (.irem, 1) := by decide +kernel
theorem dJ9_floorMod_7cf53_3 : decode cJ9_floorMod_7cf53 3 = .ok (.istore_n 2, 1) := by decide +kernel
theorem dJ9_floorMod_7cf53_4 : decode cJ9_floorMod_7cf53 4 = .ok (.iload_n 0, 1) := by decide +kernel
theorem dJ9_floorMod_7cf53_5 : decode cJ9_floorMod_7cf53 5 = .ok (.iload_n 1, 1) := by decide +kernel
theorem dJ9_floorMod_7cf53_6 : decode cJ9_floorMod_7cf53 6 = .ok (.ixor, 1) := by decide +kernel
theorem dJ9_floorMod_7cf53_7 : decode cJ9_floorMod_7cf53 7 = .ok (.ifCond .ge 11, 3) := by decide +kernel
theorem dJ9_floorMod_7cf53_10 : decode cJ9_floorMod_7cf53 10 = .ok (.iload_n 2, 1) := by decide +kernel
theorem dJ9_floorMod_7cf53_11 : decode cJ9_floorMod_7cf53 11 = .ok (.ifCond .eq 7, 3) := by decide +kernel
theorem dJ9_floorMod_7cf53_14 : decode cJ9_floorMod_7cf53 14 = .ok (.iload_n 2, 1) := by decide +kernel
theorem dJ9_floorMod_7cf53_15 : decode cJ9_floorMod_7cf53 15 = .ok (.iload_n 1, 1) := by decide +kernel
theorem dJ9_floorMod_7cf53_16 : decode cJ9_floorMod_7cf53 16 = .ok (.iadd, 1) := by decide +kernel
theorem dJ9_floorMod_7cf53_17 : decode cJ9_floorMod_7cf53 17 = .ok (.ireturn, 1) := by decide +kernel
theorem dJ9_floorMod_7cf53_18 : decode cJ9_floorMod_7cf53 18 = .ok (.iload_n 2, 1) := by decide +kernel
theorem dJ9_floorMod_7cf53_19 : decode cJ9_floorMod_7cf53 19 = .ok (.ireturn, 1) := by decide +kernel
theorem dJ9_max_7cf53_0 : decode cJ9_max_7cf53 0 = .ok (.iload_n 0, 1) := by decide +kernel
theorem dJ9_max_7cf53_1 : decode cJ9_max_7cf53 1 = .ok (.iload_n 1, 1) := by decide +kernel
theorem dJ9_max_7cf53_2 : decode cJ9_max_7cf53 2 = .ok (.if_icmp .lt 7, 3) := by decide +kernel
theorem dJ9_max_7cf53_5 : decode cJ9_max_7cf53 5 = .ok (.iload_n 0, 1) := by decide +kernel
theorem dJ9_max_7cf53_6 : decode cJ9_max_7cf53 6 = .ok (.goto 4, 3) := by decide +kernel
theorem dJ9_max_7cf53_9 : decode cJ9_max_7cf53 9 = .ok (.iload_n 1, 1) := by decide +kernel
theorem dJ9_max_7cf53_10 : decode cJ9_max_7cf53 10 = .ok (.ireturn, 1) := by decide +kernel
theorem dJ9_min_7cf53_0 : decode cJ9_min_7cf53 0 = .ok (.iload_n 0, 1) := by decide +kernel
theorem dJ9_min_7cf53_1 : decode cJ9_min_7cf53 1 = .ok (.iload_n 1, 1) := by decide +kernel
theorem dJ9_min_7cf53_2 : decode cJ9_min_7cf53 2 = .ok (.if_icmp .gt 7, 3) := by decide +kernel
theorem dJ9_min_7cf53_5 : decode cJ9_min_7cf53 5 = .ok (.iload_n 0, 1) := by decide +kernel
theorem dJ9_min_7cf53_6 : decode cJ9_min_7cf53 6 = .ok (.goto 4, 3) := by decide +kernel
theorem dJ9_min_7cf53_9 : decode cJ9_min_7cf53 9 = .ok (.iload_n 1, 1) := by decide +kernel
theorem dJ9_min_7cf53_10 : decode cJ9_min_7cf53 10 = .ok (.ireturn, 1) := by decide +kernel
