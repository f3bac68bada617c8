theorem dX1_init_0 : decode cX1_init 0 = .ok (.aload_n 0, 1) := by decide +kernel
theorem dX1_init_1 : decode cX1_init 1 = .ok (.invokespecial 1, 3) := by decide +kernel
theorem dX1_init_4 : decode cX1_init 4 = .ok (.aload_n 0, 1) := by decide +kernel
theorem dX1_init_5 : decode cX1_init 5 = .ok (.bipush 24, 2) := by decide +kernel
theorem dX1_init_7 : decode cX1_init 7 = .ok (.newarray .int, 2) := by decide +kernel
theorem dX1_init_9 : decode cX1_init 9 = .ok (.putfield 7, 3) := by decide +kernel
theorem dX1_init_12 : decode cX1_init 12 = .ok (.aload_n 0, 1) := by decide +kernel
theorem dX1_init_13 : decode cX1_init 13 = .ok (.bipush 12, 2) := by decide +kernel
theorem dX1_init_15 : decode cX1_init 15 = .ok (.newarray .int, 2) := by decide +kernel
theorem dX1_init_17 : decode cX1_init 17 = .ok (.putfield 13, 3) := by decide +kernel
theorem dX1_init_20 : decode cX1_init 20 = .ok (.aload_n 0, 1) := by decide +kernel
theorem dX1_init_21 : decode cX1_init 21 = .ok (.bipush 12, 2) := by decide +kernel
theorem dX1_init_23 : decode cX1_init 23 = .ok (.newarray .int, 2) := by decide +kernel
theorem dX1_init_25 : decode cX1_init 25 = .ok (.putfield 16, 3) := by decide +kernel
theorem dX1_init_28 : decode cX1_init 28 = .ok (.iconst 0, 1) := by decide +kernel
theorem dX1_init_29 : decode cX1_init 29 = .ok (.istore_n 1, 1) := by decide +kernel
theorem dX1_init_30 : decode cX1_init 30 = .ok (.iload_n 1, 1) := by decide +kernel
theorem dX1_init_31 : decode cX1_init 31 = .ok (.bipush 24, 2) := by decide +kernel
theorem dX1_init_33 : decode cX1_init 33 = .ok (.if_icmp .ge 19, 3) := by decide +kernel
theorem dX1_init_36 : decode cX1_init 36 = .ok (.aload_n 0, 1) := by decide +kernel
theorem dX1_init_37 : decode cX1_init 37 = .ok (.getfield 7, 3) := by decide +kernel
theorem dX1_init_40 : decode cX1_init 40 = .ok (.iload_n 1, 1) := by decide +kernel
theorem dX1_init_41 : decode cX1_init 41 = .ok (.iload_n 1, 1) := by decide +kernel
theorem dX1_init_42 : decode cX1_init 42 = .ok (.bipush 12, 2) := by decide +kernel
theorem dX1_init_44 : decode cX1_init 44 = .ok (.irem, 1) := by decide +kernel
theorem dX1_init_45 : decode cX1_init 45 = .ok (.iastore, 1) := by decide +kernel
theorem dX1_init_46 : decode cX1_init 46 = .ok (.iinc 1 1, 3) := by decide +kernel
theorem dX1_init_49 : decode cX1_init 49 = .ok (.goto (-19), 3) := by decide +kernel
theorem dX1_init_52 : decode cX1_init 52 = .ok (.return_, 1) := by decide +kernel
theorem dX1_thrown_0 : decode cX1_thrown 0 = .ok (.aload_n 0, 1) := by decide +kernel
theorem dX1_thrown_1 : decode cX1_thrown 1 = .ok (.getfield 19, 3) := by decide +kernel
theorem dX1_thrown_4 : decode cX1_thrown 4 = .ok (.ireturn, 1) := by decide +kernel
theorem dX1_goesWell_0 : decode cX1_goesWell 0 = .ok (.aload_n 0, 1) := by decide +kernel
theorem dX1_goesWell_1 : decode cX1_goesWell 1 = .ok (.iload_n 1, 1) := by decide +kernel
theorem dX1_goesWell_2 : decode cX1_goesWell 2 = .ok (.putfield 19, 3) := by decide +kernel
theorem dX1_goesWell_5 : decode cX1_goesWell 5 = .ok (.iload_n 1, 1) := by decide +kernel
theorem dX1_goesWell_6 : decode cX1_goesWell 6 = .ok (.ifCond .ne 7, 3) := by decide +kernel
theorem dX1_goesWell_9 : decode cX1_goesWell 9 = .ok (.iconst 1, 1) := by decide +kernel
theorem dX1_goesWell_10 : decode cX1_goesWell 10 = .ok (.goto 4, 3) := by decide +kernel
theorem dX1_goesWell_13 : decode cX1_goesWell 13 = .ok (.iconst 0, 1) := by decide +kernel
theorem dX1_goesWell_14 : decode cX1_goesWell 14 = .ok (.ireturn, 1) := by decide +kernel
theorem dX1_isRow_0 : decode cX1_isRow 0 = .ok (.iload_n 0, 1) := by decide +kernel
theorem dX1_isRow_1 : decode cX1_isRow 1 = .ok (.ifCond .eq 8, 3) := by decide +kernel
theorem dX1_isRow_4 : decode cX1_isRow 4 = .ok (.iload_n 0, 1) := by decide +kernel
theorem dX1_isRow_5 : decode cX1_isRow 5 = .ok (.iconst 1, 1) := by decide +kernel
theorem dX1_isRow_6 : decode cX1_isRow 6 = .ok (.if_icmp .ne 7, 3) := by decide +kernel
theorem dX1_isRow_9 : decode cX1_isRow 9 = .ok (.iconst 1, 1) := by decide +kernel
theorem dX1_isRow_10 : decode cX1_isRow 10 = .ok (.goto 4, 3) := by decide +kernel
theorem dX1_isRow_13 : decode cX1_isRow 13 = .ok (.iconst 0, 1) := by decide +kernel
theorem dX1_isRow_14 : decode cX1_isRow 14 = .ok (.ireturn, 1) := by decide +kernel
theorem dX1_in_0 : decode cX1_in 0 = .ok (.iload_n 0, 1) := by decide +kernel
theorem dX1_in_1 : decode cX1_in 1 = .ok (.iload_n 1, 1) := by decide +kernel
theorem dX1_in_2 : decode cX1_in 2 = .ok (.if_icmp .lt 12, 3) := by decide +kernel
theorem dX1_in_5 : decode cX1_in 5 = .ok (.iload_n 0, 1) := by decide +kernel
theorem dX1_in_6 : decode cX1_in 6 = .ok (.iload_n 2, 1) := by decide +kernel
theorem dX1_in_7 : decode cX1_in 7 = .ok (.if_icmp .gt 7, 3) := by decide +kernel
theorem dX1_in_10 : decode cX1_in 10 = .ok (.iconst 1, 1) := by decide +kernel
theorem dX1_in_11 : decode cX1_in 11 = .ok (.goto 4, 3) := by decide +kernel
theorem dX1_in_14 : decode cX1_in 14 = .ok (.iconst 0, 1) := by decide +kernel
theorem dX1_in_15 : decode cX1_in 15 = .ok (.ireturn, 1) := by decide +kernel
theorem dX1_isTone_0 : decode cX1_isTone 0 = .ok (.iload_n 0, 1) := by decide +kernel
theorem dX1_isTone_1 : decode cX1_isTone 1 = .ok (.iconst 0, 1) := by decide +kernel
theorem dX1_isTone_2 : decode cX1_isTone 2 = .ok (.bipush 11, 2) := by decide +kernel
theorem dX1_isTone_4 : decode cX1_isTone 4 = .ok (.invokestatic 23, 3) := by decide +kernel
theorem dX1_isTone_7 : decode cX1_isTone 7 = .ok (.ireturn, 1) := by decide +kernel
theorem dX1_isForm_0 : decode cX1_isForm 0 = .ok (.iload_n 0, 1) := by decide +kernel
theorem dX1_isForm_1 : decode cX1_isForm 1 = .ok (.iconst 0, 1) := by decide +kernel
theorem dX1_isForm_2 : decode cX1_isForm 2 = .ok (.iconst 3, 1) := by decide +kernel
theorem dX1_isForm_3 : decode cX1_isForm 3 = .ok (.invokestatic 23, 3) := by decide +kernel
theorem dX1_isForm_6 : decode cX1_isForm 6 = .ok (.ifCond .eq 14, 3) := by decide +kernel
theorem dX1_isForm_9 : decode cX1_isForm 9 = .ok (.iload_n 1, 1) := by decide +kernel
theorem dX1_isForm_10 : decode cX1_isForm 10 = .ok (.invokestatic 27, 3) := by decide +kernel
theorem dX1_isForm_13 : decode cX1_isForm 13 = .ok (.ifCond .eq 7, 3) := by decide +kernel
theorem dX1_isForm_16 : decode cX1_isForm 16 = .ok (.iconst 1, 1) := by decide +kernel
theorem dX1_isForm_17 : decode cX1_isForm 17 = .ok (.goto 4, 3) := by decide +kernel
theorem dX1_isForm_20 : decode cX1_isForm 20 = .ok (.iconst 0, 1) := by decide +kernel
theorem dX1_isForm_21 : decode cX1_isForm 21 = .ok (.ireturn, 1) := by decide +kernel
theorem dX1_modulo_0 : decode cX1_modulo 0 = .ok (.iload_n 0, 1) := by decide +kernel
theorem dX1_modulo_1 : decode cX1_modulo 1 = .ok (.bipush 12, 2) := by decide +kernel
theorem dX1_modulo_3 : decode cX1_modulo 3 = .ok (.irem, 1) := by decide +kernel
theorem dX1_modulo_4 : decode cX1_modulo 4 = .ok (.bipush 12, 2) := by decide +kernel
theorem dX1_modulo_6 : decode cX1_modulo 6 = .ok (.iadd, 1) := by decide +kernel
theorem dX1_modulo_7 : decode cX1_modulo 7 = .ok (.bipush 12, 2) := by decide +kernel
theorem dX1_modulo_9 : decode cX1_modulo 9 = .ok (.irem, 1) := by decide +kernel
theorem dX1_modulo_10 : decode cX1_modulo 10 = .ok (.ireturn, 1) := by decide +kernel
theorem dX1_at_0 : decode cX1_at 0 = .ok (.aload_n 0, 1) := by decide +kernel
theorem dX1_at_1 : decode cX1_at 1 = .ok (.getfield 7, 3) := by decide +kernel
theorem dX1_at_4 : decode cX1_at 4 = .ok (.bipush 12, 2) := by decide +kernel
theorem dX1_at_6 : decode cX1_at 6 = .ok (.iload_n 1, 1) := by decide +kernel
theorem dX1_at_7 : decode cX1_at 7 = .ok (.imul, 1) := by decide +kernel
theorem dX1_at_8 : decode cX1_at 8 = .ok (.iload_n 2, 1) := by decide +kernel
theorem dX1_at_9 : decode cX1_at 9 = .ok (.iadd, 1) := by decide +kernel
theorem dX1_at_10 : decode cX1_at 10 = .ok (.iaload, 1) := by decide +kernel
theorem dX1_at_11 : decode cX1_at 11 = .ok (.ireturn, 1) := by decide +kernel
theorem dX1_formAt_0 : decode cX1_formAt 0 = .ok (.iload_n 2, 1) := by decide +kernel
theorem dX1_formAt_1 : decode cX1_formAt 1 = .ok (.bipush 12, 2) := by decide +kernel
theorem dX1_formAt_3 : decode cX1_formAt 3 = .ok (.idiv, 1) := by decide +kernel
theorem dX1_formAt_4 : decode cX1_formAt 4 = .ok (.istore 4, 2) := by decide +kernel
theorem dX1_formAt_6 : decode cX1_formAt 6 = .ok (.iload 4, 2) := by decide +kernel
theorem dX1_formAt_8 : decode cX1_formAt 8 = .ok (.iconst 2, 1) := by decide +kernel
theorem dX1_formAt_9 : decode cX1_formAt 9 = .ok (.if_icmp .lt 10, 3) := by decide +kernel
theorem dX1_formAt_12 : decode cX1_formAt 12 = .ok (.bipush 11, 2) := by decide +kernel
theorem dX1_formAt_14 : decode cX1_formAt 14 = .ok (.iload_n 3, 1) := by decide +kernel
theorem dX1_formAt_15 : decode cX1_formAt 15 = .ok (.isub, 1) := by decide +kernel
theorem dX1_formAt_16 : decode cX1_formAt 16 = .ok (.goto 4, 3) := by decide +kernel
theorem dX1_formAt_19 : decode cX1_formAt 19 = .ok (.iload_n 3, 1) := by decide +kernel
theorem dX1_formAt_20 : decode cX1_formAt 20 = .ok (.istore 5, 2) := by decide +kernel
theorem dX1_formAt_22 : decode cX1_formAt 22 = .ok (.aload_n 0, 1) := by decide +kernel
theorem dX1_formAt_23 : decode cX1_formAt 23 = .ok (.iload_n 1, 1) := by decide +kernel
theorem dX1_formAt_24 : decode cX1_formAt 24 = .ok (.iload 5, 2) := by decide +kernel
theorem dX1_formAt_26 : decode cX1_formAt 26 = .ok (.invokevirtual 31, 3) := by decide +kernel
theorem dX1_formAt_29 : decode cX1_formAt 29 = .ok (.aload_n 0, 1) := by decide +kernel
theorem dX1_formAt_30 : decode cX1_formAt 30 = .ok (.iload_n 1, 1) := by decide +kernel
theorem dX1_formAt_31 : decode cX1_formAt 31 = .ok (.iconst 0, 1) := by decide +kernel
theorem dX1_formAt_32 : decode cX1_formAt 32 = .ok (.invokevirtual 31, 3) := by decide +kernel
theorem dX1_formAt_35 : decode cX1_formAt 35 = .ok (.isub, 1) := by decide +kernel
theorem dX1_formAt_36 : decode cX1_formAt 36 = .ok (.istore 6, 2) := by decide +kernel
theorem dX1_formAt_38 : decode cX1_formAt 38 = .ok (.iload 4, 2) := by decide +kernel
theorem dX1_formAt_40 : decode cX1_formAt 40 = .ok (.iconst 2, 1) := by decide +kernel
theorem dX1_formAt_41 : decode cX1_formAt 41 = .ok (.irem, 1) := by decide +kernel
theorem dX1_formAt_42 : decode cX1_formAt 42 = .ok (.ifCond .ne 8, 3) := by decide +kernel
theorem dX1_formAt_45 : decode cX1_formAt 45 = .ok (.iload 6, 2) := by decide +kernel
theorem dX1_formAt_47 : decode cX1_formAt 47 = .ok (.goto 6, 3) := by decide +kernel
theorem dX1_formAt_50 : decode cX1_formAt 50 = .ok (.iload 6, 2) := by decide +kernel
theorem dX1_formAt_52 : decode cX1_formAt 52 = .ok (.ineg, 1) := by decide +kernel
theorem dX1_formAt_53 : decode cX1_formAt 53 = .ok (.iload_n 2, 1) := by decide +kernel
theorem dX1_formAt_54 : decode cX1_formAt 54 = .ok (.bipush 12, 2) := by decide +kernel
theorem dX1_formAt_56 : decode cX1_formAt 56 = .ok (.irem, 1) := by decide +kernel
theorem dX1_formAt_57 : decode cX1_formAt 57 = .ok (.iadd, 1) := by decide +kernel
theorem dX1_formAt_58 : decode cX1_formAt 58 = .ok (.invokestatic 35, 3) := by decide +kernel
theorem dX1_formAt_61 : decode cX1_formAt 61 = .ok (.ireturn, 1) := by decide +kernel
theorem dX1_codeOf_0 : decode cX1_codeOf 0 = .ok (.bipush 12, 2) := by decide +kernel
theorem dX1_codeOf_2 : decode cX1_codeOf 2 = .ok (.iload_n 0, 1) := by decide +kernel
theorem dX1_codeOf_3 : decode cX1_codeOf 3 = .ok (.imul, 1) := by decide +kernel
theorem dX1_codeOf_4 : decode cX1_codeOf 4 = .ok (.iload_n 1, 1) := by decide +kernel
theorem dX1_codeOf_5 : decode cX1_codeOf 5 = .ok (.iadd, 1) := by decide +kernel
theorem dX1_codeOf_6 : decode cX1_codeOf 6 = .ok (.ireturn, 1) := by decide +kernel
theorem dX1_put_0 : decode cX1_put 0 = .ok (.aload_n 0, 1) := by decide +kernel
theorem dX1_put_1 : decode cX1_put 1 = .ok (.iload_n 1, 1) := by decide +kernel
theorem dX1_put_2 : decode cX1_put 2 = .ok (.invokestatic 39, 3) := by decide +kernel
theorem dX1_put_5 : decode cX1_put 5 = .ok (.ifCond .eq 10, 3) := by decide +kernel
theorem dX1_put_8 : decode cX1_put 8 = .ok (.iload_n 2, 1) := by decide +kernel
theorem dX1_put_9 : decode cX1_put 9 = .ok (.invokestatic 27, 3) := by decide +kernel
theorem dX1_put_12 : decode cX1_put 12 = .ok (.ifCond .ne 7, 3) := by decide +kernel
theorem dX1_put_15 : decode cX1_put 15 = .ok (.iconst 1, 1) := by decide +kernel
theorem dX1_put_16 : decode cX1_put 16 = .ok (.goto 15, 3) := by decide +kernel
theorem dX1_put_19 : decode cX1_put 19 = .ok (.iload_n 3, 1) := by decide +kernel
theorem dX1_put_20 : decode cX1_put 20 = .ok (.invokestatic 27, 3) := by decide +kernel
theorem dX1_put_23 : decode cX1_put 23 = .ok (.ifCond .eq 7, 3) := by decide +kernel
theorem dX1_put_26 : decode cX1_put 26 = .ok (.iconst 0, 1) := by decide +kernel
theorem dX1_put_27 : decode cX1_put 27 = .ok (.goto 4, 3) := by decide +kernel
theorem dX1_put_30 : decode cX1_put 30 = .ok (.iconst 2, 1) := by decide +kernel
theorem dX1_put_31 : decode cX1_put 31 = .ok (.invokevirtual 42, 3) := by decide +kernel
theorem dX1_put_34 : decode cX1_put 34 = .ok (.ifCond .ne 5, 3) := by decide +kernel
theorem dX1_put_37 : decode cX1_put 37 = .ok (.iconst 0, 1) := by decide +kernel
theorem dX1_put_38 : decode cX1_put 38 = .ok (.ireturn, 1) := by decide +kernel
theorem dX1_put_39 : decode cX1_put 39 = .ok (.aload_n 0, 1) := by decide +kernel
theorem dX1_put_40 : decode cX1_put 40 = .ok (.iload_n 1, 1) := by decide +kernel
theorem dX1_put_41 : decode cX1_put 41 = .ok (.iload_n 2, 1) := by decide +kernel
theorem dX1_put_42 : decode cX1_put 42 = .ok (.invokevirtual 31, 3) := by decide +kernel
theorem dX1_put_45 : decode cX1_put 45 = .ok (.istore 4, 2) := by decide +kernel
theorem dX1_put_47 : decode cX1_put 47 = .ok (.iconst 0, 1) := by decide +kernel
theorem dX1_put_48 : decode cX1_put 48 = .ok (.istore 5, 2) := by decide +kernel
theorem dX1_put_50 : decode cX1_put 50 = .ok (.iload 5, 2) := by decide +kernel
theorem dX1_put_52 : decode cX1_put 52 = .ok (.bipush 12, 2) := by decide +kernel
theorem dX1_put_54 : decode cX1_put 54 = .ok (.if_icmp .ge 44, 3) := by decide +kernel
theorem dX1_put_57 : decode cX1_put 57 = .ok (.aload_n 0, 1) := by decide +kernel
theorem dX1_put_58 : decode cX1_put 58 = .ok (.getfield 7, 3) := by decide +kernel
theorem dX1_put_61 : decode cX1_put 61 = .ok (.bipush 12, 2) := by decide +kernel
theorem dX1_put_63 : decode cX1_put 63 = .ok (.iload_n 1, 1) := by decide +kernel
theorem dX1_put_64 : decode cX1_put 64 = .ok (.imul, 1) := by decide +kernel
theorem dX1_put_65 : decode cX1_put 65 = .ok (.iload 5, 2) := by decide +kernel
theorem dX1_put_67 : decode cX1_put 67 = .ok (.iadd, 1) := by decide +kernel
theorem dX1_put_68 : decode cX1_put 68 = .ok (.aload_n 0, 1) := by decide +kernel
theorem dX1_put_69 : decode cX1_put 69 = .ok (.iload_n 1, 1) := by decide +kernel
theorem dX1_put_70 : decode cX1_put 70 = .ok (.iload 5, 2) := by decide +kernel
theorem dX1_put_72 : decode cX1_put 72 = .ok (.invokevirtual 31, 3) := by decide +kernel
theorem dX1_put_75 : decode cX1_put 75 = .ok (.iload_n 3, 1) := by decide +kernel
theorem dX1_put_76 : decode cX1_put 76 = .ok (.if_icmp .ne 8, 3) := by decide +kernel
theorem dX1_put_79 : decode cX1_put 79 = .ok (.iload 4, 2) := by decide +kernel
theorem dX1_put_81 : decode cX1_put 81 = .ok (.goto 10, 3) := by decide +kernel
theorem dX1_put_84 : decode cX1_put 84 = .ok (.aload_n 0, 1) := by decide +kernel
theorem dX1_put_85 : decode cX1_put 85 = .ok (.iload_n 1, 1) := by decide +kernel
theorem dX1_put_86 : decode cX1_put 86 = .ok (.iload 5, 2) := by decide +kernel
theorem dX1_put_88 : decode cX1_put 88 = .ok (.invokevirtual 31, 3) := by decide +kernel
theorem dX1_put_91 : decode cX1_put 91 = .ok (.iastore, 1) := by decide +kernel
theorem dX1_put_92 : decode cX1_put 92 = .ok (.iinc 5 1, 3) := by decide +kernel
theorem dX1_put_95 : decode cX1_put 95 = .ok (.goto (-45), 3) := by decide +kernel
theorem dX1_put_98 : decode cX1_put 98 = .ok (.aload_n 0, 1) := by decide +kernel
theorem dX1_put_99 : decode cX1_put 99 = .ok (.getfield 7, 3) := by decide +kernel
theorem dX1_put_102 : decode cX1_put 102 = .ok (.bipush 12, 2) := by decide +kernel
theorem dX1_put_104 : decode cX1_put 104 = .ok (.iload_n 1, 1) := by decide +kernel
theorem dX1_put_105 : decode cX1_put 105 = .ok (.imul, 1) := by decide +kernel
theorem dX1_put_106 : decode cX1_put 106 = .ok (.iload_n 2, 1) := by decide +kernel
theorem dX1_put_107 : decode cX1_put 107 = .ok (.iadd, 1) := by decide +kernel
theorem dX1_put_108 : decode cX1_put 108 = .ok (.iload_n 3, 1) := by decide +kernel
theorem dX1_put_109 : decode cX1_put 109 = .ok (.iastore, 1) := by decide +kernel
theorem dX1_put_110 : decode cX1_put 110 = .ok (.iload 4, 2) := by decide +kernel
theorem dX1_put_112 : decode cX1_put 112 = .ok (.ireturn, 1) := by decide +kernel
theorem dX1_lay_0 : decode cX1_lay 0 = .ok (.iconst 0, 1) := by decide +kernel
theorem dX1_lay_1 : decode cX1_lay 1 = .ok (.istore_n 2, 1) := by decide +kernel
theorem dX1_lay_2 : decode cX1_lay 2 = .ok (.iload_n 2, 1) := by decide +kernel
theorem dX1_lay_3 : decode cX1_lay 3 = .ok (.bipush 12, 2) := by decide +kernel
theorem dX1_lay_5 : decode cX1_lay 5 = .ok (.if_icmp .ge 26, 3) := by decide +kernel
theorem dX1_lay_8 : decode cX1_lay 8 = .ok (.aload_n 0, 1) := by decide +kernel
theorem dX1_lay_9 : decode cX1_lay 9 = .ok (.getfield 7, 3) := by decide +kernel
theorem dX1_lay_12 : decode cX1_lay 12 = .ok (.bipush 12, 2) := by decide +kernel
theorem dX1_lay_14 : decode cX1_lay 14 = .ok (.iload_n 1, 1) := by decide +kernel
theorem dX1_lay_15 : decode cX1_lay 15 = .ok (.imul, 1) := by decide +kernel
theorem dX1_lay_16 : decode cX1_lay 16 = .ok (.iload_n 2, 1) := by decide +kernel
theorem dX1_lay_17 : decode cX1_lay 17 = .ok (.iadd, 1) := by decide +kernel
theorem dX1_lay_18 : decode cX1_lay 18 = .ok (.aload_n 0, 1) := by decide +kernel
theorem dX1_lay_19 : decode cX1_lay 19 = .ok (.getfield 13, 3) := by decide +kernel
theorem dX1_lay_22 : decode cX1_lay 22 = .ok (.iload_n 2, 1) := by decide +kernel
theorem dX1_lay_23 : decode cX1_lay 23 = .ok (.iaload, 1) := by decide +kernel
theorem dX1_lay_24 : decode cX1_lay 24 = .ok (.iastore, 1) := by decide +kernel
theorem dX1_lay_25 : decode cX1_lay 25 = .ok (.iinc 2 1, 3) := by decide +kernel
theorem dX1_lay_28 : decode cX1_lay 28 = .ok (.goto (-26), 3) := by decide +kernel
theorem dX1_lay_31 : decode cX1_lay 31 = .ok (.aload_n 0, 1) := by decide +kernel
theorem dX1_lay_32 : decode cX1_lay 32 = .ok (.iload_n 1, 1) := by decide +kernel
theorem dX1_lay_33 : decode cX1_lay 33 = .ok (.iconst 0, 1) := by decide +kernel
theorem dX1_lay_34 : decode cX1_lay 34 = .ok (.invokevirtual 31, 3) := by decide +kernel
theorem dX1_lay_37 : decode cX1_lay 37 = .ok (.ireturn, 1) := by decide +kernel
theorem dX1_take_0 : decode cX1_take 0 = .ok (.aload_n 0, 1) := by decide +kernel
theorem dX1_take_1 : decode cX1_take 1 = .ok (.iload_n 1, 1) := by decide +kernel
theorem dX1_take_2 : decode cX1_take 2 = .ok (.invokestatic 39, 3) := by decide +kernel
theorem dX1_take_5 : decode cX1_take 5 = .ok (.ifCond .eq 11, 3) := by decide +kernel
theorem dX1_take_8 : decode cX1_take 8 = .ok (.iload 4, 2) := by decide +kernel
theorem dX1_take_10 : decode cX1_take 10 = .ok (.invokestatic 39, 3) := by decide +kernel
theorem dX1_take_13 : decode cX1_take 13 = .ok (.ifCond .ne 7, 3) := by decide +kernel
theorem dX1_take_16 : decode cX1_take 16 = .ok (.iconst 1, 1) := by decide +kernel
theorem dX1_take_17 : decode cX1_take 17 = .ok (.goto 16, 3) := by decide +kernel
theorem dX1_take_20 : decode cX1_take 20 = .ok (.iload_n 2, 1) := by decide +kernel
theorem dX1_take_21 : decode cX1_take 21 = .ok (.iload_n 3, 1) := by decide +kernel
theorem dX1_take_22 : decode cX1_take 22 = .ok (.invokestatic 45, 3) := by decide +kernel
theorem dX1_take_25 : decode cX1_take 25 = .ok (.ifCond .eq 7, 3) := by decide +kernel
theorem dX1_take_28 : decode cX1_take 28 = .ok (.iconst 0, 1) := by decide +kernel
theorem dX1_take_29 : decode cX1_take 29 = .ok (.goto 4, 3) := by decide +kernel
theorem dX1_take_32 : decode cX1_take 32 = .ok (.iconst 2, 1) := by decide +kernel
theorem dX1_take_33 : decode cX1_take 33 = .ok (.invokevirtual 42, 3) := by decide +kernel
theorem dX1_take_36 : decode cX1_take 36 = .ok (.ifCond .ne 5, 3) := by decide +kernel
theorem dX1_take_39 : decode cX1_take 39 = .ok (.iconst 0, 1) := by decide +kernel
theorem dX1_take_40 : decode cX1_take 40 = .ok (.ireturn, 1) := by decide +kernel
theorem dX1_take_41 : decode cX1_take 41 = .ok (.iconst 0, 1) := by decide +kernel
theorem dX1_take_42 : decode cX1_take 42 = .ok (.istore 5, 2) := by decide +kernel
theorem dX1_take_44 : decode cX1_take 44 = .ok (.iload 5, 2) := by decide +kernel
theorem dX1_take_46 : decode cX1_take 46 = .ok (.bipush 12, 2) := by decide +kernel
theorem dX1_take_48 : decode cX1_take 48 = .ok (.if_icmp .ge 28, 3) := by decide +kernel
theorem dX1_take_51 : decode cX1_take 51 = .ok (.aload_n 0, 1) := by decide +kernel
theorem dX1_take_52 : decode cX1_take 52 = .ok (.getfield 13, 3) := by decide +kernel
theorem dX1_take_55 : decode cX1_take 55 = .ok (.iload 5, 2) := by decide +kernel
theorem dX1_take_57 : decode cX1_take 57 = .ok (.aload_n 0, 1) := by decide +kernel
theorem dX1_take_58 : decode cX1_take 58 = .ok (.iload_n 1, 1) := by decide +kernel
theorem dX1_take_59 : decode cX1_take 59 = .ok (.iload_n 2, 1) := by decide +kernel
theorem dX1_take_60 : decode cX1_take 60 = .ok (.iload_n 3, 1) := by decide +kernel
theorem dX1_take_61 : decode cX1_take 61 = .ok (.invokestatic 49, 3) := by decide +kernel
theorem dX1_take_64 : decode cX1_take 64 = .ok (.iload 5, 2) := by decide +kernel
theorem dX1_take_66 : decode cX1_take 66 = .ok (.invokevirtual 52, 3) := by decide +kernel
theorem dX1_take_69 : decode cX1_take 69 = .ok (.iastore, 1) := by decide +kernel
theorem dX1_take_70 : decode cX1_take 70 = .ok (.iinc 5 1, 3) := by decide +kernel
theorem dX1_take_73 : decode cX1_take 73 = .ok (.goto (-29), 3) := by decide +kernel
theorem dX1_take_76 : decode cX1_take 76 = .ok (.aload_n 0, 1) := by decide +kernel
theorem dX1_take_77 : decode cX1_take 77 = .ok (.iload 4, 2) := by decide +kernel
theorem dX1_take_79 : decode cX1_take 79 = .ok (.invokevirtual 56, 3) := by decide +kernel
theorem dX1_take_82 : decode cX1_take 82 = .ok (.ireturn, 1) := by decide +kernel
theorem dX1_multiply_0 : decode cX1_multiply 0 = .ok (.iload_n 2, 1) := by decide +kernel
theorem dX1_multiply_1 : decode cX1_multiply 1 = .ok (.iconst 1, 1) := by decide +kernel
theorem dX1_multiply_2 : decode cX1_multiply 2 = .ok (.if_icmp .eq 20, 3) := by decide +kernel
theorem dX1_multiply_5 : decode cX1_multiply 5 = .ok (.iload_n 2, 1) := by decide +kernel
theorem dX1_multiply_6 : decode cX1_multiply 6 = .ok (.iconst 5, 1) := by decide +kernel
theorem dX1_multiply_7 : decode cX1_multiply 7 = .ok (.if_icmp .eq 15, 3) := by decide +kernel
theorem dX1_multiply_10 : decode cX1_multiply 10 = .ok (.iload_n 2, 1) := by decide +kernel
theorem dX1_multiply_11 : decode cX1_multiply 11 = .ok (.bipush 7, 2) := by decide +kernel
theorem dX1_multiply_13 : decode cX1_multiply 13 = .ok (.if_icmp .eq 9, 3) := by decide +kernel
theorem dX1_multiply_16 : decode cX1_multiply 16 = .ok (.iload_n 2, 1) := by decide +kernel
theorem dX1_multiply_17 : decode cX1_multiply 17 = .ok (.bipush 11, 2) := by decide +kernel
theorem dX1_multiply_19 : decode cX1_multiply 19 = .ok (.if_icmp .ne 7, 3) := by decide +kernel
theorem dX1_multiply_22 : decode cX1_multiply 22 = .ok (.iconst 1, 1) := by decide +kernel
theorem dX1_multiply_23 : decode cX1_multiply 23 = .ok (.goto 4, 3) := by decide +kernel
theorem dX1_multiply_26 : decode cX1_multiply 26 = .ok (.iconst 0, 1) := by decide +kernel
theorem dX1_multiply_27 : decode cX1_multiply 27 = .ok (.istore_n 3, 1) := by decide +kernel
theorem dX1_multiply_28 : decode cX1_multiply 28 = .ok (.aload_n 0, 1) := by decide +kernel
theorem dX1_multiply_29 : decode cX1_multiply 29 = .ok (.iload_n 1, 1) := by decide +kernel
theorem dX1_multiply_30 : decode cX1_multiply 30 = .ok (.invokestatic 39, 3) := by decide +kernel
theorem dX1_multiply_33 : decode cX1_multiply 33 = .ok (.ifCond .ne 7, 3) := by decide +kernel
theorem dX1_multiply_36 : decode cX1_multiply 36 = .ok (.iconst 1, 1) := by decide +kernel
theorem dX1_multiply_37 : decode cX1_multiply 37 = .ok (.goto 12, 3) := by decide +kernel
theorem dX1_multiply_40 : decode cX1_multiply 40 = .ok (.iload_n 3, 1) := by decide +kernel
theorem dX1_multiply_41 : decode cX1_multiply 41 = .ok (.ifCond .eq 7, 3) := by decide +kernel
theorem dX1_multiply_44 : decode cX1_multiply 44 = .ok (.iconst 0, 1) := by decide +kernel
theorem dX1_multiply_45 : decode cX1_multiply 45 = .ok (.goto 4, 3) := by decide +kernel
theorem dX1_multiply_48 : decode cX1_multiply 48 = .ok (.iconst 2, 1) := by decide +kernel
theorem dX1_multiply_49 : decode cX1_multiply 49 = .ok (.invokevirtual 42, 3) := by decide +kernel
theorem dX1_multiply_52 : decode cX1_multiply 52 = .ok (.ifCond .ne 5, 3) := by decide +kernel
theorem dX1_multiply_55 : decode cX1_multiply 55 = .ok (.iconst 0, 1) := by decide +kernel
theorem dX1_multiply_56 : decode cX1_multiply 56 = .ok (.ireturn, 1) := by decide +kernel
theorem dX1_multiply_57 : decode cX1_multiply 57 = .ok (.iconst 0, 1) := by decide +kernel
theorem dX1_multiply_58 : decode cX1_multiply 58 = .ok (.istore 4, 2) := by decide +kernel
theorem dX1_multiply_60 : decode cX1_multiply 60 = .ok (.iload 4, 2) := by decide +kernel
theorem dX1_multiply_62 : decode cX1_multiply 62 = .ok (.bipush 12, 2) := by decide +kernel
theorem dX1_multiply_64 : decode cX1_multiply 64 = .ok (.if_icmp .ge 28, 3) := by decide +kernel
theorem dX1_multiply_67 : decode cX1_multiply 67 = .ok (.aload_n 0, 1) := by decide +kernel
theorem dX1_multiply_68 : decode cX1_multiply 68 = .ok (.getfield 13, 3) := by decide +kernel
theorem dX1_multiply_71 : decode cX1_multiply 71 = .ok (.iload 4, 2) := by decide +kernel
theorem dX1_multiply_73 : decode cX1_multiply 73 = .ok (.aload_n 0, 1) := by decide +kernel
theorem dX1_multiply_74 : decode cX1_multiply 74 = .ok (.iload_n 1, 1) := by decide +kernel
theorem dX1_multiply_75 : decode cX1_multiply 75 = .ok (.iload 4, 2) := by decide +kernel
theorem dX1_multiply_77 : decode cX1_multiply 77 = .ok (.invokevirtual 31, 3) := by decide +kernel
theorem dX1_multiply_80 : decode cX1_multiply 80 = .ok (.iload_n 2, 1) := by decide +kernel
theorem dX1_multiply_81 : decode cX1_multiply 81 = .ok (.imul, 1) := by decide +kernel
theorem dX1_multiply_82 : decode cX1_multiply 82 = .ok (.bipush 12, 2) := by decide +kernel
theorem dX1_multiply_84 : decode cX1_multiply 84 = .ok (.irem, 1) := by decide +kernel
theorem dX1_multiply_85 : decode cX1_multiply 85 = .ok (.iastore, 1) := by decide +kernel
theorem dX1_multiply_86 : decode cX1_multiply 86 = .ok (.iinc 4 1, 3) := by decide +kernel
theorem dX1_multiply_89 : decode cX1_multiply 89 = .ok (.goto (-29), 3) := by decide +kernel
theorem dX1_multiply_92 : decode cX1_multiply 92 = .ok (.aload_n 0, 1) := by decide +kernel
theorem dX1_multiply_93 : decode cX1_multiply 93 = .ok (.iload_n 1, 1) := by decide +kernel
theorem dX1_multiply_94 : decode cX1_multiply 94 = .ok (.invokevirtual 56, 3) := by decide +kernel
theorem dX1_multiply_97 : decode cX1_multiply 97 = .ok (.ireturn, 1) := by decide +kernel
theorem dX1_rotate_0 : decode cX1_rotate 0 = .ok (.aload_n 0, 1) := by decide +kernel
theorem dX1_rotate_1 : decode cX1_rotate 1 = .ok (.iload_n 1, 1) := by decide +kernel
theorem dX1_rotate_2 : decode cX1_rotate 2 = .ok (.invokestatic 39, 3) := by decide +kernel
theorem dX1_rotate_5 : decode cX1_rotate 5 = .ok (.ifCond .ne 7, 3) := by decide +kernel
theorem dX1_rotate_8 : decode cX1_rotate 8 = .ok (.iconst 1, 1) := by decide +kernel
theorem dX1_rotate_9 : decode cX1_rotate 9 = .ok (.goto 15, 3) := by decide +kernel
theorem dX1_rotate_12 : decode cX1_rotate 12 = .ok (.iload_n 2, 1) := by decide +kernel
theorem dX1_rotate_13 : decode cX1_rotate 13 = .ok (.invokestatic 27, 3) := by decide +kernel
theorem dX1_rotate_16 : decode cX1_rotate 16 = .ok (.ifCond .eq 7, 3) := by decide +kernel
theorem dX1_rotate_19 : decode cX1_rotate 19 = .ok (.iconst 0, 1) := by decide +kernel
theorem dX1_rotate_20 : decode cX1_rotate 20 = .ok (.goto 4, 3) := by decide +kernel
theorem dX1_rotate_23 : decode cX1_rotate 23 = .ok (.iconst 2, 1) := by decide +kernel
theorem dX1_rotate_24 : decode cX1_rotate 24 = .ok (.invokevirtual 42, 3) := by decide +kernel
theorem dX1_rotate_27 : decode cX1_rotate 27 = .ok (.ifCond .ne 5, 3) := by decide +kernel
theorem dX1_rotate_30 : decode cX1_rotate 30 = .ok (.iconst 0, 1) := by decide +kernel
theorem dX1_rotate_31 : decode cX1_rotate 31 = .ok (.ireturn, 1) := by decide +kernel
theorem dX1_rotate_32 : decode cX1_rotate 32 = .ok (.iconst 0, 1) := by decide +kernel
theorem dX1_rotate_33 : decode cX1_rotate 33 = .ok (.istore_n 3, 1) := by decide +kernel
theorem dX1_rotate_34 : decode cX1_rotate 34 = .ok (.iload_n 3, 1) := by decide +kernel
theorem dX1_rotate_35 : decode cX1_rotate 35 = .ok (.bipush 12, 2) := by decide +kernel
theorem dX1_rotate_37 : decode cX1_rotate 37 = .ok (.if_icmp .ge 26, 3) := by decide +kernel
theorem dX1_rotate_40 : decode cX1_rotate 40 = .ok (.aload_n 0, 1) := by decide +kernel
theorem dX1_rotate_41 : decode cX1_rotate 41 = .ok (.getfield 13, 3) := by decide +kernel
theorem dX1_rotate_44 : decode cX1_rotate 44 = .ok (.iload_n 3, 1) := by decide +kernel
theorem dX1_rotate_45 : decode cX1_rotate 45 = .ok (.aload_n 0, 1) := by decide +kernel
theorem dX1_rotate_46 : decode cX1_rotate 46 = .ok (.iload_n 1, 1) := by decide +kernel
theorem dX1_rotate_47 : decode cX1_rotate 47 = .ok (.iload_n 3, 1) := by decide +kernel
theorem dX1_rotate_48 : decode cX1_rotate 48 = .ok (.iload_n 2, 1) := by decide +kernel
theorem dX1_rotate_49 : decode cX1_rotate 49 = .ok (.iadd, 1) := by decide +kernel
theorem dX1_rotate_50 : decode cX1_rotate 50 = .ok (.bipush 12, 2) := by decide +kernel
theorem dX1_rotate_52 : decode cX1_rotate 52 = .ok (.irem, 1) := by decide +kernel
theorem dX1_rotate_53 : decode cX1_rotate 53 = .ok (.invokevirtual 31, 3) := by decide +kernel
theorem dX1_rotate_56 : decode cX1_rotate 56 = .ok (.iastore, 1) := by decide +kernel
theorem dX1_rotate_57 : decode cX1_rotate 57 = .ok (.iinc 3 1, 3) := by decide +kernel
theorem dX1_rotate_60 : decode cX1_rotate 60 = .ok (.goto (-26), 3) := by decide +kernel
theorem dX1_rotate_63 : decode cX1_rotate 63 = .ok (.aload_n 0, 1) := by decide +kernel
theorem dX1_rotate_64 : decode cX1_rotate 64 = .ok (.iload_n 1, 1) := by decide +kernel
theorem dX1_rotate_65 : decode cX1_rotate 65 = .ok (.invokevirtual 56, 3) := by decide +kernel
theorem dX1_rotate_68 : decode cX1_rotate 68 = .ok (.ireturn, 1) := by decide +kernel
theorem dX1_tone_0 : decode cX1_tone 0 = .ok (.aload_n 0, 1) := by decide +kernel
theorem dX1_tone_1 : decode cX1_tone 1 = .ok (.iload_n 1, 1) := by decide +kernel
theorem dX1_tone_2 : decode cX1_tone 2 = .ok (.invokestatic 39, 3) := by decide +kernel
theorem dX1_tone_5 : decode cX1_tone 5 = .ok (.ifCond .eq 14, 3) := by decide +kernel
theorem dX1_tone_8 : decode cX1_tone 8 = .ok (.iload_n 2, 1) := by decide +kernel
theorem dX1_tone_9 : decode cX1_tone 9 = .ok (.invokestatic 27, 3) := by decide +kernel
theorem dX1_tone_12 : decode cX1_tone 12 = .ok (.ifCond .eq 7, 3) := by decide +kernel
theorem dX1_tone_15 : decode cX1_tone 15 = .ok (.iconst 0, 1) := by decide +kernel
theorem dX1_tone_16 : decode cX1_tone 16 = .ok (.goto 4, 3) := by decide +kernel
theorem dX1_tone_19 : decode cX1_tone 19 = .ok (.iconst 1, 1) := by decide +kernel
theorem dX1_tone_20 : decode cX1_tone 20 = .ok (.invokevirtual 42, 3) := by decide +kernel
theorem dX1_tone_23 : decode cX1_tone 23 = .ok (.ifCond .eq 12, 3) := by decide +kernel
theorem dX1_tone_26 : decode cX1_tone 26 = .ok (.aload_n 0, 1) := by decide +kernel
theorem dX1_tone_27 : decode cX1_tone 27 = .ok (.iload_n 1, 1) := by decide +kernel
theorem dX1_tone_28 : decode cX1_tone 28 = .ok (.iload_n 2, 1) := by decide +kernel
theorem dX1_tone_29 : decode cX1_tone 29 = .ok (.invokevirtual 31, 3) := by decide +kernel
theorem dX1_tone_32 : decode cX1_tone 32 = .ok (.goto 4, 3) := by decide +kernel
theorem dX1_tone_35 : decode cX1_tone 35 = .ok (.iconst 0, 1) := by decide +kernel
theorem dX1_tone_36 : decode cX1_tone 36 = .ok (.ireturn, 1) := by decide +kernel
theorem dX1_step_0 : decode cX1_step 0 = .ok (.aload_n 0, 1) := by decide +kernel
theorem dX1_step_1 : decode cX1_step 1 = .ok (.iload_n 1, 1) := by decide +kernel
theorem dX1_step_2 : decode cX1_step 2 = .ok (.iload_n 2, 1) := by decide +kernel
theorem dX1_step_3 : decode cX1_step 3 = .ok (.iconst 1, 1) := by decide +kernel
theorem dX1_step_4 : decode cX1_step 4 = .ok (.iadd, 1) := by decide +kernel
theorem dX1_step_5 : decode cX1_step 5 = .ok (.invokevirtual 31, 3) := by decide +kernel
theorem dX1_step_8 : decode cX1_step 8 = .ok (.aload_n 0, 1) := by decide +kernel
theorem dX1_step_9 : decode cX1_step 9 = .ok (.iload_n 1, 1) := by decide +kernel
theorem dX1_step_10 : decode cX1_step 10 = .ok (.iload_n 2, 1) := by decide +kernel
theorem dX1_step_11 : decode cX1_step 11 = .ok (.invokevirtual 31, 3) := by decide +kernel
theorem dX1_step_14 : decode cX1_step 14 = .ok (.isub, 1) := by decide +kernel
theorem dX1_step_15 : decode cX1_step 15 = .ok (.invokestatic 35, 3) := by decide +kernel
theorem dX1_step_18 : decode cX1_step 18 = .ok (.ireturn, 1) := by decide +kernel
theorem dX1_interval_0 : decode cX1_interval 0 = .ok (.aload_n 0, 1) := by decide +kernel
theorem dX1_interval_1 : decode cX1_interval 1 = .ok (.iload_n 1, 1) := by decide +kernel
theorem dX1_interval_2 : decode cX1_interval 2 = .ok (.invokestatic 39, 3) := by decide +kernel
theorem dX1_interval_5 : decode cX1_interval 5 = .ok (.ifCond .eq 17, 3) := by decide +kernel
theorem dX1_interval_8 : decode cX1_interval 8 = .ok (.iload_n 2, 1) := by decide +kernel
theorem dX1_interval_9 : decode cX1_interval 9 = .ok (.iconst 0, 1) := by decide +kernel
theorem dX1_interval_10 : decode cX1_interval 10 = .ok (.bipush 10, 2) := by decide +kernel
theorem dX1_interval_12 : decode cX1_interval 12 = .ok (.invokestatic 23, 3) := by decide +kernel
theorem dX1_interval_15 : decode cX1_interval 15 = .ok (.ifCond .eq 7, 3) := by decide +kernel
theorem dX1_interval_18 : decode cX1_interval 18 = .ok (.iconst 0, 1) := by decide +kernel
theorem dX1_interval_19 : decode cX1_interval 19 = .ok (.goto 4, 3) := by decide +kernel
theorem dX1_interval_22 : decode cX1_interval 22 = .ok (.iconst 1, 1) := by decide +kernel
theorem dX1_interval_23 : decode cX1_interval 23 = .ok (.invokevirtual 42, 3) := by decide +kernel
theorem dX1_interval_26 : decode cX1_interval 26 = .ok (.ifCond .eq 12, 3) := by decide +kernel
theorem dX1_interval_29 : decode cX1_interval 29 = .ok (.aload_n 0, 1) := by decide +kernel
theorem dX1_interval_30 : decode cX1_interval 30 = .ok (.iload_n 1, 1) := by decide +kernel
theorem dX1_interval_31 : decode cX1_interval 31 = .ok (.iload_n 2, 1) := by decide +kernel
theorem dX1_interval_32 : decode cX1_interval 32 = .ok (.invokevirtual 59, 3) := by decide +kernel
theorem dX1_interval_35 : decode cX1_interval 35 = .ok (.goto 4, 3) := by decide +kernel
theorem dX1_interval_38 : decode cX1_interval 38 = .ok (.iconst 0, 1) := by decide +kernel
theorem dX1_interval_39 : decode cX1_interval 39 = .ok (.ireturn, 1) := by decide +kernel
theorem dX1_hasAllIntervals_0 : decode cX1_hasAllIntervals 0 = .ok (.aload_n 0, 1) := by decide +kernel
theorem dX1_hasAllIntervals_1 : decode cX1_hasAllIntervals 1 = .ok (.iload_n 1, 1) := by decide +kernel
theorem dX1_hasAllIntervals_2 : decode cX1_hasAllIntervals 2 = .ok (.invokestatic 39, 3) := by decide +kernel
theorem dX1_hasAllIntervals_5 : decode cX1_hasAllIntervals 5 = .ok (.ifCond .eq 7, 3) := by decide +kernel
theorem dX1_hasAllIntervals_8 : decode cX1_hasAllIntervals 8 = .ok (.iconst 0, 1) := by decide +kernel
theorem dX1_hasAllIntervals_9 : decode cX1_hasAllIntervals 9 = .ok (.goto 4, 3) := by decide +kernel
theorem dX1_hasAllIntervals_12 : decode cX1_hasAllIntervals 12 = .ok (.iconst 1, 1) := by decide +kernel
theorem dX1_hasAllIntervals_13 : decode cX1_hasAllIntervals 13 = .ok (.invokevirtual 42, 3) := by decide +kernel
theorem dX1_hasAllIntervals_16 : decode cX1_hasAllIntervals 16 = .ok (.ifCond .ne 5, 3) := by decide +kernel
theorem dX1_hasAllIntervals_19 : decode cX1_hasAllIntervals 19 = .ok (.iconst 0, 1) := by decide +kernel
theorem dX1_hasAllIntervals_20 : decode cX1_hasAllIntervals 20 = .ok (.ireturn, 1) := by decide +kernel
theorem dX1_hasAllIntervals_21 : decode cX1_hasAllIntervals 21 = .ok (.iconst 0, 1) := by decide +kernel
theorem dX1_hasAllIntervals_22 : decode cX1_hasAllIntervals 22 = .ok (.istore_n 2, 1) := by decide +kernel
theorem dX1_hasAllIntervals_23 : decode cX1_hasAllIntervals 23 = .ok (.iconst 0, 1) := by decide +kernel
theorem dX1_hasAllIntervals_24 : decode cX1_hasAllIntervals 24 = .ok (.istore_n 3, 1) := by decide +kernel
theorem dX1_hasAllIntervals_25 : decode cX1_hasAllIntervals 25 = .ok (.iload_n 3, 1) := by decide +kernel
theorem dX1_hasAllIntervals_26 : decode cX1_hasAllIntervals 26 = .ok (.bipush 11, 2) := by decide +kernel
theorem dX1_hasAllIntervals_28 : decode cX1_hasAllIntervals 28 = .ok (.if_icmp .ge 20, 3) := by decide +kernel
theorem dX1_hasAllIntervals_31 : decode cX1_hasAllIntervals 31 = .ok (.iload_n 2, 1) := by decide +kernel
theorem dX1_hasAllIntervals_32 : decode cX1_hasAllIntervals 32 = .ok (.iconst 1, 1) := by decide +kernel
theorem dX1_hasAllIntervals_33 : decode cX1_hasAllIntervals 33 = .ok (.aload_n 0, 1) := by decide +kernel
theorem dX1_hasAllIntervals_34 : decode cX1_hasAllIntervals 34 = .ok (.iload_n 1, 1) := by decide +kernel
theorem dX1_hasAllIntervals_35 : decode cX1_hasAllIntervals 35 = .ok (.iload_n 3, 1) := by decide +kernel
theorem dX1_hasAllIntervals_36 : decode cX1_hasAllIntervals 36 = .ok (.invokevirtual 59, 3) := by decide +kernel
theorem dX1_hasAllIntervals_39 : decode cX1_hasAllIntervals 39 = .ok (.ishl, 1) := by decide +kernel
theorem dX1_hasAllIntervals_40 : decode cX1_hasAllIntervals 40 = .ok (.ior, 1) := by decide +kernel
theorem dX1_hasAllIntervals_41 : decode cX1_hasAllIntervals 41 = .ok (.istore_n 2, 1) := by decide +kernel
theorem dX1_hasAllIntervals_42 : decode cX1_hasAllIntervals 42 = .ok (.iinc 3 1, 3) := by decide +kernel
theorem dX1_hasAllIntervals_45 : decode cX1_hasAllIntervals 45 = .ok (.goto (-20), 3) := by decide +kernel
theorem dX1_hasAllIntervals_48 : decode cX1_hasAllIntervals 48 = .ok (.iload_n 2, 1) := by decide +kernel
theorem dX1_hasAllIntervals_49 : decode cX1_hasAllIntervals 49 = .ok (.sipush 4094, 3) := by decide +kernel
theorem dX1_hasAllIntervals_52 : decode cX1_hasAllIntervals 52 = .ok (.if_icmp .ne 7, 3) := by decide +kernel
theorem dX1_hasAllIntervals_55 : decode cX1_hasAllIntervals 55 = .ok (.iconst 1, 1) := by decide +kernel
theorem dX1_hasAllIntervals_56 : decode cX1_hasAllIntervals 56 = .ok (.goto 4, 3) := by decide +kernel
theorem dX1_hasAllIntervals_59 : decode cX1_hasAllIntervals 59 = .ok (.iconst 0, 1) := by decide +kernel
theorem dX1_hasAllIntervals_60 : decode cX1_hasAllIntervals 60 = .ok (.ireturn, 1) := by decide +kernel
theorem dX1_toneOf_0 : decode cX1_toneOf 0 = .ok (.aload_n 0, 1) := by decide +kernel
theorem dX1_toneOf_1 : decode cX1_toneOf 1 = .ok (.iload_n 1, 1) := by decide +kernel
theorem dX1_toneOf_2 : decode cX1_toneOf 2 = .ok (.invokestatic 39, 3) := by decide +kernel
theorem dX1_toneOf_5 : decode cX1_toneOf 5 = .ok (.ifCond .eq 11, 3) := by decide +kernel
theorem dX1_toneOf_8 : decode cX1_toneOf 8 = .ok (.iload 4, 2) := by decide +kernel
theorem dX1_toneOf_10 : decode cX1_toneOf 10 = .ok (.invokestatic 27, 3) := by decide +kernel
theorem dX1_toneOf_13 : decode cX1_toneOf 13 = .ok (.ifCond .ne 7, 3) := by decide +kernel
theorem dX1_toneOf_16 : decode cX1_toneOf 16 = .ok (.iconst 1, 1) := by decide +kernel
theorem dX1_toneOf_17 : decode cX1_toneOf 17 = .ok (.goto 16, 3) := by decide +kernel
theorem dX1_toneOf_20 : decode cX1_toneOf 20 = .ok (.iload_n 2, 1) := by decide +kernel
theorem dX1_toneOf_21 : decode cX1_toneOf 21 = .ok (.iload_n 3, 1) := by decide +kernel
theorem dX1_toneOf_22 : decode cX1_toneOf 22 = .ok (.invokestatic 45, 3) := by decide +kernel
theorem dX1_toneOf_25 : decode cX1_toneOf 25 = .ok (.ifCond .eq 7, 3) := by decide +kernel
theorem dX1_toneOf_28 : decode cX1_toneOf 28 = .ok (.iconst 0, 1) := by decide +kernel
theorem dX1_toneOf_29 : decode cX1_toneOf 29 = .ok (.goto 4, 3) := by decide +kernel
theorem dX1_toneOf_32 : decode cX1_toneOf 32 = .ok (.iconst 2, 1) := by decide +kernel
theorem dX1_toneOf_33 : decode cX1_toneOf 33 = .ok (.invokevirtual 42, 3) := by decide +kernel
theorem dX1_toneOf_36 : decode cX1_toneOf 36 = .ok (.ifCond .eq 18, 3) := by decide +kernel
theorem dX1_toneOf_39 : decode cX1_toneOf 39 = .ok (.aload_n 0, 1) := by decide +kernel
theorem dX1_toneOf_40 : decode cX1_toneOf 40 = .ok (.iload_n 1, 1) := by decide +kernel
theorem dX1_toneOf_41 : decode cX1_toneOf 41 = .ok (.iload_n 2, 1) := by decide +kernel
theorem dX1_toneOf_42 : decode cX1_toneOf 42 = .ok (.iload_n 3, 1) := by decide +kernel
theorem dX1_toneOf_43 : decode cX1_toneOf 43 = .ok (.invokestatic 49, 3) := by decide +kernel
theorem dX1_toneOf_46 : decode cX1_toneOf 46 = .ok (.iload 4, 2) := by decide +kernel
theorem dX1_toneOf_48 : decode cX1_toneOf 48 = .ok (.invokevirtual 52, 3) := by decide +kernel
theorem dX1_toneOf_51 : decode cX1_toneOf 51 = .ok (.goto 4, 3) := by decide +kernel
theorem dX1_toneOf_54 : decode cX1_toneOf 54 = .ok (.iconst 0, 1) := by decide +kernel
theorem dX1_toneOf_55 : decode cX1_toneOf 55 = .ok (.ireturn, 1) := by decide +kernel
theorem dX1_matrix_0 : decode cX1_matrix 0 = .ok (.aload_n 0, 1) := by decide +kernel
theorem dX1_matrix_1 : decode cX1_matrix 1 = .ok (.iload_n 1, 1) := by decide +kernel
theorem dX1_matrix_2 : decode cX1_matrix 2 = .ok (.invokestatic 39, 3) := by decide +kernel
theorem dX1_matrix_5 : decode cX1_matrix 5 = .ok (.ifCond .eq 21, 3) := by decide +kernel
theorem dX1_matrix_8 : decode cX1_matrix 8 = .ok (.iload_n 2, 1) := by decide +kernel
theorem dX1_matrix_9 : decode cX1_matrix 9 = .ok (.invokestatic 27, 3) := by decide +kernel
theorem dX1_matrix_12 : decode cX1_matrix 12 = .ok (.ifCond .eq 14, 3) := by decide +kernel
theorem dX1_matrix_15 : decode cX1_matrix 15 = .ok (.iload_n 3, 1) := by decide +kernel
theorem dX1_matrix_16 : decode cX1_matrix 16 = .ok (.invokestatic 27, 3) := by decide +kernel
theorem dX1_matrix_19 : decode cX1_matrix 19 = .ok (.ifCond .eq 7, 3) := by decide +kernel
theorem dX1_matrix_22 : decode cX1_matrix 22 = .ok (.iconst 0, 1) := by decide +kernel
theorem dX1_matrix_23 : decode cX1_matrix 23 = .ok (.goto 4, 3) := by decide +kernel
theorem dX1_matrix_26 : decode cX1_matrix 26 = .ok (.iconst 1, 1) := by decide +kernel
theorem dX1_matrix_27 : decode cX1_matrix 27 = .ok (.invokevirtual 42, 3) := by decide +kernel
theorem dX1_matrix_30 : decode cX1_matrix 30 = .ok (.ifCond .ne 5, 3) := by decide +kernel
theorem dX1_matrix_33 : decode cX1_matrix 33 = .ok (.iconst 0, 1) := by decide +kernel
theorem dX1_matrix_34 : decode cX1_matrix 34 = .ok (.ireturn, 1) := by decide +kernel
theorem dX1_matrix_35 : decode cX1_matrix 35 = .ok (.aload_n 0, 1) := by decide +kernel
theorem dX1_matrix_36 : decode cX1_matrix 36 = .ok (.iload_n 1, 1) := by decide +kernel
theorem dX1_matrix_37 : decode cX1_matrix 37 = .ok (.iconst 1, 1) := by decide +kernel
theorem dX1_matrix_38 : decode cX1_matrix 38 = .ok (.aload_n 0, 1) := by decide +kernel
theorem dX1_matrix_39 : decode cX1_matrix 39 = .ok (.iload_n 1, 1) := by decide +kernel
theorem dX1_matrix_40 : decode cX1_matrix 40 = .ok (.iconst 0, 1) := by decide +kernel
theorem dX1_matrix_41 : decode cX1_matrix 41 = .ok (.invokevirtual 31, 3) := by decide +kernel
theorem dX1_matrix_44 : decode cX1_matrix 44 = .ok (.invokestatic 49, 3) := by decide +kernel
theorem dX1_matrix_47 : decode cX1_matrix 47 = .ok (.iload_n 2, 1) := by decide +kernel
theorem dX1_matrix_48 : decode cX1_matrix 48 = .ok (.invokevirtual 52, 3) := by decide +kernel
theorem dX1_matrix_51 : decode cX1_matrix 51 = .ok (.istore 4, 2) := by decide +kernel
theorem dX1_matrix_53 : decode cX1_matrix 53 = .ok (.aload_n 0, 1) := by decide +kernel
theorem dX1_matrix_54 : decode cX1_matrix 54 = .ok (.iload_n 1, 1) := by decide +kernel
theorem dX1_matrix_55 : decode cX1_matrix 55 = .ok (.iconst 0, 1) := by decide +kernel
theorem dX1_matrix_56 : decode cX1_matrix 56 = .ok (.iload 4, 2) := by decide +kernel
theorem dX1_matrix_58 : decode cX1_matrix 58 = .ok (.invokestatic 49, 3) := by decide +kernel
theorem dX1_matrix_61 : decode cX1_matrix 61 = .ok (.iload_n 3, 1) := by decide +kernel
theorem dX1_matrix_62 : decode cX1_matrix 62 = .ok (.invokevirtual 52, 3) := by decide +kernel
theorem dX1_matrix_65 : decode cX1_matrix 65 = .ok (.ireturn, 1) := by decide +kernel
theorem dX1_areSame_0 : decode cX1_areSame 0 = .ok (.iconst 1, 1) := by decide +kernel
theorem dX1_areSame_1 : decode cX1_areSame 1 = .ok (.istore 4, 2) := by decide +kernel
theorem dX1_areSame_3 : decode cX1_areSame 3 = .ok (.iconst 0, 1) := by decide +kernel
theorem dX1_areSame_4 : decode cX1_areSame 4 = .ok (.istore 5, 2) := by decide +kernel
theorem dX1_areSame_6 : decode cX1_areSame 6 = .ok (.iload 5, 2) := by decide +kernel
theorem dX1_areSame_8 : decode cX1_areSame 8 = .ok (.bipush 12, 2) := by decide +kernel
theorem dX1_areSame_10 : decode cX1_areSame 10 = .ok (.if_icmp .ge 40, 3) := by decide +kernel
theorem dX1_areSame_13 : decode cX1_areSame 13 = .ok (.iload 4, 2) := by decide +kernel
theorem dX1_areSame_15 : decode cX1_areSame 15 = .ok (.ifCond .eq 26, 3) := by decide +kernel
theorem dX1_areSame_18 : decode cX1_areSame 18 = .ok (.aload_n 0, 1) := by decide +kernel
theorem dX1_areSame_19 : decode cX1_areSame 19 = .ok (.iload_n 1, 1) := by decide +kernel
theorem dX1_areSame_20 : decode cX1_areSame 20 = .ok (.iload_n 2, 1) := by decide +kernel
theorem dX1_areSame_21 : decode cX1_areSame 21 = .ok (.iload 5, 2) := by decide +kernel
theorem dX1_areSame_23 : decode cX1_areSame 23 = .ok (.invokevirtual 52, 3) := by decide +kernel
theorem dX1_areSame_26 : decode cX1_areSame 26 = .ok (.aload_n 0, 1) := by decide +kernel
theorem dX1_areSame_27 : decode cX1_areSame 27 = .ok (.iload_n 1, 1) := by decide +kernel
theorem dX1_areSame_28 : decode cX1_areSame 28 = .ok (.iload_n 3, 1) := by decide +kernel
theorem dX1_areSame_29 : decode cX1_areSame 29 = .ok (.iload 5, 2) := by decide +kernel
theorem dX1_areSame_31 : decode cX1_areSame 31 = .ok (.invokevirtual 52, 3) := by decide +kernel
theorem dX1_areSame_34 : decode cX1_areSame 34 = .ok (.if_icmp .ne 7, 3) := by decide +kernel
theorem dX1_areSame_37 : decode cX1_areSame 37 = .ok (.iconst 1, 1) := by decide +kernel
theorem dX1_areSame_38 : decode cX1_areSame 38 = .ok (.goto 4, 3) := by decide +kernel
theorem dX1_areSame_41 : decode cX1_areSame 41 = .ok (.iconst 0, 1) := by decide +kernel
theorem dX1_areSame_42 : decode cX1_areSame 42 = .ok (.istore 4, 2) := by decide +kernel
theorem dX1_areSame_44 : decode cX1_areSame 44 = .ok (.iinc 5 1, 3) := by decide +kernel
theorem dX1_areSame_47 : decode cX1_areSame 47 = .ok (.goto (-41), 3) := by decide +kernel
theorem dX1_areSame_50 : decode cX1_areSame 50 = .ok (.iload 4, 2) := by decide +kernel
theorem dX1_areSame_52 : decode cX1_areSame 52 = .ok (.ireturn, 1) := by decide +kernel
theorem dX1_differentForms_0 : decode cX1_differentForms 0 = .ok (.aload_n 0, 1) := by decide +kernel
theorem dX1_differentForms_1 : decode cX1_differentForms 1 = .ok (.iload_n 1, 1) := by decide +kernel
theorem dX1_differentForms_2 : decode cX1_differentForms 2 = .ok (.invokestatic 39, 3) := by decide +kernel
theorem dX1_differentForms_5 : decode cX1_differentForms 5 = .ok (.ifCond .eq 7, 3) := by decide +kernel
theorem dX1_differentForms_8 : decode cX1_differentForms 8 = .ok (.iconst 0, 1) := by decide +kernel
theorem dX1_differentForms_9 : decode cX1_differentForms 9 = .ok (.goto 4, 3) := by decide +kernel
theorem dX1_differentForms_12 : decode cX1_differentForms 12 = .ok (.iconst 1, 1) := by decide +kernel
theorem dX1_differentForms_13 : decode cX1_differentForms 13 = .ok (.invokevirtual 42, 3) := by decide +kernel
theorem dX1_differentForms_16 : decode cX1_differentForms 16 = .ok (.ifCond .ne 5, 3) := by decide +kernel
theorem dX1_differentForms_19 : decode cX1_differentForms 19 = .ok (.iconst 0, 1) := by decide +kernel
theorem dX1_differentForms_20 : decode cX1_differentForms 20 = .ok (.ireturn, 1) := by decide +kernel
theorem dX1_differentForms_21 : decode cX1_differentForms 21 = .ok (.iconst 0, 1) := by decide +kernel
theorem dX1_differentForms_22 : decode cX1_differentForms 22 = .ok (.istore_n 2, 1) := by decide +kernel
theorem dX1_differentForms_23 : decode cX1_differentForms 23 = .ok (.iconst 0, 1) := by decide +kernel
theorem dX1_differentForms_24 : decode cX1_differentForms 24 = .ok (.istore_n 3, 1) := by decide +kernel
theorem dX1_differentForms_25 : decode cX1_differentForms 25 = .ok (.iload_n 3, 1) := by decide +kernel
theorem dX1_differentForms_26 : decode cX1_differentForms 26 = .ok (.bipush 48, 2) := by decide +kernel
theorem dX1_differentForms_28 : decode cX1_differentForms 28 = .ok (.if_icmp .ge 63, 3) := by decide +kernel
theorem dX1_differentForms_31 : decode cX1_differentForms 31 = .ok (.iconst 1, 1) := by decide +kernel
theorem dX1_differentForms_32 : decode cX1_differentForms 32 = .ok (.istore 4, 2) := by decide +kernel
theorem dX1_differentForms_34 : decode cX1_differentForms 34 = .ok (.iconst 0, 1) := by decide +kernel
theorem dX1_differentForms_35 : decode cX1_differentForms 35 = .ok (.istore 5, 2) := by decide +kernel
theorem dX1_differentForms_37 : decode cX1_differentForms 37 = .ok (.iload 5, 2) := by decide +kernel
theorem dX1_differentForms_39 : decode cX1_differentForms 39 = .ok (.iload_n 3, 1) := by decide +kernel
theorem dX1_differentForms_40 : decode cX1_differentForms 40 = .ok (.if_icmp .ge 32, 3) := by decide +kernel
theorem dX1_differentForms_43 : decode cX1_differentForms 43 = .ok (.iload 4, 2) := by decide +kernel
theorem dX1_differentForms_45 : decode cX1_differentForms 45 = .ok (.ifCond .eq 18, 3) := by decide +kernel
theorem dX1_differentForms_48 : decode cX1_differentForms 48 = .ok (.aload_n 0, 1) := by decide +kernel
theorem dX1_differentForms_49 : decode cX1_differentForms 49 = .ok (.iload_n 1, 1) := by decide +kernel
theorem dX1_differentForms_50 : decode cX1_differentForms 50 = .ok (.iload 5, 2) := by decide +kernel
theorem dX1_differentForms_52 : decode cX1_differentForms 52 = .ok (.iload_n 3, 1) := by decide +kernel
theorem dX1_differentForms_53 : decode cX1_differentForms 53 = .ok (.invokevirtual 62, 3) := by decide +kernel
theorem dX1_differentForms_56 : decode cX1_differentForms 56 = .ok (.ifCond .ne 7, 3) := by decide +kernel
theorem dX1_differentForms_59 : decode cX1_differentForms 59 = .ok (.iconst 1, 1) := by decide +kernel
theorem dX1_differentForms_60 : decode cX1_differentForms 60 = .ok (.goto 4, 3) := by decide +kernel
theorem dX1_differentForms_63 : decode cX1_differentForms 63 = .ok (.iconst 0, 1) := by decide +kernel
theorem dX1_differentForms_64 : decode cX1_differentForms 64 = .ok (.istore 4, 2) := by decide +kernel
theorem dX1_differentForms_66 : decode cX1_differentForms 66 = .ok (.iinc 5 1, 3) := by decide +kernel
theorem dX1_differentForms_69 : decode cX1_differentForms 69 = .ok (.goto (-32), 3) := by decide +kernel
theorem dX1_differentForms_72 : decode cX1_differentForms 72 = .ok (.iload_n 2, 1) := by decide +kernel
theorem dX1_differentForms_73 : decode cX1_differentForms 73 = .ok (.iload 4, 2) := by decide +kernel
theorem dX1_differentForms_75 : decode cX1_differentForms 75 = .ok (.ifCond .eq 7, 3) := by decide +kernel
theorem dX1_differentForms_78 : decode cX1_differentForms 78 = .ok (.iconst 1, 1) := by decide +kernel
theorem dX1_differentForms_79 : decode cX1_differentForms 79 = .ok (.goto 4, 3) := by decide +kernel
theorem dX1_differentForms_82 : decode cX1_differentForms 82 = .ok (.iconst 0, 1) := by decide +kernel
theorem dX1_differentForms_83 : decode cX1_differentForms 83 = .ok (.iadd, 1) := by decide +kernel
theorem dX1_differentForms_84 : decode cX1_differentForms 84 = .ok (.istore_n 2, 1) := by decide +kernel
theorem dX1_differentForms_85 : decode cX1_differentForms 85 = .ok (.iinc 3 1, 3) := by decide +kernel
theorem dX1_differentForms_88 : decode cX1_differentForms 88 = .ok (.goto (-63), 3) := by decide +kernel
theorem dX1_differentForms_91 : decode cX1_differentForms 91 = .ok (.iload_n 2, 1) := by decide +kernel
theorem dX1_differentForms_92 : decode cX1_differentForms 92 = .ok (.ireturn, 1) := by decide +kernel
theorem dX1_formOfOther_0 : decode cX1_formOfOther 0 = .ok (.aload_n 0, 1) := by decide +kernel
theorem dX1_formOfOther_1 : decode cX1_formOfOther 1 = .ok (.iload_n 1, 1) := by decide +kernel
theorem dX1_formOfOther_2 : decode cX1_formOfOther 2 = .ok (.invokestatic 39, 3) := by decide +kernel
theorem dX1_formOfOther_5 : decode cX1_formOfOther 5 = .ok (.ifCond .eq 7, 3) := by decide +kernel
theorem dX1_formOfOther_8 : decode cX1_formOfOther 8 = .ok (.iconst 0, 1) := by decide +kernel
theorem dX1_formOfOther_9 : decode cX1_formOfOther 9 = .ok (.goto 4, 3) := by decide +kernel
theorem dX1_formOfOther_12 : decode cX1_formOfOther 12 = .ok (.iconst 1, 1) := by decide +kernel
theorem dX1_formOfOther_13 : decode cX1_formOfOther 13 = .ok (.invokevirtual 42, 3) := by decide +kernel
theorem dX1_formOfOther_16 : decode cX1_formOfOther 16 = .ok (.ifCond .ne 5, 3) := by decide +kernel
theorem dX1_formOfOther_19 : decode cX1_formOfOther 19 = .ok (.iconst 0, 1) := by decide +kernel
theorem dX1_formOfOther_20 : decode cX1_formOfOther 20 = .ok (.ireturn, 1) := by decide +kernel
theorem dX1_formOfOther_21 : decode cX1_formOfOther 21 = .ok (.iconst 0, 1) := by decide +kernel
theorem dX1_formOfOther_22 : decode cX1_formOfOther 22 = .ok (.istore_n 2, 1) := by decide +kernel
theorem dX1_formOfOther_23 : decode cX1_formOfOther 23 = .ok (.iload_n 2, 1) := by decide +kernel
theorem dX1_formOfOther_24 : decode cX1_formOfOther 24 = .ok (.bipush 48, 2) := by decide +kernel
theorem dX1_formOfOther_26 : decode cX1_formOfOther 26 = .ok (.if_icmp .ge 63, 3) := by decide +kernel
theorem dX1_formOfOther_29 : decode cX1_formOfOther 29 = .ok (.iconst 1, 1) := by decide +kernel
theorem dX1_formOfOther_30 : decode cX1_formOfOther 30 = .ok (.istore_n 3, 1) := by decide +kernel
theorem dX1_formOfOther_31 : decode cX1_formOfOther 31 = .ok (.iconst 0, 1) := by decide +kernel
theorem dX1_formOfOther_32 : decode cX1_formOfOther 32 = .ok (.istore 4, 2) := by decide +kernel
theorem dX1_formOfOther_34 : decode cX1_formOfOther 34 = .ok (.iload 4, 2) := by decide +kernel
theorem dX1_formOfOther_36 : decode cX1_formOfOther 36 = .ok (.bipush 12, 2) := by decide +kernel
theorem dX1_formOfOther_38 : decode cX1_formOfOther 38 = .ok (.if_icmp .ge 39, 3) := by decide +kernel
theorem dX1_formOfOther_41 : decode cX1_formOfOther 41 = .ok (.iload_n 3, 1) := by decide +kernel
theorem dX1_formOfOther_42 : decode cX1_formOfOther 42 = .ok (.ifCond .eq 27, 3) := by decide +kernel
theorem dX1_formOfOther_45 : decode cX1_formOfOther 45 = .ok (.aload_n 0, 1) := by decide +kernel
theorem dX1_formOfOther_46 : decode cX1_formOfOther 46 = .ok (.iload_n 1, 1) := by decide +kernel
theorem dX1_formOfOther_47 : decode cX1_formOfOther 47 = .ok (.iload_n 2, 1) := by decide +kernel
theorem dX1_formOfOther_48 : decode cX1_formOfOther 48 = .ok (.iload 4, 2) := by decide +kernel
theorem dX1_formOfOther_50 : decode cX1_formOfOther 50 = .ok (.invokevirtual 52, 3) := by decide +kernel
theorem dX1_formOfOther_53 : decode cX1_formOfOther 53 = .ok (.aload_n 0, 1) := by decide +kernel
theorem dX1_formOfOther_54 : decode cX1_formOfOther 54 = .ok (.iconst 1, 1) := by decide +kernel
theorem dX1_formOfOther_55 : decode cX1_formOfOther 55 = .ok (.iload_n 1, 1) := by decide +kernel
theorem dX1_formOfOther_56 : decode cX1_formOfOther 56 = .ok (.isub, 1) := by decide +kernel
theorem dX1_formOfOther_57 : decode cX1_formOfOther 57 = .ok (.iload 4, 2) := by decide +kernel
theorem dX1_formOfOther_59 : decode cX1_formOfOther 59 = .ok (.invokevirtual 31, 3) := by decide +kernel
theorem dX1_formOfOther_62 : decode cX1_formOfOther 62 = .ok (.if_icmp .ne 7, 3) := by decide +kernel
theorem dX1_formOfOther_65 : decode cX1_formOfOther 65 = .ok (.iconst 1, 1) := by decide +kernel
theorem dX1_formOfOther_66 : decode cX1_formOfOther 66 = .ok (.goto 4, 3) := by decide +kernel
theorem dX1_formOfOther_69 : decode cX1_formOfOther 69 = .ok (.iconst 0, 1) := by decide +kernel
theorem dX1_formOfOther_70 : decode cX1_formOfOther 70 = .ok (.istore_n 3, 1) := by decide +kernel
theorem dX1_formOfOther_71 : decode cX1_formOfOther 71 = .ok (.iinc 4 1, 3) := by decide +kernel
theorem dX1_formOfOther_74 : decode cX1_formOfOther 74 = .ok (.goto (-40), 3) := by decide +kernel
theorem dX1_formOfOther_77 : decode cX1_formOfOther 77 = .ok (.iload_n 3, 1) := by decide +kernel
theorem dX1_formOfOther_78 : decode cX1_formOfOther 78 = .ok (.ifCond .eq 5, 3) := by decide +kernel
theorem dX1_formOfOther_81 : decode cX1_formOfOther 81 = .ok (.iload_n 2, 1) := by decide +kernel
theorem dX1_formOfOther_82 : decode cX1_formOfOther 82 = .ok (.ireturn, 1) := by decide +kernel
theorem dX1_formOfOther_83 : decode cX1_formOfOther 83 = .ok (.iinc 2 1, 3) := by decide +kernel
theorem dX1_formOfOther_86 : decode cX1_formOfOther 86 = .ok (.goto (-63), 3) := by decide +kernel
theorem dX1_formOfOther_89 : decode cX1_formOfOther 89 = .ok (.iconst (-1), 1) := by decide +kernel
theorem dX1_formOfOther_90 : decode cX1_formOfOther 90 = .ok (.ireturn, 1) := by decide +kernel
theorem dX1_setOf_0 : decode cX1_setOf 0 = .ok (.iconst 0, 1) := by decide +kernel
theorem dX1_setOf_1 : decode cX1_setOf 1 = .ok (.istore 5, 2) := by decide +kernel
theorem dX1_setOf_3 : decode cX1_setOf 3 = .ok (.iconst 0, 1) := by decide +kernel
theorem dX1_setOf_4 : decode cX1_setOf 4 = .ok (.istore 6, 2) := by decide +kernel
theorem dX1_setOf_6 : decode cX1_setOf 6 = .ok (.iload 6, 2) := by decide +kernel
theorem dX1_setOf_8 : decode cX1_setOf 8 = .ok (.iload 4, 2) := by decide +kernel
theorem dX1_setOf_10 : decode cX1_setOf 10 = .ok (.if_icmp .ge 26, 3) := by decide +kernel
theorem dX1_setOf_13 : decode cX1_setOf 13 = .ok (.iload 5, 2) := by decide +kernel
theorem dX1_setOf_15 : decode cX1_setOf 15 = .ok (.iconst 1, 1) := by decide +kernel
theorem dX1_setOf_16 : decode cX1_setOf 16 = .ok (.aload_n 0, 1) := by decide +kernel
theorem dX1_setOf_17 : decode cX1_setOf 17 = .ok (.iload_n 1, 1) := by decide +kernel
theorem dX1_setOf_18 : decode cX1_setOf 18 = .ok (.iload_n 2, 1) := by decide +kernel
theorem dX1_setOf_19 : decode cX1_setOf 19 = .ok (.iload_n 3, 1) := by decide +kernel
theorem dX1_setOf_20 : decode cX1_setOf 20 = .ok (.iload 6, 2) := by decide +kernel
theorem dX1_setOf_22 : decode cX1_setOf 22 = .ok (.iadd, 1) := by decide +kernel
theorem dX1_setOf_23 : decode cX1_setOf 23 = .ok (.invokevirtual 52, 3) := by decide +kernel
theorem dX1_setOf_26 : decode cX1_setOf 26 = .ok (.ishl, 1) := by decide +kernel
theorem dX1_setOf_27 : decode cX1_setOf 27 = .ok (.ior, 1) := by decide +kernel
theorem dX1_setOf_28 : decode cX1_setOf 28 = .ok (.istore 5, 2) := by decide +kernel
theorem dX1_setOf_30 : decode cX1_setOf 30 = .ok (.iinc 6 1, 3) := by decide +kernel
theorem dX1_setOf_33 : decode cX1_setOf 33 = .ok (.goto (-27), 3) := by decide +kernel
theorem dX1_setOf_36 : decode cX1_setOf 36 = .ok (.iload 5, 2) := by decide +kernel
theorem dX1_setOf_38 : decode cX1_setOf 38 = .ok (.ireturn, 1) := by decide +kernel
theorem dX1_itself_0 : decode cX1_itself 0 = .ok (.iconst 0, 1) := by decide +kernel
theorem dX1_itself_1 : decode cX1_itself 1 = .ok (.aload_n 0, 1) := by decide +kernel
theorem dX1_itself_2 : decode cX1_itself 2 = .ok (.iload_n 1, 1) := by decide +kernel
theorem dX1_itself_3 : decode cX1_itself 3 = .ok (.iconst 0, 1) := by decide +kernel
theorem dX1_itself_4 : decode cX1_itself 4 = .ok (.invokevirtual 31, 3) := by decide +kernel
theorem dX1_itself_7 : decode cX1_itself 7 = .ok (.invokestatic 49, 3) := by decide +kernel
theorem dX1_itself_10 : decode cX1_itself 10 = .ok (.ireturn, 1) := by decide +kernel
theorem dX1_segment_0 : decode cX1_segment 0 = .ok (.iload_n 3, 1) := by decide +kernel
theorem dX1_segment_1 : decode cX1_segment 1 = .ok (.iconst 1, 1) := by decide +kernel
theorem dX1_segment_2 : decode cX1_segment 2 = .ok (.bipush 12, 2) := by decide +kernel
theorem dX1_segment_4 : decode cX1_segment 4 = .ok (.invokestatic 23, 3) := by decide +kernel
theorem dX1_segment_7 : decode cX1_segment 7 = .ok (.ifCond .eq 15, 3) := by decide +kernel
theorem dX1_segment_10 : decode cX1_segment 10 = .ok (.iload_n 2, 1) := by decide +kernel
theorem dX1_segment_11 : decode cX1_segment 11 = .ok (.iload_n 3, 1) := by decide +kernel
theorem dX1_segment_12 : decode cX1_segment 12 = .ok (.iadd, 1) := by decide +kernel
theorem dX1_segment_13 : decode cX1_segment 13 = .ok (.bipush 12, 2) := by decide +kernel
theorem dX1_segment_15 : decode cX1_segment 15 = .ok (.if_icmp .gt 7, 3) := by decide +kernel
theorem dX1_segment_18 : decode cX1_segment 18 = .ok (.iconst 1, 1) := by decide +kernel
theorem dX1_segment_19 : decode cX1_segment 19 = .ok (.goto 4, 3) := by decide +kernel
theorem dX1_segment_22 : decode cX1_segment 22 = .ok (.iconst 0, 1) := by decide +kernel
theorem dX1_segment_23 : decode cX1_segment 23 = .ok (.istore 4, 2) := by decide +kernel
theorem dX1_segment_25 : decode cX1_segment 25 = .ok (.aload_n 0, 1) := by decide +kernel
theorem dX1_segment_26 : decode cX1_segment 26 = .ok (.iload_n 1, 1) := by decide +kernel
theorem dX1_segment_27 : decode cX1_segment 27 = .ok (.invokestatic 39, 3) := by decide +kernel
theorem dX1_segment_30 : decode cX1_segment 30 = .ok (.ifCond .eq 10, 3) := by decide +kernel
theorem dX1_segment_33 : decode cX1_segment 33 = .ok (.iload_n 2, 1) := by decide +kernel
theorem dX1_segment_34 : decode cX1_segment 34 = .ok (.invokestatic 27, 3) := by decide +kernel
theorem dX1_segment_37 : decode cX1_segment 37 = .ok (.ifCond .ne 7, 3) := by decide +kernel
theorem dX1_segment_40 : decode cX1_segment 40 = .ok (.iconst 1, 1) := by decide +kernel
theorem dX1_segment_41 : decode cX1_segment 41 = .ok (.goto 13, 3) := by decide +kernel
theorem dX1_segment_44 : decode cX1_segment 44 = .ok (.iload 4, 2) := by decide +kernel
theorem dX1_segment_46 : decode cX1_segment 46 = .ok (.ifCond .eq 7, 3) := by decide +kernel
theorem dX1_segment_49 : decode cX1_segment 49 = .ok (.iconst 0, 1) := by decide +kernel
theorem dX1_segment_50 : decode cX1_segment 50 = .ok (.goto 4, 3) := by decide +kernel
theorem dX1_segment_53 : decode cX1_segment 53 = .ok (.iconst 2, 1) := by decide +kernel
theorem dX1_segment_54 : decode cX1_segment 54 = .ok (.invokevirtual 42, 3) := by decide +kernel
theorem dX1_segment_57 : decode cX1_segment 57 = .ok (.ifCond .eq 18, 3) := by decide +kernel
theorem dX1_segment_60 : decode cX1_segment 60 = .ok (.aload_n 0, 1) := by decide +kernel
theorem dX1_segment_61 : decode cX1_segment 61 = .ok (.iload_n 1, 1) := by decide +kernel
theorem dX1_segment_62 : decode cX1_segment 62 = .ok (.aload_n 0, 1) := by decide +kernel
theorem dX1_segment_63 : decode cX1_segment 63 = .ok (.iload_n 1, 1) := by decide +kernel
theorem dX1_segment_64 : decode cX1_segment 64 = .ok (.invokevirtual 65, 3) := by decide +kernel
theorem dX1_segment_67 : decode cX1_segment 67 = .ok (.iload_n 2, 1) := by decide +kernel
theorem dX1_segment_68 : decode cX1_segment 68 = .ok (.iload_n 3, 1) := by decide +kernel
theorem dX1_segment_69 : decode cX1_segment 69 = .ok (.invokevirtual 68, 3) := by decide +kernel
theorem dX1_segment_72 : decode cX1_segment 72 = .ok (.goto 4, 3) := by decide +kernel
theorem dX1_segment_75 : decode cX1_segment 75 = .ok (.iconst 0, 1) := by decide +kernel
theorem dX1_segment_76 : decode cX1_segment 76 = .ok (.ireturn, 1) := by decide +kernel
theorem dX1_moved_0 : decode cX1_moved 0 = .ok (.iconst 0, 1) := by decide +kernel
theorem dX1_moved_1 : decode cX1_moved 1 = .ok (.istore_n 3, 1) := by decide +kernel
theorem dX1_moved_2 : decode cX1_moved 2 = .ok (.iconst 0, 1) := by decide +kernel
theorem dX1_moved_3 : decode cX1_moved 3 = .ok (.istore 4, 2) := by decide +kernel
theorem dX1_moved_5 : decode cX1_moved 5 = .ok (.iload 4, 2) := by decide +kernel
theorem dX1_moved_7 : decode cX1_moved 7 = .ok (.bipush 12, 2) := by decide +kernel
theorem dX1_moved_9 : decode cX1_moved 9 = .ok (.if_icmp .ge 37, 3) := by decide +kernel
theorem dX1_moved_12 : decode cX1_moved 12 = .ok (.iload_n 3, 1) := by decide +kernel
theorem dX1_moved_13 : decode cX1_moved 13 = .ok (.iload_n 0, 1) := by decide +kernel
theorem dX1_moved_14 : decode cX1_moved 14 = .ok (.iload 4, 2) := by decide +kernel
theorem dX1_moved_16 : decode cX1_moved 16 = .ok (.ishr, 1) := by decide +kernel
theorem dX1_moved_17 : decode cX1_moved 17 = .ok (.iconst 1, 1) := by decide +kernel
theorem dX1_moved_18 : decode cX1_moved 18 = .ok (.iand, 1) := by decide +kernel
theorem dX1_moved_19 : decode cX1_moved 19 = .ok (.iload_n 2, 1) := by decide +kernel
theorem dX1_moved_20 : decode cX1_moved 20 = .ok (.ifCond .eq 10, 3) := by decide +kernel
theorem dX1_moved_23 : decode cX1_moved 23 = .ok (.iload_n 1, 1) := by decide +kernel
theorem dX1_moved_24 : decode cX1_moved 24 = .ok (.iload 4, 2) := by decide +kernel
theorem dX1_moved_26 : decode cX1_moved 26 = .ok (.isub, 1) := by decide +kernel
theorem dX1_moved_27 : decode cX1_moved 27 = .ok (.goto 7, 3) := by decide +kernel
theorem dX1_moved_30 : decode cX1_moved 30 = .ok (.iload_n 1, 1) := by decide +kernel
theorem dX1_moved_31 : decode cX1_moved 31 = .ok (.iload 4, 2) := by decide +kernel
theorem dX1_moved_33 : decode cX1_moved 33 = .ok (.iadd, 1) := by decide +kernel
theorem dX1_moved_34 : decode cX1_moved 34 = .ok (.invokestatic 35, 3) := by decide +kernel
theorem dX1_moved_37 : decode cX1_moved 37 = .ok (.ishl, 1) := by decide +kernel
theorem dX1_moved_38 : decode cX1_moved 38 = .ok (.ior, 1) := by decide +kernel
theorem dX1_moved_39 : decode cX1_moved 39 = .ok (.istore_n 3, 1) := by decide +kernel
theorem dX1_moved_40 : decode cX1_moved 40 = .ok (.iinc 4 1, 3) := by decide +kernel
theorem dX1_moved_43 : decode cX1_moved 43 = .ok (.goto (-38), 3) := by decide +kernel
theorem dX1_moved_46 : decode cX1_moved 46 = .ok (.iload_n 3, 1) := by decide +kernel
theorem dX1_moved_47 : decode cX1_moved 47 = .ok (.ireturn, 1) := by decide +kernel
theorem dX1_least_0 : decode cX1_least 0 = .ok (.iload_n 0, 1) := by decide +kernel
theorem dX1_least_1 : decode cX1_least 1 = .ok (.istore_n 1, 1) := by decide +kernel
theorem dX1_least_2 : decode cX1_least 2 = .ok (.iconst 0, 1) := by decide +kernel
theorem dX1_least_3 : decode cX1_least 3 = .ok (.istore_n 2, 1) := by decide +kernel
theorem dX1_least_4 : decode cX1_least 4 = .ok (.iload_n 2, 1) := by decide +kernel
theorem dX1_least_5 : decode cX1_least 5 = .ok (.bipush 12, 2) := by decide +kernel
theorem dX1_least_7 : decode cX1_least 7 = .ok (.if_icmp .ge 51, 3) := by decide +kernel
theorem dX1_least_10 : decode cX1_least 10 = .ok (.iload_n 0, 1) := by decide +kernel
theorem dX1_least_11 : decode cX1_least 11 = .ok (.iload_n 2, 1) := by decide +kernel
theorem dX1_least_12 : decode cX1_least 12 = .ok (.iconst 0, 1) := by decide +kernel
theorem dX1_least_13 : decode cX1_least 13 = .ok (.invokestatic 72, 3) := by decide +kernel
theorem dX1_least_16 : decode cX1_least 16 = .ok (.iload_n 1, 1) := by decide +kernel
theorem dX1_least_17 : decode cX1_least 17 = .ok (.if_icmp .ge 12, 3) := by decide +kernel
theorem dX1_least_20 : decode cX1_least 20 = .ok (.iload_n 0, 1) := by decide +kernel
theorem dX1_least_21 : decode cX1_least 21 = .ok (.iload_n 2, 1) := by decide +kernel
theorem dX1_least_22 : decode cX1_least 22 = .ok (.iconst 0, 1) := by decide +kernel
theorem dX1_least_23 : decode cX1_least 23 = .ok (.invokestatic 72, 3) := by decide +kernel
theorem dX1_least_26 : decode cX1_least 26 = .ok (.goto 4, 3) := by decide +kernel
theorem dX1_least_29 : decode cX1_least 29 = .ok (.iload_n 1, 1) := by decide +kernel
theorem dX1_least_30 : decode cX1_least 30 = .ok (.istore_n 1, 1) := by decide +kernel
theorem dX1_least_31 : decode cX1_least 31 = .ok (.iload_n 0, 1) := by decide +kernel
theorem dX1_least_32 : decode cX1_least 32 = .ok (.iload_n 2, 1) := by decide +kernel
theorem dX1_least_33 : decode cX1_least 33 = .ok (.iconst 1, 1) := by decide +kernel
theorem dX1_least_34 : decode cX1_least 34 = .ok (.invokestatic 72, 3) := by decide +kernel
theorem dX1_least_37 : decode cX1_least 37 = .ok (.iload_n 1, 1) := by decide +kernel
theorem dX1_least_38 : decode cX1_least 38 = .ok (.if_icmp .ge 12, 3) := by decide +kernel
theorem dX1_least_41 : decode cX1_least 41 = .ok (.iload_n 0, 1) := by decide +kernel
theorem dX1_least_42 : decode cX1_least 42 = .ok (.iload_n 2, 1) := by decide +kernel
theorem dX1_least_43 : decode cX1_least 43 = .ok (.iconst 1, 1) := by decide +kernel
theorem dX1_least_44 : decode cX1_least 44 = .ok (.invokestatic 72, 3) := by decide +kernel
theorem dX1_least_47 : decode cX1_least 47 = .ok (.goto 4, 3) := by decide +kernel
theorem dX1_least_50 : decode cX1_least 50 = .ok (.iload_n 1, 1) := by decide +kernel
theorem dX1_least_51 : decode cX1_least 51 = .ok (.istore_n 1, 1) := by decide +kernel
theorem dX1_least_52 : decode cX1_least 52 = .ok (.iinc 2 1, 3) := by decide +kernel
theorem dX1_least_55 : decode cX1_least 55 = .ok (.goto (-51), 3) := by decide +kernel
theorem dX1_least_58 : decode cX1_least 58 = .ok (.iload_n 1, 1) := by decide +kernel
theorem dX1_least_59 : decode cX1_least 59 = .ok (.ireturn, 1) := by decide +kernel
theorem dX1_classOf_0 : decode cX1_classOf 0 = .ok (.aload_n 0, 1) := by decide +kernel
theorem dX1_classOf_1 : decode cX1_classOf 1 = .ok (.iload_n 1, 1) := by decide +kernel
theorem dX1_classOf_2 : decode cX1_classOf 2 = .ok (.iconst 0, 1) := by decide +kernel
theorem dX1_classOf_3 : decode cX1_classOf 3 = .ok (.sipush 4095, 3) := by decide +kernel
theorem dX1_classOf_6 : decode cX1_classOf 6 = .ok (.invokestatic 23, 3) := by decide +kernel
theorem dX1_classOf_9 : decode cX1_classOf 9 = .ok (.ifCond .eq 7, 3) := by decide +kernel
theorem dX1_classOf_12 : decode cX1_classOf 12 = .ok (.iconst 0, 1) := by decide +kernel
theorem dX1_classOf_13 : decode cX1_classOf 13 = .ok (.goto 4, 3) := by decide +kernel
theorem dX1_classOf_16 : decode cX1_classOf 16 = .ok (.iconst 1, 1) := by decide +kernel
theorem dX1_classOf_17 : decode cX1_classOf 17 = .ok (.invokevirtual 42, 3) := by decide +kernel
theorem dX1_classOf_20 : decode cX1_classOf 20 = .ok (.ifCond .eq 10, 3) := by decide +kernel
theorem dX1_classOf_23 : decode cX1_classOf 23 = .ok (.iload_n 1, 1) := by decide +kernel
theorem dX1_classOf_24 : decode cX1_classOf 24 = .ok (.invokestatic 76, 3) := by decide +kernel
theorem dX1_classOf_27 : decode cX1_classOf 27 = .ok (.goto 4, 3) := by decide +kernel
theorem dX1_classOf_30 : decode cX1_classOf 30 = .ok (.iconst 0, 1) := by decide +kernel
theorem dX1_classOf_31 : decode cX1_classOf 31 = .ok (.ireturn, 1) := by decide +kernel
theorem dX1_pairs_0 : decode cX1_pairs 0 = .ok (.aload_n 0, 1) := by decide +kernel
theorem dX1_pairs_1 : decode cX1_pairs 1 = .ok (.iload_n 1, 1) := by decide +kernel
theorem dX1_pairs_2 : decode cX1_pairs 2 = .ok (.iconst 0, 1) := by decide +kernel
theorem dX1_pairs_3 : decode cX1_pairs 3 = .ok (.sipush 4095, 3) := by decide +kernel
theorem dX1_pairs_6 : decode cX1_pairs 6 = .ok (.invokestatic 23, 3) := by decide +kernel
theorem dX1_pairs_9 : decode cX1_pairs 9 = .ok (.ifCond .eq 17, 3) := by decide +kernel
theorem dX1_pairs_12 : decode cX1_pairs 12 = .ok (.iload_n 2, 1) := by decide +kernel
theorem dX1_pairs_13 : decode cX1_pairs 13 = .ok (.iconst 1, 1) := by decide +kernel
theorem dX1_pairs_14 : decode cX1_pairs 14 = .ok (.bipush 6, 2) := by decide +kernel
theorem dX1_pairs_16 : decode cX1_pairs 16 = .ok (.invokestatic 23, 3) := by decide +kernel
theorem dX1_pairs_19 : decode cX1_pairs 19 = .ok (.ifCond .eq 7, 3) := by decide +kernel
theorem dX1_pairs_22 : decode cX1_pairs 22 = .ok (.iconst 0, 1) := by decide +kernel
theorem dX1_pairs_23 : decode cX1_pairs 23 = .ok (.goto 4, 3) := by decide +kernel
theorem dX1_pairs_26 : decode cX1_pairs 26 = .ok (.iconst 1, 1) := by decide +kernel
theorem dX1_pairs_27 : decode cX1_pairs 27 = .ok (.invokevirtual 42, 3) := by decide +kernel
theorem dX1_pairs_30 : decode cX1_pairs 30 = .ok (.ifCond .ne 5, 3) := by decide +kernel
theorem dX1_pairs_33 : decode cX1_pairs 33 = .ok (.iconst 0, 1) := by decide +kernel
theorem dX1_pairs_34 : decode cX1_pairs 34 = .ok (.ireturn, 1) := by decide +kernel
theorem dX1_pairs_35 : decode cX1_pairs 35 = .ok (.iconst 0, 1) := by decide +kernel
theorem dX1_pairs_36 : decode cX1_pairs 36 = .ok (.istore_n 3, 1) := by decide +kernel
theorem dX1_pairs_37 : decode cX1_pairs 37 = .ok (.iconst 0, 1) := by decide +kernel
theorem dX1_pairs_38 : decode cX1_pairs 38 = .ok (.istore 4, 2) := by decide +kernel
theorem dX1_pairs_40 : decode cX1_pairs 40 = .ok (.iload 4, 2) := by decide +kernel
theorem dX1_pairs_42 : decode cX1_pairs 42 = .ok (.bipush 12, 2) := by decide +kernel
theorem dX1_pairs_44 : decode cX1_pairs 44 = .ok (.if_icmp .ge 76, 3) := by decide +kernel
theorem dX1_pairs_47 : decode cX1_pairs 47 = .ok (.iconst 0, 1) := by decide +kernel
theorem dX1_pairs_48 : decode cX1_pairs 48 = .ok (.istore 5, 2) := by decide +kernel
theorem dX1_pairs_50 : decode cX1_pairs 50 = .ok (.iload 5, 2) := by decide +kernel
theorem dX1_pairs_52 : decode cX1_pairs 52 = .ok (.iload 4, 2) := by decide +kernel
theorem dX1_pairs_54 : decode cX1_pairs 54 = .ok (.if_icmp .ge 60, 3) := by decide +kernel
theorem dX1_pairs_57 : decode cX1_pairs 57 = .ok (.iload 4, 2) := by decide +kernel
theorem dX1_pairs_59 : decode cX1_pairs 59 = .ok (.iload 5, 2) := by decide +kernel
theorem dX1_pairs_61 : decode cX1_pairs 61 = .ok (.isub, 1) := by decide +kernel
theorem dX1_pairs_62 : decode cX1_pairs 62 = .ok (.iload_n 2, 1) := by decide +kernel
theorem dX1_pairs_63 : decode cX1_pairs 63 = .ok (.if_icmp .eq 15, 3) := by decide +kernel
theorem dX1_pairs_66 : decode cX1_pairs 66 = .ok (.iload 4, 2) := by decide +kernel
theorem dX1_pairs_68 : decode cX1_pairs 68 = .ok (.iload 5, 2) := by decide +kernel
theorem dX1_pairs_70 : decode cX1_pairs 70 = .ok (.isub, 1) := by decide +kernel
theorem dX1_pairs_71 : decode cX1_pairs 71 = .ok (.bipush 12, 2) := by decide +kernel
theorem dX1_pairs_73 : decode cX1_pairs 73 = .ok (.iload_n 2, 1) := by decide +kernel
theorem dX1_pairs_74 : decode cX1_pairs 74 = .ok (.isub, 1) := by decide +kernel
theorem dX1_pairs_75 : decode cX1_pairs 75 = .ok (.if_icmp .ne 7, 3) := by decide +kernel
theorem dX1_pairs_78 : decode cX1_pairs 78 = .ok (.iconst 1, 1) := by decide +kernel
theorem dX1_pairs_79 : decode cX1_pairs 79 = .ok (.goto 4, 3) := by decide +kernel
theorem dX1_pairs_82 : decode cX1_pairs 82 = .ok (.iconst 0, 1) := by decide +kernel
theorem dX1_pairs_83 : decode cX1_pairs 83 = .ok (.istore 6, 2) := by decide +kernel
theorem dX1_pairs_85 : decode cX1_pairs 85 = .ok (.iload_n 3, 1) := by decide +kernel
theorem dX1_pairs_86 : decode cX1_pairs 86 = .ok (.iload 6, 2) := by decide +kernel
theorem dX1_pairs_88 : decode cX1_pairs 88 = .ok (.ifCond .eq 17, 3) := by decide +kernel
theorem dX1_pairs_91 : decode cX1_pairs 91 = .ok (.iload_n 1, 1) := by decide +kernel
theorem dX1_pairs_92 : decode cX1_pairs 92 = .ok (.iload 4, 2) := by decide +kernel
theorem dX1_pairs_94 : decode cX1_pairs 94 = .ok (.ishr, 1) := by decide +kernel
theorem dX1_pairs_95 : decode cX1_pairs 95 = .ok (.iload_n 1, 1) := by decide +kernel
theorem dX1_pairs_96 : decode cX1_pairs 96 = .ok (.iload 5, 2) := by decide +kernel
theorem dX1_pairs_98 : decode cX1_pairs 98 = .ok (.ishr, 1) := by decide +kernel
theorem dX1_pairs_99 : decode cX1_pairs 99 = .ok (.iand, 1) := by decide +kernel
theorem dX1_pairs_100 : decode cX1_pairs 100 = .ok (.iconst 1, 1) := by decide +kernel
theorem dX1_pairs_101 : decode cX1_pairs 101 = .ok (.iand, 1) := by decide +kernel
theorem dX1_pairs_102 : decode cX1_pairs 102 = .ok (.goto 4, 3) := by decide +kernel
theorem dX1_pairs_105 : decode cX1_pairs 105 = .ok (.iconst 0, 1) := by decide +kernel
theorem dX1_pairs_106 : decode cX1_pairs 106 = .ok (.iadd, 1) := by decide +kernel
theorem dX1_pairs_107 : decode cX1_pairs 107 = .ok (.istore_n 3, 1) := by decide +kernel
theorem dX1_pairs_108 : decode cX1_pairs 108 = .ok (.iinc 5 1, 3) := by decide +kernel
theorem dX1_pairs_111 : decode cX1_pairs 111 = .ok (.goto (-61), 3) := by decide +kernel
theorem dX1_pairs_114 : decode cX1_pairs 114 = .ok (.iinc 4 1, 3) := by decide +kernel
theorem dX1_pairs_117 : decode cX1_pairs 117 = .ok (.goto (-77), 3) := by decide +kernel
theorem dX1_pairs_120 : decode cX1_pairs 120 = .ok (.iload_n 3, 1) := by decide +kernel
theorem dX1_pairs_121 : decode cX1_pairs 121 = .ok (.ireturn, 1) := by decide +kernel
theorem dX1_combining_0 : decode cX1_combining 0 = .ok (.aload_n 0, 1) := by decide +kernel
theorem dX1_combining_1 : decode cX1_combining 1 = .ok (.iload_n 1, 1) := by decide +kernel
theorem dX1_combining_2 : decode cX1_combining 2 = .ok (.invokestatic 39, 3) := by decide +kernel
theorem dX1_combining_5 : decode cX1_combining 5 = .ok (.ifCond .eq 7, 3) := by decide +kernel
theorem dX1_combining_8 : decode cX1_combining 8 = .ok (.iconst 0, 1) := by decide +kernel
theorem dX1_combining_9 : decode cX1_combining 9 = .ok (.goto 4, 3) := by decide +kernel
theorem dX1_combining_12 : decode cX1_combining 12 = .ok (.iconst 1, 1) := by decide +kernel
theorem dX1_combining_13 : decode cX1_combining 13 = .ok (.invokevirtual 42, 3) := by decide +kernel
theorem dX1_combining_16 : decode cX1_combining 16 = .ok (.ifCond .ne 5, 3) := by decide +kernel
theorem dX1_combining_19 : decode cX1_combining 19 = .ok (.lconst 0, 1) := by decide +kernel
theorem dX1_combining_20 : decode cX1_combining 20 = .ok (.lreturn, 1) := by decide +kernel
theorem dX1_combining_21 : decode cX1_combining 21 = .ok (.lconst 0, 1) := by decide +kernel
theorem dX1_combining_22 : decode cX1_combining 22 = .ok (.lstore_n 2, 1) := by decide +kernel
theorem dX1_combining_23 : decode cX1_combining 23 = .ok (.iconst 0, 1) := by decide +kernel
theorem dX1_combining_24 : decode cX1_combining 24 = .ok (.istore 4, 2) := by decide +kernel
theorem dX1_combining_26 : decode cX1_combining 26 = .ok (.iload 4, 2) := by decide +kernel
theorem dX1_combining_28 : decode cX1_combining 28 = .ok (.bipush 48, 2) := by decide +kernel
theorem dX1_combining_30 : decode cX1_combining 30 = .ok (.if_icmp .ge 59, 3) := by decide +kernel
theorem dX1_combining_33 : decode cX1_combining 33 = .ok (.aload_n 0, 1) := by decide +kernel
theorem dX1_combining_34 : decode cX1_combining 34 = .ok (.iload_n 1, 1) := by decide +kernel
theorem dX1_combining_35 : decode cX1_combining 35 = .ok (.aload_n 0, 1) := by decide +kernel
theorem dX1_combining_36 : decode cX1_combining 36 = .ok (.iload_n 1, 1) := by decide +kernel
theorem dX1_combining_37 : decode cX1_combining 37 = .ok (.invokevirtual 65, 3) := by decide +kernel
theorem dX1_combining_40 : decode cX1_combining 40 = .ok (.iconst 0, 1) := by decide +kernel
theorem dX1_combining_41 : decode cX1_combining 41 = .ok (.bipush 6, 2) := by decide +kernel
theorem dX1_combining_43 : decode cX1_combining 43 = .ok (.invokevirtual 68, 3) := by decide +kernel
theorem dX1_combining_46 : decode cX1_combining 46 = .ok (.aload_n 0, 1) := by decide +kernel
theorem dX1_combining_47 : decode cX1_combining 47 = .ok (.iload_n 1, 1) := by decide +kernel
theorem dX1_combining_48 : decode cX1_combining 48 = .ok (.iload 4, 2) := by decide +kernel
theorem dX1_combining_50 : decode cX1_combining 50 = .ok (.iconst 0, 1) := by decide +kernel
theorem dX1_combining_51 : decode cX1_combining 51 = .ok (.bipush 6, 2) := by decide +kernel
theorem dX1_combining_53 : decode cX1_combining 53 = .ok (.invokevirtual 68, 3) := by decide +kernel
theorem dX1_combining_56 : decode cX1_combining 56 = .ok (.iand, 1) := by decide +kernel
theorem dX1_combining_57 : decode cX1_combining 57 = .ok (.ifCond .ne 7, 3) := by decide +kernel
theorem dX1_combining_60 : decode cX1_combining 60 = .ok (.iconst 1, 1) := by decide +kernel
theorem dX1_combining_61 : decode cX1_combining 61 = .ok (.goto 4, 3) := by decide +kernel
theorem dX1_combining_64 : decode cX1_combining 64 = .ok (.iconst 0, 1) := by decide +kernel
theorem dX1_combining_65 : decode cX1_combining 65 = .ok (.istore 5, 2) := by decide +kernel
theorem dX1_combining_67 : decode cX1_combining 67 = .ok (.lload_n 2, 1) := by decide +kernel
theorem dX1_combining_68 : decode cX1_combining 68 = .ok (.iload 5, 2) := by decide +kernel
theorem dX1_combining_70 : decode cX1_combining 70 = .ok (.ifCond .eq 10, 3) := by decide +kernel
theorem dX1_combining_73 : decode cX1_combining 73 = .ok (.lconst 1, 1) := by decide +kernel
theorem dX1_combining_74 : decode cX1_combining 74 = .ok (.iload 4, 2) := by decide +kernel
theorem dX1_combining_76 : decode cX1_combining 76 = .ok (.lshl, 1) := by decide +kernel
theorem dX1_combining_77 : decode cX1_combining 77 = .ok (.goto 4, 3) := by decide +kernel
theorem dX1_combining_80 : decode cX1_combining 80 = .ok (.lconst 0, 1) := by decide +kernel
theorem dX1_combining_81 : decode cX1_combining 81 = .ok (.lor, 1) := by decide +kernel
theorem dX1_combining_82 : decode cX1_combining 82 = .ok (.lstore_n 2, 1) := by decide +kernel
theorem dX1_combining_83 : decode cX1_combining 83 = .ok (.iinc 4 1, 3) := by decide +kernel
theorem dX1_combining_86 : decode cX1_combining 86 = .ok (.goto (-60), 3) := by decide +kernel
theorem dX1_combining_89 : decode cX1_combining 89 = .ok (.lload_n 2, 1) := by decide +kernel
theorem dX1_combining_90 : decode cX1_combining 90 = .ok (.lreturn, 1) := by decide +kernel
theorem dX1_isDerived_0 : decode cX1_isDerived 0 = .ok (.iload_n 2, 1) := by decide +kernel
theorem dX1_isDerived_1 : decode cX1_isDerived 1 = .ok (.iconst 1, 1) := by decide +kernel
theorem dX1_isDerived_2 : decode cX1_isDerived 2 = .ok (.bipush 12, 2) := by decide +kernel
theorem dX1_isDerived_4 : decode cX1_isDerived 4 = .ok (.invokestatic 23, 3) := by decide +kernel
theorem dX1_isDerived_7 : decode cX1_isDerived 7 = .ok (.ifCond .eq 14, 3) := by decide +kernel
theorem dX1_isDerived_10 : decode cX1_isDerived 10 = .ok (.bipush 12, 2) := by decide +kernel
theorem dX1_isDerived_12 : decode cX1_isDerived 12 = .ok (.iload_n 2, 1) := by decide +kernel
theorem dX1_isDerived_13 : decode cX1_isDerived 13 = .ok (.irem, 1) := by decide +kernel
theorem dX1_isDerived_14 : decode cX1_isDerived 14 = .ok (.ifCond .ne 7, 3) := by decide +kernel
theorem dX1_isDerived_17 : decode cX1_isDerived 17 = .ok (.iconst 1, 1) := by decide +kernel
theorem dX1_isDerived_18 : decode cX1_isDerived 18 = .ok (.goto 4, 3) := by decide +kernel
theorem dX1_isDerived_21 : decode cX1_isDerived 21 = .ok (.iconst 0, 1) := by decide +kernel
theorem dX1_isDerived_22 : decode cX1_isDerived 22 = .ok (.istore_n 3, 1) := by decide +kernel
theorem dX1_isDerived_23 : decode cX1_isDerived 23 = .ok (.aload_n 0, 1) := by decide +kernel
theorem dX1_isDerived_24 : decode cX1_isDerived 24 = .ok (.iload_n 1, 1) := by decide +kernel
theorem dX1_isDerived_25 : decode cX1_isDerived 25 = .ok (.invokestatic 39, 3) := by decide +kernel
theorem dX1_isDerived_28 : decode cX1_isDerived 28 = .ok (.ifCond .ne 7, 3) := by decide +kernel
theorem dX1_isDerived_31 : decode cX1_isDerived 31 = .ok (.iconst 1, 1) := by decide +kernel
theorem dX1_isDerived_32 : decode cX1_isDerived 32 = .ok (.goto 12, 3) := by decide +kernel
theorem dX1_isDerived_35 : decode cX1_isDerived 35 = .ok (.iload_n 3, 1) := by decide +kernel
theorem dX1_isDerived_36 : decode cX1_isDerived 36 = .ok (.ifCond .eq 7, 3) := by decide +kernel
theorem dX1_isDerived_39 : decode cX1_isDerived 39 = .ok (.iconst 0, 1) := by decide +kernel
theorem dX1_isDerived_40 : decode cX1_isDerived 40 = .ok (.goto 4, 3) := by decide +kernel
theorem dX1_isDerived_43 : decode cX1_isDerived 43 = .ok (.iconst 2, 1) := by decide +kernel
theorem dX1_isDerived_44 : decode cX1_isDerived 44 = .ok (.invokevirtual 42, 3) := by decide +kernel
theorem dX1_isDerived_47 : decode cX1_isDerived 47 = .ok (.ifCond .ne 5, 3) := by decide +kernel
theorem dX1_isDerived_50 : decode cX1_isDerived 50 = .ok (.iconst 0, 1) := by decide +kernel
theorem dX1_isDerived_51 : decode cX1_isDerived 51 = .ok (.ireturn, 1) := by decide +kernel
theorem dX1_isDerived_52 : decode cX1_isDerived 52 = .ok (.iconst 1, 1) := by decide +kernel
theorem dX1_isDerived_53 : decode cX1_isDerived 53 = .ok (.istore 4, 2) := by decide +kernel
theorem dX1_isDerived_55 : decode cX1_isDerived 55 = .ok (.iconst 0, 1) := by decide +kernel
theorem dX1_isDerived_56 : decode cX1_isDerived 56 = .ok (.istore 5, 2) := by decide +kernel
theorem dX1_isDerived_58 : decode cX1_isDerived 58 = .ok (.iload 5, 2) := by decide +kernel
theorem dX1_isDerived_60 : decode cX1_isDerived 60 = .ok (.bipush 12, 2) := by decide +kernel
theorem dX1_isDerived_62 : decode cX1_isDerived 62 = .ok (.if_icmp .ge 58, 3) := by decide +kernel
theorem dX1_isDerived_65 : decode cX1_isDerived 65 = .ok (.iload 4, 2) := by decide +kernel
theorem dX1_isDerived_67 : decode cX1_isDerived 67 = .ok (.ifCond .eq 41, 3) := by decide +kernel
theorem dX1_isDerived_70 : decode cX1_isDerived 70 = .ok (.aload_n 0, 1) := by decide +kernel
theorem dX1_isDerived_71 : decode cX1_isDerived 71 = .ok (.iload_n 1, 1) := by decide +kernel
theorem dX1_isDerived_72 : decode cX1_isDerived 72 = .ok (.aload_n 0, 1) := by decide +kernel
theorem dX1_isDerived_73 : decode cX1_isDerived 73 = .ok (.iload_n 1, 1) := by decide +kernel
theorem dX1_isDerived_74 : decode cX1_isDerived 74 = .ok (.invokevirtual 65, 3) := by decide +kernel
theorem dX1_isDerived_77 : decode cX1_isDerived 77 = .ok (.iload 5, 2) := by decide +kernel
theorem dX1_isDerived_79 : decode cX1_isDerived 79 = .ok (.iload_n 2, 1) := by decide +kernel
theorem dX1_isDerived_80 : decode cX1_isDerived 80 = .ok (.invokevirtual 68, 3) := by decide +kernel
theorem dX1_isDerived_83 : decode cX1_isDerived 83 = .ok (.invokestatic 76, 3) := by decide +kernel
theorem dX1_isDerived_86 : decode cX1_isDerived 86 = .ok (.aload_n 0, 1) := by decide +kernel
theorem dX1_isDerived_87 : decode cX1_isDerived 87 = .ok (.iload_n 1, 1) := by decide +kernel
theorem dX1_isDerived_88 : decode cX1_isDerived 88 = .ok (.aload_n 0, 1) := by decide +kernel
theorem dX1_isDerived_89 : decode cX1_isDerived 89 = .ok (.iload_n 1, 1) := by decide +kernel
theorem dX1_isDerived_90 : decode cX1_isDerived 90 = .ok (.invokevirtual 65, 3) := by decide +kernel
theorem dX1_isDerived_93 : decode cX1_isDerived 93 = .ok (.iconst 0, 1) := by decide +kernel
theorem dX1_isDerived_94 : decode cX1_isDerived 94 = .ok (.iload_n 2, 1) := by decide +kernel
theorem dX1_isDerived_95 : decode cX1_isDerived 95 = .ok (.invokevirtual 68, 3) := by decide +kernel
theorem dX1_isDerived_98 : decode cX1_isDerived 98 = .ok (.invokestatic 76, 3) := by decide +kernel
theorem dX1_isDerived_101 : decode cX1_isDerived 101 = .ok (.if_icmp .ne 7, 3) := by decide +kernel
theorem dX1_isDerived_104 : decode cX1_isDerived 104 = .ok (.iconst 1, 1) := by decide +kernel
theorem dX1_isDerived_105 : decode cX1_isDerived 105 = .ok (.goto 4, 3) := by decide +kernel
theorem dX1_isDerived_108 : decode cX1_isDerived 108 = .ok (.iconst 0, 1) := by decide +kernel
theorem dX1_isDerived_109 : decode cX1_isDerived 109 = .ok (.istore 4, 2) := by decide +kernel
theorem dX1_isDerived_111 : decode cX1_isDerived 111 = .ok (.iload 5, 2) := by decide +kernel
theorem dX1_isDerived_113 : decode cX1_isDerived 113 = .ok (.iload_n 2, 1) := by decide +kernel
theorem dX1_isDerived_114 : decode cX1_isDerived 114 = .ok (.iadd, 1) := by decide +kernel
theorem dX1_isDerived_115 : decode cX1_isDerived 115 = .ok (.istore 5, 2) := by decide +kernel
theorem dX1_isDerived_117 : decode cX1_isDerived 117 = .ok (.goto (-59), 3) := by decide +kernel
theorem dX1_isDerived_120 : decode cX1_isDerived 120 = .ok (.iload 4, 2) := by decide +kernel
theorem dX1_isDerived_122 : decode cX1_isDerived 122 = .ok (.ireturn, 1) := by decide +kernel
theorem dX1_setsKept_0 : decode cX1_setsKept 0 = .ok (.iconst 0, 1) := by decide +kernel
theorem dX1_setsKept_1 : decode cX1_setsKept 1 = .ok (.istore 4, 2) := by decide +kernel
theorem dX1_setsKept_3 : decode cX1_setsKept 3 = .ok (.iconst 0, 1) := by decide +kernel
theorem dX1_setsKept_4 : decode cX1_setsKept 4 = .ok (.istore 5, 2) := by decide +kernel
theorem dX1_setsKept_6 : decode cX1_setsKept 6 = .ok (.iload 5, 2) := by decide +kernel
theorem dX1_setsKept_8 : decode cX1_setsKept 8 = .ok (.iload_n 3, 1) := by decide +kernel
theorem dX1_setsKept_9 : decode cX1_setsKept 9 = .ok (.iadd, 1) := by decide +kernel
theorem dX1_setsKept_10 : decode cX1_setsKept 10 = .ok (.bipush 12, 2) := by decide +kernel
theorem dX1_setsKept_12 : decode cX1_setsKept 12 = .ok (.if_icmp .gt 82, 3) := by decide +kernel
theorem dX1_setsKept_15 : decode cX1_setsKept 15 = .ok (.iconst 0, 1) := by decide +kernel
theorem dX1_setsKept_16 : decode cX1_setsKept 16 = .ok (.istore 6, 2) := by decide +kernel
theorem dX1_setsKept_18 : decode cX1_setsKept 18 = .ok (.iconst 0, 1) := by decide +kernel
theorem dX1_setsKept_19 : decode cX1_setsKept 19 = .ok (.istore 7, 2) := by decide +kernel
theorem dX1_setsKept_21 : decode cX1_setsKept 21 = .ok (.iload 7, 2) := by decide +kernel
theorem dX1_setsKept_23 : decode cX1_setsKept 23 = .ok (.iload_n 3, 1) := by decide +kernel
theorem dX1_setsKept_24 : decode cX1_setsKept 24 = .ok (.iadd, 1) := by decide +kernel
theorem dX1_setsKept_25 : decode cX1_setsKept 25 = .ok (.bipush 12, 2) := by decide +kernel
theorem dX1_setsKept_27 : decode cX1_setsKept 27 = .ok (.if_icmp .gt 46, 3) := by decide +kernel
theorem dX1_setsKept_30 : decode cX1_setsKept 30 = .ok (.iload 6, 2) := by decide +kernel
theorem dX1_setsKept_32 : decode cX1_setsKept 32 = .ok (.ifCond .ne 28, 3) := by decide +kernel
theorem dX1_setsKept_35 : decode cX1_setsKept 35 = .ok (.aload_n 0, 1) := by decide +kernel
theorem dX1_setsKept_36 : decode cX1_setsKept 36 = .ok (.iload_n 1, 1) := by decide +kernel
theorem dX1_setsKept_37 : decode cX1_setsKept 37 = .ok (.iload_n 2, 1) := by decide +kernel
theorem dX1_setsKept_38 : decode cX1_setsKept 38 = .ok (.iload 7, 2) := by decide +kernel
theorem dX1_setsKept_40 : decode cX1_setsKept 40 = .ok (.iload_n 3, 1) := by decide +kernel
theorem dX1_setsKept_41 : decode cX1_setsKept 41 = .ok (.invokevirtual 68, 3) := by decide +kernel
theorem dX1_setsKept_44 : decode cX1_setsKept 44 = .ok (.aload_n 0, 1) := by decide +kernel
theorem dX1_setsKept_45 : decode cX1_setsKept 45 = .ok (.iload_n 1, 1) := by decide +kernel
theorem dX1_setsKept_46 : decode cX1_setsKept 46 = .ok (.aload_n 0, 1) := by decide +kernel
theorem dX1_setsKept_47 : decode cX1_setsKept 47 = .ok (.iload_n 1, 1) := by decide +kernel
theorem dX1_setsKept_48 : decode cX1_setsKept 48 = .ok (.invokevirtual 65, 3) := by decide +kernel
theorem dX1_setsKept_51 : decode cX1_setsKept 51 = .ok (.iload 5, 2) := by decide +kernel
theorem dX1_setsKept_53 : decode cX1_setsKept 53 = .ok (.iload_n 3, 1) := by decide +kernel
theorem dX1_setsKept_54 : decode cX1_setsKept 54 = .ok (.invokevirtual 68, 3) := by decide +kernel
theorem dX1_setsKept_57 : decode cX1_setsKept 57 = .ok (.if_icmp .ne 7, 3) := by decide +kernel
theorem dX1_setsKept_60 : decode cX1_setsKept 60 = .ok (.iconst 1, 1) := by decide +kernel
theorem dX1_setsKept_61 : decode cX1_setsKept 61 = .ok (.goto 4, 3) := by decide +kernel
theorem dX1_setsKept_64 : decode cX1_setsKept 64 = .ok (.iconst 0, 1) := by decide +kernel
theorem dX1_setsKept_65 : decode cX1_setsKept 65 = .ok (.istore 6, 2) := by decide +kernel
theorem dX1_setsKept_67 : decode cX1_setsKept 67 = .ok (.iinc 7 1, 3) := by decide +kernel
theorem dX1_setsKept_70 : decode cX1_setsKept 70 = .ok (.goto (-49), 3) := by decide +kernel
theorem dX1_setsKept_73 : decode cX1_setsKept 73 = .ok (.iload 4, 2) := by decide +kernel
theorem dX1_setsKept_75 : decode cX1_setsKept 75 = .ok (.iload 6, 2) := by decide +kernel
theorem dX1_setsKept_77 : decode cX1_setsKept 77 = .ok (.ifCond .eq 7, 3) := by decide +kernel
theorem dX1_setsKept_80 : decode cX1_setsKept 80 = .ok (.iconst 1, 1) := by decide +kernel
theorem dX1_setsKept_81 : decode cX1_setsKept 81 = .ok (.goto 4, 3) := by decide +kernel
theorem dX1_setsKept_84 : decode cX1_setsKept 84 = .ok (.iconst 0, 1) := by decide +kernel
theorem dX1_setsKept_85 : decode cX1_setsKept 85 = .ok (.iadd, 1) := by decide +kernel
theorem dX1_setsKept_86 : decode cX1_setsKept 86 = .ok (.istore 4, 2) := by decide +kernel
theorem dX1_setsKept_88 : decode cX1_setsKept 88 = .ok (.iinc 5 1, 3) := by decide +kernel
theorem dX1_setsKept_91 : decode cX1_setsKept 91 = .ok (.goto (-85), 3) := by decide +kernel
theorem dX1_setsKept_94 : decode cX1_setsKept 94 = .ok (.iload 4, 2) := by decide +kernel
theorem dX1_setsKept_96 : decode cX1_setsKept 96 = .ok (.ireturn, 1) := by decide +kernel
theorem dX1_keptSets_0 : decode cX1_keptSets 0 = .ok (.iload_n 2, 1) := by decide +kernel
theorem dX1_keptSets_1 : decode cX1_keptSets 1 = .ok (.iload_n 3, 1) := by decide +kernel
theorem dX1_keptSets_2 : decode cX1_keptSets 2 = .ok (.invokestatic 45, 3) := by decide +kernel
theorem dX1_keptSets_5 : decode cX1_keptSets 5 = .ok (.ifCond .eq 18, 3) := by decide +kernel
theorem dX1_keptSets_8 : decode cX1_keptSets 8 = .ok (.iload 4, 2) := by decide +kernel
theorem dX1_keptSets_10 : decode cX1_keptSets 10 = .ok (.iconst 1, 1) := by decide +kernel
theorem dX1_keptSets_11 : decode cX1_keptSets 11 = .ok (.bipush 12, 2) := by decide +kernel
theorem dX1_keptSets_13 : decode cX1_keptSets 13 = .ok (.invokestatic 23, 3) := by decide +kernel
theorem dX1_keptSets_16 : decode cX1_keptSets 16 = .ok (.ifCond .eq 7, 3) := by decide +kernel
theorem dX1_keptSets_19 : decode cX1_keptSets 19 = .ok (.iconst 1, 1) := by decide +kernel
theorem dX1_keptSets_20 : decode cX1_keptSets 20 = .ok (.goto 4, 3) := by decide +kernel
theorem dX1_keptSets_23 : decode cX1_keptSets 23 = .ok (.iconst 0, 1) := by decide +kernel
theorem dX1_keptSets_24 : decode cX1_keptSets 24 = .ok (.istore 5, 2) := by decide +kernel
theorem dX1_keptSets_26 : decode cX1_keptSets 26 = .ok (.aload_n 0, 1) := by decide +kernel
theorem dX1_keptSets_27 : decode cX1_keptSets 27 = .ok (.iload_n 1, 1) := by decide +kernel
theorem dX1_keptSets_28 : decode cX1_keptSets 28 = .ok (.invokestatic 39, 3) := by decide +kernel
theorem dX1_keptSets_31 : decode cX1_keptSets 31 = .ok (.ifCond .ne 7, 3) := by decide +kernel
theorem dX1_keptSets_34 : decode cX1_keptSets 34 = .ok (.iconst 1, 1) := by decide +kernel
theorem dX1_keptSets_35 : decode cX1_keptSets 35 = .ok (.goto 13, 3) := by decide +kernel
theorem dX1_keptSets_38 : decode cX1_keptSets 38 = .ok (.iload 5, 2) := by decide +kernel
theorem dX1_keptSets_40 : decode cX1_keptSets 40 = .ok (.ifCond .eq 7, 3) := by decide +kernel
theorem dX1_keptSets_43 : decode cX1_keptSets 43 = .ok (.iconst 0, 1) := by decide +kernel
theorem dX1_keptSets_44 : decode cX1_keptSets 44 = .ok (.goto 4, 3) := by decide +kernel
theorem dX1_keptSets_47 : decode cX1_keptSets 47 = .ok (.iconst 2, 1) := by decide +kernel
theorem dX1_keptSets_48 : decode cX1_keptSets 48 = .ok (.invokevirtual 42, 3) := by decide +kernel
theorem dX1_keptSets_51 : decode cX1_keptSets 51 = .ok (.ifCond .eq 18, 3) := by decide +kernel
theorem dX1_keptSets_54 : decode cX1_keptSets 54 = .ok (.aload_n 0, 1) := by decide +kernel
theorem dX1_keptSets_55 : decode cX1_keptSets 55 = .ok (.iload_n 1, 1) := by decide +kernel
theorem dX1_keptSets_56 : decode cX1_keptSets 56 = .ok (.iload_n 2, 1) := by decide +kernel
theorem dX1_keptSets_57 : decode cX1_keptSets 57 = .ok (.iload_n 3, 1) := by decide +kernel
theorem dX1_keptSets_58 : decode cX1_keptSets 58 = .ok (.invokestatic 49, 3) := by decide +kernel
theorem dX1_keptSets_61 : decode cX1_keptSets 61 = .ok (.iload 4, 2) := by decide +kernel
theorem dX1_keptSets_63 : decode cX1_keptSets 63 = .ok (.invokevirtual 79, 3) := by decide +kernel
theorem dX1_keptSets_66 : decode cX1_keptSets 66 = .ok (.goto 4, 3) := by decide +kernel
theorem dX1_keptSets_69 : decode cX1_keptSets 69 = .ok (.iconst 0, 1) := by decide +kernel
theorem dX1_keptSets_70 : decode cX1_keptSets 70 = .ok (.ireturn, 1) := by decide +kernel
theorem dX1_same_0 : decode cX1_same 0 = .ok (.iconst 0, 1) := by decide +kernel
theorem dX1_same_1 : decode cX1_same 1 = .ok (.istore 5, 2) := by decide +kernel
theorem dX1_same_3 : decode cX1_same 3 = .ok (.iload_n 2, 1) := by decide +kernel
theorem dX1_same_4 : decode cX1_same 4 = .ok (.iload 5, 2) := by decide +kernel
theorem dX1_same_6 : decode cX1_same 6 = .ok (.iadd, 1) := by decide +kernel
theorem dX1_same_7 : decode cX1_same 7 = .ok (.bipush 12, 2) := by decide +kernel
theorem dX1_same_9 : decode cX1_same 9 = .ok (.if_icmp .ge 42, 3) := by decide +kernel
theorem dX1_same_12 : decode cX1_same 12 = .ok (.iload 4, 2) := by decide +kernel
theorem dX1_same_14 : decode cX1_same 14 = .ok (.iload 5, 2) := by decide +kernel
theorem dX1_same_16 : decode cX1_same 16 = .ok (.iadd, 1) := by decide +kernel
theorem dX1_same_17 : decode cX1_same 17 = .ok (.bipush 12, 2) := by decide +kernel
theorem dX1_same_19 : decode cX1_same 19 = .ok (.if_icmp .ge 32, 3) := by decide +kernel
theorem dX1_same_22 : decode cX1_same 22 = .ok (.aload_n 0, 1) := by decide +kernel
theorem dX1_same_23 : decode cX1_same 23 = .ok (.iload_n 1, 1) := by decide +kernel
theorem dX1_same_24 : decode cX1_same 24 = .ok (.iload_n 2, 1) := by decide +kernel
theorem dX1_same_25 : decode cX1_same 25 = .ok (.iload 5, 2) := by decide +kernel
theorem dX1_same_27 : decode cX1_same 27 = .ok (.iadd, 1) := by decide +kernel
theorem dX1_same_28 : decode cX1_same 28 = .ok (.invokevirtual 31, 3) := by decide +kernel
theorem dX1_same_31 : decode cX1_same 31 = .ok (.aload_n 0, 1) := by decide +kernel
theorem dX1_same_32 : decode cX1_same 32 = .ok (.iload_n 1, 1) := by decide +kernel
theorem dX1_same_33 : decode cX1_same 33 = .ok (.iload_n 3, 1) := by decide +kernel
theorem dX1_same_34 : decode cX1_same 34 = .ok (.iload 4, 2) := by decide +kernel
theorem dX1_same_36 : decode cX1_same 36 = .ok (.iload 5, 2) := by decide +kernel
theorem dX1_same_38 : decode cX1_same 38 = .ok (.iadd, 1) := by decide +kernel
theorem dX1_same_39 : decode cX1_same 39 = .ok (.invokevirtual 52, 3) := by decide +kernel
theorem dX1_same_42 : decode cX1_same 42 = .ok (.if_icmp .ne 9, 3) := by decide +kernel
theorem dX1_same_45 : decode cX1_same 45 = .ok (.iinc 5 1, 3) := by decide +kernel
theorem dX1_same_48 : decode cX1_same 48 = .ok (.goto (-45), 3) := by decide +kernel
theorem dX1_same_51 : decode cX1_same 51 = .ok (.iload 5, 2) := by decide +kernel
theorem dX1_same_53 : decode cX1_same 53 = .ok (.ireturn, 1) := by decide +kernel
theorem dX1_longestKept_0 : decode cX1_longestKept 0 = .ok (.aload_n 0, 1) := by decide +kernel
theorem dX1_longestKept_1 : decode cX1_longestKept 1 = .ok (.iload_n 1, 1) := by decide +kernel
theorem dX1_longestKept_2 : decode cX1_longestKept 2 = .ok (.invokestatic 39, 3) := by decide +kernel
theorem dX1_longestKept_5 : decode cX1_longestKept 5 = .ok (.ifCond .ne 7, 3) := by decide +kernel
theorem dX1_longestKept_8 : decode cX1_longestKept 8 = .ok (.iconst 1, 1) := by decide +kernel
theorem dX1_longestKept_9 : decode cX1_longestKept 9 = .ok (.goto 16, 3) := by decide +kernel
theorem dX1_longestKept_12 : decode cX1_longestKept 12 = .ok (.iload_n 2, 1) := by decide +kernel
theorem dX1_longestKept_13 : decode cX1_longestKept 13 = .ok (.iload_n 3, 1) := by decide +kernel
theorem dX1_longestKept_14 : decode cX1_longestKept 14 = .ok (.invokestatic 45, 3) := by decide +kernel
theorem dX1_longestKept_17 : decode cX1_longestKept 17 = .ok (.ifCond .eq 7, 3) := by decide +kernel
theorem dX1_longestKept_20 : decode cX1_longestKept 20 = .ok (.iconst 0, 1) := by decide +kernel
theorem dX1_longestKept_21 : decode cX1_longestKept 21 = .ok (.goto 4, 3) := by decide +kernel
theorem dX1_longestKept_24 : decode cX1_longestKept 24 = .ok (.iconst 2, 1) := by decide +kernel
theorem dX1_longestKept_25 : decode cX1_longestKept 25 = .ok (.invokevirtual 42, 3) := by decide +kernel
theorem dX1_longestKept_28 : decode cX1_longestKept 28 = .ok (.ifCond .ne 5, 3) := by decide +kernel
theorem dX1_longestKept_31 : decode cX1_longestKept 31 = .ok (.iconst 0, 1) := by decide +kernel
theorem dX1_longestKept_32 : decode cX1_longestKept 32 = .ok (.ireturn, 1) := by decide +kernel
theorem dX1_longestKept_33 : decode cX1_longestKept 33 = .ok (.iconst 0, 1) := by decide +kernel
theorem dX1_longestKept_34 : decode cX1_longestKept 34 = .ok (.istore 4, 2) := by decide +kernel
theorem dX1_longestKept_36 : decode cX1_longestKept 36 = .ok (.iconst 0, 1) := by decide +kernel
theorem dX1_longestKept_37 : decode cX1_longestKept 37 = .ok (.istore 5, 2) := by decide +kernel
theorem dX1_longestKept_39 : decode cX1_longestKept 39 = .ok (.iload 5, 2) := by decide +kernel
theorem dX1_longestKept_41 : decode cX1_longestKept 41 = .ok (.bipush 12, 2) := by decide +kernel
theorem dX1_longestKept_43 : decode cX1_longestKept 43 = .ok (.if_icmp .ge 57, 3) := by decide +kernel
theorem dX1_longestKept_46 : decode cX1_longestKept 46 = .ok (.iconst 0, 1) := by decide +kernel
theorem dX1_longestKept_47 : decode cX1_longestKept 47 = .ok (.istore 6, 2) := by decide +kernel
theorem dX1_longestKept_49 : decode cX1_longestKept 49 = .ok (.iload 6, 2) := by decide +kernel
theorem dX1_longestKept_51 : decode cX1_longestKept 51 = .ok (.bipush 12, 2) := by decide +kernel
theorem dX1_longestKept_53 : decode cX1_longestKept 53 = .ok (.if_icmp .ge 41, 3) := by decide +kernel
theorem dX1_longestKept_56 : decode cX1_longestKept 56 = .ok (.aload_n 0, 1) := by decide +kernel
theorem dX1_longestKept_57 : decode cX1_longestKept 57 = .ok (.iload_n 1, 1) := by decide +kernel
theorem dX1_longestKept_58 : decode cX1_longestKept 58 = .ok (.iload 5, 2) := by decide +kernel
theorem dX1_longestKept_60 : decode cX1_longestKept 60 = .ok (.iload_n 2, 1) := by decide +kernel
theorem dX1_longestKept_61 : decode cX1_longestKept 61 = .ok (.iload_n 3, 1) := by decide +kernel
theorem dX1_longestKept_62 : decode cX1_longestKept 62 = .ok (.invokestatic 49, 3) := by decide +kernel
theorem dX1_longestKept_65 : decode cX1_longestKept 65 = .ok (.iload 6, 2) := by decide +kernel
theorem dX1_longestKept_67 : decode cX1_longestKept 67 = .ok (.invokevirtual 82, 3) := by decide +kernel
theorem dX1_longestKept_70 : decode cX1_longestKept 70 = .ok (.istore 7, 2) := by decide +kernel
theorem dX1_longestKept_72 : decode cX1_longestKept 72 = .ok (.iload 7, 2) := by decide +kernel
theorem dX1_longestKept_74 : decode cX1_longestKept 74 = .ok (.iload 4, 2) := by decide +kernel
theorem dX1_longestKept_76 : decode cX1_longestKept 76 = .ok (.if_icmp .le 8, 3) := by decide +kernel
theorem dX1_longestKept_79 : decode cX1_longestKept 79 = .ok (.iload 7, 2) := by decide +kernel
theorem dX1_longestKept_81 : decode cX1_longestKept 81 = .ok (.goto 5, 3) := by decide +kernel
theorem dX1_longestKept_84 : decode cX1_longestKept 84 = .ok (.iload 4, 2) := by decide +kernel
theorem dX1_longestKept_86 : decode cX1_longestKept 86 = .ok (.istore 4, 2) := by decide +kernel
theorem dX1_longestKept_88 : decode cX1_longestKept 88 = .ok (.iinc 6 1, 3) := by decide +kernel
theorem dX1_longestKept_91 : decode cX1_longestKept 91 = .ok (.goto (-42), 3) := by decide +kernel
theorem dX1_longestKept_94 : decode cX1_longestKept 94 = .ok (.iinc 5 1, 3) := by decide +kernel
theorem dX1_longestKept_97 : decode cX1_longestKept 97 = .ok (.goto (-58), 3) := by decide +kernel
theorem dX1_longestKept_100 : decode cX1_longestKept 100 = .ok (.iload 4, 2) := by decide +kernel
theorem dX1_longestKept_102 : decode cX1_longestKept 102 = .ok (.ireturn, 1) := by decide +kernel
theorem dX1_mostKept_0 : decode cX1_mostKept 0 = .ok (.aload_n 0, 1) := by decide +kernel
theorem dX1_mostKept_1 : decode cX1_mostKept 1 = .ok (.iload_n 1, 1) := by decide +kernel
theorem dX1_mostKept_2 : decode cX1_mostKept 2 = .ok (.invokestatic 39, 3) := by decide +kernel
theorem dX1_mostKept_5 : decode cX1_mostKept 5 = .ok (.ifCond .ne 7, 3) := by decide +kernel
theorem dX1_mostKept_8 : decode cX1_mostKept 8 = .ok (.iconst 1, 1) := by decide +kernel
theorem dX1_mostKept_9 : decode cX1_mostKept 9 = .ok (.goto 18, 3) := by decide +kernel
theorem dX1_mostKept_12 : decode cX1_mostKept 12 = .ok (.iload_n 2, 1) := by decide +kernel
theorem dX1_mostKept_13 : decode cX1_mostKept 13 = .ok (.iconst 2, 1) := by decide +kernel
theorem dX1_mostKept_14 : decode cX1_mostKept 14 = .ok (.bipush 11, 2) := by decide +kernel
theorem dX1_mostKept_16 : decode cX1_mostKept 16 = .ok (.invokestatic 23, 3) := by decide +kernel
theorem dX1_mostKept_19 : decode cX1_mostKept 19 = .ok (.ifCond .eq 7, 3) := by decide +kernel
theorem dX1_mostKept_22 : decode cX1_mostKept 22 = .ok (.iconst 0, 1) := by decide +kernel
theorem dX1_mostKept_23 : decode cX1_mostKept 23 = .ok (.goto 4, 3) := by decide +kernel
theorem dX1_mostKept_26 : decode cX1_mostKept 26 = .ok (.iconst 2, 1) := by decide +kernel
theorem dX1_mostKept_27 : decode cX1_mostKept 27 = .ok (.invokevirtual 42, 3) := by decide +kernel
theorem dX1_mostKept_30 : decode cX1_mostKept 30 = .ok (.ifCond .ne 5, 3) := by decide +kernel
theorem dX1_mostKept_33 : decode cX1_mostKept 33 = .ok (.iconst 0, 1) := by decide +kernel
theorem dX1_mostKept_34 : decode cX1_mostKept 34 = .ok (.ireturn, 1) := by decide +kernel
theorem dX1_mostKept_35 : decode cX1_mostKept 35 = .ok (.iconst (-1), 1) := by decide +kernel
theorem dX1_mostKept_36 : decode cX1_mostKept 36 = .ok (.istore_n 3, 1) := by decide +kernel
theorem dX1_mostKept_37 : decode cX1_mostKept 37 = .ok (.iconst (-1), 1) := by decide +kernel
theorem dX1_mostKept_38 : decode cX1_mostKept 38 = .ok (.istore 4, 2) := by decide +kernel
theorem dX1_mostKept_40 : decode cX1_mostKept 40 = .ok (.iconst 0, 1) := by decide +kernel
theorem dX1_mostKept_41 : decode cX1_mostKept 41 = .ok (.istore 5, 2) := by decide +kernel
theorem dX1_mostKept_43 : decode cX1_mostKept 43 = .ok (.iload 5, 2) := by decide +kernel
theorem dX1_mostKept_45 : decode cX1_mostKept 45 = .ok (.bipush 48, 2) := by decide +kernel
theorem dX1_mostKept_47 : decode cX1_mostKept 47 = .ok (.if_icmp .ge 63, 3) := by decide +kernel
theorem dX1_mostKept_50 : decode cX1_mostKept 50 = .ok (.iload 5, 2) := by decide +kernel
theorem dX1_mostKept_52 : decode cX1_mostKept 52 = .ok (.aload_n 0, 1) := by decide +kernel
theorem dX1_mostKept_53 : decode cX1_mostKept 53 = .ok (.iload_n 1, 1) := by decide +kernel
theorem dX1_mostKept_54 : decode cX1_mostKept 54 = .ok (.invokevirtual 65, 3) := by decide +kernel
theorem dX1_mostKept_57 : decode cX1_mostKept 57 = .ok (.if_icmp .ne 7, 3) := by decide +kernel
theorem dX1_mostKept_60 : decode cX1_mostKept 60 = .ok (.iconst (-1), 1) := by decide +kernel
theorem dX1_mostKept_61 : decode cX1_mostKept 61 = .ok (.goto 11, 3) := by decide +kernel
theorem dX1_mostKept_64 : decode cX1_mostKept 64 = .ok (.aload_n 0, 1) := by decide +kernel
theorem dX1_mostKept_65 : decode cX1_mostKept 65 = .ok (.iload_n 1, 1) := by decide +kernel
theorem dX1_mostKept_66 : decode cX1_mostKept 66 = .ok (.iload 5, 2) := by decide +kernel
theorem dX1_mostKept_68 : decode cX1_mostKept 68 = .ok (.iload_n 2, 1) := by decide +kernel
theorem dX1_mostKept_69 : decode cX1_mostKept 69 = .ok (.invokevirtual 79, 3) := by decide +kernel
theorem dX1_mostKept_72 : decode cX1_mostKept 72 = .ok (.istore 6, 2) := by decide +kernel
theorem dX1_mostKept_74 : decode cX1_mostKept 74 = .ok (.iload 6, 2) := by decide +kernel
theorem dX1_mostKept_76 : decode cX1_mostKept 76 = .ok (.iload 4, 2) := by decide +kernel
theorem dX1_mostKept_78 : decode cX1_mostKept 78 = .ok (.if_icmp .le 8, 3) := by decide +kernel
theorem dX1_mostKept_81 : decode cX1_mostKept 81 = .ok (.iload 5, 2) := by decide +kernel
theorem dX1_mostKept_83 : decode cX1_mostKept 83 = .ok (.goto 4, 3) := by decide +kernel
theorem dX1_mostKept_86 : decode cX1_mostKept 86 = .ok (.iload_n 3, 1) := by decide +kernel
theorem dX1_mostKept_87 : decode cX1_mostKept 87 = .ok (.istore_n 3, 1) := by decide +kernel
theorem dX1_mostKept_88 : decode cX1_mostKept 88 = .ok (.iload 6, 2) := by decide +kernel
theorem dX1_mostKept_90 : decode cX1_mostKept 90 = .ok (.iload 4, 2) := by decide +kernel
theorem dX1_mostKept_92 : decode cX1_mostKept 92 = .ok (.if_icmp .le 8, 3) := by decide +kernel
theorem dX1_mostKept_95 : decode cX1_mostKept 95 = .ok (.iload 6, 2) := by decide +kernel
theorem dX1_mostKept_97 : decode cX1_mostKept 97 = .ok (.goto 5, 3) := by decide +kernel
theorem dX1_mostKept_100 : decode cX1_mostKept 100 = .ok (.iload 4, 2) := by decide +kernel
theorem dX1_mostKept_102 : decode cX1_mostKept 102 = .ok (.istore 4, 2) := by decide +kernel
theorem dX1_mostKept_104 : decode cX1_mostKept 104 = .ok (.iinc 5 1, 3) := by decide +kernel
theorem dX1_mostKept_107 : decode cX1_mostKept 107 = .ok (.goto (-64), 3) := by decide +kernel
theorem dX1_mostKept_110 : decode cX1_mostKept 110 = .ok (.iload_n 3, 1) := by decide +kernel
theorem dX1_mostKept_111 : decode cX1_mostKept 111 = .ok (.ireturn, 1) := by decide +kernel
theorem dX1_isCode_0 : decode cX1_isCode 0 = .ok (.iload_n 0, 1) := by decide +kernel
theorem dX1_isCode_1 : decode cX1_isCode 1 = .ok (.iconst 0, 1) := by decide +kernel
theorem dX1_isCode_2 : decode cX1_isCode 2 = .ok (.bipush 47, 2) := by decide +kernel
theorem dX1_isCode_4 : decode cX1_isCode 4 = .ok (.invokestatic 23, 3) := by decide +kernel
theorem dX1_isCode_7 : decode cX1_isCode 7 = .ok (.ireturn, 1) := by decide +kernel
theorem dX1_cuts_0 : decode cX1_cuts 0 = .ok (.aload_n 0, 1) := by decide +kernel
theorem dX1_cuts_1 : decode cX1_cuts 1 = .ok (.iload_n 1, 1) := by decide +kernel
theorem dX1_cuts_2 : decode cX1_cuts 2 = .ok (.invokestatic 85, 3) := by decide +kernel
theorem dX1_cuts_5 : decode cX1_cuts 5 = .ok (.ifCond .eq 14, 3) := by decide +kernel
theorem dX1_cuts_8 : decode cX1_cuts 8 = .ok (.iload_n 2, 1) := by decide +kernel
theorem dX1_cuts_9 : decode cX1_cuts 9 = .ok (.invokestatic 85, 3) := by decide +kernel
theorem dX1_cuts_12 : decode cX1_cuts 12 = .ok (.ifCond .eq 7, 3) := by decide +kernel
theorem dX1_cuts_15 : decode cX1_cuts 15 = .ok (.iconst 0, 1) := by decide +kernel
theorem dX1_cuts_16 : decode cX1_cuts 16 = .ok (.goto 4, 3) := by decide +kernel
theorem dX1_cuts_19 : decode cX1_cuts 19 = .ok (.iconst 1, 1) := by decide +kernel
theorem dX1_cuts_20 : decode cX1_cuts 20 = .ok (.invokevirtual 42, 3) := by decide +kernel
theorem dX1_cuts_23 : decode cX1_cuts 23 = .ok (.ifCond .ne 5, 3) := by decide +kernel
theorem dX1_cuts_26 : decode cX1_cuts 26 = .ok (.iconst 0, 1) := by decide +kernel
theorem dX1_cuts_27 : decode cX1_cuts 27 = .ok (.ireturn, 1) := by decide +kernel
theorem dX1_cuts_28 : decode cX1_cuts 28 = .ok (.iconst 0, 1) := by decide +kernel
theorem dX1_cuts_29 : decode cX1_cuts 29 = .ok (.istore_n 3, 1) := by decide +kernel
theorem dX1_cuts_30 : decode cX1_cuts 30 = .ok (.iconst 0, 1) := by decide +kernel
theorem dX1_cuts_31 : decode cX1_cuts 31 = .ok (.istore 4, 2) := by decide +kernel
theorem dX1_cuts_33 : decode cX1_cuts 33 = .ok (.iload 4, 2) := by decide +kernel
theorem dX1_cuts_35 : decode cX1_cuts 35 = .ok (.bipush 12, 2) := by decide +kernel
theorem dX1_cuts_37 : decode cX1_cuts 37 = .ok (.if_icmp .gt 52, 3) := by decide +kernel
theorem dX1_cuts_40 : decode cX1_cuts 40 = .ok (.aload_n 0, 1) := by decide +kernel
theorem dX1_cuts_41 : decode cX1_cuts 41 = .ok (.iconst 0, 1) := by decide +kernel
theorem dX1_cuts_42 : decode cX1_cuts 42 = .ok (.iload_n 1, 1) := by decide +kernel
theorem dX1_cuts_43 : decode cX1_cuts 43 = .ok (.iconst 0, 1) := by decide +kernel
theorem dX1_cuts_44 : decode cX1_cuts 44 = .ok (.iload 4, 2) := by decide +kernel
theorem dX1_cuts_46 : decode cX1_cuts 46 = .ok (.invokevirtual 68, 3) := by decide +kernel
theorem dX1_cuts_49 : decode cX1_cuts 49 = .ok (.aload_n 0, 1) := by decide +kernel
theorem dX1_cuts_50 : decode cX1_cuts 50 = .ok (.iconst 1, 1) := by decide +kernel
theorem dX1_cuts_51 : decode cX1_cuts 51 = .ok (.iload_n 2, 1) := by decide +kernel
theorem dX1_cuts_52 : decode cX1_cuts 52 = .ok (.iconst 0, 1) := by decide +kernel
theorem dX1_cuts_53 : decode cX1_cuts 53 = .ok (.bipush 12, 2) := by decide +kernel
theorem dX1_cuts_55 : decode cX1_cuts 55 = .ok (.iload 4, 2) := by decide +kernel
theorem dX1_cuts_57 : decode cX1_cuts 57 = .ok (.isub, 1) := by decide +kernel
theorem dX1_cuts_58 : decode cX1_cuts 58 = .ok (.invokevirtual 68, 3) := by decide +kernel
theorem dX1_cuts_61 : decode cX1_cuts 61 = .ok (.ior, 1) := by decide +kernel
theorem dX1_cuts_62 : decode cX1_cuts 62 = .ok (.istore 5, 2) := by decide +kernel
theorem dX1_cuts_64 : decode cX1_cuts 64 = .ok (.iload_n 3, 1) := by decide +kernel
theorem dX1_cuts_65 : decode cX1_cuts 65 = .ok (.iload 5, 2) := by decide +kernel
theorem dX1_cuts_67 : decode cX1_cuts 67 = .ok (.sipush 4095, 3) := by decide +kernel
theorem dX1_cuts_70 : decode cX1_cuts 70 = .ok (.if_icmp .ne 10, 3) := by decide +kernel
theorem dX1_cuts_73 : decode cX1_cuts 73 = .ok (.iconst 1, 1) := by decide +kernel
theorem dX1_cuts_74 : decode cX1_cuts 74 = .ok (.iload 4, 2) := by decide +kernel
theorem dX1_cuts_76 : decode cX1_cuts 76 = .ok (.ishl, 1) := by decide +kernel
theorem dX1_cuts_77 : decode cX1_cuts 77 = .ok (.goto 4, 3) := by decide +kernel
theorem dX1_cuts_80 : decode cX1_cuts 80 = .ok (.iconst 0, 1) := by decide +kernel
theorem dX1_cuts_81 : decode cX1_cuts 81 = .ok (.ior, 1) := by decide +kernel
theorem dX1_cuts_82 : decode cX1_cuts 82 = .ok (.istore_n 3, 1) := by decide +kernel
theorem dX1_cuts_83 : decode cX1_cuts 83 = .ok (.iinc 4 1, 3) := by decide +kernel
theorem dX1_cuts_86 : decode cX1_cuts 86 = .ok (.goto (-53), 3) := by decide +kernel
theorem dX1_cuts_89 : decode cX1_cuts 89 = .ok (.iload_n 3, 1) := by decide +kernel
theorem dX1_cuts_90 : decode cX1_cuts 90 = .ok (.ireturn, 1) := by decide +kernel
theorem dX1_isWritten_0 : decode cX1_isWritten 0 = .ok (.iconst 0, 1) := by decide +kernel
theorem dX1_isWritten_1 : decode cX1_isWritten 1 = .ok (.istore_n 2, 1) := by decide +kernel
theorem dX1_isWritten_2 : decode cX1_isWritten 2 = .ok (.iconst 0, 1) := by decide +kernel
theorem dX1_isWritten_3 : decode cX1_isWritten 3 = .ok (.istore_n 3, 1) := by decide +kernel
theorem dX1_isWritten_4 : decode cX1_isWritten 4 = .ok (.iload_n 3, 1) := by decide +kernel
theorem dX1_isWritten_5 : decode cX1_isWritten 5 = .ok (.aload_n 0, 1) := by decide +kernel
theorem dX1_isWritten_6 : decode cX1_isWritten 6 = .ok (.getfield 88, 3) := by decide +kernel
theorem dX1_isWritten_9 : decode cX1_isWritten 9 = .ok (.if_icmp .ge 29, 3) := by decide +kernel
theorem dX1_isWritten_12 : decode cX1_isWritten 12 = .ok (.iload_n 2, 1) := by decide +kernel
theorem dX1_isWritten_13 : decode cX1_isWritten 13 = .ok (.ifCond .ne 13, 3) := by decide +kernel
theorem dX1_isWritten_16 : decode cX1_isWritten 16 = .ok (.aload_n 0, 1) := by decide +kernel
theorem dX1_isWritten_17 : decode cX1_isWritten 17 = .ok (.getfield 16, 3) := by decide +kernel
theorem dX1_isWritten_20 : decode cX1_isWritten 20 = .ok (.iload_n 3, 1) := by decide +kernel
theorem dX1_isWritten_21 : decode cX1_isWritten 21 = .ok (.iaload, 1) := by decide +kernel
theorem dX1_isWritten_22 : decode cX1_isWritten 22 = .ok (.iload_n 1, 1) := by decide +kernel
theorem dX1_isWritten_23 : decode cX1_isWritten 23 = .ok (.if_icmp .ne 7, 3) := by decide +kernel
theorem dX1_isWritten_26 : decode cX1_isWritten 26 = .ok (.iconst 1, 1) := by decide +kernel
theorem dX1_isWritten_27 : decode cX1_isWritten 27 = .ok (.goto 4, 3) := by decide +kernel
theorem dX1_isWritten_30 : decode cX1_isWritten 30 = .ok (.iconst 0, 1) := by decide +kernel
theorem dX1_isWritten_31 : decode cX1_isWritten 31 = .ok (.istore_n 2, 1) := by decide +kernel
theorem dX1_isWritten_32 : decode cX1_isWritten 32 = .ok (.iinc 3 1, 3) := by decide +kernel
theorem dX1_isWritten_35 : decode cX1_isWritten 35 = .ok (.goto (-31), 3) := by decide +kernel
theorem dX1_isWritten_38 : decode cX1_isWritten 38 = .ok (.iload_n 2, 1) := by decide +kernel
theorem dX1_isWritten_39 : decode cX1_isWritten 39 = .ok (.ireturn, 1) := by decide +kernel
theorem dX1_write_0 : decode cX1_write 0 = .ok (.aload_n 0, 1) := by decide +kernel
theorem dX1_write_1 : decode cX1_write 1 = .ok (.iload_n 1, 1) := by decide +kernel
theorem dX1_write_2 : decode cX1_write 2 = .ok (.invokestatic 27, 3) := by decide +kernel
theorem dX1_write_5 : decode cX1_write 5 = .ok (.ifCond .ne 7, 3) := by decide +kernel
theorem dX1_write_8 : decode cX1_write 8 = .ok (.iconst 1, 1) := by decide +kernel
theorem dX1_write_9 : decode cX1_write 9 = .ok (.goto 16, 3) := by decide +kernel
theorem dX1_write_12 : decode cX1_write 12 = .ok (.aload_n 0, 1) := by decide +kernel
theorem dX1_write_13 : decode cX1_write 13 = .ok (.iload_n 1, 1) := by decide +kernel
theorem dX1_write_14 : decode cX1_write 14 = .ok (.invokevirtual 91, 3) := by decide +kernel
theorem dX1_write_17 : decode cX1_write 17 = .ok (.ifCond .eq 7, 3) := by decide +kernel
theorem dX1_write_20 : decode cX1_write 20 = .ok (.iconst 2, 1) := by decide +kernel
theorem dX1_write_21 : decode cX1_write 21 = .ok (.goto 4, 3) := by decide +kernel
theorem dX1_write_24 : decode cX1_write 24 = .ok (.iconst 0, 1) := by decide +kernel
theorem dX1_write_25 : decode cX1_write 25 = .ok (.invokevirtual 42, 3) := by decide +kernel
theorem dX1_write_28 : decode cX1_write 28 = .ok (.ifCond .ne 5, 3) := by decide +kernel
theorem dX1_write_31 : decode cX1_write 31 = .ok (.iconst 0, 1) := by decide +kernel
theorem dX1_write_32 : decode cX1_write 32 = .ok (.ireturn, 1) := by decide +kernel
theorem dX1_write_33 : decode cX1_write 33 = .ok (.aload_n 0, 1) := by decide +kernel
theorem dX1_write_34 : decode cX1_write 34 = .ok (.getfield 16, 3) := by decide +kernel
theorem dX1_write_37 : decode cX1_write 37 = .ok (.aload_n 0, 1) := by decide +kernel
theorem dX1_write_38 : decode cX1_write 38 = .ok (.getfield 88, 3) := by decide +kernel
theorem dX1_write_41 : decode cX1_write 41 = .ok (.iload_n 1, 1) := by decide +kernel
theorem dX1_write_42 : decode cX1_write 42 = .ok (.iastore, 1) := by decide +kernel
theorem dX1_write_43 : decode cX1_write 43 = .ok (.aload_n 0, 1) := by decide +kernel
theorem dX1_write_44 : decode cX1_write 44 = .ok (.dup, 1) := by decide +kernel
theorem dX1_write_45 : decode cX1_write 45 = .ok (.getfield 88, 3) := by decide +kernel
theorem dX1_write_48 : decode cX1_write 48 = .ok (.iconst 1, 1) := by decide +kernel
theorem dX1_write_49 : decode cX1_write 49 = .ok (.iadd, 1) := by decide +kernel
theorem dX1_write_50 : decode cX1_write 50 = .ok (.putfield 88, 3) := by decide +kernel
theorem dX1_write_53 : decode cX1_write 53 = .ok (.aload_n 0, 1) := by decide +kernel
theorem dX1_write_54 : decode cX1_write 54 = .ok (.getfield 88, 3) := by decide +kernel
theorem dX1_write_57 : decode cX1_write 57 = .ok (.ireturn, 1) := by decide +kernel
theorem dX1_erase_0 : decode cX1_erase 0 = .ok (.aload_n 0, 1) := by decide +kernel
theorem dX1_erase_1 : decode cX1_erase 1 = .ok (.iconst 0, 1) := by decide +kernel
theorem dX1_erase_2 : decode cX1_erase 2 = .ok (.putfield 19, 3) := by decide +kernel
theorem dX1_erase_5 : decode cX1_erase 5 = .ok (.aload_n 0, 1) := by decide +kernel
theorem dX1_erase_6 : decode cX1_erase 6 = .ok (.getfield 88, 3) := by decide +kernel
theorem dX1_erase_9 : decode cX1_erase 9 = .ok (.istore_n 1, 1) := by decide +kernel
theorem dX1_erase_10 : decode cX1_erase 10 = .ok (.aload_n 0, 1) := by decide +kernel
theorem dX1_erase_11 : decode cX1_erase 11 = .ok (.iconst 0, 1) := by decide +kernel
theorem dX1_erase_12 : decode cX1_erase 12 = .ok (.putfield 88, 3) := by decide +kernel
theorem dX1_erase_15 : decode cX1_erase 15 = .ok (.iload_n 1, 1) := by decide +kernel
theorem dX1_erase_16 : decode cX1_erase 16 = .ok (.ireturn, 1) := by decide +kernel
theorem dX1_placeIn_0 : decode cX1_placeIn 0 = .ok (.iconst 0, 1) := by decide +kernel
theorem dX1_placeIn_1 : decode cX1_placeIn 1 = .ok (.istore_n 3, 1) := by decide +kernel
theorem dX1_placeIn_2 : decode cX1_placeIn 2 = .ok (.iload_n 3, 1) := by decide +kernel
theorem dX1_placeIn_3 : decode cX1_placeIn 3 = .ok (.aload_n 0, 1) := by decide +kernel
theorem dX1_placeIn_4 : decode cX1_placeIn 4 = .ok (.getfield 88, 3) := by decide +kernel
theorem dX1_placeIn_7 : decode cX1_placeIn 7 = .ok (.iadd, 1) := by decide +kernel
theorem dX1_placeIn_8 : decode cX1_placeIn 8 = .ok (.bipush 12, 2) := by decide +kernel
theorem dX1_placeIn_10 : decode cX1_placeIn 10 = .ok (.if_icmp .gt 69, 3) := by decide +kernel
theorem dX1_placeIn_13 : decode cX1_placeIn 13 = .ok (.iconst 1, 1) := by decide +kernel
theorem dX1_placeIn_14 : decode cX1_placeIn 14 = .ok (.istore 4, 2) := by decide +kernel
theorem dX1_placeIn_16 : decode cX1_placeIn 16 = .ok (.iconst 0, 1) := by decide +kernel
theorem dX1_placeIn_17 : decode cX1_placeIn 17 = .ok (.istore 5, 2) := by decide +kernel
theorem dX1_placeIn_19 : decode cX1_placeIn 19 = .ok (.iload 5, 2) := by decide +kernel
theorem dX1_placeIn_21 : decode cX1_placeIn 21 = .ok (.aload_n 0, 1) := by decide +kernel
theorem dX1_placeIn_22 : decode cX1_placeIn 22 = .ok (.getfield 88, 3) := by decide +kernel
theorem dX1_placeIn_25 : decode cX1_placeIn 25 = .ok (.if_icmp .ge 41, 3) := by decide +kernel
theorem dX1_placeIn_28 : decode cX1_placeIn 28 = .ok (.iload 4, 2) := by decide +kernel
theorem dX1_placeIn_30 : decode cX1_placeIn 30 = .ok (.ifCond .eq 27, 3) := by decide +kernel
theorem dX1_placeIn_33 : decode cX1_placeIn 33 = .ok (.aload_n 0, 1) := by decide +kernel
theorem dX1_placeIn_34 : decode cX1_placeIn 34 = .ok (.iload_n 1, 1) := by decide +kernel
theorem dX1_placeIn_35 : decode cX1_placeIn 35 = .ok (.iload_n 2, 1) := by decide +kernel
theorem dX1_placeIn_36 : decode cX1_placeIn 36 = .ok (.iload_n 3, 1) := by decide +kernel
theorem dX1_placeIn_37 : decode cX1_placeIn 37 = .ok (.iload 5, 2) := by decide +kernel
theorem dX1_placeIn_39 : decode cX1_placeIn 39 = .ok (.iadd, 1) := by decide +kernel
theorem dX1_placeIn_40 : decode cX1_placeIn 40 = .ok (.invokevirtual 52, 3) := by decide +kernel
theorem dX1_placeIn_43 : decode cX1_placeIn 43 = .ok (.aload_n 0, 1) := by decide +kernel
theorem dX1_placeIn_44 : decode cX1_placeIn 44 = .ok (.getfield 16, 3) := by decide +kernel
theorem dX1_placeIn_47 : decode cX1_placeIn 47 = .ok (.iload 5, 2) := by decide +kernel
theorem dX1_placeIn_49 : decode cX1_placeIn 49 = .ok (.iaload, 1) := by decide +kernel
theorem dX1_placeIn_50 : decode cX1_placeIn 50 = .ok (.if_icmp .ne 7, 3) := by decide +kernel
theorem dX1_placeIn_53 : decode cX1_placeIn 53 = .ok (.iconst 1, 1) := by decide +kernel
theorem dX1_placeIn_54 : decode cX1_placeIn 54 = .ok (.goto 4, 3) := by decide +kernel
theorem dX1_placeIn_57 : decode cX1_placeIn 57 = .ok (.iconst 0, 1) := by decide +kernel
theorem dX1_placeIn_58 : decode cX1_placeIn 58 = .ok (.istore 4, 2) := by decide +kernel
theorem dX1_placeIn_60 : decode cX1_placeIn 60 = .ok (.iinc 5 1, 3) := by decide +kernel
theorem dX1_placeIn_63 : decode cX1_placeIn 63 = .ok (.goto (-44), 3) := by decide +kernel
theorem dX1_placeIn_66 : decode cX1_placeIn 66 = .ok (.iload 4, 2) := by decide +kernel
theorem dX1_placeIn_68 : decode cX1_placeIn 68 = .ok (.ifCond .eq 5, 3) := by decide +kernel
theorem dX1_placeIn_71 : decode cX1_placeIn 71 = .ok (.iload_n 3, 1) := by decide +kernel
theorem dX1_placeIn_72 : decode cX1_placeIn 72 = .ok (.ireturn, 1) := by decide +kernel
theorem dX1_placeIn_73 : decode cX1_placeIn 73 = .ok (.iinc 3 1, 3) := by decide +kernel
theorem dX1_placeIn_76 : decode cX1_placeIn 76 = .ok (.goto (-74), 3) := by decide +kernel
theorem dX1_placeIn_79 : decode cX1_placeIn 79 = .ok (.iconst (-1), 1) := by decide +kernel
theorem dX1_placeIn_80 : decode cX1_placeIn 80 = .ok (.ireturn, 1) := by decide +kernel
theorem dX1_formsWithPhrase_0 : decode cX1_formsWithPhrase 0 = .ok (.aload_n 0, 1) := by decide +kernel
theorem dX1_formsWithPhrase_1 : decode cX1_formsWithPhrase 1 = .ok (.iload_n 1, 1) := by decide +kernel
theorem dX1_formsWithPhrase_2 : decode cX1_formsWithPhrase 2 = .ok (.invokestatic 39, 3) := by decide +kernel
theorem dX1_formsWithPhrase_5 : decode cX1_formsWithPhrase 5 = .ok (.ifCond .eq 7, 3) := by decide +kernel
theorem dX1_formsWithPhrase_8 : decode cX1_formsWithPhrase 8 = .ok (.iconst 0, 1) := by decide +kernel
theorem dX1_formsWithPhrase_9 : decode cX1_formsWithPhrase 9 = .ok (.goto 4, 3) := by decide +kernel
theorem dX1_formsWithPhrase_12 : decode cX1_formsWithPhrase 12 = .ok (.iconst 1, 1) := by decide +kernel
theorem dX1_formsWithPhrase_13 : decode cX1_formsWithPhrase 13 = .ok (.invokevirtual 42, 3) := by decide +kernel
theorem dX1_formsWithPhrase_16 : decode cX1_formsWithPhrase 16 = .ok (.ifCond .ne 5, 3) := by decide +kernel
theorem dX1_formsWithPhrase_19 : decode cX1_formsWithPhrase 19 = .ok (.lconst 0, 1) := by decide +kernel
theorem dX1_formsWithPhrase_20 : decode cX1_formsWithPhrase 20 = .ok (.lreturn, 1) := by decide +kernel
theorem dX1_formsWithPhrase_21 : decode cX1_formsWithPhrase 21 = .ok (.lconst 0, 1) := by decide +kernel
theorem dX1_formsWithPhrase_22 : decode cX1_formsWithPhrase 22 = .ok (.lstore_n 2, 1) := by decide +kernel
theorem dX1_formsWithPhrase_23 : decode cX1_formsWithPhrase 23 = .ok (.iconst 0, 1) := by decide +kernel
theorem dX1_formsWithPhrase_24 : decode cX1_formsWithPhrase 24 = .ok (.istore 4, 2) := by decide +kernel
theorem dX1_formsWithPhrase_26 : decode cX1_formsWithPhrase 26 = .ok (.iload 4, 2) := by decide +kernel
theorem dX1_formsWithPhrase_28 : decode cX1_formsWithPhrase 28 = .ok (.bipush 48, 2) := by decide +kernel
theorem dX1_formsWithPhrase_30 : decode cX1_formsWithPhrase 30 = .ok (.if_icmp .ge 31, 3) := by decide +kernel
theorem dX1_formsWithPhrase_33 : decode cX1_formsWithPhrase 33 = .ok (.lload_n 2, 1) := by decide +kernel
theorem dX1_formsWithPhrase_34 : decode cX1_formsWithPhrase 34 = .ok (.aload_n 0, 1) := by decide +kernel
theorem dX1_formsWithPhrase_35 : decode cX1_formsWithPhrase 35 = .ok (.iload_n 1, 1) := by decide +kernel
theorem dX1_formsWithPhrase_36 : decode cX1_formsWithPhrase 36 = .ok (.iload 4, 2) := by decide +kernel
theorem dX1_formsWithPhrase_38 : decode cX1_formsWithPhrase 38 = .ok (.invokevirtual 94, 3) := by decide +kernel
theorem dX1_formsWithPhrase_41 : decode cX1_formsWithPhrase 41 = .ok (.iconst (-1), 1) := by decide +kernel
theorem dX1_formsWithPhrase_42 : decode cX1_formsWithPhrase 42 = .ok (.if_icmp .ne 7, 3) := by decide +kernel
theorem dX1_formsWithPhrase_45 : decode cX1_formsWithPhrase 45 = .ok (.lconst 0, 1) := by decide +kernel
theorem dX1_formsWithPhrase_46 : decode cX1_formsWithPhrase 46 = .ok (.goto 7, 3) := by decide +kernel
theorem dX1_formsWithPhrase_49 : decode cX1_formsWithPhrase 49 = .ok (.lconst 1, 1) := by decide +kernel
theorem dX1_formsWithPhrase_50 : decode cX1_formsWithPhrase 50 = .ok (.iload 4, 2) := by decide +kernel
theorem dX1_formsWithPhrase_52 : decode cX1_formsWithPhrase 52 = .ok (.lshl, 1) := by decide +kernel
theorem dX1_formsWithPhrase_53 : decode cX1_formsWithPhrase 53 = .ok (.lor, 1) := by decide +kernel
theorem dX1_formsWithPhrase_54 : decode cX1_formsWithPhrase 54 = .ok (.lstore_n 2, 1) := by decide +kernel
theorem dX1_formsWithPhrase_55 : decode cX1_formsWithPhrase 55 = .ok (.iinc 4 1, 3) := by decide +kernel
theorem dX1_formsWithPhrase_58 : decode cX1_formsWithPhrase 58 = .ok (.goto (-32), 3) := by decide +kernel
theorem dX1_formsWithPhrase_61 : decode cX1_formsWithPhrase 61 = .ok (.lload_n 2, 1) := by decide +kernel
theorem dX1_formsWithPhrase_62 : decode cX1_formsWithPhrase 62 = .ok (.lreturn, 1) := by decide +kernel
theorem dX1_placeOfPhrase_0 : decode cX1_placeOfPhrase 0 = .ok (.aload_n 0, 1) := by decide +kernel
theorem dX1_placeOfPhrase_1 : decode cX1_placeOfPhrase 1 = .ok (.iload_n 1, 1) := by decide +kernel
theorem dX1_placeOfPhrase_2 : decode cX1_placeOfPhrase 2 = .ok (.invokestatic 39, 3) := by decide +kernel
theorem dX1_placeOfPhrase_5 : decode cX1_placeOfPhrase 5 = .ok (.ifCond .ne 7, 3) := by decide +kernel
theorem dX1_placeOfPhrase_8 : decode cX1_placeOfPhrase 8 = .ok (.iconst 1, 1) := by decide +kernel
theorem dX1_placeOfPhrase_9 : decode cX1_placeOfPhrase 9 = .ok (.goto 15, 3) := by decide +kernel
theorem dX1_placeOfPhrase_12 : decode cX1_placeOfPhrase 12 = .ok (.iload_n 2, 1) := by decide +kernel
theorem dX1_placeOfPhrase_13 : decode cX1_placeOfPhrase 13 = .ok (.invokestatic 85, 3) := by decide +kernel
theorem dX1_placeOfPhrase_16 : decode cX1_placeOfPhrase 16 = .ok (.ifCond .eq 7, 3) := by decide +kernel
theorem dX1_placeOfPhrase_19 : decode cX1_placeOfPhrase 19 = .ok (.iconst 0, 1) := by decide +kernel
theorem dX1_placeOfPhrase_20 : decode cX1_placeOfPhrase 20 = .ok (.goto 4, 3) := by decide +kernel
theorem dX1_placeOfPhrase_23 : decode cX1_placeOfPhrase 23 = .ok (.iconst 2, 1) := by decide +kernel
theorem dX1_placeOfPhrase_24 : decode cX1_placeOfPhrase 24 = .ok (.invokevirtual 42, 3) := by decide +kernel
theorem dX1_placeOfPhrase_27 : decode cX1_placeOfPhrase 27 = .ok (.ifCond .eq 23, 3) := by decide +kernel
theorem dX1_placeOfPhrase_30 : decode cX1_placeOfPhrase 30 = .ok (.aload_n 0, 1) := by decide +kernel
theorem dX1_placeOfPhrase_31 : decode cX1_placeOfPhrase 31 = .ok (.getfield 88, 3) := by decide +kernel
theorem dX1_placeOfPhrase_34 : decode cX1_placeOfPhrase 34 = .ok (.ifCond .ne 7, 3) := by decide +kernel
theorem dX1_placeOfPhrase_37 : decode cX1_placeOfPhrase 37 = .ok (.iconst (-1), 1) := by decide +kernel
theorem dX1_placeOfPhrase_38 : decode cX1_placeOfPhrase 38 = .ok (.goto 13, 3) := by decide +kernel
theorem dX1_placeOfPhrase_41 : decode cX1_placeOfPhrase 41 = .ok (.aload_n 0, 1) := by decide +kernel
theorem dX1_placeOfPhrase_42 : decode cX1_placeOfPhrase 42 = .ok (.iload_n 1, 1) := by decide +kernel
theorem dX1_placeOfPhrase_43 : decode cX1_placeOfPhrase 43 = .ok (.iload_n 2, 1) := by decide +kernel
theorem dX1_placeOfPhrase_44 : decode cX1_placeOfPhrase 44 = .ok (.invokevirtual 94, 3) := by decide +kernel
theorem dX1_placeOfPhrase_47 : decode cX1_placeOfPhrase 47 = .ok (.goto 4, 3) := by decide +kernel
theorem dX1_placeOfPhrase_50 : decode cX1_placeOfPhrase 50 = .ok (.iconst 0, 1) := by decide +kernel
theorem dX1_placeOfPhrase_51 : decode cX1_placeOfPhrase 51 = .ok (.ireturn, 1) := by decide +kernel
theorem dX1_complete_0 : decode cX1_complete 0 = .ok (.aload_n 0, 1) := by decide +kernel
theorem dX1_complete_1 : decode cX1_complete 1 = .ok (.iload_n 1, 1) := by decide +kernel
theorem dX1_complete_2 : decode cX1_complete 2 = .ok (.invokestatic 39, 3) := by decide +kernel
theorem dX1_complete_5 : decode cX1_complete 5 = .ok (.ifCond .eq 7, 3) := by decide +kernel
theorem dX1_complete_8 : decode cX1_complete 8 = .ok (.iconst 0, 1) := by decide +kernel
theorem dX1_complete_9 : decode cX1_complete 9 = .ok (.goto 4, 3) := by decide +kernel
theorem dX1_complete_12 : decode cX1_complete 12 = .ok (.iconst 1, 1) := by decide +kernel
theorem dX1_complete_13 : decode cX1_complete 13 = .ok (.invokevirtual 42, 3) := by decide +kernel
theorem dX1_complete_16 : decode cX1_complete 16 = .ok (.ifCond .ne 5, 3) := by decide +kernel
theorem dX1_complete_19 : decode cX1_complete 19 = .ok (.iconst 0, 1) := by decide +kernel
theorem dX1_complete_20 : decode cX1_complete 20 = .ok (.ireturn, 1) := by decide +kernel
theorem dX1_complete_21 : decode cX1_complete 21 = .ok (.iconst 0, 1) := by decide +kernel
theorem dX1_complete_22 : decode cX1_complete 22 = .ok (.istore_n 2, 1) := by decide +kernel
theorem dX1_complete_23 : decode cX1_complete 23 = .ok (.iconst 0, 1) := by decide +kernel
theorem dX1_complete_24 : decode cX1_complete 24 = .ok (.istore_n 3, 1) := by decide +kernel
theorem dX1_complete_25 : decode cX1_complete 25 = .ok (.iload_n 3, 1) := by decide +kernel
theorem dX1_complete_26 : decode cX1_complete 26 = .ok (.aload_n 0, 1) := by decide +kernel
theorem dX1_complete_27 : decode cX1_complete 27 = .ok (.getfield 88, 3) := by decide +kernel
theorem dX1_complete_30 : decode cX1_complete 30 = .ok (.if_icmp .ge 24, 3) := by decide +kernel
theorem dX1_complete_33 : decode cX1_complete 33 = .ok (.aload_n 0, 1) := by decide +kernel
theorem dX1_complete_34 : decode cX1_complete 34 = .ok (.getfield 13, 3) := by decide +kernel
theorem dX1_complete_37 : decode cX1_complete 37 = .ok (.iload_n 2, 1) := by decide +kernel
theorem dX1_complete_38 : decode cX1_complete 38 = .ok (.aload_n 0, 1) := by decide +kernel
theorem dX1_complete_39 : decode cX1_complete 39 = .ok (.getfield 16, 3) := by decide +kernel
theorem dX1_complete_42 : decode cX1_complete 42 = .ok (.iload_n 3, 1) := by decide +kernel
theorem dX1_complete_43 : decode cX1_complete 43 = .ok (.iaload, 1) := by decide +kernel
theorem dX1_complete_44 : decode cX1_complete 44 = .ok (.iastore, 1) := by decide +kernel
theorem dX1_complete_45 : decode cX1_complete 45 = .ok (.iinc 2 1, 3) := by decide +kernel
theorem dX1_complete_48 : decode cX1_complete 48 = .ok (.iinc 3 1, 3) := by decide +kernel
theorem dX1_complete_51 : decode cX1_complete 51 = .ok (.goto (-26), 3) := by decide +kernel
theorem dX1_complete_54 : decode cX1_complete 54 = .ok (.iconst 0, 1) := by decide +kernel
theorem dX1_complete_55 : decode cX1_complete 55 = .ok (.istore_n 3, 1) := by decide +kernel
theorem dX1_complete_56 : decode cX1_complete 56 = .ok (.iload_n 3, 1) := by decide +kernel
theorem dX1_complete_57 : decode cX1_complete 57 = .ok (.bipush 12, 2) := by decide +kernel
theorem dX1_complete_59 : decode cX1_complete 59 = .ok (.if_icmp .ge 37, 3) := by decide +kernel
theorem dX1_complete_62 : decode cX1_complete 62 = .ok (.aload_n 0, 1) := by decide +kernel
theorem dX1_complete_63 : decode cX1_complete 63 = .ok (.aload_n 0, 1) := by decide +kernel
theorem dX1_complete_64 : decode cX1_complete 64 = .ok (.iload_n 1, 1) := by decide +kernel
theorem dX1_complete_65 : decode cX1_complete 65 = .ok (.iload_n 3, 1) := by decide +kernel
theorem dX1_complete_66 : decode cX1_complete 66 = .ok (.invokevirtual 31, 3) := by decide +kernel
theorem dX1_complete_69 : decode cX1_complete 69 = .ok (.invokevirtual 91, 3) := by decide +kernel
theorem dX1_complete_72 : decode cX1_complete 72 = .ok (.ifCond .ne 18, 3) := by decide +kernel
theorem dX1_complete_75 : decode cX1_complete 75 = .ok (.aload_n 0, 1) := by decide +kernel
theorem dX1_complete_76 : decode cX1_complete 76 = .ok (.getfield 13, 3) := by decide +kernel
theorem dX1_complete_79 : decode cX1_complete 79 = .ok (.iload_n 2, 1) := by decide +kernel
theorem dX1_complete_80 : decode cX1_complete 80 = .ok (.aload_n 0, 1) := by decide +kernel
theorem dX1_complete_81 : decode cX1_complete 81 = .ok (.iload_n 1, 1) := by decide +kernel
theorem dX1_complete_82 : decode cX1_complete 82 = .ok (.iload_n 3, 1) := by decide +kernel
theorem dX1_complete_83 : decode cX1_complete 83 = .ok (.invokevirtual 31, 3) := by decide +kernel
theorem dX1_complete_86 : decode cX1_complete 86 = .ok (.iastore, 1) := by decide +kernel
theorem dX1_complete_87 : decode cX1_complete 87 = .ok (.iinc 2 1, 3) := by decide +kernel
theorem dX1_complete_90 : decode cX1_complete 90 = .ok (.iinc 3 1, 3) := by decide +kernel
theorem dX1_complete_93 : decode cX1_complete 93 = .ok (.goto (-37), 3) := by decide +kernel
theorem dX1_complete_96 : decode cX1_complete 96 = .ok (.aload_n 0, 1) := by decide +kernel
theorem dX1_complete_97 : decode cX1_complete 97 = .ok (.iload_n 1, 1) := by decide +kernel
theorem dX1_complete_98 : decode cX1_complete 98 = .ok (.invokevirtual 56, 3) := by decide +kernel
theorem dX1_complete_101 : decode cX1_complete 101 = .ok (.ireturn, 1) := by decide +kernel
