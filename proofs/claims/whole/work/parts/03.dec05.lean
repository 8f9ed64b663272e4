theorem dX11_withFindings_35 : decode cX11_withFindings 35 = .ok (.ldc2_w 233, 3) := by decide +kernel
theorem dX11_withFindings_38 : decode cX11_withFindings 38 = .ok (.lload_n 1, 1) := by decide +kernel
theorem dX11_withFindings_39 : decode cX11_withFindings 39 = .ok (.lmul, 1) := by decide +kernel
theorem dX11_withFindings_40 : decode cX11_withFindings 40 = .ok (.aload_n 0, 1) := by decide +kernel
theorem dX11_withFindings_41 : decode cX11_withFindings 41 = .ok (.getfield 44, 3) := by decide +kernel
theorem dX11_withFindings_44 : decode cX11_withFindings 44 = .ok (.invokevirtual 222, 3) := by decide +kernel
theorem dX11_withFindings_47 : decode cX11_withFindings 47 = .ok (.i2l, 1) := by decide +kernel
theorem dX11_withFindings_48 : decode cX11_withFindings 48 = .ok (.ladd, 1) := by decide +kernel
theorem dX11_withFindings_49 : decode cX11_withFindings 49 = .ok (.lstore_n 1, 1) := by decide +kernel
theorem dX11_withFindings_50 : decode cX11_withFindings 50 = .ok (.iconst 0, 1) := by decide +kernel
theorem dX11_withFindings_51 : decode cX11_withFindings 51 = .ok (.istore_n 3, 1) := by decide +kernel
theorem dX11_withFindings_52 : decode cX11_withFindings 52 = .ok (.iload_n 3, 1) := by decide +kernel
theorem dX11_withFindings_53 : decode cX11_withFindings 53 = .ok (.bipush 6, 2) := by decide +kernel
theorem dX11_withFindings_55 : decode cX11_withFindings 55 = .ok (.if_icmp .ge 25, 3) := by decide +kernel
theorem dX11_withFindings_58 : decode cX11_withFindings 58 = .ok (.ldc2_w 233, 3) := by decide +kernel
theorem dX11_withFindings_61 : decode cX11_withFindings 61 = .ok (.lload_n 1, 1) := by decide +kernel
theorem dX11_withFindings_62 : decode cX11_withFindings 62 = .ok (.lmul, 1) := by decide +kernel
theorem dX11_withFindings_63 : decode cX11_withFindings 63 = .ok (.aload_n 0, 1) := by decide +kernel
theorem dX11_withFindings_64 : decode cX11_withFindings 64 = .ok (.getfield 44, 3) := by decide +kernel
theorem dX11_withFindings_67 : decode cX11_withFindings 67 = .ok (.iload_n 3, 1) := by decide +kernel
theorem dX11_withFindings_68 : decode cX11_withFindings 68 = .ok (.invokevirtual 225, 3) := by decide +kernel
theorem dX11_withFindings_71 : decode cX11_withFindings 71 = .ok (.i2l, 1) := by decide +kernel
theorem dX11_withFindings_72 : decode cX11_withFindings 72 = .ok (.ladd, 1) := by decide +kernel
theorem dX11_withFindings_73 : decode cX11_withFindings 73 = .ok (.lstore_n 1, 1) := by decide +kernel
theorem dX11_withFindings_74 : decode cX11_withFindings 74 = .ok (.iinc 3 1, 3) := by decide +kernel
theorem dX11_withFindings_77 : decode cX11_withFindings 77 = .ok (.goto (-25), 3) := by decide +kernel
theorem dX11_withFindings_80 : decode cX11_withFindings 80 = .ok (.ldc2_w 233, 3) := by decide +kernel
theorem dX11_withFindings_83 : decode cX11_withFindings 83 = .ok (.lload_n 1, 1) := by decide +kernel
theorem dX11_withFindings_84 : decode cX11_withFindings 84 = .ok (.lmul, 1) := by decide +kernel
theorem dX11_withFindings_85 : decode cX11_withFindings 85 = .ok (.aload_n 0, 1) := by decide +kernel
theorem dX11_withFindings_86 : decode cX11_withFindings 86 = .ok (.iconst 2, 1) := by decide +kernel
theorem dX11_withFindings_87 : decode cX11_withFindings 87 = .ok (.invokevirtual 208, 3) := by decide +kernel
theorem dX11_withFindings_90 : decode cX11_withFindings 90 = .ok (.i2l, 1) := by decide +kernel
theorem dX11_withFindings_91 : decode cX11_withFindings 91 = .ok (.ladd, 1) := by decide +kernel
theorem dX11_withFindings_92 : decode cX11_withFindings 92 = .ok (.lstore_n 1, 1) := by decide +kernel
theorem dX11_withFindings_93 : decode cX11_withFindings 93 = .ok (.ldc2_w 233, 3) := by decide +kernel
theorem dX11_withFindings_96 : decode cX11_withFindings 96 = .ok (.lload_n 1, 1) := by decide +kernel
theorem dX11_withFindings_97 : decode cX11_withFindings 97 = .ok (.lmul, 1) := by decide +kernel
theorem dX11_withFindings_98 : decode cX11_withFindings 98 = .ok (.aload_n 0, 1) := by decide +kernel
theorem dX11_withFindings_99 : decode cX11_withFindings 99 = .ok (.getfield 37, 3) := by decide +kernel
theorem dX11_withFindings_102 : decode cX11_withFindings 102 = .ok (.aload_n 0, 1) := by decide +kernel
theorem dX11_withFindings_103 : decode cX11_withFindings 103 = .ok (.getfield 57, 3) := by decide +kernel
theorem dX11_withFindings_106 : decode cX11_withFindings 106 = .ok (.iconst 0, 1) := by decide +kernel
theorem dX11_withFindings_107 : decode cX11_withFindings 107 = .ok (.invokevirtual 147, 3) := by decide +kernel
theorem dX11_withFindings_110 : decode cX11_withFindings 110 = .ok (.aload_n 0, 1) := by decide +kernel
theorem dX11_withFindings_111 : decode cX11_withFindings 111 = .ok (.getfield 66, 3) := by decide +kernel
theorem dX11_withFindings_114 : decode cX11_withFindings 114 = .ok (.aload_n 0, 1) := by decide +kernel
theorem dX11_withFindings_115 : decode cX11_withFindings 115 = .ok (.getfield 66, 3) := by decide +kernel
theorem dX11_withFindings_118 : decode cX11_withFindings 118 = .ok (.invokevirtual 189, 3) := by decide +kernel
theorem dX11_withFindings_121 : decode cX11_withFindings 121 = .ok (.i2l, 1) := by decide +kernel
theorem dX11_withFindings_122 : decode cX11_withFindings 122 = .ok (.ladd, 1) := by decide +kernel
theorem dX11_withFindings_123 : decode cX11_withFindings 123 = .ok (.lreturn, 1) := by decide +kernel
theorem dX11_letterIn_0 : decode cX11_letterIn 0 = .ok (.lload_n 0, 1) := by decide +kernel
theorem dX11_letterIn_1 : decode cX11_letterIn 1 = .ok (.bipush 8, 2) := by decide +kernel
theorem dX11_letterIn_3 : decode cX11_letterIn 3 = .ok (.iload_n 2, 1) := by decide +kernel
theorem dX11_letterIn_4 : decode cX11_letterIn 4 = .ok (.imul, 1) := by decide +kernel
theorem dX11_letterIn_5 : decode cX11_letterIn 5 = .ok (.lushr, 1) := by decide +kernel
theorem dX11_letterIn_6 : decode cX11_letterIn 6 = .ok (.l2i, 1) := by decide +kernel
theorem dX11_letterIn_7 : decode cX11_letterIn 7 = .ok (.sipush 255, 3) := by decide +kernel
theorem dX11_letterIn_10 : decode cX11_letterIn 10 = .ok (.iand, 1) := by decide +kernel
theorem dX11_letterIn_11 : decode cX11_letterIn 11 = .ok (.ireturn, 1) := by decide +kernel
theorem dX11_lettersIn_0 : decode cX11_lettersIn 0 = .ok (.iconst 0, 1) := by decide +kernel
theorem dX11_lettersIn_1 : decode cX11_lettersIn 1 = .ok (.istore_n 2, 1) := by decide +kernel
theorem dX11_lettersIn_2 : decode cX11_lettersIn 2 = .ok (.iconst 0, 1) := by decide +kernel
theorem dX11_lettersIn_3 : decode cX11_lettersIn 3 = .ok (.istore_n 3, 1) := by decide +kernel
theorem dX11_lettersIn_4 : decode cX11_lettersIn 4 = .ok (.iload_n 3, 1) := by decide +kernel
theorem dX11_lettersIn_5 : decode cX11_lettersIn 5 = .ok (.bipush 8, 2) := by decide +kernel
theorem dX11_lettersIn_7 : decode cX11_lettersIn 7 = .ok (.if_icmp .ge 43, 3) := by decide +kernel
theorem dX11_lettersIn_10 : decode cX11_lettersIn 10 = .ok (.lload_n 0, 1) := by decide +kernel
theorem dX11_lettersIn_11 : decode cX11_lettersIn 11 = .ok (.iload_n 3, 1) := by decide +kernel
theorem dX11_lettersIn_12 : decode cX11_lettersIn 12 = .ok (.invokestatic 155, 3) := by decide +kernel
theorem dX11_lettersIn_15 : decode cX11_lettersIn 15 = .ok (.istore 4, 2) := by decide +kernel
theorem dX11_lettersIn_17 : decode cX11_lettersIn 17 = .ok (.iload 4, 2) := by decide +kernel
theorem dX11_lettersIn_19 : decode cX11_lettersIn 19 = .ok (.bipush 126, 2) := by decide +kernel
theorem dX11_lettersIn_21 : decode cX11_lettersIn 21 = .ok (.if_icmp .gt 13, 3) := by decide +kernel
theorem dX11_lettersIn_24 : decode cX11_lettersIn 24 = .ok (.iload 4, 2) := by decide +kernel
theorem dX11_lettersIn_26 : decode cX11_lettersIn 26 = .ok (.ifCond .eq 10, 3) := by decide +kernel
theorem dX11_lettersIn_29 : decode cX11_lettersIn 29 = .ok (.iload_n 2, 1) := by decide +kernel
theorem dX11_lettersIn_30 : decode cX11_lettersIn 30 = .ok (.iload_n 3, 1) := by decide +kernel
theorem dX11_lettersIn_31 : decode cX11_lettersIn 31 = .ok (.if_icmp .ge 5, 3) := by decide +kernel
theorem dX11_lettersIn_34 : decode cX11_lettersIn 34 = .ok (.iconst (-1), 1) := by decide +kernel
theorem dX11_lettersIn_35 : decode cX11_lettersIn 35 = .ok (.ireturn, 1) := by decide +kernel
theorem dX11_lettersIn_36 : decode cX11_lettersIn 36 = .ok (.iload 4, 2) := by decide +kernel
theorem dX11_lettersIn_38 : decode cX11_lettersIn 38 = .ok (.ifCond .eq 6, 3) := by decide +kernel
theorem dX11_lettersIn_41 : decode cX11_lettersIn 41 = .ok (.iinc 2 1, 3) := by decide +kernel
theorem dX11_lettersIn_44 : decode cX11_lettersIn 44 = .ok (.iinc 3 1, 3) := by decide +kernel
theorem dX11_lettersIn_47 : decode cX11_lettersIn 47 = .ok (.goto (-43), 3) := by decide +kernel
theorem dX11_lettersIn_50 : decode cX11_lettersIn 50 = .ok (.iload_n 2, 1) := by decide +kernel
theorem dX11_lettersIn_51 : decode cX11_lettersIn 51 = .ok (.ireturn, 1) := by decide +kernel
theorem dX11_isDigit_0 : decode cX11_isDigit 0 = .ok (.iload_n 0, 1) := by decide +kernel
theorem dX11_isDigit_1 : decode cX11_isDigit 1 = .ok (.bipush 48, 2) := by decide +kernel
theorem dX11_isDigit_3 : decode cX11_isDigit 3 = .ok (.iload_n 1, 1) := by decide +kernel
theorem dX11_isDigit_4 : decode cX11_isDigit 4 = .ok (.iadd, 1) := by decide +kernel
theorem dX11_isDigit_5 : decode cX11_isDigit 5 = .ok (.if_icmp .lt 13, 3) := by decide +kernel
theorem dX11_isDigit_8 : decode cX11_isDigit 8 = .ok (.iload_n 0, 1) := by decide +kernel
theorem dX11_isDigit_9 : decode cX11_isDigit 9 = .ok (.bipush 57, 2) := by decide +kernel
theorem dX11_isDigit_11 : decode cX11_isDigit 11 = .ok (.if_icmp .gt 7, 3) := by decide +kernel
theorem dX11_isDigit_14 : decode cX11_isDigit 14 = .ok (.iconst 1, 1) := by decide +kernel
theorem dX11_isDigit_15 : decode cX11_isDigit 15 = .ok (.goto 4, 3) := by decide +kernel
theorem dX11_isDigit_18 : decode cX11_isDigit 18 = .ok (.iconst 0, 1) := by decide +kernel
theorem dX11_isDigit_19 : decode cX11_isDigit 19 = .ok (.ireturn, 1) := by decide +kernel
theorem dX11_firstFault_0 : decode cX11_firstFault 0 = .ok (.aload_n 0, 1) := by decide +kernel
theorem dX11_firstFault_1 : decode cX11_firstFault 1 = .ok (.invokevirtual 154, 3) := by decide +kernel
theorem dX11_firstFault_4 : decode cX11_firstFault 4 = .ok (.istore_n 2, 1) := by decide +kernel
theorem dX11_firstFault_5 : decode cX11_firstFault 5 = .ok (.iconst 0, 1) := by decide +kernel
theorem dX11_firstFault_6 : decode cX11_firstFault 6 = .ok (.istore_n 3, 1) := by decide +kernel
theorem dX11_firstFault_7 : decode cX11_firstFault 7 = .ok (.iload_n 3, 1) := by decide +kernel
theorem dX11_firstFault_8 : decode cX11_firstFault 8 = .ok (.iload_n 2, 1) := by decide +kernel
theorem dX11_firstFault_9 : decode cX11_firstFault 9 = .ok (.if_icmp .ge 26, 3) := by decide +kernel
theorem dX11_firstFault_12 : decode cX11_firstFault 12 = .ok (.iload_n 3, 1) := by decide +kernel
theorem dX11_firstFault_13 : decode cX11_firstFault 13 = .ok (.iload_n 1, 1) := by decide +kernel
theorem dX11_firstFault_14 : decode cX11_firstFault 14 = .ok (.if_icmp .ge 21, 3) := by decide +kernel
theorem dX11_firstFault_17 : decode cX11_firstFault 17 = .ok (.aload_n 0, 1) := by decide +kernel
theorem dX11_firstFault_18 : decode cX11_firstFault 18 = .ok (.iload_n 3, 1) := by decide +kernel
theorem dX11_firstFault_19 : decode cX11_firstFault 19 = .ok (.invokevirtual 147, 3) := by decide +kernel
theorem dX11_firstFault_22 : decode cX11_firstFault 22 = .ok (.iconst 0, 1) := by decide +kernel
theorem dX11_firstFault_23 : decode cX11_firstFault 23 = .ok (.invokestatic 265, 3) := by decide +kernel
theorem dX11_firstFault_26 : decode cX11_firstFault 26 = .ok (.ifCond .eq 9, 3) := by decide +kernel
theorem dX11_firstFault_29 : decode cX11_firstFault 29 = .ok (.iinc 3 1, 3) := by decide +kernel
theorem dX11_firstFault_32 : decode cX11_firstFault 32 = .ok (.goto (-25), 3) := by decide +kernel
theorem dX11_firstFault_35 : decode cX11_firstFault 35 = .ok (.iload_n 3, 1) := by decide +kernel
theorem dX11_firstFault_36 : decode cX11_firstFault 36 = .ok (.iload_n 1, 1) := by decide +kernel
theorem dX11_firstFault_37 : decode cX11_firstFault 37 = .ok (.if_icmp .ge 5, 3) := by decide +kernel
theorem dX11_firstFault_40 : decode cX11_firstFault 40 = .ok (.iload_n 3, 1) := by decide +kernel
theorem dX11_firstFault_41 : decode cX11_firstFault 41 = .ok (.ireturn, 1) := by decide +kernel
theorem dX11_firstFault_42 : decode cX11_firstFault 42 = .ok (.iload_n 3, 1) := by decide +kernel
theorem dX11_firstFault_43 : decode cX11_firstFault 43 = .ok (.iload_n 2, 1) := by decide +kernel
theorem dX11_firstFault_44 : decode cX11_firstFault 44 = .ok (.if_icmp .ge 38, 3) := by decide +kernel
theorem dX11_firstFault_47 : decode cX11_firstFault 47 = .ok (.aload_n 0, 1) := by decide +kernel
theorem dX11_firstFault_48 : decode cX11_firstFault 48 = .ok (.iload_n 3, 1) := by decide +kernel
theorem dX11_firstFault_49 : decode cX11_firstFault 49 = .ok (.invokevirtual 147, 3) := by decide +kernel
theorem dX11_firstFault_52 : decode cX11_firstFault 52 = .ok (.bipush 43, 2) := by decide +kernel
theorem dX11_firstFault_54 : decode cX11_firstFault 54 = .ok (.if_icmp .ne 28, 3) := by decide +kernel
theorem dX11_firstFault_57 : decode cX11_firstFault 57 = .ok (.iinc 3 1, 3) := by decide +kernel
theorem dX11_firstFault_60 : decode cX11_firstFault 60 = .ok (.iload_n 3, 1) := by decide +kernel
theorem dX11_firstFault_61 : decode cX11_firstFault 61 = .ok (.iload_n 2, 1) := by decide +kernel
theorem dX11_firstFault_62 : decode cX11_firstFault 62 = .ok (.if_icmp .eq 15, 3) := by decide +kernel
theorem dX11_firstFault_65 : decode cX11_firstFault 65 = .ok (.aload_n 0, 1) := by decide +kernel
theorem dX11_firstFault_66 : decode cX11_firstFault 66 = .ok (.iload_n 3, 1) := by decide +kernel
theorem dX11_firstFault_67 : decode cX11_firstFault 67 = .ok (.invokevirtual 147, 3) := by decide +kernel
theorem dX11_firstFault_70 : decode cX11_firstFault 70 = .ok (.iconst 1, 1) := by decide +kernel
theorem dX11_firstFault_71 : decode cX11_firstFault 71 = .ok (.invokestatic 265, 3) := by decide +kernel
theorem dX11_firstFault_74 : decode cX11_firstFault 74 = .ok (.ifCond .ne 5, 3) := by decide +kernel
theorem dX11_firstFault_77 : decode cX11_firstFault 77 = .ok (.iload_n 3, 1) := by decide +kernel
theorem dX11_firstFault_78 : decode cX11_firstFault 78 = .ok (.ireturn, 1) := by decide +kernel
theorem dX11_firstFault_79 : decode cX11_firstFault 79 = .ok (.iinc 3 1, 3) := by decide +kernel
theorem dX11_firstFault_82 : decode cX11_firstFault 82 = .ok (.iload_n 3, 1) := by decide +kernel
theorem dX11_firstFault_83 : decode cX11_firstFault 83 = .ok (.iload_n 2, 1) := by decide +kernel
theorem dX11_firstFault_84 : decode cX11_firstFault 84 = .ok (.if_icmp .ge 16, 3) := by decide +kernel
theorem dX11_firstFault_87 : decode cX11_firstFault 87 = .ok (.aload_n 0, 1) := by decide +kernel
theorem dX11_firstFault_88 : decode cX11_firstFault 88 = .ok (.iload_n 3, 1) := by decide +kernel
theorem dX11_firstFault_89 : decode cX11_firstFault 89 = .ok (.invokevirtual 147, 3) := by decide +kernel
theorem dX11_firstFault_92 : decode cX11_firstFault 92 = .ok (.bipush 33, 2) := by decide +kernel
theorem dX11_firstFault_94 : decode cX11_firstFault 94 = .ok (.if_icmp .ne 6, 3) := by decide +kernel
theorem dX11_firstFault_97 : decode cX11_firstFault 97 = .ok (.iinc 3 1, 3) := by decide +kernel
theorem dX11_firstFault_100 : decode cX11_firstFault 100 = .ok (.iload_n 3, 1) := by decide +kernel
theorem dX11_firstFault_101 : decode cX11_firstFault 101 = .ok (.ireturn, 1) := by decide +kernel
theorem dX11_isJudge_0 : decode cX11_isJudge 0 = .ok (.aload_n 0, 1) := by decide +kernel
theorem dX11_isJudge_1 : decode cX11_isJudge 1 = .ok (.invokevirtual 154, 3) := by decide +kernel
theorem dX11_isJudge_4 : decode cX11_isJudge 4 = .ok (.istore_n 2, 1) := by decide +kernel
theorem dX11_isJudge_5 : decode cX11_isJudge 5 = .ok (.iload_n 2, 1) := by decide +kernel
theorem dX11_isJudge_6 : decode cX11_isJudge 6 = .ok (.iload_n 1, 1) := by decide +kernel
theorem dX11_isJudge_7 : decode cX11_isJudge 7 = .ok (.if_icmp .lt 25, 3) := by decide +kernel
theorem dX11_isJudge_10 : decode cX11_isJudge 10 = .ok (.aload_n 0, 1) := by decide +kernel
theorem dX11_isJudge_11 : decode cX11_isJudge 11 = .ok (.iload_n 1, 1) := by decide +kernel
theorem dX11_isJudge_12 : decode cX11_isJudge 12 = .ok (.invokestatic 162, 3) := by decide +kernel
theorem dX11_isJudge_15 : decode cX11_isJudge 15 = .ok (.iload_n 2, 1) := by decide +kernel
theorem dX11_isJudge_16 : decode cX11_isJudge 16 = .ok (.if_icmp .ne 16, 3) := by decide +kernel
theorem dX11_isJudge_19 : decode cX11_isJudge 19 = .ok (.aload_n 0, 1) := by decide +kernel
theorem dX11_isJudge_20 : decode cX11_isJudge 20 = .ok (.invokevirtual 138, 3) := by decide +kernel
theorem dX11_isJudge_23 : decode cX11_isJudge 23 = .ok (.bipush 43, 2) := by decide +kernel
theorem dX11_isJudge_25 : decode cX11_isJudge 25 = .ok (.if_icmp .eq 7, 3) := by decide +kernel
theorem dX11_isJudge_28 : decode cX11_isJudge 28 = .ok (.iconst 1, 1) := by decide +kernel
theorem dX11_isJudge_29 : decode cX11_isJudge 29 = .ok (.goto 4, 3) := by decide +kernel
theorem dX11_isJudge_32 : decode cX11_isJudge 32 = .ok (.iconst 0, 1) := by decide +kernel
theorem dX11_isJudge_33 : decode cX11_isJudge 33 = .ok (.ireturn, 1) := by decide +kernel
theorem dX11_strictest_0 : decode cX11_strictest 0 = .ok (.iconst (-1), 1) := by decide +kernel
theorem dX11_strictest_1 : decode cX11_strictest 1 = .ok (.istore_n 1, 1) := by decide +kernel
theorem dX11_strictest_2 : decode cX11_strictest 2 = .ok (.iconst 0, 1) := by decide +kernel
theorem dX11_strictest_3 : decode cX11_strictest 3 = .ok (.istore_n 2, 1) := by decide +kernel
theorem dX11_strictest_4 : decode cX11_strictest 4 = .ok (.iconst 0, 1) := by decide +kernel
theorem dX11_strictest_5 : decode cX11_strictest 5 = .ok (.istore_n 3, 1) := by decide +kernel
theorem dX11_strictest_6 : decode cX11_strictest 6 = .ok (.iload_n 3, 1) := by decide +kernel
theorem dX11_strictest_7 : decode cX11_strictest 7 = .ok (.aload_n 0, 1) := by decide +kernel
theorem dX11_strictest_8 : decode cX11_strictest 8 = .ok (.getfield 21, 3) := by decide +kernel
theorem dX11_strictest_11 : decode cX11_strictest 11 = .ok (.invokevirtual 239, 3) := by decide +kernel
theorem dX11_strictest_14 : decode cX11_strictest 14 = .ok (.if_icmp .ge 32, 3) := by decide +kernel
theorem dX11_strictest_17 : decode cX11_strictest 17 = .ok (.aload_n 0, 1) := by decide +kernel
theorem dX11_strictest_18 : decode cX11_strictest 18 = .ok (.iload_n 3, 1) := by decide +kernel
theorem dX11_strictest_19 : decode cX11_strictest 19 = .ok (.invokevirtual 269, 3) := by decide +kernel
theorem dX11_strictest_22 : decode cX11_strictest 22 = .ok (.istore 4, 2) := by decide +kernel
theorem dX11_strictest_24 : decode cX11_strictest 24 = .ok (.iload_n 1, 1) := by decide +kernel
theorem dX11_strictest_25 : decode cX11_strictest 25 = .ok (.iconst (-1), 1) := by decide +kernel
theorem dX11_strictest_26 : decode cX11_strictest 26 = .ok (.if_icmp .eq 9, 3) := by decide +kernel
theorem dX11_strictest_29 : decode cX11_strictest 29 = .ok (.iload 4, 2) := by decide +kernel
theorem dX11_strictest_31 : decode cX11_strictest 31 = .ok (.iload_n 2, 1) := by decide +kernel
theorem dX11_strictest_32 : decode cX11_strictest 32 = .ok (.if_icmp .ge 8, 3) := by decide +kernel
theorem dX11_strictest_35 : decode cX11_strictest 35 = .ok (.iload_n 3, 1) := by decide +kernel
theorem dX11_strictest_36 : decode cX11_strictest 36 = .ok (.istore_n 1, 1) := by decide +kernel
theorem dX11_strictest_37 : decode cX11_strictest 37 = .ok (.iload 4, 2) := by decide +kernel
theorem dX11_strictest_39 : decode cX11_strictest 39 = .ok (.istore_n 2, 1) := by decide +kernel
theorem dX11_strictest_40 : decode cX11_strictest 40 = .ok (.iinc 3 1, 3) := by decide +kernel
theorem dX11_strictest_43 : decode cX11_strictest 43 = .ok (.goto (-37), 3) := by decide +kernel
theorem dX11_strictest_46 : decode cX11_strictest 46 = .ok (.iload_n 1, 1) := by decide +kernel
theorem dX11_strictest_47 : decode cX11_strictest 47 = .ok (.ireturn, 1) := by decide +kernel
theorem dX11_passing_0 : decode cX11_passing 0 = .ok (.aload_n 0, 1) := by decide +kernel
theorem dX11_passing_1 : decode cX11_passing 1 = .ok (.getfield 57, 3) := by decide +kernel
theorem dX11_passing_4 : decode cX11_passing 4 = .ok (.invokevirtual 138, 3) := by decide +kernel
theorem dX11_passing_7 : decode cX11_passing 7 = .ok (.istore_n 2, 1) := by decide +kernel
theorem dX11_passing_8 : decode cX11_passing 8 = .ok (.aload_n 0, 1) := by decide +kernel
theorem dX11_passing_9 : decode cX11_passing 9 = .ok (.getfield 28, 3) := by decide +kernel
theorem dX11_passing_12 : decode cX11_passing 12 = .ok (.invokevirtual 272, 3) := by decide +kernel
theorem dX11_passing_15 : decode cX11_passing 15 = .ok (.iconst 0, 1) := by decide +kernel
theorem dX11_passing_16 : decode cX11_passing 16 = .ok (.istore_n 3, 1) := by decide +kernel
theorem dX11_passing_17 : decode cX11_passing 17 = .ok (.iload_n 3, 1) := by decide +kernel
theorem dX11_passing_18 : decode cX11_passing 18 = .ok (.aload_n 0, 1) := by decide +kernel
theorem dX11_passing_19 : decode cX11_passing 19 = .ok (.getfield 12, 3) := by decide +kernel
theorem dX11_passing_22 : decode cX11_passing 22 = .ok (.invokevirtual 122, 3) := by decide +kernel
theorem dX11_passing_25 : decode cX11_passing 25 = .ok (.if_icmp .ge 104, 3) := by decide +kernel
theorem dX11_passing_28 : decode cX11_passing 28 = .ok (.iload_n 2, 1) := by decide +kernel
theorem dX11_passing_29 : decode cX11_passing 29 = .ok (.iload_n 3, 1) := by decide +kernel
theorem dX11_passing_30 : decode cX11_passing 30 = .ok (.invokestatic 262, 3) := by decide +kernel
theorem dX11_passing_33 : decode cX11_passing 33 = .ok (.istore 4, 2) := by decide +kernel
theorem dX11_passing_35 : decode cX11_passing 35 = .ok (.iconst 0, 1) := by decide +kernel
theorem dX11_passing_36 : decode cX11_passing 36 = .ok (.istore 5, 2) := by decide +kernel
theorem dX11_passing_38 : decode cX11_passing 38 = .ok (.iload 5, 2) := by decide +kernel
theorem dX11_passing_40 : decode cX11_passing 40 = .ok (.bipush 10, 2) := by decide +kernel
theorem dX11_passing_42 : decode cX11_passing 42 = .ok (.if_icmp .ge 74, 3) := by decide +kernel
theorem dX11_passing_45 : decode cX11_passing 45 = .ok (.aload_n 0, 1) := by decide +kernel
theorem dX11_passing_46 : decode cX11_passing 46 = .ok (.getfield 12, 3) := by decide +kernel
theorem dX11_passing_49 : decode cX11_passing 49 = .ok (.iload_n 3, 1) := by decide +kernel
theorem dX11_passing_50 : decode cX11_passing 50 = .ok (.invokevirtual 115, 3) := by decide +kernel
theorem dX11_passing_53 : decode cX11_passing 53 = .ok (.iload 4, 2) := by decide +kernel
theorem dX11_passing_55 : decode cX11_passing 55 = .ok (.iload 5, 2) := by decide +kernel
theorem dX11_passing_57 : decode cX11_passing 57 = .ok (.invokevirtual 275, 3) := by decide +kernel
theorem dX11_passing_60 : decode cX11_passing 60 = .ok (.istore 6, 2) := by decide +kernel
theorem dX11_passing_62 : decode cX11_passing 62 = .ok (.aload_n 0, 1) := by decide +kernel
theorem dX11_passing_63 : decode cX11_passing 63 = .ok (.getfield 21, 3) := by decide +kernel
theorem dX11_passing_66 : decode cX11_passing 66 = .ok (.iload_n 1, 1) := by decide +kernel
theorem dX11_passing_67 : decode cX11_passing 67 = .ok (.iload_n 3, 1) := by decide +kernel
theorem dX11_passing_68 : decode cX11_passing 68 = .ok (.iload 6, 2) := by decide +kernel
theorem dX11_passing_70 : decode cX11_passing 70 = .ok (.invokevirtual 276, 3) := by decide +kernel
theorem dX11_passing_73 : decode cX11_passing 73 = .ok (.ifCond .eq 37, 3) := by decide +kernel
theorem dX11_passing_76 : decode cX11_passing 76 = .ok (.iload 5, 2) := by decide +kernel
theorem dX11_passing_78 : decode cX11_passing 78 = .ok (.aload_n 0, 1) := by decide +kernel
theorem dX11_passing_79 : decode cX11_passing 79 = .ok (.getfield 66, 3) := by decide +kernel
theorem dX11_passing_82 : decode cX11_passing 82 = .ok (.iload_n 3, 1) := by decide +kernel
theorem dX11_passing_83 : decode cX11_passing 83 = .ok (.invokestatic 262, 3) := by decide +kernel
theorem dX11_passing_86 : decode cX11_passing 86 = .ok (.if_icmp .eq 15, 3) := by decide +kernel
theorem dX11_passing_89 : decode cX11_passing 89 = .ok (.aload_n 0, 1) := by decide +kernel
theorem dX11_passing_90 : decode cX11_passing 90 = .ok (.getfield 21, 3) := by decide +kernel
theorem dX11_passing_93 : decode cX11_passing 93 = .ok (.iload_n 1, 1) := by decide +kernel
theorem dX11_passing_94 : decode cX11_passing 94 = .ok (.iload_n 3, 1) := by decide +kernel
theorem dX11_passing_95 : decode cX11_passing 95 = .ok (.invokevirtual 279, 3) := by decide +kernel
theorem dX11_passing_98 : decode cX11_passing 98 = .ok (.ifCond .ne 12, 3) := by decide +kernel
theorem dX11_passing_101 : decode cX11_passing 101 = .ok (.aload_n 0, 1) := by decide +kernel
theorem dX11_passing_102 : decode cX11_passing 102 = .ok (.getfield 28, 3) := by decide +kernel
theorem dX11_passing_105 : decode cX11_passing 105 = .ok (.iload 6, 2) := by decide +kernel
theorem dX11_passing_107 : decode cX11_passing 107 = .ok (.invokevirtual 282, 3) := by decide +kernel
theorem dX11_passing_110 : decode cX11_passing 110 = .ok (.iinc 5 1, 3) := by decide +kernel
theorem dX11_passing_113 : decode cX11_passing 113 = .ok (.goto (-75), 3) := by decide +kernel
theorem dX11_passing_116 : decode cX11_passing 116 = .ok (.aload_n 0, 1) := by decide +kernel
theorem dX11_passing_117 : decode cX11_passing 117 = .ok (.getfield 28, 3) := by decide +kernel
theorem dX11_passing_120 : decode cX11_passing 120 = .ok (.invokevirtual 285, 3) := by decide +kernel
theorem dX11_passing_123 : decode cX11_passing 123 = .ok (.iinc 3 1, 3) := by decide +kernel
theorem dX11_passing_126 : decode cX11_passing 126 = .ok (.goto (-109), 3) := by decide +kernel
theorem dX11_passing_129 : decode cX11_passing 129 = .ok (.aload_n 0, 1) := by decide +kernel
theorem dX11_passing_130 : decode cX11_passing 130 = .ok (.getfield 28, 3) := by decide +kernel
theorem dX11_passing_133 : decode cX11_passing 133 = .ok (.aload_n 0, 1) := by decide +kernel
theorem dX11_passing_134 : decode cX11_passing 134 = .ok (.getfield 21, 3) := by decide +kernel
theorem dX11_passing_137 : decode cX11_passing 137 = .ok (.iload_n 1, 1) := by decide +kernel
theorem dX11_passing_138 : decode cX11_passing 138 = .ok (.invokevirtual 288, 3) := by decide +kernel
theorem dX11_passing_141 : decode cX11_passing 141 = .ok (.invokevirtual 291, 3) := by decide +kernel
theorem dX11_passing_144 : decode cX11_passing 144 = .ok (.ireturn, 1) := by decide +kernel
theorem dX11_within_0 : decode cX11_within 0 = .ok (.aload_n 0, 1) := by decide +kernel
theorem dX11_within_1 : decode cX11_within 1 = .ok (.getfield 57, 3) := by decide +kernel
theorem dX11_within_4 : decode cX11_within 4 = .ok (.invokevirtual 138, 3) := by decide +kernel
theorem dX11_within_7 : decode cX11_within 7 = .ok (.istore_n 2, 1) := by decide +kernel
theorem dX11_within_8 : decode cX11_within 8 = .ok (.aload_n 0, 1) := by decide +kernel
theorem dX11_within_9 : decode cX11_within 9 = .ok (.getfield 28, 3) := by decide +kernel
theorem dX11_within_12 : decode cX11_within 12 = .ok (.invokevirtual 272, 3) := by decide +kernel
theorem dX11_within_15 : decode cX11_within 15 = .ok (.iconst 0, 1) := by decide +kernel
theorem dX11_within_16 : decode cX11_within 16 = .ok (.istore_n 3, 1) := by decide +kernel
theorem dX11_within_17 : decode cX11_within 17 = .ok (.iload_n 3, 1) := by decide +kernel
theorem dX11_within_18 : decode cX11_within 18 = .ok (.aload_n 0, 1) := by decide +kernel
theorem dX11_within_19 : decode cX11_within 19 = .ok (.getfield 12, 3) := by decide +kernel
theorem dX11_within_22 : decode cX11_within 22 = .ok (.invokevirtual 122, 3) := by decide +kernel
theorem dX11_within_25 : decode cX11_within 25 = .ok (.if_icmp .ge 61, 3) := by decide +kernel
theorem dX11_within_28 : decode cX11_within 28 = .ok (.iload_n 2, 1) := by decide +kernel
theorem dX11_within_29 : decode cX11_within 29 = .ok (.iload_n 3, 1) := by decide +kernel
theorem dX11_within_30 : decode cX11_within 30 = .ok (.invokestatic 262, 3) := by decide +kernel
theorem dX11_within_33 : decode cX11_within 33 = .ok (.istore 4, 2) := by decide +kernel
theorem dX11_within_35 : decode cX11_within 35 = .ok (.iconst 0, 1) := by decide +kernel
theorem dX11_within_36 : decode cX11_within 36 = .ok (.istore 5, 2) := by decide +kernel
theorem dX11_within_38 : decode cX11_within 38 = .ok (.iload 5, 2) := by decide +kernel
theorem dX11_within_40 : decode cX11_within 40 = .ok (.bipush 10, 2) := by decide +kernel
theorem dX11_within_42 : decode cX11_within 42 = .ok (.if_icmp .ge 31, 3) := by decide +kernel
theorem dX11_within_45 : decode cX11_within 45 = .ok (.aload_n 0, 1) := by decide +kernel
theorem dX11_within_46 : decode cX11_within 46 = .ok (.getfield 28, 3) := by decide +kernel
theorem dX11_within_49 : decode cX11_within 49 = .ok (.aload_n 0, 1) := by decide +kernel
theorem dX11_within_50 : decode cX11_within 50 = .ok (.getfield 12, 3) := by decide +kernel
theorem dX11_within_53 : decode cX11_within 53 = .ok (.iload_n 3, 1) := by decide +kernel
theorem dX11_within_54 : decode cX11_within 54 = .ok (.invokevirtual 115, 3) := by decide +kernel
theorem dX11_within_57 : decode cX11_within 57 = .ok (.iload 5, 2) := by decide +kernel
theorem dX11_within_59 : decode cX11_within 59 = .ok (.iload 4, 2) := by decide +kernel
theorem dX11_within_61 : decode cX11_within 61 = .ok (.invokevirtual 294, 3) := by decide +kernel
theorem dX11_within_64 : decode cX11_within 64 = .ok (.invokevirtual 282, 3) := by decide +kernel
theorem dX11_within_67 : decode cX11_within 67 = .ok (.iinc 5 1, 3) := by decide +kernel
theorem dX11_within_70 : decode cX11_within 70 = .ok (.goto (-32), 3) := by decide +kernel
theorem dX11_within_73 : decode cX11_within 73 = .ok (.aload_n 0, 1) := by decide +kernel
theorem dX11_within_74 : decode cX11_within 74 = .ok (.getfield 28, 3) := by decide +kernel
theorem dX11_within_77 : decode cX11_within 77 = .ok (.invokevirtual 285, 3) := by decide +kernel
theorem dX11_within_80 : decode cX11_within 80 = .ok (.iinc 3 1, 3) := by decide +kernel
theorem dX11_within_83 : decode cX11_within 83 = .ok (.goto (-66), 3) := by decide +kernel
theorem dX11_within_86 : decode cX11_within 86 = .ok (.aload_n 0, 1) := by decide +kernel
theorem dX11_within_87 : decode cX11_within 87 = .ok (.getfield 28, 3) := by decide +kernel
theorem dX11_within_90 : decode cX11_within 90 = .ok (.iload_n 1, 1) := by decide +kernel
theorem dX11_within_91 : decode cX11_within 91 = .ok (.invokevirtual 291, 3) := by decide +kernel
theorem dX11_within_94 : decode cX11_within 94 = .ok (.ireturn, 1) := by decide +kernel
theorem dX11_takenForKing_0 : decode cX11_takenForKing 0 = .ok (.aload_n 0, 1) := by decide +kernel
theorem dX11_takenForKing_1 : decode cX11_takenForKing 1 = .ok (.getfield 57, 3) := by decide +kernel
theorem dX11_takenForKing_4 : decode cX11_takenForKing 4 = .ok (.invokevirtual 138, 3) := by decide +kernel
theorem dX11_takenForKing_7 : decode cX11_takenForKing 7 = .ok (.istore_n 1, 1) := by decide +kernel
theorem dX11_takenForKing_8 : decode cX11_takenForKing 8 = .ok (.iconst (-1), 1) := by decide +kernel
theorem dX11_takenForKing_9 : decode cX11_takenForKing 9 = .ok (.istore_n 2, 1) := by decide +kernel
theorem dX11_takenForKing_10 : decode cX11_takenForKing 10 = .ok (.iconst 0, 1) := by decide +kernel
theorem dX11_takenForKing_11 : decode cX11_takenForKing 11 = .ok (.istore_n 3, 1) := by decide +kernel
theorem dX11_takenForKing_12 : decode cX11_takenForKing 12 = .ok (.iconst 0, 1) := by decide +kernel
theorem dX11_takenForKing_13 : decode cX11_takenForKing 13 = .ok (.istore 4, 2) := by decide +kernel
theorem dX11_takenForKing_15 : decode cX11_takenForKing 15 = .ok (.iconst 0, 1) := by decide +kernel
theorem dX11_takenForKing_16 : decode cX11_takenForKing 16 = .ok (.istore 5, 2) := by decide +kernel
theorem dX11_takenForKing_18 : decode cX11_takenForKing 18 = .ok (.iload 5, 2) := by decide +kernel
theorem dX11_takenForKing_20 : decode cX11_takenForKing 20 = .ok (.aload_n 0, 1) := by decide +kernel
theorem dX11_takenForKing_21 : decode cX11_takenForKing 21 = .ok (.getfield 60, 3) := by decide +kernel
theorem dX11_takenForKing_24 : decode cX11_takenForKing 24 = .ok (.invokevirtual 154, 3) := by decide +kernel
theorem dX11_takenForKing_27 : decode cX11_takenForKing 27 = .ok (.if_icmp .ge 115, 3) := by decide +kernel
theorem dX11_takenForKing_30 : decode cX11_takenForKing 30 = .ok (.aload_n 0, 1) := by decide +kernel
theorem dX11_takenForKing_31 : decode cX11_takenForKing 31 = .ok (.getfield 21, 3) := by decide +kernel
theorem dX11_takenForKing_34 : decode cX11_takenForKing 34 = .ok (.iload_n 1, 1) := by decide +kernel
theorem dX11_takenForKing_35 : decode cX11_takenForKing 35 = .ok (.aload_n 0, 1) := by decide +kernel
theorem dX11_takenForKing_36 : decode cX11_takenForKing 36 = .ok (.getfield 60, 3) := by decide +kernel
theorem dX11_takenForKing_39 : decode cX11_takenForKing 39 = .ok (.iload 5, 2) := by decide +kernel
theorem dX11_takenForKing_41 : decode cX11_takenForKing 41 = .ok (.invokevirtual 147, 3) := by decide +kernel
theorem dX11_takenForKing_44 : decode cX11_takenForKing 44 = .ok (.aload_n 0, 1) := by decide +kernel
theorem dX11_takenForKing_45 : decode cX11_takenForKing 45 = .ok (.getfield 66, 3) := by decide +kernel
theorem dX11_takenForKing_48 : decode cX11_takenForKing 48 = .ok (.invokevirtual 178, 3) := by decide +kernel
theorem dX11_takenForKing_51 : decode cX11_takenForKing 51 = .ok (.invokestatic 181, 3) := by decide +kernel
theorem dX11_takenForKing_54 : decode cX11_takenForKing 54 = .ok (.istore 6, 2) := by decide +kernel
theorem dX11_takenForKing_56 : decode cX11_takenForKing 56 = .ok (.aload_n 0, 1) := by decide +kernel
theorem dX11_takenForKing_57 : decode cX11_takenForKing 57 = .ok (.getfield 12, 3) := by decide +kernel
theorem dX11_takenForKing_60 : decode cX11_takenForKing 60 = .ok (.iload_n 1, 1) := by decide +kernel
theorem dX11_takenForKing_61 : decode cX11_takenForKing 61 = .ok (.aload_n 0, 1) := by decide +kernel
theorem dX11_takenForKing_62 : decode cX11_takenForKing 62 = .ok (.getfield 60, 3) := by decide +kernel
theorem dX11_takenForKing_65 : decode cX11_takenForKing 65 = .ok (.iload 5, 2) := by decide +kernel
theorem dX11_takenForKing_67 : decode cX11_takenForKing 67 = .ok (.invokevirtual 147, 3) := by decide +kernel
theorem dX11_takenForKing_70 : decode cX11_takenForKing 70 = .ok (.invokevirtual 131, 3) := by decide +kernel
theorem dX11_takenForKing_73 : decode cX11_takenForKing 73 = .ok (.istore 7, 2) := by decide +kernel
theorem dX11_takenForKing_75 : decode cX11_takenForKing 75 = .ok (.iload 6, 2) := by decide +kernel
theorem dX11_takenForKing_77 : decode cX11_takenForKing 77 = .ok (.ifCond .gt 13, 3) := by decide +kernel
theorem dX11_takenForKing_80 : decode cX11_takenForKing 80 = .ok (.aload_n 0, 1) := by decide +kernel
theorem dX11_takenForKing_81 : decode cX11_takenForKing 81 = .ok (.getfield 21, 3) := by decide +kernel
theorem dX11_takenForKing_84 : decode cX11_takenForKing 84 = .ok (.invokevirtual 239, 3) := by decide +kernel
theorem dX11_takenForKing_87 : decode cX11_takenForKing 87 = .ok (.ifCond .ne 7, 3) := by decide +kernel
theorem dX11_takenForKing_90 : decode cX11_takenForKing 90 = .ok (.iconst 1, 1) := by decide +kernel
theorem dX11_takenForKing_91 : decode cX11_takenForKing 91 = .ok (.goto 4, 3) := by decide +kernel
theorem dX11_takenForKing_94 : decode cX11_takenForKing 94 = .ok (.iconst 0, 1) := by decide +kernel
theorem dX11_takenForKing_95 : decode cX11_takenForKing 95 = .ok (.istore 8, 2) := by decide +kernel
theorem dX11_takenForKing_97 : decode cX11_takenForKing 97 = .ok (.iload 8, 2) := by decide +kernel
theorem dX11_takenForKing_99 : decode cX11_takenForKing 99 = .ok (.ifCond .eq 37, 3) := by decide +kernel
theorem dX11_takenForKing_102 : decode cX11_takenForKing 102 = .ok (.iload_n 2, 1) := by decide +kernel
theorem dX11_takenForKing_103 : decode cX11_takenForKing 103 = .ok (.iconst (-1), 1) := by decide +kernel
theorem dX11_takenForKing_104 : decode cX11_takenForKing 104 = .ok (.if_icmp .eq 22, 3) := by decide +kernel
theorem dX11_takenForKing_107 : decode cX11_takenForKing 107 = .ok (.iload 6, 2) := by decide +kernel
theorem dX11_takenForKing_109 : decode cX11_takenForKing 109 = .ok (.iload_n 3, 1) := by decide +kernel
theorem dX11_takenForKing_110 : decode cX11_takenForKing 110 = .ok (.if_icmp .gt 16, 3) := by decide +kernel
theorem dX11_takenForKing_113 : decode cX11_takenForKing 113 = .ok (.iload 6, 2) := by decide +kernel
theorem dX11_takenForKing_115 : decode cX11_takenForKing 115 = .ok (.iload_n 3, 1) := by decide +kernel
theorem dX11_takenForKing_116 : decode cX11_takenForKing 116 = .ok (.if_icmp .ne 20, 3) := by decide +kernel
theorem dX11_takenForKing_119 : decode cX11_takenForKing 119 = .ok (.iload 7, 2) := by decide +kernel
theorem dX11_takenForKing_121 : decode cX11_takenForKing 121 = .ok (.iload 4, 2) := by decide +kernel
theorem dX11_takenForKing_123 : decode cX11_takenForKing 123 = .ok (.if_icmp .ge 13, 3) := by decide +kernel
theorem dX11_takenForKing_126 : decode cX11_takenForKing 126 = .ok (.iload 5, 2) := by decide +kernel
theorem dX11_takenForKing_128 : decode cX11_takenForKing 128 = .ok (.istore_n 2, 1) := by decide +kernel
theorem dX11_takenForKing_129 : decode cX11_takenForKing 129 = .ok (.iload 6, 2) := by decide +kernel
theorem dX11_takenForKing_131 : decode cX11_takenForKing 131 = .ok (.istore_n 3, 1) := by decide +kernel
theorem dX11_takenForKing_132 : decode cX11_takenForKing 132 = .ok (.iload 7, 2) := by decide +kernel
theorem dX11_takenForKing_134 : decode cX11_takenForKing 134 = .ok (.istore 4, 2) := by decide +kernel
theorem dX11_takenForKing_136 : decode cX11_takenForKing 136 = .ok (.iinc 5 1, 3) := by decide +kernel
theorem dX11_takenForKing_139 : decode cX11_takenForKing 139 = .ok (.goto (-121), 3) := by decide +kernel
theorem dX11_takenForKing_142 : decode cX11_takenForKing 142 = .ok (.iload_n 2, 1) := by decide +kernel
theorem dX11_takenForKing_143 : decode cX11_takenForKing 143 = .ok (.ireturn, 1) := by decide +kernel
theorem dX11_copied_0 : decode cX11_copied 0 = .ok (.aload_n 0, 1) := by decide +kernel
theorem dX11_copied_1 : decode cX11_copied 1 = .ok (.getfield 57, 3) := by decide +kernel
theorem dX11_copied_4 : decode cX11_copied 4 = .ok (.invokevirtual 138, 3) := by decide +kernel
theorem dX11_copied_7 : decode cX11_copied 7 = .ok (.istore 4, 2) := by decide +kernel
theorem dX11_copied_9 : decode cX11_copied 9 = .ok (.aload_n 0, 1) := by decide +kernel
theorem dX11_copied_10 : decode cX11_copied 10 = .ok (.getfield 66, 3) := by decide +kernel
theorem dX11_copied_13 : decode cX11_copied 13 = .ok (.istore 5, 2) := by decide +kernel
theorem dX11_copied_15 : decode cX11_copied 15 = .ok (.iconst 0, 1) := by decide +kernel
theorem dX11_copied_16 : decode cX11_copied 16 = .ok (.istore 6, 2) := by decide +kernel
theorem dX11_copied_18 : decode cX11_copied 18 = .ok (.iload_n 2, 1) := by decide +kernel
theorem dX11_copied_19 : decode cX11_copied 19 = .ok (.istore 7, 2) := by decide +kernel
theorem dX11_copied_21 : decode cX11_copied 21 = .ok (.iconst 0, 1) := by decide +kernel
theorem dX11_copied_22 : decode cX11_copied 22 = .ok (.istore 8, 2) := by decide +kernel
theorem dX11_copied_24 : decode cX11_copied 24 = .ok (.iload 8, 2) := by decide +kernel
theorem dX11_copied_26 : decode cX11_copied 26 = .ok (.iload_n 1, 1) := by decide +kernel
theorem dX11_copied_27 : decode cX11_copied 27 = .ok (.if_icmp .ge 105, 3) := by decide +kernel
theorem dX11_copied_30 : decode cX11_copied 30 = .ok (.aload_n 0, 1) := by decide +kernel
theorem dX11_copied_31 : decode cX11_copied 31 = .ok (.getfield 12, 3) := by decide +kernel
theorem dX11_copied_34 : decode cX11_copied 34 = .ok (.iload 5, 2) := by decide +kernel
theorem dX11_copied_36 : decode cX11_copied 36 = .ok (.invokevirtual 134, 3) := by decide +kernel
theorem dX11_copied_39 : decode cX11_copied 39 = .ok (.istore 5, 2) := by decide +kernel
theorem dX11_copied_41 : decode cX11_copied 41 = .ok (.iload 7, 2) := by decide +kernel
theorem dX11_copied_43 : decode cX11_copied 43 = .ok (.invokestatic 295, 3) := by decide +kernel
theorem dX11_copied_46 : decode cX11_copied 46 = .ok (.istore 7, 2) := by decide +kernel
theorem dX11_copied_48 : decode cX11_copied 48 = .ok (.iload 7, 2) := by decide +kernel
theorem dX11_copied_50 : decode cX11_copied 50 = .ok (.aload_n 0, 1) := by decide +kernel
theorem dX11_copied_51 : decode cX11_copied 51 = .ok (.getfield 12, 3) := by decide +kernel
theorem dX11_copied_54 : decode cX11_copied 54 = .ok (.invokevirtual 122, 3) := by decide +kernel
theorem dX11_copied_57 : decode cX11_copied 57 = .ok (.invokestatic 298, 3) := by decide +kernel
theorem dX11_copied_60 : decode cX11_copied 60 = .ok (.istore 9, 2) := by decide +kernel
theorem dX11_copied_62 : decode cX11_copied 62 = .ok (.iload 7, 2) := by decide +kernel
theorem dX11_copied_64 : decode cX11_copied 64 = .ok (.invokestatic 295, 3) := by decide +kernel
theorem dX11_copied_67 : decode cX11_copied 67 = .ok (.istore 7, 2) := by decide +kernel
theorem dX11_copied_69 : decode cX11_copied 69 = .ok (.aload_n 0, 1) := by decide +kernel
theorem dX11_copied_70 : decode cX11_copied 70 = .ok (.getfield 12, 3) := by decide +kernel
theorem dX11_copied_73 : decode cX11_copied 73 = .ok (.iload 4, 2) := by decide +kernel
theorem dX11_copied_75 : decode cX11_copied 75 = .ok (.iload 9, 2) := by decide +kernel
theorem dX11_copied_77 : decode cX11_copied 77 = .ok (.iload 7, 2) := by decide +kernel
theorem dX11_copied_79 : decode cX11_copied 79 = .ok (.iconst 2, 1) := by decide +kernel
theorem dX11_copied_80 : decode cX11_copied 80 = .ok (.invokestatic 298, 3) := by decide +kernel
theorem dX11_copied_83 : decode cX11_copied 83 = .ok (.iconst 1, 1) := by decide +kernel
theorem dX11_copied_84 : decode cX11_copied 84 = .ok (.if_icmp .ne 7, 3) := by decide +kernel
theorem dX11_copied_87 : decode cX11_copied 87 = .ok (.iconst 1, 1) := by decide +kernel
theorem dX11_copied_88 : decode cX11_copied 88 = .ok (.goto 4, 3) := by decide +kernel
theorem dX11_copied_91 : decode cX11_copied 91 = .ok (.iconst (-1), 1) := by decide +kernel
theorem dX11_copied_92 : decode cX11_copied 92 = .ok (.invokevirtual 301, 3) := by decide +kernel
theorem dX11_copied_95 : decode cX11_copied 95 = .ok (.istore 10, 2) := by decide +kernel
theorem dX11_copied_97 : decode cX11_copied 97 = .ok (.iload 10, 2) := by decide +kernel
theorem dX11_copied_99 : decode cX11_copied 99 = .ok (.iconst (-1), 1) := by decide +kernel
theorem dX11_copied_100 : decode cX11_copied 100 = .ok (.if_icmp .eq 26, 3) := by decide +kernel
theorem dX11_copied_103 : decode cX11_copied 103 = .ok (.aload_n 0, 1) := by decide +kernel
theorem dX11_copied_104 : decode cX11_copied 104 = .ok (.getfield 21, 3) := by decide +kernel
theorem dX11_copied_107 : decode cX11_copied 107 = .ok (.iload 4, 2) := by decide +kernel
theorem dX11_copied_109 : decode cX11_copied 109 = .ok (.iload 10, 2) := by decide +kernel
theorem dX11_copied_111 : decode cX11_copied 111 = .ok (.iload 5, 2) := by decide +kernel
theorem dX11_copied_113 : decode cX11_copied 113 = .ok (.invokevirtual 141, 3) := by decide +kernel
theorem dX11_copied_116 : decode cX11_copied 116 = .ok (.ifCond .eq 10, 3) := by decide +kernel
theorem dX11_copied_119 : decode cX11_copied 119 = .ok (.iload 10, 2) := by decide +kernel
theorem dX11_copied_121 : decode cX11_copied 121 = .ok (.istore 4, 2) := by decide +kernel
theorem dX11_copied_123 : decode cX11_copied 123 = .ok (.iinc 6 1, 3) := by decide +kernel
theorem dX11_copied_126 : decode cX11_copied 126 = .ok (.iinc 8 1, 3) := by decide +kernel
theorem dX11_copied_129 : decode cX11_copied 129 = .ok (.goto (-105), 3) := by decide +kernel
theorem dX11_copied_132 : decode cX11_copied 132 = .ok (.iload_n 3, 1) := by decide +kernel
theorem dX11_copied_133 : decode cX11_copied 133 = .ok (.tableswitch 45 0 2 #[27, 30, 42], 27) := by decide +kernel
theorem dX11_copied_160 : decode cX11_copied 160 = .ok (.iload 4, 2) := by decide +kernel
theorem dX11_copied_162 : decode cX11_copied 162 = .ok (.ireturn, 1) := by decide +kernel
theorem dX11_copied_163 : decode cX11_copied 163 = .ok (.aload_n 0, 1) := by decide +kernel
theorem dX11_copied_164 : decode cX11_copied 164 = .ok (.getfield 12, 3) := by decide +kernel
theorem dX11_copied_167 : decode cX11_copied 167 = .ok (.iload 4, 2) := by decide +kernel
theorem dX11_copied_169 : decode cX11_copied 169 = .ok (.iload 5, 2) := by decide +kernel
theorem dX11_copied_171 : decode cX11_copied 171 = .ok (.invokevirtual 131, 3) := by decide +kernel
theorem dX11_copied_174 : decode cX11_copied 174 = .ok (.ireturn, 1) := by decide +kernel
theorem dX11_copied_175 : decode cX11_copied 175 = .ok (.iload 6, 2) := by decide +kernel
theorem dX11_copied_177 : decode cX11_copied 177 = .ok (.ireturn, 1) := by decide +kernel
theorem dX11_copied_178 : decode cX11_copied 178 = .ok (.iload 7, 2) := by decide +kernel
theorem dX11_copied_180 : decode cX11_copied 180 = .ok (.ireturn, 1) := by decide +kernel
theorem dX11_nextSeed_0 : decode cX11_nextSeed 0 = .ok (.ldc2_w 304, 3) := by decide +kernel
theorem dX11_nextSeed_3 : decode cX11_nextSeed 3 = .ok (.iload_n 0, 1) := by decide +kernel
theorem dX11_nextSeed_4 : decode cX11_nextSeed 4 = .ok (.i2l, 1) := by decide +kernel
theorem dX11_nextSeed_5 : decode cX11_nextSeed 5 = .ok (.lmul, 1) := by decide +kernel
theorem dX11_nextSeed_6 : decode cX11_nextSeed 6 = .ok (.ldc2_w 306, 3) := by decide +kernel
theorem dX11_nextSeed_9 : decode cX11_nextSeed 9 = .ok (.ladd, 1) := by decide +kernel
theorem dX11_nextSeed_10 : decode cX11_nextSeed 10 = .ok (.ldc2_w 308, 3) := by decide +kernel
theorem dX11_nextSeed_13 : decode cX11_nextSeed 13 = .ok (.land, 1) := by decide +kernel
theorem dX11_nextSeed_14 : decode cX11_nextSeed 14 = .ok (.l2i, 1) := by decide +kernel
theorem dX11_nextSeed_15 : decode cX11_nextSeed 15 = .ok (.ireturn, 1) := by decide +kernel
theorem dX11_drawn_0 : decode cX11_drawn 0 = .ok (.iload_n 1, 1) := by decide +kernel
theorem dX11_drawn_1 : decode cX11_drawn 1 = .ok (.ifCond .le 13, 3) := by decide +kernel
theorem dX11_drawn_4 : decode cX11_drawn 4 = .ok (.iload_n 0, 1) := by decide +kernel
