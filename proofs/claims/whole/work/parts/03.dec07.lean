theorem dX12_age_50 : decode cX12_age 50 = .ok (.iaload, 1) := by decide +kernel
theorem dX12_age_51 : decode cX12_age 51 = .ok (.iconst 3, 1) := by decide +kernel
theorem dX12_age_52 : decode cX12_age 52 = .ok (.if_icmp .ne 17, 3) := by decide +kernel
theorem dX12_age_55 : decode cX12_age 55 = .ok (.aload_n 0, 1) := by decide +kernel
theorem dX12_age_56 : decode cX12_age 56 = .ok (.getfield 13, 3) := by decide +kernel
theorem dX12_age_59 : decode cX12_age 59 = .ok (.iload_n 1, 1) := by decide +kernel
theorem dX12_age_60 : decode cX12_age 60 = .ok (.iaload, 1) := by decide +kernel
theorem dX12_age_61 : decode cX12_age 61 = .ok (.iconst 1, 1) := by decide +kernel
theorem dX12_age_62 : decode cX12_age 62 = .ok (.iadd, 1) := by decide +kernel
theorem dX12_age_63 : decode cX12_age 63 = .ok (.bipush 10, 2) := by decide +kernel
theorem dX12_age_65 : decode cX12_age 65 = .ok (.irem, 1) := by decide +kernel
theorem dX12_age_66 : decode cX12_age 66 = .ok (.goto 9, 3) := by decide +kernel
theorem dX12_age_69 : decode cX12_age 69 = .ok (.aload_n 0, 1) := by decide +kernel
theorem dX12_age_70 : decode cX12_age 70 = .ok (.getfield 13, 3) := by decide +kernel
theorem dX12_age_73 : decode cX12_age 73 = .ok (.iload_n 1, 1) := by decide +kernel
theorem dX12_age_74 : decode cX12_age 74 = .ok (.iaload, 1) := by decide +kernel
theorem dX12_age_75 : decode cX12_age 75 = .ok (.iastore, 1) := by decide +kernel
theorem dX12_age_76 : decode cX12_age 76 = .ok (.iinc 1 1, 3) := by decide +kernel
theorem dX12_age_79 : decode cX12_age 79 = .ok (.goto (-77), 3) := by decide +kernel
theorem dX12_age_82 : decode cX12_age 82 = .ok (.return_, 1) := by decide +kernel
theorem dX12_keepKing_0 : decode cX12_keepKing 0 = .ok (.iconst 0, 1) := by decide +kernel
theorem dX12_keepKing_1 : decode cX12_keepKing 1 = .ok (.istore_n 1, 1) := by decide +kernel
theorem dX12_keepKing_2 : decode cX12_keepKing 2 = .ok (.iload_n 1, 1) := by decide +kernel
theorem dX12_keepKing_3 : decode cX12_keepKing 3 = .ok (.iconst 4, 1) := by decide +kernel
theorem dX12_keepKing_4 : decode cX12_keepKing 4 = .ok (.if_icmp .ge 21, 3) := by decide +kernel
theorem dX12_keepKing_7 : decode cX12_keepKing 7 = .ok (.aload_n 0, 1) := by decide +kernel
theorem dX12_keepKing_8 : decode cX12_keepKing 8 = .ok (.getfield 19, 3) := by decide +kernel
theorem dX12_keepKing_11 : decode cX12_keepKing 11 = .ok (.iload_n 1, 1) := by decide +kernel
theorem dX12_keepKing_12 : decode cX12_keepKing 12 = .ok (.aload_n 0, 1) := by decide +kernel
theorem dX12_keepKing_13 : decode cX12_keepKing 13 = .ok (.getfield 13, 3) := by decide +kernel
theorem dX12_keepKing_16 : decode cX12_keepKing 16 = .ok (.iload_n 1, 1) := by decide +kernel
theorem dX12_keepKing_17 : decode cX12_keepKing 17 = .ok (.iaload, 1) := by decide +kernel
theorem dX12_keepKing_18 : decode cX12_keepKing 18 = .ok (.iastore, 1) := by decide +kernel
theorem dX12_keepKing_19 : decode cX12_keepKing 19 = .ok (.iinc 1 1, 3) := by decide +kernel
theorem dX12_keepKing_22 : decode cX12_keepKing 22 = .ok (.goto (-20), 3) := by decide +kernel
theorem dX12_keepKing_25 : decode cX12_keepKing 25 = .ok (.return_, 1) := by decide +kernel
theorem dX12_putBack_0 : decode cX12_putBack 0 = .ok (.iconst 0, 1) := by decide +kernel
theorem dX12_putBack_1 : decode cX12_putBack 1 = .ok (.istore_n 1, 1) := by decide +kernel
theorem dX12_putBack_2 : decode cX12_putBack 2 = .ok (.iload_n 1, 1) := by decide +kernel
theorem dX12_putBack_3 : decode cX12_putBack 3 = .ok (.iconst 4, 1) := by decide +kernel
theorem dX12_putBack_4 : decode cX12_putBack 4 = .ok (.if_icmp .ge 21, 3) := by decide +kernel
theorem dX12_putBack_7 : decode cX12_putBack 7 = .ok (.aload_n 0, 1) := by decide +kernel
theorem dX12_putBack_8 : decode cX12_putBack 8 = .ok (.getfield 13, 3) := by decide +kernel
theorem dX12_putBack_11 : decode cX12_putBack 11 = .ok (.iload_n 1, 1) := by decide +kernel
theorem dX12_putBack_12 : decode cX12_putBack 12 = .ok (.aload_n 0, 1) := by decide +kernel
theorem dX12_putBack_13 : decode cX12_putBack 13 = .ok (.getfield 19, 3) := by decide +kernel
theorem dX12_putBack_16 : decode cX12_putBack 16 = .ok (.iload_n 1, 1) := by decide +kernel
theorem dX12_putBack_17 : decode cX12_putBack 17 = .ok (.iaload, 1) := by decide +kernel
theorem dX12_putBack_18 : decode cX12_putBack 18 = .ok (.iastore, 1) := by decide +kernel
theorem dX12_putBack_19 : decode cX12_putBack 19 = .ok (.iinc 1 1, 3) := by decide +kernel
theorem dX12_putBack_22 : decode cX12_putBack 22 = .ok (.goto (-20), 3) := by decide +kernel
theorem dX12_putBack_25 : decode cX12_putBack 25 = .ok (.return_, 1) := by decide +kernel
theorem dX12_paint_0 : decode cX12_paint 0 = .ok (.aload_n 0, 1) := by decide +kernel
theorem dX12_paint_1 : decode cX12_paint 1 = .ok (.invokevirtual 79, 3) := by decide +kernel
theorem dX12_paint_4 : decode cX12_paint 4 = .ok (.ifCond .eq 6, 3) := by decide +kernel
theorem dX12_paint_7 : decode cX12_paint 7 = .ok (.bipush (-103), 2) := by decide +kernel
theorem dX12_paint_9 : decode cX12_paint 9 = .ok (.ireturn, 1) := by decide +kernel
theorem dX12_paint_10 : decode cX12_paint 10 = .ok (.aload_n 0, 1) := by decide +kernel
theorem dX12_paint_11 : decode cX12_paint 11 = .ok (.iload_n 1, 1) := by decide +kernel
theorem dX12_paint_12 : decode cX12_paint 12 = .ok (.invokevirtual 118, 3) := by decide +kernel
theorem dX12_paint_15 : decode cX12_paint 15 = .ok (.ifCond .ne 6, 3) := by decide +kernel
theorem dX12_paint_18 : decode cX12_paint 18 = .ok (.bipush (-102), 2) := by decide +kernel
theorem dX12_paint_20 : decode cX12_paint 20 = .ok (.ireturn, 1) := by decide +kernel
theorem dX12_paint_21 : decode cX12_paint 21 = .ok (.aload_n 0, 1) := by decide +kernel
theorem dX12_paint_22 : decode cX12_paint 22 = .ok (.invokevirtual 124, 3) := by decide +kernel
theorem dX12_paint_25 : decode cX12_paint 25 = .ok (.aload_n 0, 1) := by decide +kernel
theorem dX12_paint_26 : decode cX12_paint 26 = .ok (.invokevirtual 127, 3) := by decide +kernel
theorem dX12_paint_29 : decode cX12_paint 29 = .ok (.aload_n 0, 1) := by decide +kernel
theorem dX12_paint_30 : decode cX12_paint 30 = .ok (.aload_n 0, 1) := by decide +kernel
theorem dX12_paint_31 : decode cX12_paint 31 = .ok (.invokevirtual 91, 3) := by decide +kernel
theorem dX12_paint_34 : decode cX12_paint 34 = .ok (.iload_n 1, 1) := by decide +kernel
theorem dX12_paint_35 : decode cX12_paint 35 = .ok (.invokevirtual 130, 3) := by decide +kernel
theorem dX12_paint_38 : decode cX12_paint 38 = .ok (.istore_n 2, 1) := by decide +kernel
theorem dX12_paint_39 : decode cX12_paint 39 = .ok (.iload_n 2, 1) := by decide +kernel
theorem dX12_paint_40 : decode cX12_paint 40 = .ok (.ifCond .eq 12, 3) := by decide +kernel
theorem dX12_paint_43 : decode cX12_paint 43 = .ok (.aload_n 0, 1) := by decide +kernel
theorem dX12_paint_44 : decode cX12_paint 44 = .ok (.getfield 72, 3) := by decide +kernel
theorem dX12_paint_47 : decode cX12_paint 47 = .ok (.bipush 60, 2) := by decide +kernel
theorem dX12_paint_49 : decode cX12_paint 49 = .ok (.if_icmp .ne 19, 3) := by decide +kernel
theorem dX12_paint_52 : decode cX12_paint 52 = .ok (.aload_n 0, 1) := by decide +kernel
theorem dX12_paint_53 : decode cX12_paint 53 = .ok (.invokevirtual 134, 3) := by decide +kernel
theorem dX12_paint_56 : decode cX12_paint 56 = .ok (.iload_n 2, 1) := by decide +kernel
theorem dX12_paint_57 : decode cX12_paint 57 = .ok (.ifCond .eq 8, 3) := by decide +kernel
theorem dX12_paint_60 : decode cX12_paint 60 = .ok (.bipush (-104), 2) := by decide +kernel
theorem dX12_paint_62 : decode cX12_paint 62 = .ok (.goto 5, 3) := by decide +kernel
theorem dX12_paint_65 : decode cX12_paint 65 = .ok (.bipush (-103), 2) := by decide +kernel
theorem dX12_paint_67 : decode cX12_paint 67 = .ok (.ireturn, 1) := by decide +kernel
theorem dX12_paint_68 : decode cX12_paint 68 = .ok (.aload_n 0, 1) := by decide +kernel
theorem dX12_paint_69 : decode cX12_paint 69 = .ok (.getfield 16, 3) := by decide +kernel
theorem dX12_paint_72 : decode cX12_paint 72 = .ok (.aload_n 0, 1) := by decide +kernel
theorem dX12_paint_73 : decode cX12_paint 73 = .ok (.getfield 72, 3) := by decide +kernel
theorem dX12_paint_76 : decode cX12_paint 76 = .ok (.iload_n 1, 1) := by decide +kernel
theorem dX12_paint_77 : decode cX12_paint 77 = .ok (.iastore, 1) := by decide +kernel
theorem dX12_paint_78 : decode cX12_paint 78 = .ok (.aload_n 0, 1) := by decide +kernel
theorem dX12_paint_79 : decode cX12_paint 79 = .ok (.dup, 1) := by decide +kernel
theorem dX12_paint_80 : decode cX12_paint 80 = .ok (.getfield 72, 3) := by decide +kernel
theorem dX12_paint_83 : decode cX12_paint 83 = .ok (.iconst 1, 1) := by decide +kernel
theorem dX12_paint_84 : decode cX12_paint 84 = .ok (.iadd, 1) := by decide +kernel
theorem dX12_paint_85 : decode cX12_paint 85 = .ok (.putfield 72, 3) := by decide +kernel
theorem dX12_paint_88 : decode cX12_paint 88 = .ok (.aload_n 0, 1) := by decide +kernel
theorem dX12_paint_89 : decode cX12_paint 89 = .ok (.aload_n 0, 1) := by decide +kernel
theorem dX12_paint_90 : decode cX12_paint 90 = .ok (.invokevirtual 105, 3) := by decide +kernel
theorem dX12_paint_93 : decode cX12_paint 93 = .ok (.iload_n 1, 1) := by decide +kernel
theorem dX12_paint_94 : decode cX12_paint 94 = .ok (.invokevirtual 121, 3) := by decide +kernel
theorem dX12_paint_97 : decode cX12_paint 97 = .ok (.ireturn, 1) := by decide +kernel
theorem dX12_line_0 : decode cX12_line 0 = .ok (.iload_n 1, 1) := by decide +kernel
theorem dX12_line_1 : decode cX12_line 1 = .ok (.i2l, 1) := by decide +kernel
theorem dX12_line_2 : decode cX12_line 2 = .ok (.lconst 0, 1) := by decide +kernel
theorem dX12_line_3 : decode cX12_line 3 = .ok (.aload_n 0, 1) := by decide +kernel
theorem dX12_line_4 : decode cX12_line 4 = .ok (.getfield 72, 3) := by decide +kernel
theorem dX12_line_7 : decode cX12_line 7 = .ok (.iconst 1, 1) := by decide +kernel
theorem dX12_line_8 : decode cX12_line 8 = .ok (.isub, 1) := by decide +kernel
theorem dX12_line_9 : decode cX12_line 9 = .ok (.i2l, 1) := by decide +kernel
theorem dX12_line_10 : decode cX12_line 10 = .ok (.invokestatic 68, 3) := by decide +kernel
theorem dX12_line_13 : decode cX12_line 13 = .ok (.ifCond .eq 12, 3) := by decide +kernel
theorem dX12_line_16 : decode cX12_line 16 = .ok (.aload_n 0, 1) := by decide +kernel
theorem dX12_line_17 : decode cX12_line 17 = .ok (.getfield 16, 3) := by decide +kernel
theorem dX12_line_20 : decode cX12_line 20 = .ok (.iload_n 1, 1) := by decide +kernel
theorem dX12_line_21 : decode cX12_line 21 = .ok (.iaload, 1) := by decide +kernel
theorem dX12_line_22 : decode cX12_line 22 = .ok (.goto 5, 3) := by decide +kernel
theorem dX12_line_25 : decode cX12_line 25 = .ok (.bipush (-101), 2) := by decide +kernel
theorem dX12_line_27 : decode cX12_line 27 = .ok (.ireturn, 1) := by decide +kernel
theorem dX12_letters_0 : decode cX12_letters 0 = .ok (.iconst 0, 1) := by decide +kernel
theorem dX12_letters_1 : decode cX12_letters 1 = .ok (.istore_n 3, 1) := by decide +kernel
theorem dX12_letters_2 : decode cX12_letters 2 = .ok (.iconst 1, 1) := by decide +kernel
theorem dX12_letters_3 : decode cX12_letters 3 = .ok (.istore 4, 2) := by decide +kernel
theorem dX12_letters_5 : decode cX12_letters 5 = .ok (.lload_n 1, 1) := by decide +kernel
theorem dX12_letters_6 : decode cX12_letters 6 = .ok (.lstore 5, 2) := by decide +kernel
theorem dX12_letters_8 : decode cX12_letters 8 = .ok (.iconst 0, 1) := by decide +kernel
theorem dX12_letters_9 : decode cX12_letters 9 = .ok (.istore 7, 2) := by decide +kernel
theorem dX12_letters_11 : decode cX12_letters 11 = .ok (.iload 7, 2) := by decide +kernel
theorem dX12_letters_13 : decode cX12_letters 13 = .ok (.bipush 8, 2) := by decide +kernel
theorem dX12_letters_15 : decode cX12_letters 15 = .ok (.if_icmp .ge 68, 3) := by decide +kernel
theorem dX12_letters_18 : decode cX12_letters 18 = .ok (.lload 5, 2) := by decide +kernel
theorem dX12_letters_20 : decode cX12_letters 20 = .ok (.ldc2_w 137, 3) := by decide +kernel
theorem dX12_letters_23 : decode cX12_letters 23 = .ok (.land, 1) := by decide +kernel
theorem dX12_letters_24 : decode cX12_letters 24 = .ok (.l2i, 1) := by decide +kernel
theorem dX12_letters_25 : decode cX12_letters 25 = .ok (.istore 8, 2) := by decide +kernel
theorem dX12_letters_27 : decode cX12_letters 27 = .ok (.lload 5, 2) := by decide +kernel
theorem dX12_letters_29 : decode cX12_letters 29 = .ok (.bipush 8, 2) := by decide +kernel
theorem dX12_letters_31 : decode cX12_letters 31 = .ok (.lushr, 1) := by decide +kernel
theorem dX12_letters_32 : decode cX12_letters 32 = .ok (.lstore 5, 2) := by decide +kernel
theorem dX12_letters_34 : decode cX12_letters 34 = .ok (.iload 4, 2) := by decide +kernel
theorem dX12_letters_36 : decode cX12_letters 36 = .ok (.ifCond .eq 25, 3) := by decide +kernel
theorem dX12_letters_39 : decode cX12_letters 39 = .ok (.iload 8, 2) := by decide +kernel
theorem dX12_letters_41 : decode cX12_letters 41 = .ok (.bipush 126, 2) := by decide +kernel
theorem dX12_letters_43 : decode cX12_letters 43 = .ok (.if_icmp .gt 18, 3) := by decide +kernel
theorem dX12_letters_46 : decode cX12_letters 46 = .ok (.iload 8, 2) := by decide +kernel
theorem dX12_letters_48 : decode cX12_letters 48 = .ok (.ifCond .eq 9, 3) := by decide +kernel
theorem dX12_letters_51 : decode cX12_letters 51 = .ok (.iload_n 3, 1) := by decide +kernel
theorem dX12_letters_52 : decode cX12_letters 52 = .ok (.iload 7, 2) := by decide +kernel
theorem dX12_letters_54 : decode cX12_letters 54 = .ok (.if_icmp .ne 7, 3) := by decide +kernel
theorem dX12_letters_57 : decode cX12_letters 57 = .ok (.iconst 1, 1) := by decide +kernel
theorem dX12_letters_58 : decode cX12_letters 58 = .ok (.goto 4, 3) := by decide +kernel
theorem dX12_letters_61 : decode cX12_letters 61 = .ok (.iconst 0, 1) := by decide +kernel
theorem dX12_letters_62 : decode cX12_letters 62 = .ok (.istore 4, 2) := by decide +kernel
theorem dX12_letters_64 : decode cX12_letters 64 = .ok (.iload_n 3, 1) := by decide +kernel
theorem dX12_letters_65 : decode cX12_letters 65 = .ok (.iload 8, 2) := by decide +kernel
theorem dX12_letters_67 : decode cX12_letters 67 = .ok (.ifCond .le 7, 3) := by decide +kernel
theorem dX12_letters_70 : decode cX12_letters 70 = .ok (.iconst 1, 1) := by decide +kernel
theorem dX12_letters_71 : decode cX12_letters 71 = .ok (.goto 4, 3) := by decide +kernel
theorem dX12_letters_74 : decode cX12_letters 74 = .ok (.iconst 0, 1) := by decide +kernel
theorem dX12_letters_75 : decode cX12_letters 75 = .ok (.iadd, 1) := by decide +kernel
theorem dX12_letters_76 : decode cX12_letters 76 = .ok (.istore_n 3, 1) := by decide +kernel
theorem dX12_letters_77 : decode cX12_letters 77 = .ok (.iinc 7 1, 3) := by decide +kernel
theorem dX12_letters_80 : decode cX12_letters 80 = .ok (.goto (-69), 3) := by decide +kernel
theorem dX12_letters_83 : decode cX12_letters 83 = .ok (.iload 4, 2) := by decide +kernel
theorem dX12_letters_85 : decode cX12_letters 85 = .ok (.ifCond .ne 6, 3) := by decide +kernel
theorem dX12_letters_88 : decode cX12_letters 88 = .ok (.bipush (-102), 2) := by decide +kernel
theorem dX12_letters_90 : decode cX12_letters 90 = .ok (.ireturn, 1) := by decide +kernel
theorem dX12_letters_91 : decode cX12_letters 91 = .ok (.aload_n 0, 1) := by decide +kernel
theorem dX12_letters_92 : decode cX12_letters 92 = .ok (.getfield 139, 3) := by decide +kernel
theorem dX12_letters_95 : decode cX12_letters 95 = .ok (.iload_n 3, 1) := by decide +kernel
theorem dX12_letters_96 : decode cX12_letters 96 = .ok (.iadd, 1) := by decide +kernel
theorem dX12_letters_97 : decode cX12_letters 97 = .ok (.bipush 10, 2) := by decide +kernel
theorem dX12_letters_99 : decode cX12_letters 99 = .ok (.if_icmp .le 6, 3) := by decide +kernel
theorem dX12_letters_102 : decode cX12_letters 102 = .ok (.bipush (-104), 2) := by decide +kernel
theorem dX12_letters_104 : decode cX12_letters 104 = .ok (.ireturn, 1) := by decide +kernel
theorem dX12_letters_105 : decode cX12_letters 105 = .ok (.iconst 0, 1) := by decide +kernel
theorem dX12_letters_106 : decode cX12_letters 106 = .ok (.istore 7, 2) := by decide +kernel
theorem dX12_letters_108 : decode cX12_letters 108 = .ok (.iload 7, 2) := by decide +kernel
theorem dX12_letters_110 : decode cX12_letters 110 = .ok (.iload_n 3, 1) := by decide +kernel
theorem dX12_letters_111 : decode cX12_letters 111 = .ok (.if_icmp .ge 40, 3) := by decide +kernel
theorem dX12_letters_114 : decode cX12_letters 114 = .ok (.aload_n 0, 1) := by decide +kernel
theorem dX12_letters_115 : decode cX12_letters 115 = .ok (.getfield 22, 3) := by decide +kernel
theorem dX12_letters_118 : decode cX12_letters 118 = .ok (.aload_n 0, 1) := by decide +kernel
theorem dX12_letters_119 : decode cX12_letters 119 = .ok (.getfield 139, 3) := by decide +kernel
theorem dX12_letters_122 : decode cX12_letters 122 = .ok (.lload_n 1, 1) := by decide +kernel
theorem dX12_letters_123 : decode cX12_letters 123 = .ok (.bipush 8, 2) := by decide +kernel
theorem dX12_letters_125 : decode cX12_letters 125 = .ok (.iload 7, 2) := by decide +kernel
theorem dX12_letters_127 : decode cX12_letters 127 = .ok (.imul, 1) := by decide +kernel
theorem dX12_letters_128 : decode cX12_letters 128 = .ok (.lushr, 1) := by decide +kernel
theorem dX12_letters_129 : decode cX12_letters 129 = .ok (.ldc2_w 137, 3) := by decide +kernel
theorem dX12_letters_132 : decode cX12_letters 132 = .ok (.land, 1) := by decide +kernel
theorem dX12_letters_133 : decode cX12_letters 133 = .ok (.l2i, 1) := by decide +kernel
theorem dX12_letters_134 : decode cX12_letters 134 = .ok (.iastore, 1) := by decide +kernel
theorem dX12_letters_135 : decode cX12_letters 135 = .ok (.aload_n 0, 1) := by decide +kernel
theorem dX12_letters_136 : decode cX12_letters 136 = .ok (.dup, 1) := by decide +kernel
theorem dX12_letters_137 : decode cX12_letters 137 = .ok (.getfield 139, 3) := by decide +kernel
theorem dX12_letters_140 : decode cX12_letters 140 = .ok (.iconst 1, 1) := by decide +kernel
theorem dX12_letters_141 : decode cX12_letters 141 = .ok (.iadd, 1) := by decide +kernel
theorem dX12_letters_142 : decode cX12_letters 142 = .ok (.putfield 139, 3) := by decide +kernel
theorem dX12_letters_145 : decode cX12_letters 145 = .ok (.iinc 7 1, 3) := by decide +kernel
theorem dX12_letters_148 : decode cX12_letters 148 = .ok (.goto (-40), 3) := by decide +kernel
theorem dX12_letters_151 : decode cX12_letters 151 = .ok (.aload_n 0, 1) := by decide +kernel
theorem dX12_letters_152 : decode cX12_letters 152 = .ok (.getfield 139, 3) := by decide +kernel
theorem dX12_letters_155 : decode cX12_letters 155 = .ok (.ireturn, 1) := by decide +kernel
theorem dX12_blank_0 : decode cX12_blank 0 = .ok (.aload_n 0, 1) := by decide +kernel
theorem dX12_blank_1 : decode cX12_blank 1 = .ok (.getfield 139, 3) := by decide +kernel
theorem dX12_blank_4 : decode cX12_blank 4 = .ok (.istore_n 1, 1) := by decide +kernel
theorem dX12_blank_5 : decode cX12_blank 5 = .ok (.aload_n 0, 1) := by decide +kernel
theorem dX12_blank_6 : decode cX12_blank 6 = .ok (.iconst 0, 1) := by decide +kernel
theorem dX12_blank_7 : decode cX12_blank 7 = .ok (.putfield 139, 3) := by decide +kernel
theorem dX12_blank_10 : decode cX12_blank 10 = .ok (.iload_n 1, 1) := by decide +kernel
theorem dX12_blank_11 : decode cX12_blank 11 = .ok (.ireturn, 1) := by decide +kernel
theorem dX12_go_0 : decode cX12_go 0 = .ok (.iload_n 1, 1) := by decide +kernel
theorem dX12_go_1 : decode cX12_go 1 = .ok (.bipush 48, 2) := by decide +kernel
theorem dX12_go_3 : decode cX12_go 3 = .ok (.isub, 1) := by decide +kernel
theorem dX12_go_4 : decode cX12_go 4 = .ok (.istore_n 2, 1) := by decide +kernel
theorem dX12_go_5 : decode cX12_go 5 = .ok (.aload_n 0, 1) := by decide +kernel
theorem dX12_go_6 : decode cX12_go 6 = .ok (.getfield 142, 3) := by decide +kernel
theorem dX12_go_9 : decode cX12_go 9 = .ok (.ifCond .ne 44, 3) := by decide +kernel
theorem dX12_go_12 : decode cX12_go 12 = .ok (.aload_n 0, 1) := by decide +kernel
theorem dX12_go_13 : decode cX12_go 13 = .ok (.getfield 145, 3) := by decide +kernel
theorem dX12_go_16 : decode cX12_go 16 = .ok (.aload_n 0, 1) := by decide +kernel
theorem dX12_go_17 : decode cX12_go 17 = .ok (.getfield 65, 3) := by decide +kernel
theorem dX12_go_20 : decode cX12_go 20 = .ok (.if_icmp .ge 33, 3) := by decide +kernel
theorem dX12_go_23 : decode cX12_go 23 = .ok (.aload_n 0, 1) := by decide +kernel
theorem dX12_go_24 : decode cX12_go 24 = .ok (.getfield 25, 3) := by decide +kernel
theorem dX12_go_27 : decode cX12_go 27 = .ok (.aload_n 0, 1) := by decide +kernel
theorem dX12_go_28 : decode cX12_go 28 = .ok (.getfield 145, 3) := by decide +kernel
theorem dX12_go_31 : decode cX12_go 31 = .ok (.iload_n 2, 1) := by decide +kernel
theorem dX12_go_32 : decode cX12_go 32 = .ok (.iastore, 1) := by decide +kernel
theorem dX12_go_33 : decode cX12_go 33 = .ok (.aload_n 0, 1) := by decide +kernel
theorem dX12_go_34 : decode cX12_go 34 = .ok (.dup, 1) := by decide +kernel
theorem dX12_go_35 : decode cX12_go 35 = .ok (.getfield 145, 3) := by decide +kernel
theorem dX12_go_38 : decode cX12_go 38 = .ok (.iconst 1, 1) := by decide +kernel
theorem dX12_go_39 : decode cX12_go 39 = .ok (.iadd, 1) := by decide +kernel
theorem dX12_go_40 : decode cX12_go 40 = .ok (.putfield 145, 3) := by decide +kernel
theorem dX12_go_43 : decode cX12_go 43 = .ok (.iload_n 2, 1) := by decide +kernel
theorem dX12_go_44 : decode cX12_go 44 = .ok (.i2l, 1) := by decide +kernel
theorem dX12_go_45 : decode cX12_go 45 = .ok (.lconst 0, 1) := by decide +kernel
theorem dX12_go_46 : decode cX12_go 46 = .ok (.ldc2_w 77, 3) := by decide +kernel
theorem dX12_go_49 : decode cX12_go 49 = .ok (.invokestatic 68, 3) := by decide +kernel
theorem dX12_go_52 : decode cX12_go 52 = .ok (.ireturn, 1) := by decide +kernel
theorem dX12_go_53 : decode cX12_go 53 = .ok (.aload_n 0, 1) := by decide +kernel
theorem dX12_go_54 : decode cX12_go 54 = .ok (.getfield 142, 3) := by decide +kernel
theorem dX12_go_57 : decode cX12_go 57 = .ok (.iconst 1, 1) := by decide +kernel
theorem dX12_go_58 : decode cX12_go 58 = .ok (.if_icmp .ne 25, 3) := by decide +kernel
theorem dX12_go_61 : decode cX12_go 61 = .ok (.aload_n 0, 1) := by decide +kernel
theorem dX12_go_62 : decode cX12_go 62 = .ok (.getfield 25, 3) := by decide +kernel
theorem dX12_go_65 : decode cX12_go 65 = .ok (.iconst 4, 1) := by decide +kernel
theorem dX12_go_66 : decode cX12_go 66 = .ok (.iload_n 2, 1) := by decide +kernel
theorem dX12_go_67 : decode cX12_go 67 = .ok (.iastore, 1) := by decide +kernel
theorem dX12_go_68 : decode cX12_go 68 = .ok (.aload_n 0, 1) := by decide +kernel
theorem dX12_go_69 : decode cX12_go 69 = .ok (.iconst 2, 1) := by decide +kernel
theorem dX12_go_70 : decode cX12_go 70 = .ok (.putfield 142, 3) := by decide +kernel
theorem dX12_go_73 : decode cX12_go 73 = .ok (.iload_n 2, 1) := by decide +kernel
theorem dX12_go_74 : decode cX12_go 74 = .ok (.i2l, 1) := by decide +kernel
theorem dX12_go_75 : decode cX12_go 75 = .ok (.lconst 1, 1) := by decide +kernel
theorem dX12_go_76 : decode cX12_go 76 = .ok (.ldc2_w 77, 3) := by decide +kernel
theorem dX12_go_79 : decode cX12_go 79 = .ok (.invokestatic 68, 3) := by decide +kernel
theorem dX12_go_82 : decode cX12_go 82 = .ok (.ireturn, 1) := by decide +kernel
theorem dX12_go_83 : decode cX12_go 83 = .ok (.iload_n 1, 1) := by decide +kernel
theorem dX12_go_84 : decode cX12_go 84 = .ok (.bipush 43, 2) := by decide +kernel
theorem dX12_go_86 : decode cX12_go 86 = .ok (.if_icmp .ne 10, 3) := by decide +kernel
theorem dX12_go_89 : decode cX12_go 89 = .ok (.aload_n 0, 1) := by decide +kernel
theorem dX12_go_90 : decode cX12_go 90 = .ok (.getfield 142, 3) := by decide +kernel
theorem dX12_go_93 : decode cX12_go 93 = .ok (.ifCond .eq 17, 3) := by decide +kernel
theorem dX12_go_96 : decode cX12_go 96 = .ok (.iload_n 1, 1) := by decide +kernel
theorem dX12_go_97 : decode cX12_go 97 = .ok (.bipush 33, 2) := by decide +kernel
theorem dX12_go_99 : decode cX12_go 99 = .ok (.if_icmp .ne 15, 3) := by decide +kernel
theorem dX12_go_102 : decode cX12_go 102 = .ok (.aload_n 0, 1) := by decide +kernel
theorem dX12_go_103 : decode cX12_go 103 = .ok (.getfield 142, 3) := by decide +kernel
theorem dX12_go_106 : decode cX12_go 106 = .ok (.iconst 3, 1) := by decide +kernel
theorem dX12_go_107 : decode cX12_go 107 = .ok (.if_icmp .eq 7, 3) := by decide +kernel
theorem dX12_go_110 : decode cX12_go 110 = .ok (.iconst 1, 1) := by decide +kernel
theorem dX12_go_111 : decode cX12_go 111 = .ok (.goto 4, 3) := by decide +kernel
theorem dX12_go_114 : decode cX12_go 114 = .ok (.iconst 0, 1) := by decide +kernel
theorem dX12_go_115 : decode cX12_go 115 = .ok (.istore_n 3, 1) := by decide +kernel
theorem dX12_go_116 : decode cX12_go 116 = .ok (.aload_n 0, 1) := by decide +kernel
theorem dX12_go_117 : decode cX12_go 117 = .ok (.getfield 25, 3) := by decide +kernel
theorem dX12_go_120 : decode cX12_go 120 = .ok (.iconst 5, 1) := by decide +kernel
theorem dX12_go_121 : decode cX12_go 121 = .ok (.iload_n 1, 1) := by decide +kernel
theorem dX12_go_122 : decode cX12_go 122 = .ok (.bipush 33, 2) := by decide +kernel
theorem dX12_go_124 : decode cX12_go 124 = .ok (.if_icmp .ne 7, 3) := by decide +kernel
theorem dX12_go_127 : decode cX12_go 127 = .ok (.iconst 1, 1) := by decide +kernel
theorem dX12_go_128 : decode cX12_go 128 = .ok (.goto 9, 3) := by decide +kernel
theorem dX12_go_131 : decode cX12_go 131 = .ok (.aload_n 0, 1) := by decide +kernel
theorem dX12_go_132 : decode cX12_go 132 = .ok (.getfield 25, 3) := by decide +kernel
theorem dX12_go_135 : decode cX12_go 135 = .ok (.iconst 5, 1) := by decide +kernel
theorem dX12_go_136 : decode cX12_go 136 = .ok (.iaload, 1) := by decide +kernel
theorem dX12_go_137 : decode cX12_go 137 = .ok (.iastore, 1) := by decide +kernel
theorem dX12_go_138 : decode cX12_go 138 = .ok (.aload_n 0, 1) := by decide +kernel
theorem dX12_go_139 : decode cX12_go 139 = .ok (.iload_n 1, 1) := by decide +kernel
theorem dX12_go_140 : decode cX12_go 140 = .ok (.bipush 43, 2) := by decide +kernel
theorem dX12_go_142 : decode cX12_go 142 = .ok (.if_icmp .ne 7, 3) := by decide +kernel
theorem dX12_go_145 : decode cX12_go 145 = .ok (.iconst 1, 1) := by decide +kernel
theorem dX12_go_146 : decode cX12_go 146 = .ok (.goto 4, 3) := by decide +kernel
theorem dX12_go_149 : decode cX12_go 149 = .ok (.iconst 3, 1) := by decide +kernel
theorem dX12_go_150 : decode cX12_go 150 = .ok (.putfield 142, 3) := by decide +kernel
theorem dX12_go_153 : decode cX12_go 153 = .ok (.iload_n 3, 1) := by decide +kernel
theorem dX12_go_154 : decode cX12_go 154 = .ok (.ireturn, 1) := by decide +kernel
theorem dX12_faultOf_0 : decode cX12_faultOf 0 = .ok (.aload_n 0, 1) := by decide +kernel
theorem dX12_faultOf_1 : decode cX12_faultOf 1 = .ok (.iconst 0, 1) := by decide +kernel
theorem dX12_faultOf_2 : decode cX12_faultOf 2 = .ok (.putfield 145, 3) := by decide +kernel
theorem dX12_faultOf_5 : decode cX12_faultOf 5 = .ok (.aload_n 0, 1) := by decide +kernel
theorem dX12_faultOf_6 : decode cX12_faultOf 6 = .ok (.iconst 0, 1) := by decide +kernel
theorem dX12_faultOf_7 : decode cX12_faultOf 7 = .ok (.putfield 142, 3) := by decide +kernel
theorem dX12_faultOf_10 : decode cX12_faultOf 10 = .ok (.iconst 0, 1) := by decide +kernel
theorem dX12_faultOf_11 : decode cX12_faultOf 11 = .ok (.istore_n 1, 1) := by decide +kernel
theorem dX12_faultOf_12 : decode cX12_faultOf 12 = .ok (.iload_n 1, 1) := by decide +kernel
theorem dX12_faultOf_13 : decode cX12_faultOf 13 = .ok (.bipush 6, 2) := by decide +kernel
theorem dX12_faultOf_15 : decode cX12_faultOf 15 = .ok (.if_icmp .ge 25, 3) := by decide +kernel
theorem dX12_faultOf_18 : decode cX12_faultOf 18 = .ok (.aload_n 0, 1) := by decide +kernel
theorem dX12_faultOf_19 : decode cX12_faultOf 19 = .ok (.getfield 25, 3) := by decide +kernel
theorem dX12_faultOf_22 : decode cX12_faultOf 22 = .ok (.iload_n 1, 1) := by decide +kernel
theorem dX12_faultOf_23 : decode cX12_faultOf 23 = .ok (.iload_n 1, 1) := by decide +kernel
theorem dX12_faultOf_24 : decode cX12_faultOf 24 = .ok (.iconst 5, 1) := by decide +kernel
theorem dX12_faultOf_25 : decode cX12_faultOf 25 = .ok (.if_icmp .ge 7, 3) := by decide +kernel
theorem dX12_faultOf_28 : decode cX12_faultOf 28 = .ok (.iconst (-1), 1) := by decide +kernel
theorem dX12_faultOf_29 : decode cX12_faultOf 29 = .ok (.goto 4, 3) := by decide +kernel
theorem dX12_faultOf_32 : decode cX12_faultOf 32 = .ok (.iconst 0, 1) := by decide +kernel
theorem dX12_faultOf_33 : decode cX12_faultOf 33 = .ok (.iastore, 1) := by decide +kernel
theorem dX12_faultOf_34 : decode cX12_faultOf 34 = .ok (.iinc 1 1, 3) := by decide +kernel
theorem dX12_faultOf_37 : decode cX12_faultOf 37 = .ok (.goto (-25), 3) := by decide +kernel
theorem dX12_faultOf_40 : decode cX12_faultOf 40 = .ok (.iconst 0, 1) := by decide +kernel
theorem dX12_faultOf_41 : decode cX12_faultOf 41 = .ok (.istore_n 1, 1) := by decide +kernel
theorem dX12_faultOf_42 : decode cX12_faultOf 42 = .ok (.iload_n 1, 1) := by decide +kernel
theorem dX12_faultOf_43 : decode cX12_faultOf 43 = .ok (.aload_n 0, 1) := by decide +kernel
theorem dX12_faultOf_44 : decode cX12_faultOf 44 = .ok (.getfield 139, 3) := by decide +kernel
theorem dX12_faultOf_47 : decode cX12_faultOf 47 = .ok (.if_icmp .ge 22, 3) := by decide +kernel
theorem dX12_faultOf_50 : decode cX12_faultOf 50 = .ok (.aload_n 0, 1) := by decide +kernel
theorem dX12_faultOf_51 : decode cX12_faultOf 51 = .ok (.aload_n 0, 1) := by decide +kernel
theorem dX12_faultOf_52 : decode cX12_faultOf 52 = .ok (.getfield 22, 3) := by decide +kernel
theorem dX12_faultOf_55 : decode cX12_faultOf 55 = .ok (.iload_n 1, 1) := by decide +kernel
theorem dX12_faultOf_56 : decode cX12_faultOf 56 = .ok (.iaload, 1) := by decide +kernel
theorem dX12_faultOf_57 : decode cX12_faultOf 57 = .ok (.invokevirtual 148, 3) := by decide +kernel
theorem dX12_faultOf_60 : decode cX12_faultOf 60 = .ok (.ifCond .eq 9, 3) := by decide +kernel
theorem dX12_faultOf_63 : decode cX12_faultOf 63 = .ok (.iinc 1 1, 3) := by decide +kernel
theorem dX12_faultOf_66 : decode cX12_faultOf 66 = .ok (.goto (-24), 3) := by decide +kernel
theorem dX12_faultOf_69 : decode cX12_faultOf 69 = .ok (.iload_n 1, 1) := by decide +kernel
theorem dX12_faultOf_70 : decode cX12_faultOf 70 = .ok (.ireturn, 1) := by decide +kernel
theorem dX12_fault_0 : decode cX12_fault 0 = .ok (.aload_n 0, 1) := by decide +kernel
theorem dX12_fault_1 : decode cX12_fault 1 = .ok (.invokevirtual 151, 3) := by decide +kernel
theorem dX12_fault_4 : decode cX12_fault 4 = .ok (.ireturn, 1) := by decide +kernel
theorem dX12_judge_0 : decode cX12_judge 0 = .ok (.aload_n 0, 1) := by decide +kernel
theorem dX12_judge_1 : decode cX12_judge 1 = .ok (.invokevirtual 79, 3) := by decide +kernel
theorem dX12_judge_4 : decode cX12_judge 4 = .ok (.ifCond .ne 33, 3) := by decide +kernel
theorem dX12_judge_7 : decode cX12_judge 7 = .ok (.aload_n 0, 1) := by decide +kernel
theorem dX12_judge_8 : decode cX12_judge 8 = .ok (.invokevirtual 151, 3) := by decide +kernel
theorem dX12_judge_11 : decode cX12_judge 11 = .ok (.aload_n 0, 1) := by decide +kernel
theorem dX12_judge_12 : decode cX12_judge 12 = .ok (.getfield 139, 3) := by decide +kernel
theorem dX12_judge_15 : decode cX12_judge 15 = .ok (.if_icmp .lt 22, 3) := by decide +kernel
theorem dX12_judge_18 : decode cX12_judge 18 = .ok (.aload_n 0, 1) := by decide +kernel
theorem dX12_judge_19 : decode cX12_judge 19 = .ok (.getfield 145, 3) := by decide +kernel
theorem dX12_judge_22 : decode cX12_judge 22 = .ok (.aload_n 0, 1) := by decide +kernel
theorem dX12_judge_23 : decode cX12_judge 23 = .ok (.getfield 65, 3) := by decide +kernel
theorem dX12_judge_26 : decode cX12_judge 26 = .ok (.if_icmp .lt 11, 3) := by decide +kernel
theorem dX12_judge_29 : decode cX12_judge 29 = .ok (.aload_n 0, 1) := by decide +kernel
theorem dX12_judge_30 : decode cX12_judge 30 = .ok (.getfield 142, 3) := by decide +kernel
theorem dX12_judge_33 : decode cX12_judge 33 = .ok (.iconst 1, 1) := by decide +kernel
theorem dX12_judge_34 : decode cX12_judge 34 = .ok (.if_icmp .ne 6, 3) := by decide +kernel
theorem dX12_judge_37 : decode cX12_judge 37 = .ok (.bipush (-103), 2) := by decide +kernel
theorem dX12_judge_39 : decode cX12_judge 39 = .ok (.ireturn, 1) := by decide +kernel
theorem dX12_judge_40 : decode cX12_judge 40 = .ok (.aload_n 0, 1) := by decide +kernel
theorem dX12_judge_41 : decode cX12_judge 41 = .ok (.getfield 154, 3) := by decide +kernel
theorem dX12_judge_44 : decode cX12_judge 44 = .ok (.iconst 5, 1) := by decide +kernel
theorem dX12_judge_45 : decode cX12_judge 45 = .ok (.if_icmp .ne 6, 3) := by decide +kernel
theorem dX12_judge_48 : decode cX12_judge 48 = .ok (.bipush (-104), 2) := by decide +kernel
theorem dX12_judge_50 : decode cX12_judge 50 = .ok (.ireturn, 1) := by decide +kernel
theorem dX12_judge_51 : decode cX12_judge 51 = .ok (.iconst 0, 1) := by decide +kernel
theorem dX12_judge_52 : decode cX12_judge 52 = .ok (.istore_n 1, 1) := by decide +kernel
theorem dX12_judge_53 : decode cX12_judge 53 = .ok (.iload_n 1, 1) := by decide +kernel
theorem dX12_judge_54 : decode cX12_judge 54 = .ok (.bipush 6, 2) := by decide +kernel
theorem dX12_judge_56 : decode cX12_judge 56 = .ok (.if_icmp .ge 29, 3) := by decide +kernel
theorem dX12_judge_59 : decode cX12_judge 59 = .ok (.aload_n 0, 1) := by decide +kernel
theorem dX12_judge_60 : decode cX12_judge 60 = .ok (.getfield 28, 3) := by decide +kernel
theorem dX12_judge_63 : decode cX12_judge 63 = .ok (.bipush 6, 2) := by decide +kernel
theorem dX12_judge_65 : decode cX12_judge 65 = .ok (.aload_n 0, 1) := by decide +kernel
theorem dX12_judge_66 : decode cX12_judge 66 = .ok (.getfield 154, 3) := by decide +kernel
theorem dX12_judge_69 : decode cX12_judge 69 = .ok (.imul, 1) := by decide +kernel
theorem dX12_judge_70 : decode cX12_judge 70 = .ok (.iload_n 1, 1) := by decide +kernel
theorem dX12_judge_71 : decode cX12_judge 71 = .ok (.iadd, 1) := by decide +kernel
theorem dX12_judge_72 : decode cX12_judge 72 = .ok (.aload_n 0, 1) := by decide +kernel
theorem dX12_judge_73 : decode cX12_judge 73 = .ok (.getfield 25, 3) := by decide +kernel
theorem dX12_judge_76 : decode cX12_judge 76 = .ok (.iload_n 1, 1) := by decide +kernel
theorem dX12_judge_77 : decode cX12_judge 77 = .ok (.iaload, 1) := by decide +kernel
theorem dX12_judge_78 : decode cX12_judge 78 = .ok (.iastore, 1) := by decide +kernel
theorem dX12_judge_79 : decode cX12_judge 79 = .ok (.iinc 1 1, 3) := by decide +kernel
theorem dX12_judge_82 : decode cX12_judge 82 = .ok (.goto (-29), 3) := by decide +kernel
theorem dX12_judge_85 : decode cX12_judge 85 = .ok (.aload_n 0, 1) := by decide +kernel
theorem dX12_judge_86 : decode cX12_judge 86 = .ok (.dup, 1) := by decide +kernel
theorem dX12_judge_87 : decode cX12_judge 87 = .ok (.getfield 154, 3) := by decide +kernel
theorem dX12_judge_90 : decode cX12_judge 90 = .ok (.iconst 1, 1) := by decide +kernel
theorem dX12_judge_91 : decode cX12_judge 91 = .ok (.iadd, 1) := by decide +kernel
theorem dX12_judge_92 : decode cX12_judge 92 = .ok (.putfield 154, 3) := by decide +kernel
theorem dX12_judge_95 : decode cX12_judge 95 = .ok (.aload_n 0, 1) := by decide +kernel
theorem dX12_judge_96 : decode cX12_judge 96 = .ok (.iconst 0, 1) := by decide +kernel
theorem dX12_judge_97 : decode cX12_judge 97 = .ok (.putfield 139, 3) := by decide +kernel
theorem dX12_judge_100 : decode cX12_judge 100 = .ok (.aload_n 0, 1) := by decide +kernel
theorem dX12_judge_101 : decode cX12_judge 101 = .ok (.getfield 154, 3) := by decide +kernel
theorem dX12_judge_104 : decode cX12_judge 104 = .ok (.iconst 1, 1) := by decide +kernel
theorem dX12_judge_105 : decode cX12_judge 105 = .ok (.isub, 1) := by decide +kernel
theorem dX12_judge_106 : decode cX12_judge 106 = .ok (.ireturn, 1) := by decide +kernel
theorem dX12_told_0 : decode cX12_told 0 = .ok (.iload_n 1, 1) := by decide +kernel
theorem dX12_told_1 : decode cX12_told 1 = .ok (.i2l, 1) := by decide +kernel
theorem dX12_told_2 : decode cX12_told 2 = .ok (.lconst 0, 1) := by decide +kernel
theorem dX12_told_3 : decode cX12_told 3 = .ok (.aload_n 0, 1) := by decide +kernel
theorem dX12_told_4 : decode cX12_told 4 = .ok (.getfield 154, 3) := by decide +kernel
theorem dX12_told_7 : decode cX12_told 7 = .ok (.iconst 1, 1) := by decide +kernel
theorem dX12_told_8 : decode cX12_told 8 = .ok (.isub, 1) := by decide +kernel
theorem dX12_told_9 : decode cX12_told 9 = .ok (.i2l, 1) := by decide +kernel
theorem dX12_told_10 : decode cX12_told 10 = .ok (.invokestatic 68, 3) := by decide +kernel
theorem dX12_told_13 : decode cX12_told 13 = .ok (.ifCond .ne 6, 3) := by decide +kernel
theorem dX12_told_16 : decode cX12_told 16 = .ok (.bipush (-101), 2) := by decide +kernel
theorem dX12_told_18 : decode cX12_told 18 = .ok (.ireturn, 1) := by decide +kernel
theorem dX12_told_19 : decode cX12_told 19 = .ok (.iload_n 2, 1) := by decide +kernel
theorem dX12_told_20 : decode cX12_told 20 = .ok (.i2l, 1) := by decide +kernel
theorem dX12_told_21 : decode cX12_told 21 = .ok (.lconst 0, 1) := by decide +kernel
theorem dX12_told_22 : decode cX12_told 22 = .ok (.ldc2_w 157, 3) := by decide +kernel
theorem dX12_told_25 : decode cX12_told 25 = .ok (.invokestatic 68, 3) := by decide +kernel
theorem dX12_told_28 : decode cX12_told 28 = .ok (.ifCond .eq 17, 3) := by decide +kernel
theorem dX12_told_31 : decode cX12_told 31 = .ok (.aload_n 0, 1) := by decide +kernel
theorem dX12_told_32 : decode cX12_told 32 = .ok (.getfield 28, 3) := by decide +kernel
theorem dX12_told_35 : decode cX12_told 35 = .ok (.bipush 6, 2) := by decide +kernel
theorem dX12_told_37 : decode cX12_told 37 = .ok (.iload_n 1, 1) := by decide +kernel
theorem dX12_told_38 : decode cX12_told 38 = .ok (.imul, 1) := by decide +kernel
theorem dX12_told_39 : decode cX12_told 39 = .ok (.iload_n 2, 1) := by decide +kernel
theorem dX12_told_40 : decode cX12_told 40 = .ok (.iadd, 1) := by decide +kernel
theorem dX12_told_41 : decode cX12_told 41 = .ok (.iaload, 1) := by decide +kernel
theorem dX12_told_42 : decode cX12_told 42 = .ok (.goto 5, 3) := by decide +kernel
theorem dX12_told_45 : decode cX12_told 45 = .ok (.bipush (-102), 2) := by decide +kernel
theorem dX12_told_47 : decode cX12_told 47 = .ok (.ireturn, 1) := by decide +kernel
theorem dX12_letsOne_0 : decode cX12_letsOne 0 = .ok (.bipush 6, 2) := by decide +kernel
theorem dX12_letsOne_2 : decode cX12_letsOne 2 = .ok (.iload_n 1, 1) := by decide +kernel
theorem dX12_letsOne_3 : decode cX12_letsOne 3 = .ok (.imul, 1) := by decide +kernel
theorem dX12_letsOne_4 : decode cX12_letsOne 4 = .ok (.istore 4, 2) := by decide +kernel
theorem dX12_letsOne_6 : decode cX12_letsOne 6 = .ok (.aload_n 0, 1) := by decide +kernel
theorem dX12_letsOne_7 : decode cX12_letsOne 7 = .ok (.getfield 28, 3) := by decide +kernel
theorem dX12_letsOne_10 : decode cX12_letsOne 10 = .ok (.iload 4, 2) := by decide +kernel
theorem dX12_letsOne_12 : decode cX12_letsOne 12 = .ok (.iconst 4, 1) := by decide +kernel
theorem dX12_letsOne_13 : decode cX12_letsOne 13 = .ok (.iadd, 1) := by decide +kernel
theorem dX12_letsOne_14 : decode cX12_letsOne 14 = .ok (.iaload, 1) := by decide +kernel
theorem dX12_letsOne_15 : decode cX12_letsOne 15 = .ok (.iconst (-1), 1) := by decide +kernel
theorem dX12_letsOne_16 : decode cX12_letsOne 16 = .ok (.if_icmp .eq 23, 3) := by decide +kernel
theorem dX12_letsOne_19 : decode cX12_letsOne 19 = .ok (.aload_n 0, 1) := by decide +kernel
theorem dX12_letsOne_20 : decode cX12_letsOne 20 = .ok (.iload_n 2, 1) := by decide +kernel
theorem dX12_letsOne_21 : decode cX12_letsOne 21 = .ok (.iload_n 3, 1) := by decide +kernel
theorem dX12_letsOne_22 : decode cX12_letsOne 22 = .ok (.invokevirtual 121, 3) := by decide +kernel
theorem dX12_letsOne_25 : decode cX12_letsOne 25 = .ok (.iconst 3, 1) := by decide +kernel
theorem dX12_letsOne_26 : decode cX12_letsOne 26 = .ok (.aload_n 0, 1) := by decide +kernel
theorem dX12_letsOne_27 : decode cX12_letsOne 27 = .ok (.getfield 28, 3) := by decide +kernel
theorem dX12_letsOne_30 : decode cX12_letsOne 30 = .ok (.iload 4, 2) := by decide +kernel
theorem dX12_letsOne_32 : decode cX12_letsOne 32 = .ok (.iconst 4, 1) := by decide +kernel
theorem dX12_letsOne_33 : decode cX12_letsOne 33 = .ok (.iadd, 1) := by decide +kernel
theorem dX12_letsOne_34 : decode cX12_letsOne 34 = .ok (.iaload, 1) := by decide +kernel
theorem dX12_letsOne_35 : decode cX12_letsOne 35 = .ok (.imul, 1) := by decide +kernel
theorem dX12_letsOne_36 : decode cX12_letsOne 36 = .ok (.if_icmp .gt 7, 3) := by decide +kernel
theorem dX12_letsOne_39 : decode cX12_letsOne 39 = .ok (.iconst 1, 1) := by decide +kernel
theorem dX12_letsOne_40 : decode cX12_letsOne 40 = .ok (.goto 4, 3) := by decide +kernel
theorem dX12_letsOne_43 : decode cX12_letsOne 43 = .ok (.iconst 0, 1) := by decide +kernel
theorem dX12_letsOne_44 : decode cX12_letsOne 44 = .ok (.istore 5, 2) := by decide +kernel
theorem dX12_letsOne_46 : decode cX12_letsOne 46 = .ok (.iconst 0, 1) := by decide +kernel
theorem dX12_letsOne_47 : decode cX12_letsOne 47 = .ok (.istore 6, 2) := by decide +kernel
theorem dX12_letsOne_49 : decode cX12_letsOne 49 = .ok (.iload 6, 2) := by decide +kernel
theorem dX12_letsOne_51 : decode cX12_letsOne 51 = .ok (.aload_n 0, 1) := by decide +kernel
theorem dX12_letsOne_52 : decode cX12_letsOne 52 = .ok (.getfield 65, 3) := by decide +kernel
theorem dX12_letsOne_55 : decode cX12_letsOne 55 = .ok (.if_icmp .ge 92, 3) := by decide +kernel
theorem dX12_letsOne_58 : decode cX12_letsOne 58 = .ok (.iload 5, 2) := by decide +kernel
theorem dX12_letsOne_60 : decode cX12_letsOne 60 = .ok (.ifCond .eq 87, 3) := by decide +kernel
theorem dX12_letsOne_63 : decode cX12_letsOne 63 = .ok (.aload_n 0, 1) := by decide +kernel
theorem dX12_letsOne_64 : decode cX12_letsOne 64 = .ok (.getfield 28, 3) := by decide +kernel
theorem dX12_letsOne_67 : decode cX12_letsOne 67 = .ok (.iload 4, 2) := by decide +kernel
theorem dX12_letsOne_69 : decode cX12_letsOne 69 = .ok (.iload 6, 2) := by decide +kernel
theorem dX12_letsOne_71 : decode cX12_letsOne 71 = .ok (.iadd, 1) := by decide +kernel
theorem dX12_letsOne_72 : decode cX12_letsOne 72 = .ok (.iaload, 1) := by decide +kernel
theorem dX12_letsOne_73 : decode cX12_letsOne 73 = .ok (.istore 7, 2) := by decide +kernel
theorem dX12_letsOne_75 : decode cX12_letsOne 75 = .ok (.aload_n 0, 1) := by decide +kernel
theorem dX12_letsOne_76 : decode cX12_letsOne 76 = .ok (.getfield 28, 3) := by decide +kernel
