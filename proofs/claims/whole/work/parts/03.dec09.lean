theorem dX12_truth_7 : decode cX12_truth 7 = .ok (.bipush (-103), 2) := by decide +kernel
theorem dX12_truth_9 : decode cX12_truth 9 = .ok (.ireturn, 1) := by decide +kernel
theorem dX12_truth_10 : decode cX12_truth 10 = .ok (.iload_n 1, 1) := by decide +kernel
theorem dX12_truth_11 : decode cX12_truth 11 = .ok (.i2l, 1) := by decide +kernel
theorem dX12_truth_12 : decode cX12_truth 12 = .ok (.lconst 0, 1) := by decide +kernel
theorem dX12_truth_13 : decode cX12_truth 13 = .ok (.lconst 1, 1) := by decide +kernel
theorem dX12_truth_14 : decode cX12_truth 14 = .ok (.invokestatic 68, 3) := by decide +kernel
theorem dX12_truth_17 : decode cX12_truth 17 = .ok (.ifCond .ne 6, 3) := by decide +kernel
theorem dX12_truth_20 : decode cX12_truth 20 = .ok (.bipush (-102), 2) := by decide +kernel
theorem dX12_truth_22 : decode cX12_truth 22 = .ok (.ireturn, 1) := by decide +kernel
theorem dX12_truth_23 : decode cX12_truth 23 = .ok (.aload_n 0, 1) := by decide +kernel
theorem dX12_truth_24 : decode cX12_truth 24 = .ok (.getfield 179, 3) := by decide +kernel
theorem dX12_truth_27 : decode cX12_truth 27 = .ok (.bipush 30, 2) := by decide +kernel
theorem dX12_truth_29 : decode cX12_truth 29 = .ok (.if_icmp .ne 6, 3) := by decide +kernel
theorem dX12_truth_32 : decode cX12_truth 32 = .ok (.bipush (-103), 2) := by decide +kernel
theorem dX12_truth_34 : decode cX12_truth 34 = .ok (.ireturn, 1) := by decide +kernel
theorem dX12_truth_35 : decode cX12_truth 35 = .ok (.aload_n 0, 1) := by decide +kernel
theorem dX12_truth_36 : decode cX12_truth 36 = .ok (.dup, 1) := by decide +kernel
theorem dX12_truth_37 : decode cX12_truth 37 = .ok (.getfield 179, 3) := by decide +kernel
theorem dX12_truth_40 : decode cX12_truth 40 = .ok (.iconst 1, 1) := by decide +kernel
theorem dX12_truth_41 : decode cX12_truth 41 = .ok (.iadd, 1) := by decide +kernel
theorem dX12_truth_42 : decode cX12_truth 42 = .ok (.putfield 179, 3) := by decide +kernel
theorem dX12_truth_45 : decode cX12_truth 45 = .ok (.aload_n 0, 1) := by decide +kernel
theorem dX12_truth_46 : decode cX12_truth 46 = .ok (.invokevirtual 105, 3) := by decide +kernel
theorem dX12_truth_49 : decode cX12_truth 49 = .ok (.aload_n 0, 1) := by decide +kernel
theorem dX12_truth_50 : decode cX12_truth 50 = .ok (.invokevirtual 91, 3) := by decide +kernel
theorem dX12_truth_53 : decode cX12_truth 53 = .ok (.if_icmp .ne 13, 3) := by decide +kernel
theorem dX12_truth_56 : decode cX12_truth 56 = .ok (.iload_n 1, 1) := by decide +kernel
theorem dX12_truth_57 : decode cX12_truth 57 = .ok (.ifCond .ne 7, 3) := by decide +kernel
theorem dX12_truth_60 : decode cX12_truth 60 = .ok (.iconst 0, 1) := by decide +kernel
theorem dX12_truth_61 : decode cX12_truth 61 = .ok (.goto 4, 3) := by decide +kernel
theorem dX12_truth_64 : decode cX12_truth 64 = .ok (.iconst (-1), 1) := by decide +kernel
theorem dX12_truth_65 : decode cX12_truth 65 = .ok (.ireturn, 1) := by decide +kernel
theorem dX12_truth_66 : decode cX12_truth 66 = .ok (.ldc 166, 2) := by decide +kernel
theorem dX12_truth_68 : decode cX12_truth 68 = .ok (.istore_n 2, 1) := by decide +kernel
theorem dX12_truth_69 : decode cX12_truth 69 = .ok (.iconst (-1), 1) := by decide +kernel
theorem dX12_truth_70 : decode cX12_truth 70 = .ok (.istore_n 3, 1) := by decide +kernel
theorem dX12_truth_71 : decode cX12_truth 71 = .ok (.iconst 0, 1) := by decide +kernel
theorem dX12_truth_72 : decode cX12_truth 72 = .ok (.istore 4, 2) := by decide +kernel
theorem dX12_truth_74 : decode cX12_truth 74 = .ok (.iload 4, 2) := by decide +kernel
theorem dX12_truth_76 : decode cX12_truth 76 = .ok (.aload_n 0, 1) := by decide +kernel
theorem dX12_truth_77 : decode cX12_truth 77 = .ok (.getfield 65, 3) := by decide +kernel
theorem dX12_truth_80 : decode cX12_truth 80 = .ok (.if_icmp .gt 43, 3) := by decide +kernel
theorem dX12_truth_83 : decode cX12_truth 83 = .ok (.aload_n 0, 1) := by decide +kernel
theorem dX12_truth_84 : decode cX12_truth 84 = .ok (.iload 4, 2) := by decide +kernel
theorem dX12_truth_86 : decode cX12_truth 86 = .ok (.invokevirtual 182, 3) := by decide +kernel
theorem dX12_truth_89 : decode cX12_truth 89 = .ok (.istore 5, 2) := by decide +kernel
theorem dX12_truth_91 : decode cX12_truth 91 = .ok (.iload 5, 2) := by decide +kernel
theorem dX12_truth_93 : decode cX12_truth 93 = .ok (.iload_n 2, 1) := by decide +kernel
theorem dX12_truth_94 : decode cX12_truth 94 = .ok (.if_icmp .ge 8, 3) := by decide +kernel
theorem dX12_truth_97 : decode cX12_truth 97 = .ok (.iload 4, 2) := by decide +kernel
theorem dX12_truth_99 : decode cX12_truth 99 = .ok (.goto 4, 3) := by decide +kernel
theorem dX12_truth_102 : decode cX12_truth 102 = .ok (.iload_n 3, 1) := by decide +kernel
theorem dX12_truth_103 : decode cX12_truth 103 = .ok (.istore_n 3, 1) := by decide +kernel
theorem dX12_truth_104 : decode cX12_truth 104 = .ok (.iload 5, 2) := by decide +kernel
theorem dX12_truth_106 : decode cX12_truth 106 = .ok (.iload_n 2, 1) := by decide +kernel
theorem dX12_truth_107 : decode cX12_truth 107 = .ok (.if_icmp .ge 8, 3) := by decide +kernel
theorem dX12_truth_110 : decode cX12_truth 110 = .ok (.iload 5, 2) := by decide +kernel
theorem dX12_truth_112 : decode cX12_truth 112 = .ok (.goto 4, 3) := by decide +kernel
theorem dX12_truth_115 : decode cX12_truth 115 = .ok (.iload_n 2, 1) := by decide +kernel
theorem dX12_truth_116 : decode cX12_truth 116 = .ok (.istore_n 2, 1) := by decide +kernel
theorem dX12_truth_117 : decode cX12_truth 117 = .ok (.iinc 4 1, 3) := by decide +kernel
theorem dX12_truth_120 : decode cX12_truth 120 = .ok (.goto (-46), 3) := by decide +kernel
theorem dX12_truth_123 : decode cX12_truth 123 = .ok (.iload_n 2, 1) := by decide +kernel
theorem dX12_truth_124 : decode cX12_truth 124 = .ok (.ldc 166, 2) := by decide +kernel
theorem dX12_truth_126 : decode cX12_truth 126 = .ok (.if_icmp .ne 5, 3) := by decide +kernel
theorem dX12_truth_129 : decode cX12_truth 129 = .ok (.iconst (-1), 1) := by decide +kernel
theorem dX12_truth_130 : decode cX12_truth 130 = .ok (.ireturn, 1) := by decide +kernel
theorem dX12_truth_131 : decode cX12_truth 131 = .ok (.iload_n 1, 1) := by decide +kernel
theorem dX12_truth_132 : decode cX12_truth 132 = .ok (.ifCond .ne 7, 3) := by decide +kernel
theorem dX12_truth_135 : decode cX12_truth 135 = .ok (.iload_n 2, 1) := by decide +kernel
theorem dX12_truth_136 : decode cX12_truth 136 = .ok (.goto 16, 3) := by decide +kernel
theorem dX12_truth_139 : decode cX12_truth 139 = .ok (.iload_n 3, 1) := by decide +kernel
theorem dX12_truth_140 : decode cX12_truth 140 = .ok (.aload_n 0, 1) := by decide +kernel
theorem dX12_truth_141 : decode cX12_truth 141 = .ok (.getfield 65, 3) := by decide +kernel
theorem dX12_truth_144 : decode cX12_truth 144 = .ok (.if_icmp .ne 7, 3) := by decide +kernel
theorem dX12_truth_147 : decode cX12_truth 147 = .ok (.iconst (-1), 1) := by decide +kernel
theorem dX12_truth_148 : decode cX12_truth 148 = .ok (.goto 4, 3) := by decide +kernel
theorem dX12_truth_151 : decode cX12_truth 151 = .ok (.iload_n 3, 1) := by decide +kernel
theorem dX12_truth_152 : decode cX12_truth 152 = .ok (.ireturn, 1) := by decide +kernel
theorem dX12_draw_0 : decode cX12_draw 0 = .ok (.aload_n 0, 1) := by decide +kernel
theorem dX12_draw_1 : decode cX12_draw 1 = .ok (.ldc2_w 185, 3) := by decide +kernel
theorem dX12_draw_4 : decode cX12_draw 4 = .ok (.aload_n 0, 1) := by decide +kernel
theorem dX12_draw_5 : decode cX12_draw 5 = .ok (.getfield 187, 3) := by decide +kernel
theorem dX12_draw_8 : decode cX12_draw 8 = .ok (.i2l, 1) := by decide +kernel
theorem dX12_draw_9 : decode cX12_draw 9 = .ok (.lmul, 1) := by decide +kernel
theorem dX12_draw_10 : decode cX12_draw 10 = .ok (.ldc2_w 190, 3) := by decide +kernel
theorem dX12_draw_13 : decode cX12_draw 13 = .ok (.ladd, 1) := by decide +kernel
theorem dX12_draw_14 : decode cX12_draw 14 = .ok (.ldc2_w 192, 3) := by decide +kernel
theorem dX12_draw_17 : decode cX12_draw 17 = .ok (.land, 1) := by decide +kernel
theorem dX12_draw_18 : decode cX12_draw 18 = .ok (.l2i, 1) := by decide +kernel
theorem dX12_draw_19 : decode cX12_draw 19 = .ok (.putfield 187, 3) := by decide +kernel
theorem dX12_draw_22 : decode cX12_draw 22 = .ok (.aload_n 0, 1) := by decide +kernel
theorem dX12_draw_23 : decode cX12_draw 23 = .ok (.getfield 187, 3) := by decide +kernel
theorem dX12_draw_26 : decode cX12_draw 26 = .ok (.ldc 194, 2) := by decide +kernel
theorem dX12_draw_28 : decode cX12_draw 28 = .ok (.idiv, 1) := by decide +kernel
theorem dX12_draw_29 : decode cX12_draw 29 = .ok (.iload_n 1, 1) := by decide +kernel
theorem dX12_draw_30 : decode cX12_draw 30 = .ok (.irem, 1) := by decide +kernel
theorem dX12_draw_31 : decode cX12_draw 31 = .ok (.ireturn, 1) := by decide +kernel
theorem dX12_copies_0 : decode cX12_copies 0 = .ok (.aload_n 0, 1) := by decide +kernel
theorem dX12_copies_1 : decode cX12_copies 1 = .ok (.invokevirtual 79, 3) := by decide +kernel
theorem dX12_copies_4 : decode cX12_copies 4 = .ok (.ifCond .eq 6, 3) := by decide +kernel
theorem dX12_copies_7 : decode cX12_copies 7 = .ok (.bipush (-103), 2) := by decide +kernel
theorem dX12_copies_9 : decode cX12_copies 9 = .ok (.ireturn, 1) := by decide +kernel
theorem dX12_copies_10 : decode cX12_copies 10 = .ok (.iload_n 1, 1) := by decide +kernel
theorem dX12_copies_11 : decode cX12_copies 11 = .ok (.i2l, 1) := by decide +kernel
theorem dX12_copies_12 : decode cX12_copies 12 = .ok (.lconst 1, 1) := by decide +kernel
theorem dX12_copies_13 : decode cX12_copies 13 = .ok (.ldc2_w 195, 3) := by decide +kernel
theorem dX12_copies_16 : decode cX12_copies 16 = .ok (.invokestatic 68, 3) := by decide +kernel
theorem dX12_copies_19 : decode cX12_copies 19 = .ok (.ifCond .eq 19, 3) := by decide +kernel
theorem dX12_copies_22 : decode cX12_copies 22 = .ok (.iload_n 2, 1) := by decide +kernel
theorem dX12_copies_23 : decode cX12_copies 23 = .ok (.ifCond .lt 15, 3) := by decide +kernel
theorem dX12_copies_26 : decode cX12_copies 26 = .ok (.iload_n 3, 1) := by decide +kernel
theorem dX12_copies_27 : decode cX12_copies 27 = .ok (.i2l, 1) := by decide +kernel
theorem dX12_copies_28 : decode cX12_copies 28 = .ok (.lconst 0, 1) := by decide +kernel
theorem dX12_copies_29 : decode cX12_copies 29 = .ok (.ldc2_w 197, 3) := by decide +kernel
theorem dX12_copies_32 : decode cX12_copies 32 = .ok (.invokestatic 68, 3) := by decide +kernel
theorem dX12_copies_35 : decode cX12_copies 35 = .ok (.ifCond .ne 6, 3) := by decide +kernel
theorem dX12_copies_38 : decode cX12_copies 38 = .ok (.bipush (-102), 2) := by decide +kernel
theorem dX12_copies_40 : decode cX12_copies 40 = .ok (.ireturn, 1) := by decide +kernel
theorem dX12_copies_41 : decode cX12_copies 41 = .ok (.aload_n 0, 1) := by decide +kernel
theorem dX12_copies_42 : decode cX12_copies 42 = .ok (.invokevirtual 124, 3) := by decide +kernel
theorem dX12_copies_45 : decode cX12_copies 45 = .ok (.aload_n 0, 1) := by decide +kernel
theorem dX12_copies_46 : decode cX12_copies 46 = .ok (.iload_n 2, 1) := by decide +kernel
theorem dX12_copies_47 : decode cX12_copies 47 = .ok (.putfield 187, 3) := by decide +kernel
theorem dX12_copies_50 : decode cX12_copies 50 = .ok (.aload_n 0, 1) := by decide +kernel
theorem dX12_copies_51 : decode cX12_copies 51 = .ok (.invokevirtual 91, 3) := by decide +kernel
theorem dX12_copies_54 : decode cX12_copies 54 = .ok (.istore 4, 2) := by decide +kernel
theorem dX12_copies_56 : decode cX12_copies 56 = .ok (.iconst 0, 1) := by decide +kernel
theorem dX12_copies_57 : decode cX12_copies 57 = .ok (.istore 5, 2) := by decide +kernel
theorem dX12_copies_59 : decode cX12_copies 59 = .ok (.iconst 0, 1) := by decide +kernel
theorem dX12_copies_60 : decode cX12_copies 60 = .ok (.istore 6, 2) := by decide +kernel
theorem dX12_copies_62 : decode cX12_copies 62 = .ok (.iload 6, 2) := by decide +kernel
theorem dX12_copies_64 : decode cX12_copies 64 = .ok (.iload_n 1, 1) := by decide +kernel
theorem dX12_copies_65 : decode cX12_copies 65 = .ok (.if_icmp .ge 67, 3) := by decide +kernel
theorem dX12_copies_68 : decode cX12_copies 68 = .ok (.aload_n 0, 1) := by decide +kernel
theorem dX12_copies_69 : decode cX12_copies 69 = .ok (.invokevirtual 127, 3) := by decide +kernel
theorem dX12_copies_72 : decode cX12_copies 72 = .ok (.aload_n 0, 1) := by decide +kernel
theorem dX12_copies_73 : decode cX12_copies 73 = .ok (.aload_n 0, 1) := by decide +kernel
theorem dX12_copies_74 : decode cX12_copies 74 = .ok (.getfield 65, 3) := by decide +kernel
theorem dX12_copies_77 : decode cX12_copies 77 = .ok (.invokevirtual 199, 3) := by decide +kernel
theorem dX12_copies_80 : decode cX12_copies 80 = .ok (.istore 7, 2) := by decide +kernel
theorem dX12_copies_82 : decode cX12_copies 82 = .ok (.aload_n 0, 1) := by decide +kernel
theorem dX12_copies_83 : decode cX12_copies 83 = .ok (.iconst 2, 1) := by decide +kernel
theorem dX12_copies_84 : decode cX12_copies 84 = .ok (.invokevirtual 199, 3) := by decide +kernel
theorem dX12_copies_87 : decode cX12_copies 87 = .ok (.istore 8, 2) := by decide +kernel
theorem dX12_copies_89 : decode cX12_copies 89 = .ok (.aload_n 0, 1) := by decide +kernel
theorem dX12_copies_90 : decode cX12_copies 90 = .ok (.iload 4, 2) := by decide +kernel
theorem dX12_copies_92 : decode cX12_copies 92 = .ok (.iload 7, 2) := by decide +kernel
theorem dX12_copies_94 : decode cX12_copies 94 = .ok (.iload 8, 2) := by decide +kernel
theorem dX12_copies_96 : decode cX12_copies 96 = .ok (.invokevirtual 170, 3) := by decide +kernel
theorem dX12_copies_99 : decode cX12_copies 99 = .ok (.istore 9, 2) := by decide +kernel
theorem dX12_copies_101 : decode cX12_copies 101 = .ok (.iload 9, 2) := by decide +kernel
theorem dX12_copies_103 : decode cX12_copies 103 = .ok (.iload 4, 2) := by decide +kernel
theorem dX12_copies_105 : decode cX12_copies 105 = .ok (.if_icmp .eq 21, 3) := by decide +kernel
theorem dX12_copies_108 : decode cX12_copies 108 = .ok (.aload_n 0, 1) := by decide +kernel
theorem dX12_copies_109 : decode cX12_copies 109 = .ok (.iload 4, 2) := by decide +kernel
theorem dX12_copies_111 : decode cX12_copies 111 = .ok (.iload 9, 2) := by decide +kernel
theorem dX12_copies_113 : decode cX12_copies 113 = .ok (.invokevirtual 130, 3) := by decide +kernel
theorem dX12_copies_116 : decode cX12_copies 116 = .ok (.ifCond .eq 10, 3) := by decide +kernel
theorem dX12_copies_119 : decode cX12_copies 119 = .ok (.iload 9, 2) := by decide +kernel
theorem dX12_copies_121 : decode cX12_copies 121 = .ok (.istore 4, 2) := by decide +kernel
theorem dX12_copies_123 : decode cX12_copies 123 = .ok (.iinc 5 1, 3) := by decide +kernel
theorem dX12_copies_126 : decode cX12_copies 126 = .ok (.iinc 6 1, 3) := by decide +kernel
theorem dX12_copies_129 : decode cX12_copies 129 = .ok (.goto (-67), 3) := by decide +kernel
theorem dX12_copies_132 : decode cX12_copies 132 = .ok (.aload_n 0, 1) := by decide +kernel
theorem dX12_copies_133 : decode cX12_copies 133 = .ok (.aload_n 0, 1) := by decide +kernel
theorem dX12_copies_134 : decode cX12_copies 134 = .ok (.invokevirtual 105, 3) := by decide +kernel
theorem dX12_copies_137 : decode cX12_copies 137 = .ok (.iload 4, 2) := by decide +kernel
theorem dX12_copies_139 : decode cX12_copies 139 = .ok (.invokevirtual 121, 3) := by decide +kernel
theorem dX12_copies_142 : decode cX12_copies 142 = .ok (.istore 6, 2) := by decide +kernel
theorem dX12_copies_144 : decode cX12_copies 144 = .ok (.aload_n 0, 1) := by decide +kernel
theorem dX12_copies_145 : decode cX12_copies 145 = .ok (.invokevirtual 134, 3) := by decide +kernel
theorem dX12_copies_148 : decode cX12_copies 148 = .ok (.iload_n 3, 1) := by decide +kernel
theorem dX12_copies_149 : decode cX12_copies 149 = .ok (.ifCond .ne 8, 3) := by decide +kernel
theorem dX12_copies_152 : decode cX12_copies 152 = .ok (.iload 4, 2) := by decide +kernel
theorem dX12_copies_154 : decode cX12_copies 154 = .ok (.goto 27, 3) := by decide +kernel
theorem dX12_copies_157 : decode cX12_copies 157 = .ok (.iload_n 3, 1) := by decide +kernel
theorem dX12_copies_158 : decode cX12_copies 158 = .ok (.iconst 1, 1) := by decide +kernel
theorem dX12_copies_159 : decode cX12_copies 159 = .ok (.if_icmp .ne 8, 3) := by decide +kernel
theorem dX12_copies_162 : decode cX12_copies 162 = .ok (.iload 6, 2) := by decide +kernel
theorem dX12_copies_164 : decode cX12_copies 164 = .ok (.goto 17, 3) := by decide +kernel
theorem dX12_copies_167 : decode cX12_copies 167 = .ok (.iload_n 3, 1) := by decide +kernel
theorem dX12_copies_168 : decode cX12_copies 168 = .ok (.iconst 2, 1) := by decide +kernel
theorem dX12_copies_169 : decode cX12_copies 169 = .ok (.if_icmp .ne 8, 3) := by decide +kernel
theorem dX12_copies_172 : decode cX12_copies 172 = .ok (.iload 5, 2) := by decide +kernel
theorem dX12_copies_174 : decode cX12_copies 174 = .ok (.goto 7, 3) := by decide +kernel
theorem dX12_copies_177 : decode cX12_copies 177 = .ok (.aload_n 0, 1) := by decide +kernel
theorem dX12_copies_178 : decode cX12_copies 178 = .ok (.getfield 187, 3) := by decide +kernel
theorem dX12_copies_181 : decode cX12_copies 181 = .ok (.ireturn, 1) := by decide +kernel
theorem dX12_backOf_0 : decode cX12_backOf 0 = .ok (.iconst 0, 1) := by decide +kernel
theorem dX12_backOf_1 : decode cX12_backOf 1 = .ok (.istore_n 2, 1) := by decide +kernel
theorem dX12_backOf_2 : decode cX12_backOf 2 = .ok (.iconst 0, 1) := by decide +kernel
theorem dX12_backOf_3 : decode cX12_backOf 3 = .ok (.istore_n 3, 1) := by decide +kernel
theorem dX12_backOf_4 : decode cX12_backOf 4 = .ok (.iload_n 3, 1) := by decide +kernel
theorem dX12_backOf_5 : decode cX12_backOf 5 = .ok (.aload_n 0, 1) := by decide +kernel
theorem dX12_backOf_6 : decode cX12_backOf 6 = .ok (.getfield 65, 3) := by decide +kernel
theorem dX12_backOf_9 : decode cX12_backOf 9 = .ok (.if_icmp .ge 22, 3) := by decide +kernel
theorem dX12_backOf_12 : decode cX12_backOf 12 = .ok (.iload_n 2, 1) := by decide +kernel
theorem dX12_backOf_13 : decode cX12_backOf 13 = .ok (.aload_n 0, 1) := by decide +kernel
theorem dX12_backOf_14 : decode cX12_backOf 14 = .ok (.iload_n 3, 1) := by decide +kernel
theorem dX12_backOf_15 : decode cX12_backOf 15 = .ok (.iload_n 1, 1) := by decide +kernel
theorem dX12_backOf_16 : decode cX12_backOf 16 = .ok (.aload_n 0, 1) := by decide +kernel
theorem dX12_backOf_17 : decode cX12_backOf 17 = .ok (.invokevirtual 91, 3) := by decide +kernel
theorem dX12_backOf_20 : decode cX12_backOf 20 = .ok (.invokevirtual 111, 3) := by decide +kernel
theorem dX12_backOf_23 : decode cX12_backOf 23 = .ok (.iadd, 1) := by decide +kernel
theorem dX12_backOf_24 : decode cX12_backOf 24 = .ok (.istore_n 2, 1) := by decide +kernel
theorem dX12_backOf_25 : decode cX12_backOf 25 = .ok (.iinc 3 1, 3) := by decide +kernel
theorem dX12_backOf_28 : decode cX12_backOf 28 = .ok (.goto (-24), 3) := by decide +kernel
theorem dX12_backOf_31 : decode cX12_backOf 31 = .ok (.iload_n 2, 1) := by decide +kernel
theorem dX12_backOf_32 : decode cX12_backOf 32 = .ok (.ireturn, 1) := by decide +kernel
theorem dX12_back_0 : decode cX12_back 0 = .ok (.aload_n 0, 1) := by decide +kernel
theorem dX12_back_1 : decode cX12_back 1 = .ok (.invokevirtual 79, 3) := by decide +kernel
theorem dX12_back_4 : decode cX12_back 4 = .ok (.ifCond .eq 6, 3) := by decide +kernel
theorem dX12_back_7 : decode cX12_back 7 = .ok (.bipush (-103), 2) := by decide +kernel
theorem dX12_back_9 : decode cX12_back 9 = .ok (.ireturn, 1) := by decide +kernel
theorem dX12_back_10 : decode cX12_back 10 = .ok (.aload_n 0, 1) := by decide +kernel
theorem dX12_back_11 : decode cX12_back 11 = .ok (.iload_n 1, 1) := by decide +kernel
theorem dX12_back_12 : decode cX12_back 12 = .ok (.invokevirtual 118, 3) := by decide +kernel
theorem dX12_back_15 : decode cX12_back 15 = .ok (.ifCond .eq 11, 3) := by decide +kernel
theorem dX12_back_18 : decode cX12_back 18 = .ok (.aload_n 0, 1) := by decide +kernel
theorem dX12_back_19 : decode cX12_back 19 = .ok (.iload_n 1, 1) := by decide +kernel
theorem dX12_back_20 : decode cX12_back 20 = .ok (.invokevirtual 202, 3) := by decide +kernel
theorem dX12_back_23 : decode cX12_back 23 = .ok (.goto 5, 3) := by decide +kernel
theorem dX12_back_26 : decode cX12_back 26 = .ok (.bipush (-102), 2) := by decide +kernel
theorem dX12_back_28 : decode cX12_back 28 = .ok (.ireturn, 1) := by decide +kernel
theorem dX12_spanOf_0 : decode cX12_spanOf 0 = .ok (.iconst 0, 1) := by decide +kernel
theorem dX12_spanOf_1 : decode cX12_spanOf 1 = .ok (.istore_n 2, 1) := by decide +kernel
theorem dX12_spanOf_2 : decode cX12_spanOf 2 = .ok (.iconst 0, 1) := by decide +kernel
theorem dX12_spanOf_3 : decode cX12_spanOf 3 = .ok (.istore_n 3, 1) := by decide +kernel
theorem dX12_spanOf_4 : decode cX12_spanOf 4 = .ok (.iload_n 3, 1) := by decide +kernel
theorem dX12_spanOf_5 : decode cX12_spanOf 5 = .ok (.aload_n 0, 1) := by decide +kernel
theorem dX12_spanOf_6 : decode cX12_spanOf 6 = .ok (.invokevirtual 83, 3) := by decide +kernel
theorem dX12_spanOf_9 : decode cX12_spanOf 9 = .ok (.if_icmp .ge 26, 3) := by decide +kernel
theorem dX12_spanOf_12 : decode cX12_spanOf 12 = .ok (.iload_n 2, 1) := by decide +kernel
theorem dX12_spanOf_13 : decode cX12_spanOf 13 = .ok (.aload_n 0, 1) := by decide +kernel
theorem dX12_spanOf_14 : decode cX12_spanOf 14 = .ok (.iload_n 3, 1) := by decide +kernel
theorem dX12_spanOf_15 : decode cX12_spanOf 15 = .ok (.invokevirtual 202, 3) := by decide +kernel
theorem dX12_spanOf_18 : decode cX12_spanOf 18 = .ok (.iload_n 1, 1) := by decide +kernel
theorem dX12_spanOf_19 : decode cX12_spanOf 19 = .ok (.if_icmp .gt 7, 3) := by decide +kernel
theorem dX12_spanOf_22 : decode cX12_spanOf 22 = .ok (.iconst 1, 1) := by decide +kernel
theorem dX12_spanOf_23 : decode cX12_spanOf 23 = .ok (.goto 4, 3) := by decide +kernel
theorem dX12_spanOf_26 : decode cX12_spanOf 26 = .ok (.iconst 0, 1) := by decide +kernel
theorem dX12_spanOf_27 : decode cX12_spanOf 27 = .ok (.iadd, 1) := by decide +kernel
theorem dX12_spanOf_28 : decode cX12_spanOf 28 = .ok (.istore_n 2, 1) := by decide +kernel
theorem dX12_spanOf_29 : decode cX12_spanOf 29 = .ok (.iinc 3 1, 3) := by decide +kernel
theorem dX12_spanOf_32 : decode cX12_spanOf 32 = .ok (.goto (-28), 3) := by decide +kernel
theorem dX12_spanOf_35 : decode cX12_spanOf 35 = .ok (.iload_n 2, 1) := by decide +kernel
theorem dX12_spanOf_36 : decode cX12_spanOf 36 = .ok (.ireturn, 1) := by decide +kernel
theorem dX12_span_0 : decode cX12_span 0 = .ok (.aload_n 0, 1) := by decide +kernel
theorem dX12_span_1 : decode cX12_span 1 = .ok (.invokevirtual 79, 3) := by decide +kernel
theorem dX12_span_4 : decode cX12_span 4 = .ok (.ifCond .eq 6, 3) := by decide +kernel
theorem dX12_span_7 : decode cX12_span 7 = .ok (.bipush (-103), 2) := by decide +kernel
theorem dX12_span_9 : decode cX12_span 9 = .ok (.ireturn, 1) := by decide +kernel
theorem dX12_span_10 : decode cX12_span 10 = .ok (.iload_n 1, 1) := by decide +kernel
theorem dX12_span_11 : decode cX12_span 11 = .ok (.i2l, 1) := by decide +kernel
theorem dX12_span_12 : decode cX12_span 12 = .ok (.lconst 0, 1) := by decide +kernel
theorem dX12_span_13 : decode cX12_span 13 = .ok (.ldc2_w 197, 3) := by decide +kernel
theorem dX12_span_16 : decode cX12_span 16 = .ok (.invokestatic 68, 3) := by decide +kernel
theorem dX12_span_19 : decode cX12_span 19 = .ok (.ifCond .eq 11, 3) := by decide +kernel
theorem dX12_span_22 : decode cX12_span 22 = .ok (.aload_n 0, 1) := by decide +kernel
theorem dX12_span_23 : decode cX12_span 23 = .ok (.iload_n 1, 1) := by decide +kernel
theorem dX12_span_24 : decode cX12_span 24 = .ok (.invokevirtual 205, 3) := by decide +kernel
theorem dX12_span_27 : decode cX12_span 27 = .ok (.goto 5, 3) := by decide +kernel
theorem dX12_span_30 : decode cX12_span 30 = .ok (.bipush (-102), 2) := by decide +kernel
theorem dX12_span_32 : decode cX12_span 32 = .ok (.ireturn, 1) := by decide +kernel
theorem dX12_person_0 : decode cX12_person 0 = .ok (.aload_n 0, 1) := by decide +kernel
theorem dX12_person_1 : decode cX12_person 1 = .ok (.invokevirtual 79, 3) := by decide +kernel
theorem dX12_person_4 : decode cX12_person 4 = .ok (.ifCond .eq 6, 3) := by decide +kernel
theorem dX12_person_7 : decode cX12_person 7 = .ok (.bipush (-103), 2) := by decide +kernel
theorem dX12_person_9 : decode cX12_person 9 = .ok (.ireturn, 1) := by decide +kernel
theorem dX12_person_10 : decode cX12_person 10 = .ok (.aload_n 0, 1) := by decide +kernel
theorem dX12_person_11 : decode cX12_person 11 = .ok (.iload_n 1, 1) := by decide +kernel
theorem dX12_person_12 : decode cX12_person 12 = .ok (.invokevirtual 118, 3) := by decide +kernel
theorem dX12_person_15 : decode cX12_person 15 = .ok (.ifCond .ne 6, 3) := by decide +kernel
theorem dX12_person_18 : decode cX12_person 18 = .ok (.bipush (-102), 2) := by decide +kernel
theorem dX12_person_20 : decode cX12_person 20 = .ok (.ireturn, 1) := by decide +kernel
theorem dX12_person_21 : decode cX12_person 21 = .ok (.aload_n 0, 1) := by decide +kernel
theorem dX12_person_22 : decode cX12_person 22 = .ok (.getfield 208, 3) := by decide +kernel
theorem dX12_person_25 : decode cX12_person 25 = .ok (.bipush 6, 2) := by decide +kernel
theorem dX12_person_27 : decode cX12_person 27 = .ok (.if_icmp .ne 6, 3) := by decide +kernel
theorem dX12_person_30 : decode cX12_person 30 = .ok (.bipush (-104), 2) := by decide +kernel
theorem dX12_person_32 : decode cX12_person 32 = .ok (.ireturn, 1) := by decide +kernel
theorem dX12_person_33 : decode cX12_person 33 = .ok (.aload_n 0, 1) := by decide +kernel
theorem dX12_person_34 : decode cX12_person 34 = .ok (.getfield 37, 3) := by decide +kernel
theorem dX12_person_37 : decode cX12_person 37 = .ok (.aload_n 0, 1) := by decide +kernel
theorem dX12_person_38 : decode cX12_person 38 = .ok (.getfield 208, 3) := by decide +kernel
theorem dX12_person_41 : decode cX12_person 41 = .ok (.iload_n 1, 1) := by decide +kernel
theorem dX12_person_42 : decode cX12_person 42 = .ok (.iastore, 1) := by decide +kernel
theorem dX12_person_43 : decode cX12_person 43 = .ok (.aload_n 0, 1) := by decide +kernel
theorem dX12_person_44 : decode cX12_person 44 = .ok (.dup, 1) := by decide +kernel
theorem dX12_person_45 : decode cX12_person 45 = .ok (.getfield 208, 3) := by decide +kernel
theorem dX12_person_48 : decode cX12_person 48 = .ok (.iconst 1, 1) := by decide +kernel
theorem dX12_person_49 : decode cX12_person 49 = .ok (.iadd, 1) := by decide +kernel
theorem dX12_person_50 : decode cX12_person 50 = .ok (.putfield 208, 3) := by decide +kernel
theorem dX12_person_53 : decode cX12_person 53 = .ok (.aload_n 0, 1) := by decide +kernel
theorem dX12_person_54 : decode cX12_person 54 = .ok (.getfield 208, 3) := by decide +kernel
theorem dX12_person_57 : decode cX12_person 57 = .ok (.iconst 1, 1) := by decide +kernel
theorem dX12_person_58 : decode cX12_person 58 = .ok (.isub, 1) := by decide +kernel
theorem dX12_person_59 : decode cX12_person 59 = .ok (.ireturn, 1) := by decide +kernel
theorem dX12_gateOf_0 : decode cX12_gateOf 0 = .ok (.iconst (-1), 1) := by decide +kernel
theorem dX12_gateOf_1 : decode cX12_gateOf 1 = .ok (.istore_n 1, 1) := by decide +kernel
theorem dX12_gateOf_2 : decode cX12_gateOf 2 = .ok (.iconst 0, 1) := by decide +kernel
theorem dX12_gateOf_3 : decode cX12_gateOf 3 = .ok (.istore_n 2, 1) := by decide +kernel
theorem dX12_gateOf_4 : decode cX12_gateOf 4 = .ok (.ldc 166, 2) := by decide +kernel
theorem dX12_gateOf_6 : decode cX12_gateOf 6 = .ok (.istore_n 3, 1) := by decide +kernel
theorem dX12_gateOf_7 : decode cX12_gateOf 7 = .ok (.iconst 0, 1) := by decide +kernel
theorem dX12_gateOf_8 : decode cX12_gateOf 8 = .ok (.istore 4, 2) := by decide +kernel
theorem dX12_gateOf_10 : decode cX12_gateOf 10 = .ok (.iload 4, 2) := by decide +kernel
theorem dX12_gateOf_12 : decode cX12_gateOf 12 = .ok (.aload_n 0, 1) := by decide +kernel
theorem dX12_gateOf_13 : decode cX12_gateOf 13 = .ok (.getfield 208, 3) := by decide +kernel
theorem dX12_gateOf_16 : decode cX12_gateOf 16 = .ok (.if_icmp .ge 121, 3) := by decide +kernel
theorem dX12_gateOf_19 : decode cX12_gateOf 19 = .ok (.aload_n 0, 1) := by decide +kernel
theorem dX12_gateOf_20 : decode cX12_gateOf 20 = .ok (.aload_n 0, 1) := by decide +kernel
theorem dX12_gateOf_21 : decode cX12_gateOf 21 = .ok (.invokevirtual 91, 3) := by decide +kernel
theorem dX12_gateOf_24 : decode cX12_gateOf 24 = .ok (.aload_n 0, 1) := by decide +kernel
theorem dX12_gateOf_25 : decode cX12_gateOf 25 = .ok (.getfield 37, 3) := by decide +kernel
theorem dX12_gateOf_28 : decode cX12_gateOf 28 = .ok (.iload 4, 2) := by decide +kernel
theorem dX12_gateOf_30 : decode cX12_gateOf 30 = .ok (.iaload, 1) := by decide +kernel
theorem dX12_gateOf_31 : decode cX12_gateOf 31 = .ok (.invokevirtual 163, 3) := by decide +kernel
theorem dX12_gateOf_34 : decode cX12_gateOf 34 = .ok (.istore 5, 2) := by decide +kernel
theorem dX12_gateOf_36 : decode cX12_gateOf 36 = .ok (.aload_n 0, 1) := by decide +kernel
theorem dX12_gateOf_37 : decode cX12_gateOf 37 = .ok (.aload_n 0, 1) := by decide +kernel
theorem dX12_gateOf_38 : decode cX12_gateOf 38 = .ok (.invokevirtual 91, 3) := by decide +kernel
theorem dX12_gateOf_41 : decode cX12_gateOf 41 = .ok (.aload_n 0, 1) := by decide +kernel
theorem dX12_gateOf_42 : decode cX12_gateOf 42 = .ok (.getfield 37, 3) := by decide +kernel
theorem dX12_gateOf_45 : decode cX12_gateOf 45 = .ok (.iload 4, 2) := by decide +kernel
theorem dX12_gateOf_47 : decode cX12_gateOf 47 = .ok (.iaload, 1) := by decide +kernel
theorem dX12_gateOf_48 : decode cX12_gateOf 48 = .ok (.invokevirtual 121, 3) := by decide +kernel
theorem dX12_gateOf_51 : decode cX12_gateOf 51 = .ok (.istore 6, 2) := by decide +kernel
theorem dX12_gateOf_53 : decode cX12_gateOf 53 = .ok (.iload 5, 2) := by decide +kernel
theorem dX12_gateOf_55 : decode cX12_gateOf 55 = .ok (.ifCond .gt 10, 3) := by decide +kernel
theorem dX12_gateOf_58 : decode cX12_gateOf 58 = .ok (.aload_n 0, 1) := by decide +kernel
theorem dX12_gateOf_59 : decode cX12_gateOf 59 = .ok (.getfield 154, 3) := by decide +kernel
theorem dX12_gateOf_62 : decode cX12_gateOf 62 = .ok (.ifCond .ne 30, 3) := by decide +kernel
theorem dX12_gateOf_65 : decode cX12_gateOf 65 = .ok (.iload_n 1, 1) := by decide +kernel
theorem dX12_gateOf_66 : decode cX12_gateOf 66 = .ok (.iconst (-1), 1) := by decide +kernel
theorem dX12_gateOf_67 : decode cX12_gateOf 67 = .ok (.if_icmp .eq 21, 3) := by decide +kernel
theorem dX12_gateOf_70 : decode cX12_gateOf 70 = .ok (.iload 5, 2) := by decide +kernel
theorem dX12_gateOf_72 : decode cX12_gateOf 72 = .ok (.iload_n 2, 1) := by decide +kernel
theorem dX12_gateOf_73 : decode cX12_gateOf 73 = .ok (.if_icmp .gt 15, 3) := by decide +kernel
theorem dX12_gateOf_76 : decode cX12_gateOf 76 = .ok (.iload 5, 2) := by decide +kernel
theorem dX12_gateOf_78 : decode cX12_gateOf 78 = .ok (.iload_n 2, 1) := by decide +kernel
theorem dX12_gateOf_79 : decode cX12_gateOf 79 = .ok (.if_icmp .ne 13, 3) := by decide +kernel
theorem dX12_gateOf_82 : decode cX12_gateOf 82 = .ok (.iload 6, 2) := by decide +kernel
theorem dX12_gateOf_84 : decode cX12_gateOf 84 = .ok (.iload_n 3, 1) := by decide +kernel
theorem dX12_gateOf_85 : decode cX12_gateOf 85 = .ok (.if_icmp .ge 7, 3) := by decide +kernel
theorem dX12_gateOf_88 : decode cX12_gateOf 88 = .ok (.iconst 1, 1) := by decide +kernel
theorem dX12_gateOf_89 : decode cX12_gateOf 89 = .ok (.goto 4, 3) := by decide +kernel
theorem dX12_gateOf_92 : decode cX12_gateOf 92 = .ok (.iconst 0, 1) := by decide +kernel
theorem dX12_gateOf_93 : decode cX12_gateOf 93 = .ok (.istore 7, 2) := by decide +kernel
theorem dX12_gateOf_95 : decode cX12_gateOf 95 = .ok (.iload 7, 2) := by decide +kernel
theorem dX12_gateOf_97 : decode cX12_gateOf 97 = .ok (.ifCond .eq 8, 3) := by decide +kernel
theorem dX12_gateOf_100 : decode cX12_gateOf 100 = .ok (.iload 4, 2) := by decide +kernel
theorem dX12_gateOf_102 : decode cX12_gateOf 102 = .ok (.goto 4, 3) := by decide +kernel
theorem dX12_gateOf_105 : decode cX12_gateOf 105 = .ok (.iload_n 1, 1) := by decide +kernel
theorem dX12_gateOf_106 : decode cX12_gateOf 106 = .ok (.istore_n 1, 1) := by decide +kernel
theorem dX12_gateOf_107 : decode cX12_gateOf 107 = .ok (.iload 7, 2) := by decide +kernel
theorem dX12_gateOf_109 : decode cX12_gateOf 109 = .ok (.ifCond .eq 8, 3) := by decide +kernel
theorem dX12_gateOf_112 : decode cX12_gateOf 112 = .ok (.iload 5, 2) := by decide +kernel
theorem dX12_gateOf_114 : decode cX12_gateOf 114 = .ok (.goto 4, 3) := by decide +kernel
theorem dX12_gateOf_117 : decode cX12_gateOf 117 = .ok (.iload_n 2, 1) := by decide +kernel
theorem dX12_gateOf_118 : decode cX12_gateOf 118 = .ok (.istore_n 2, 1) := by decide +kernel
theorem dX12_gateOf_119 : decode cX12_gateOf 119 = .ok (.iload 7, 2) := by decide +kernel
theorem dX12_gateOf_121 : decode cX12_gateOf 121 = .ok (.ifCond .eq 8, 3) := by decide +kernel
theorem dX12_gateOf_124 : decode cX12_gateOf 124 = .ok (.iload 6, 2) := by decide +kernel
theorem dX12_gateOf_126 : decode cX12_gateOf 126 = .ok (.goto 4, 3) := by decide +kernel
theorem dX12_gateOf_129 : decode cX12_gateOf 129 = .ok (.iload_n 3, 1) := by decide +kernel
theorem dX12_gateOf_130 : decode cX12_gateOf 130 = .ok (.istore_n 3, 1) := by decide +kernel
theorem dX12_gateOf_131 : decode cX12_gateOf 131 = .ok (.iinc 4 1, 3) := by decide +kernel
theorem dX12_gateOf_134 : decode cX12_gateOf 134 = .ok (.goto (-124), 3) := by decide +kernel
theorem dX12_gateOf_137 : decode cX12_gateOf 137 = .ok (.iload_n 1, 1) := by decide +kernel
theorem dX12_gateOf_138 : decode cX12_gateOf 138 = .ok (.ireturn, 1) := by decide +kernel
theorem dX12_gate_0 : decode cX12_gate 0 = .ok (.aload_n 0, 1) := by decide +kernel
theorem dX12_gate_1 : decode cX12_gate 1 = .ok (.invokevirtual 79, 3) := by decide +kernel
theorem dX12_gate_4 : decode cX12_gate 4 = .ok (.ifCond .eq 8, 3) := by decide +kernel
theorem dX12_gate_7 : decode cX12_gate 7 = .ok (.bipush (-103), 2) := by decide +kernel
theorem dX12_gate_9 : decode cX12_gate 9 = .ok (.goto 7, 3) := by decide +kernel
theorem dX12_gate_12 : decode cX12_gate 12 = .ok (.aload_n 0, 1) := by decide +kernel
theorem dX12_gate_13 : decode cX12_gate 13 = .ok (.invokevirtual 211, 3) := by decide +kernel
theorem dX12_gate_16 : decode cX12_gate 16 = .ok (.ireturn, 1) := by decide +kernel
theorem dX12_heap_0 : decode cX12_heap 0 = .ok (.aload_n 0, 1) := by decide +kernel
theorem dX12_heap_1 : decode cX12_heap 1 = .ok (.invokevirtual 79, 3) := by decide +kernel
theorem dX12_heap_4 : decode cX12_heap 4 = .ok (.ifCond .eq 6, 3) := by decide +kernel
theorem dX12_heap_7 : decode cX12_heap 7 = .ok (.bipush (-103), 2) := by decide +kernel
theorem dX12_heap_9 : decode cX12_heap 9 = .ok (.ireturn, 1) := by decide +kernel
theorem dX12_heap_10 : decode cX12_heap 10 = .ok (.aload_n 0, 1) := by decide +kernel
theorem dX12_heap_11 : decode cX12_heap 11 = .ok (.iload_n 1, 1) := by decide +kernel
theorem dX12_heap_12 : decode cX12_heap 12 = .ok (.invokevirtual 118, 3) := by decide +kernel
theorem dX12_heap_15 : decode cX12_heap 15 = .ok (.ifCond .ne 6, 3) := by decide +kernel
theorem dX12_heap_18 : decode cX12_heap 18 = .ok (.bipush (-102), 2) := by decide +kernel
theorem dX12_heap_20 : decode cX12_heap 20 = .ok (.ireturn, 1) := by decide +kernel
theorem dX12_heap_21 : decode cX12_heap 21 = .ok (.aload_n 0, 1) := by decide +kernel
theorem dX12_heap_22 : decode cX12_heap 22 = .ok (.getfield 214, 3) := by decide +kernel
theorem dX12_heap_25 : decode cX12_heap 25 = .ok (.bipush 6, 2) := by decide +kernel
theorem dX12_heap_27 : decode cX12_heap 27 = .ok (.if_icmp .ne 6, 3) := by decide +kernel
theorem dX12_heap_30 : decode cX12_heap 30 = .ok (.bipush (-104), 2) := by decide +kernel
theorem dX12_heap_32 : decode cX12_heap 32 = .ok (.ireturn, 1) := by decide +kernel
theorem dX12_heap_33 : decode cX12_heap 33 = .ok (.aload_n 0, 1) := by decide +kernel
theorem dX12_heap_34 : decode cX12_heap 34 = .ok (.getfield 40, 3) := by decide +kernel
theorem dX12_heap_37 : decode cX12_heap 37 = .ok (.aload_n 0, 1) := by decide +kernel
theorem dX12_heap_38 : decode cX12_heap 38 = .ok (.getfield 214, 3) := by decide +kernel
theorem dX12_heap_41 : decode cX12_heap 41 = .ok (.iload_n 1, 1) := by decide +kernel
theorem dX12_heap_42 : decode cX12_heap 42 = .ok (.iastore, 1) := by decide +kernel
theorem dX12_heap_43 : decode cX12_heap 43 = .ok (.aload_n 0, 1) := by decide +kernel
theorem dX12_heap_44 : decode cX12_heap 44 = .ok (.dup, 1) := by decide +kernel
theorem dX12_heap_45 : decode cX12_heap 45 = .ok (.getfield 214, 3) := by decide +kernel
theorem dX12_heap_48 : decode cX12_heap 48 = .ok (.iconst 1, 1) := by decide +kernel
theorem dX12_heap_49 : decode cX12_heap 49 = .ok (.iadd, 1) := by decide +kernel
theorem dX12_heap_50 : decode cX12_heap 50 = .ok (.putfield 214, 3) := by decide +kernel
theorem dX12_heap_53 : decode cX12_heap 53 = .ok (.aload_n 0, 1) := by decide +kernel
theorem dX12_heap_54 : decode cX12_heap 54 = .ok (.getfield 214, 3) := by decide +kernel
theorem dX12_heap_57 : decode cX12_heap 57 = .ok (.ireturn, 1) := by decide +kernel
theorem dX12_nextRow_0 : decode cX12_nextRow 0 = .ok (.aload_n 0, 1) := by decide +kernel
theorem dX12_nextRow_1 : decode cX12_nextRow 1 = .ok (.getfield 214, 3) := by decide +kernel
theorem dX12_nextRow_4 : decode cX12_nextRow 4 = .ok (.iconst 2, 1) := by decide +kernel
theorem dX12_nextRow_5 : decode cX12_nextRow 5 = .ok (.isub, 1) := by decide +kernel
theorem dX12_nextRow_6 : decode cX12_nextRow 6 = .ok (.istore_n 1, 1) := by decide +kernel
theorem dX12_nextRow_7 : decode cX12_nextRow 7 = .ok (.iload_n 1, 1) := by decide +kernel
theorem dX12_nextRow_8 : decode cX12_nextRow 8 = .ok (.ifCond .lt 26, 3) := by decide +kernel
theorem dX12_nextRow_11 : decode cX12_nextRow 11 = .ok (.aload_n 0, 1) := by decide +kernel
theorem dX12_nextRow_12 : decode cX12_nextRow 12 = .ok (.getfield 43, 3) := by decide +kernel
theorem dX12_nextRow_15 : decode cX12_nextRow 15 = .ok (.iload_n 1, 1) := by decide +kernel
theorem dX12_nextRow_16 : decode cX12_nextRow 16 = .ok (.iaload, 1) := by decide +kernel
theorem dX12_nextRow_17 : decode cX12_nextRow 17 = .ok (.aload_n 0, 1) := by decide +kernel
theorem dX12_nextRow_18 : decode cX12_nextRow 18 = .ok (.getfield 43, 3) := by decide +kernel
theorem dX12_nextRow_21 : decode cX12_nextRow 21 = .ok (.iload_n 1, 1) := by decide +kernel
theorem dX12_nextRow_22 : decode cX12_nextRow 22 = .ok (.iconst 1, 1) := by decide +kernel
theorem dX12_nextRow_23 : decode cX12_nextRow 23 = .ok (.iadd, 1) := by decide +kernel
theorem dX12_nextRow_24 : decode cX12_nextRow 24 = .ok (.iaload, 1) := by decide +kernel
theorem dX12_nextRow_25 : decode cX12_nextRow 25 = .ok (.if_icmp .le 9, 3) := by decide +kernel
theorem dX12_nextRow_28 : decode cX12_nextRow 28 = .ok (.iinc 1 (-1), 3) := by decide +kernel
theorem dX12_nextRow_31 : decode cX12_nextRow 31 = .ok (.goto (-24), 3) := by decide +kernel
theorem dX12_nextRow_34 : decode cX12_nextRow 34 = .ok (.iload_n 1, 1) := by decide +kernel
theorem dX12_nextRow_35 : decode cX12_nextRow 35 = .ok (.ifCond .ge 5, 3) := by decide +kernel
theorem dX12_nextRow_38 : decode cX12_nextRow 38 = .ok (.iconst 0, 1) := by decide +kernel
theorem dX12_nextRow_39 : decode cX12_nextRow 39 = .ok (.ireturn, 1) := by decide +kernel
theorem dX12_nextRow_40 : decode cX12_nextRow 40 = .ok (.aload_n 0, 1) := by decide +kernel
theorem dX12_nextRow_41 : decode cX12_nextRow 41 = .ok (.getfield 214, 3) := by decide +kernel
theorem dX12_nextRow_44 : decode cX12_nextRow 44 = .ok (.iconst 1, 1) := by decide +kernel
theorem dX12_nextRow_45 : decode cX12_nextRow 45 = .ok (.isub, 1) := by decide +kernel
theorem dX12_nextRow_46 : decode cX12_nextRow 46 = .ok (.istore_n 2, 1) := by decide +kernel
theorem dX12_nextRow_47 : decode cX12_nextRow 47 = .ok (.aload_n 0, 1) := by decide +kernel
theorem dX12_nextRow_48 : decode cX12_nextRow 48 = .ok (.getfield 43, 3) := by decide +kernel
theorem dX12_nextRow_51 : decode cX12_nextRow 51 = .ok (.iload_n 2, 1) := by decide +kernel
theorem dX12_nextRow_52 : decode cX12_nextRow 52 = .ok (.iaload, 1) := by decide +kernel
theorem dX12_nextRow_53 : decode cX12_nextRow 53 = .ok (.aload_n 0, 1) := by decide +kernel
theorem dX12_nextRow_54 : decode cX12_nextRow 54 = .ok (.getfield 43, 3) := by decide +kernel
theorem dX12_nextRow_57 : decode cX12_nextRow 57 = .ok (.iload_n 1, 1) := by decide +kernel
theorem dX12_nextRow_58 : decode cX12_nextRow 58 = .ok (.iaload, 1) := by decide +kernel
theorem dX12_nextRow_59 : decode cX12_nextRow 59 = .ok (.if_icmp .ge 9, 3) := by decide +kernel
theorem dX12_nextRow_62 : decode cX12_nextRow 62 = .ok (.iinc 2 (-1), 3) := by decide +kernel
theorem dX12_nextRow_65 : decode cX12_nextRow 65 = .ok (.goto (-18), 3) := by decide +kernel
theorem dX12_nextRow_68 : decode cX12_nextRow 68 = .ok (.aload_n 0, 1) := by decide +kernel
theorem dX12_nextRow_69 : decode cX12_nextRow 69 = .ok (.getfield 43, 3) := by decide +kernel
theorem dX12_nextRow_72 : decode cX12_nextRow 72 = .ok (.iload_n 1, 1) := by decide +kernel
theorem dX12_nextRow_73 : decode cX12_nextRow 73 = .ok (.iaload, 1) := by decide +kernel
theorem dX12_nextRow_74 : decode cX12_nextRow 74 = .ok (.istore_n 3, 1) := by decide +kernel
theorem dX12_nextRow_75 : decode cX12_nextRow 75 = .ok (.aload_n 0, 1) := by decide +kernel
theorem dX12_nextRow_76 : decode cX12_nextRow 76 = .ok (.getfield 43, 3) := by decide +kernel
theorem dX12_nextRow_79 : decode cX12_nextRow 79 = .ok (.iload_n 1, 1) := by decide +kernel
theorem dX12_nextRow_80 : decode cX12_nextRow 80 = .ok (.aload_n 0, 1) := by decide +kernel
theorem dX12_nextRow_81 : decode cX12_nextRow 81 = .ok (.getfield 43, 3) := by decide +kernel
theorem dX12_nextRow_84 : decode cX12_nextRow 84 = .ok (.iload_n 2, 1) := by decide +kernel
theorem dX12_nextRow_85 : decode cX12_nextRow 85 = .ok (.iaload, 1) := by decide +kernel
theorem dX12_nextRow_86 : decode cX12_nextRow 86 = .ok (.iastore, 1) := by decide +kernel
theorem dX12_nextRow_87 : decode cX12_nextRow 87 = .ok (.aload_n 0, 1) := by decide +kernel
theorem dX12_nextRow_88 : decode cX12_nextRow 88 = .ok (.getfield 43, 3) := by decide +kernel
theorem dX12_nextRow_91 : decode cX12_nextRow 91 = .ok (.iload_n 2, 1) := by decide +kernel
theorem dX12_nextRow_92 : decode cX12_nextRow 92 = .ok (.iload_n 3, 1) := by decide +kernel
theorem dX12_nextRow_93 : decode cX12_nextRow 93 = .ok (.iastore, 1) := by decide +kernel
theorem dX12_nextRow_94 : decode cX12_nextRow 94 = .ok (.aload_n 0, 1) := by decide +kernel
theorem dX12_nextRow_95 : decode cX12_nextRow 95 = .ok (.getfield 214, 3) := by decide +kernel
theorem dX12_nextRow_98 : decode cX12_nextRow 98 = .ok (.iconst 1, 1) := by decide +kernel
theorem dX12_nextRow_99 : decode cX12_nextRow 99 = .ok (.isub, 1) := by decide +kernel
theorem dX12_nextRow_100 : decode cX12_nextRow 100 = .ok (.istore 4, 2) := by decide +kernel
theorem dX12_nextRow_102 : decode cX12_nextRow 102 = .ok (.iload_n 1, 1) := by decide +kernel
theorem dX12_nextRow_103 : decode cX12_nextRow 103 = .ok (.iconst 1, 1) := by decide +kernel
theorem dX12_nextRow_104 : decode cX12_nextRow 104 = .ok (.iadd, 1) := by decide +kernel
theorem dX12_nextRow_105 : decode cX12_nextRow 105 = .ok (.istore 5, 2) := by decide +kernel
