theorem dX9_slipFrom_1 : decode cX9_slipFrom 1 = .ok (.istore_n 3, 1) := by decide +kernel
theorem dX9_slipFrom_2 : decode cX9_slipFrom 2 = .ok (.iload_n 3, 1) := by decide +kernel
theorem dX9_slipFrom_3 : decode cX9_slipFrom 3 = .ok (.aload_n 0, 1) := by decide +kernel
theorem dX9_slipFrom_4 : decode cX9_slipFrom 4 = .ok (.getfield 34, 3) := by decide +kernel
theorem dX9_slipFrom_7 : decode cX9_slipFrom 7 = .ok (.invokevirtual 52, 3) := by decide +kernel
theorem dX9_slipFrom_10 : decode cX9_slipFrom 10 = .ok (.if_icmp .ge 78, 3) := by decide +kernel
theorem dX9_slipFrom_13 : decode cX9_slipFrom 13 = .ok (.iconst (-1), 1) := by decide +kernel
theorem dX9_slipFrom_14 : decode cX9_slipFrom 14 = .ok (.istore 4, 2) := by decide +kernel
theorem dX9_slipFrom_16 : decode cX9_slipFrom 16 = .ok (.iload 4, 2) := by decide +kernel
theorem dX9_slipFrom_18 : decode cX9_slipFrom 18 = .ok (.iconst 1, 1) := by decide +kernel
theorem dX9_slipFrom_19 : decode cX9_slipFrom 19 = .ok (.if_icmp .gt 63, 3) := by decide +kernel
theorem dX9_slipFrom_22 : decode cX9_slipFrom 22 = .ok (.aload_n 0, 1) := by decide +kernel
theorem dX9_slipFrom_23 : decode cX9_slipFrom 23 = .ok (.getfield 34, 3) := by decide +kernel
theorem dX9_slipFrom_26 : decode cX9_slipFrom 26 = .ok (.iload_n 1, 1) := by decide +kernel
theorem dX9_slipFrom_27 : decode cX9_slipFrom 27 = .ok (.iload_n 3, 1) := by decide +kernel
theorem dX9_slipFrom_28 : decode cX9_slipFrom 28 = .ok (.iload 4, 2) := by decide +kernel
theorem dX9_slipFrom_30 : decode cX9_slipFrom 30 = .ok (.invokevirtual 57, 3) := by decide +kernel
theorem dX9_slipFrom_33 : decode cX9_slipFrom 33 = .ok (.istore 5, 2) := by decide +kernel
theorem dX9_slipFrom_35 : decode cX9_slipFrom 35 = .ok (.iload 5, 2) := by decide +kernel
theorem dX9_slipFrom_37 : decode cX9_slipFrom 37 = .ok (.iconst (-1), 1) := by decide +kernel
theorem dX9_slipFrom_38 : decode cX9_slipFrom 38 = .ok (.if_icmp .eq 38, 3) := by decide +kernel
theorem dX9_slipFrom_41 : decode cX9_slipFrom 41 = .ok (.aload_n 0, 1) := by decide +kernel
theorem dX9_slipFrom_42 : decode cX9_slipFrom 42 = .ok (.getfield 9, 3) := by decide +kernel
theorem dX9_slipFrom_45 : decode cX9_slipFrom 45 = .ok (.iload 5, 2) := by decide +kernel
theorem dX9_slipFrom_47 : decode cX9_slipFrom 47 = .ok (.iaload, 1) := by decide +kernel
theorem dX9_slipFrom_48 : decode cX9_slipFrom 48 = .ok (.aload_n 0, 1) := by decide +kernel
theorem dX9_slipFrom_49 : decode cX9_slipFrom 49 = .ok (.getfield 15, 3) := by decide +kernel
theorem dX9_slipFrom_52 : decode cX9_slipFrom 52 = .ok (.if_icmp .eq 24, 3) := by decide +kernel
theorem dX9_slipFrom_55 : decode cX9_slipFrom 55 = .ok (.aload_n 0, 1) := by decide +kernel
theorem dX9_slipFrom_56 : decode cX9_slipFrom 56 = .ok (.getfield 38, 3) := by decide +kernel
theorem dX9_slipFrom_59 : decode cX9_slipFrom 59 = .ok (.iload_n 1, 1) := by decide +kernel
theorem dX9_slipFrom_60 : decode cX9_slipFrom 60 = .ok (.iload 5, 2) := by decide +kernel
theorem dX9_slipFrom_62 : decode cX9_slipFrom 62 = .ok (.iload_n 2, 1) := by decide +kernel
theorem dX9_slipFrom_63 : decode cX9_slipFrom 63 = .ok (.invokevirtual 61, 3) := by decide +kernel
theorem dX9_slipFrom_66 : decode cX9_slipFrom 66 = .ok (.ifCond .eq 10, 3) := by decide +kernel
theorem dX9_slipFrom_69 : decode cX9_slipFrom 69 = .ok (.aload_n 0, 1) := by decide +kernel
theorem dX9_slipFrom_70 : decode cX9_slipFrom 70 = .ok (.iload 5, 2) := by decide +kernel
theorem dX9_slipFrom_72 : decode cX9_slipFrom 72 = .ok (.iconst 0, 1) := by decide +kernel
theorem dX9_slipFrom_73 : decode cX9_slipFrom 73 = .ok (.invokevirtual 45, 3) := by decide +kernel
theorem dX9_slipFrom_76 : decode cX9_slipFrom 76 = .ok (.iinc 4 2, 3) := by decide +kernel
theorem dX9_slipFrom_79 : decode cX9_slipFrom 79 = .ok (.goto (-63), 3) := by decide +kernel
theorem dX9_slipFrom_82 : decode cX9_slipFrom 82 = .ok (.iinc 3 1, 3) := by decide +kernel
theorem dX9_slipFrom_85 : decode cX9_slipFrom 85 = .ok (.goto (-83), 3) := by decide +kernel
theorem dX9_slipFrom_88 : decode cX9_slipFrom 88 = .ok (.return_, 1) := by decide +kernel
theorem dX9_seekTruth_0 : decode cX9_seekTruth 0 = .ok (.aload_n 0, 1) := by decide +kernel
theorem dX9_seekTruth_1 : decode cX9_seekTruth 1 = .ok (.iload_n 1, 1) := by decide +kernel
theorem dX9_seekTruth_2 : decode cX9_seekTruth 2 = .ok (.iload_n 2, 1) := by decide +kernel
theorem dX9_seekTruth_3 : decode cX9_seekTruth 3 = .ok (.if_icmp .ne 7, 3) := by decide +kernel
theorem dX9_seekTruth_6 : decode cX9_seekTruth 6 = .ok (.iconst 0, 1) := by decide +kernel
theorem dX9_seekTruth_7 : decode cX9_seekTruth 7 = .ok (.goto 4, 3) := by decide +kernel
theorem dX9_seekTruth_10 : decode cX9_seekTruth 10 = .ok (.iconst (-1), 1) := by decide +kernel
theorem dX9_seekTruth_11 : decode cX9_seekTruth 11 = .ok (.putfield 28, 3) := by decide +kernel
theorem dX9_seekTruth_14 : decode cX9_seekTruth 14 = .ok (.aload_n 0, 1) := by decide +kernel
theorem dX9_seekTruth_15 : decode cX9_seekTruth 15 = .ok (.iconst (-1), 1) := by decide +kernel
theorem dX9_seekTruth_16 : decode cX9_seekTruth 16 = .ok (.putfield 31, 3) := by decide +kernel
theorem dX9_seekTruth_19 : decode cX9_seekTruth 19 = .ok (.aload_n 0, 1) := by decide +kernel
theorem dX9_seekTruth_20 : decode cX9_seekTruth 20 = .ok (.invokevirtual 42, 3) := by decide +kernel
theorem dX9_seekTruth_23 : decode cX9_seekTruth 23 = .ok (.aload_n 0, 1) := by decide +kernel
theorem dX9_seekTruth_24 : decode cX9_seekTruth 24 = .ok (.iload_n 1, 1) := by decide +kernel
theorem dX9_seekTruth_25 : decode cX9_seekTruth 25 = .ok (.iconst 0, 1) := by decide +kernel
theorem dX9_seekTruth_26 : decode cX9_seekTruth 26 = .ok (.invokevirtual 45, 3) := by decide +kernel
theorem dX9_seekTruth_29 : decode cX9_seekTruth 29 = .ok (.iload_n 2, 1) := by decide +kernel
theorem dX9_seekTruth_30 : decode cX9_seekTruth 30 = .ok (.istore_n 3, 1) := by decide +kernel
theorem dX9_seekTruth_31 : decode cX9_seekTruth 31 = .ok (.iconst 1, 1) := by decide +kernel
theorem dX9_seekTruth_32 : decode cX9_seekTruth 32 = .ok (.istore 4, 2) := by decide +kernel
theorem dX9_seekTruth_34 : decode cX9_seekTruth 34 = .ok (.iload 4, 2) := by decide +kernel
theorem dX9_seekTruth_36 : decode cX9_seekTruth 36 = .ok (.bipush 12, 2) := by decide +kernel
theorem dX9_seekTruth_38 : decode cX9_seekTruth 38 = .ok (.if_icmp .gt 70, 3) := by decide +kernel
theorem dX9_seekTruth_41 : decode cX9_seekTruth 41 = .ok (.aload_n 0, 1) := by decide +kernel
theorem dX9_seekTruth_42 : decode cX9_seekTruth 42 = .ok (.getfield 28, 3) := by decide +kernel
theorem dX9_seekTruth_45 : decode cX9_seekTruth 45 = .ok (.iconst (-1), 1) := by decide +kernel
theorem dX9_seekTruth_46 : decode cX9_seekTruth 46 = .ok (.if_icmp .ne 62, 3) := by decide +kernel
theorem dX9_seekTruth_49 : decode cX9_seekTruth 49 = .ok (.aload_n 0, 1) := by decide +kernel
theorem dX9_seekTruth_50 : decode cX9_seekTruth 50 = .ok (.getfield 34, 3) := by decide +kernel
theorem dX9_seekTruth_53 : decode cX9_seekTruth 53 = .ok (.iload_n 3, 1) := by decide +kernel
theorem dX9_seekTruth_54 : decode cX9_seekTruth 54 = .ok (.invokevirtual 67, 3) := by decide +kernel
theorem dX9_seekTruth_57 : decode cX9_seekTruth 57 = .ok (.istore_n 3, 1) := by decide +kernel
theorem dX9_seekTruth_58 : decode cX9_seekTruth 58 = .ok (.aload_n 0, 1) := by decide +kernel
theorem dX9_seekTruth_59 : decode cX9_seekTruth 59 = .ok (.iload_n 3, 1) := by decide +kernel
theorem dX9_seekTruth_60 : decode cX9_seekTruth 60 = .ok (.iload 4, 2) := by decide +kernel
theorem dX9_seekTruth_62 : decode cX9_seekTruth 62 = .ok (.iconst 1, 1) := by decide +kernel
theorem dX9_seekTruth_63 : decode cX9_seekTruth 63 = .ok (.if_icmp .ne 7, 3) := by decide +kernel
theorem dX9_seekTruth_66 : decode cX9_seekTruth 66 = .ok (.iconst 1, 1) := by decide +kernel
theorem dX9_seekTruth_67 : decode cX9_seekTruth 67 = .ok (.goto 4, 3) := by decide +kernel
theorem dX9_seekTruth_70 : decode cX9_seekTruth 70 = .ok (.iconst 0, 1) := by decide +kernel
theorem dX9_seekTruth_71 : decode cX9_seekTruth 71 = .ok (.invokevirtual 71, 3) := by decide +kernel
theorem dX9_seekTruth_74 : decode cX9_seekTruth 74 = .ok (.aload_n 0, 1) := by decide +kernel
theorem dX9_seekTruth_75 : decode cX9_seekTruth 75 = .ok (.getfield 9, 3) := by decide +kernel
theorem dX9_seekTruth_78 : decode cX9_seekTruth 78 = .ok (.iload_n 3, 1) := by decide +kernel
theorem dX9_seekTruth_79 : decode cX9_seekTruth 79 = .ok (.iaload, 1) := by decide +kernel
theorem dX9_seekTruth_80 : decode cX9_seekTruth 80 = .ok (.aload_n 0, 1) := by decide +kernel
theorem dX9_seekTruth_81 : decode cX9_seekTruth 81 = .ok (.getfield 15, 3) := by decide +kernel
theorem dX9_seekTruth_84 : decode cX9_seekTruth 84 = .ok (.if_icmp .ne 18, 3) := by decide +kernel
theorem dX9_seekTruth_87 : decode cX9_seekTruth 87 = .ok (.aload_n 0, 1) := by decide +kernel
theorem dX9_seekTruth_88 : decode cX9_seekTruth 88 = .ok (.iload 4, 2) := by decide +kernel
theorem dX9_seekTruth_90 : decode cX9_seekTruth 90 = .ok (.putfield 28, 3) := by decide +kernel
theorem dX9_seekTruth_93 : decode cX9_seekTruth 93 = .ok (.aload_n 0, 1) := by decide +kernel
theorem dX9_seekTruth_94 : decode cX9_seekTruth 94 = .ok (.aload_n 0, 1) := by decide +kernel
theorem dX9_seekTruth_95 : decode cX9_seekTruth 95 = .ok (.iload_n 3, 1) := by decide +kernel
theorem dX9_seekTruth_96 : decode cX9_seekTruth 96 = .ok (.invokevirtual 75, 3) := by decide +kernel
theorem dX9_seekTruth_99 : decode cX9_seekTruth 99 = .ok (.putfield 31, 3) := by decide +kernel
theorem dX9_seekTruth_102 : decode cX9_seekTruth 102 = .ok (.iinc 4 1, 3) := by decide +kernel
theorem dX9_seekTruth_105 : decode cX9_seekTruth 105 = .ok (.goto (-71), 3) := by decide +kernel
theorem dX9_seekTruth_108 : decode cX9_seekTruth 108 = .ok (.return_, 1) := by decide +kernel
theorem dX9_passYear_0 : decode cX9_passYear 0 = .ok (.aload_n 0, 1) := by decide +kernel
theorem dX9_passYear_1 : decode cX9_passYear 1 = .ok (.getfield 19, 3) := by decide +kernel
theorem dX9_passYear_4 : decode cX9_passYear 4 = .ok (.astore_n 3, 1) := by decide +kernel
theorem dX9_passYear_5 : decode cX9_passYear 5 = .ok (.aload_n 0, 1) := by decide +kernel
theorem dX9_passYear_6 : decode cX9_passYear 6 = .ok (.getfield 25, 3) := by decide +kernel
theorem dX9_passYear_9 : decode cX9_passYear 9 = .ok (.istore 4, 2) := by decide +kernel
theorem dX9_passYear_11 : decode cX9_passYear 11 = .ok (.aload_n 0, 1) := by decide +kernel
theorem dX9_passYear_12 : decode cX9_passYear 12 = .ok (.aload_n 0, 1) := by decide +kernel
theorem dX9_passYear_13 : decode cX9_passYear 13 = .ok (.getfield 22, 3) := by decide +kernel
theorem dX9_passYear_16 : decode cX9_passYear 16 = .ok (.putfield 19, 3) := by decide +kernel
theorem dX9_passYear_19 : decode cX9_passYear 19 = .ok (.aload_n 0, 1) := by decide +kernel
theorem dX9_passYear_20 : decode cX9_passYear 20 = .ok (.aload_n 3, 1) := by decide +kernel
theorem dX9_passYear_21 : decode cX9_passYear 21 = .ok (.putfield 22, 3) := by decide +kernel
theorem dX9_passYear_24 : decode cX9_passYear 24 = .ok (.aload_n 0, 1) := by decide +kernel
theorem dX9_passYear_25 : decode cX9_passYear 25 = .ok (.invokevirtual 42, 3) := by decide +kernel
theorem dX9_passYear_28 : decode cX9_passYear 28 = .ok (.iconst 0, 1) := by decide +kernel
theorem dX9_passYear_29 : decode cX9_passYear 29 = .ok (.istore 5, 2) := by decide +kernel
theorem dX9_passYear_31 : decode cX9_passYear 31 = .ok (.iload 5, 2) := by decide +kernel
theorem dX9_passYear_33 : decode cX9_passYear 33 = .ok (.iload 4, 2) := by decide +kernel
theorem dX9_passYear_35 : decode cX9_passYear 35 = .ok (.if_icmp .ge 145, 3) := by decide +kernel
theorem dX9_passYear_38 : decode cX9_passYear 38 = .ok (.aload_n 3, 1) := by decide +kernel
theorem dX9_passYear_39 : decode cX9_passYear 39 = .ok (.iload 5, 2) := by decide +kernel
theorem dX9_passYear_41 : decode cX9_passYear 41 = .ok (.iaload, 1) := by decide +kernel
theorem dX9_passYear_42 : decode cX9_passYear 42 = .ok (.sipush 10000, 3) := by decide +kernel
theorem dX9_passYear_45 : decode cX9_passYear 45 = .ok (.irem, 1) := by decide +kernel
theorem dX9_passYear_46 : decode cX9_passYear 46 = .ok (.istore 6, 2) := by decide +kernel
theorem dX9_passYear_48 : decode cX9_passYear 48 = .ok (.aload_n 3, 1) := by decide +kernel
theorem dX9_passYear_49 : decode cX9_passYear 49 = .ok (.iload 5, 2) := by decide +kernel
theorem dX9_passYear_51 : decode cX9_passYear 51 = .ok (.iaload, 1) := by decide +kernel
theorem dX9_passYear_52 : decode cX9_passYear 52 = .ok (.sipush 10000, 3) := by decide +kernel
theorem dX9_passYear_55 : decode cX9_passYear 55 = .ok (.idiv, 1) := by decide +kernel
theorem dX9_passYear_56 : decode cX9_passYear 56 = .ok (.istore 7, 2) := by decide +kernel
theorem dX9_passYear_58 : decode cX9_passYear 58 = .ok (.iconst 0, 1) := by decide +kernel
theorem dX9_passYear_59 : decode cX9_passYear 59 = .ok (.istore 8, 2) := by decide +kernel
theorem dX9_passYear_61 : decode cX9_passYear 61 = .ok (.iload 8, 2) := by decide +kernel
theorem dX9_passYear_63 : decode cX9_passYear 63 = .ok (.aload_n 0, 1) := by decide +kernel
theorem dX9_passYear_64 : decode cX9_passYear 64 = .ok (.getfield 34, 3) := by decide +kernel
theorem dX9_passYear_67 : decode cX9_passYear 67 = .ok (.invokevirtual 52, 3) := by decide +kernel
theorem dX9_passYear_70 : decode cX9_passYear 70 = .ok (.if_icmp .ge 74, 3) := by decide +kernel
theorem dX9_passYear_73 : decode cX9_passYear 73 = .ok (.aload_n 0, 1) := by decide +kernel
theorem dX9_passYear_74 : decode cX9_passYear 74 = .ok (.getfield 34, 3) := by decide +kernel
theorem dX9_passYear_77 : decode cX9_passYear 77 = .ok (.iload 6, 2) := by decide +kernel
theorem dX9_passYear_79 : decode cX9_passYear 79 = .ok (.iload 8, 2) := by decide +kernel
theorem dX9_passYear_81 : decode cX9_passYear 81 = .ok (.iload_n 1, 1) := by decide +kernel
theorem dX9_passYear_82 : decode cX9_passYear 82 = .ok (.iload 8, 2) := by decide +kernel
theorem dX9_passYear_84 : decode cX9_passYear 84 = .ok (.invokestatic 78, 3) := by decide +kernel
theorem dX9_passYear_87 : decode cX9_passYear 87 = .ok (.invokevirtual 82, 3) := by decide +kernel
theorem dX9_passYear_90 : decode cX9_passYear 90 = .ok (.istore 9, 2) := by decide +kernel
theorem dX9_passYear_92 : decode cX9_passYear 92 = .ok (.aload_n 0, 1) := by decide +kernel
theorem dX9_passYear_93 : decode cX9_passYear 93 = .ok (.getfield 9, 3) := by decide +kernel
theorem dX9_passYear_96 : decode cX9_passYear 96 = .ok (.iload 9, 2) := by decide +kernel
theorem dX9_passYear_98 : decode cX9_passYear 98 = .ok (.iaload, 1) := by decide +kernel
theorem dX9_passYear_99 : decode cX9_passYear 99 = .ok (.aload_n 0, 1) := by decide +kernel
theorem dX9_passYear_100 : decode cX9_passYear 100 = .ok (.getfield 15, 3) := by decide +kernel
theorem dX9_passYear_103 : decode cX9_passYear 103 = .ok (.if_icmp .eq 35, 3) := by decide +kernel
theorem dX9_passYear_106 : decode cX9_passYear 106 = .ok (.aload_n 0, 1) := by decide +kernel
theorem dX9_passYear_107 : decode cX9_passYear 107 = .ok (.getfield 38, 3) := by decide +kernel
theorem dX9_passYear_110 : decode cX9_passYear 110 = .ok (.iload 6, 2) := by decide +kernel
theorem dX9_passYear_112 : decode cX9_passYear 112 = .ok (.iload 9, 2) := by decide +kernel
theorem dX9_passYear_114 : decode cX9_passYear 114 = .ok (.iload_n 1, 1) := by decide +kernel
theorem dX9_passYear_115 : decode cX9_passYear 115 = .ok (.invokevirtual 61, 3) := by decide +kernel
theorem dX9_passYear_118 : decode cX9_passYear 118 = .ok (.ifCond .eq 20, 3) := by decide +kernel
theorem dX9_passYear_121 : decode cX9_passYear 121 = .ok (.aload_n 0, 1) := by decide +kernel
theorem dX9_passYear_122 : decode cX9_passYear 122 = .ok (.iload 9, 2) := by decide +kernel
theorem dX9_passYear_124 : decode cX9_passYear 124 = .ok (.iload_n 2, 1) := by decide +kernel
theorem dX9_passYear_125 : decode cX9_passYear 125 = .ok (.ifCond .eq 8, 3) := by decide +kernel
theorem dX9_passYear_128 : decode cX9_passYear 128 = .ok (.iload 8, 2) := by decide +kernel
theorem dX9_passYear_130 : decode cX9_passYear 130 = .ok (.goto 5, 3) := by decide +kernel
theorem dX9_passYear_133 : decode cX9_passYear 133 = .ok (.iload 7, 2) := by decide +kernel
theorem dX9_passYear_135 : decode cX9_passYear 135 = .ok (.invokevirtual 45, 3) := by decide +kernel
theorem dX9_passYear_138 : decode cX9_passYear 138 = .ok (.iinc 8 1, 3) := by decide +kernel
theorem dX9_passYear_141 : decode cX9_passYear 141 = .ok (.goto (-80), 3) := by decide +kernel
theorem dX9_passYear_144 : decode cX9_passYear 144 = .ok (.aload_n 0, 1) := by decide +kernel
theorem dX9_passYear_145 : decode cX9_passYear 145 = .ok (.getfield 9, 3) := by decide +kernel
theorem dX9_passYear_148 : decode cX9_passYear 148 = .ok (.iload 6, 2) := by decide +kernel
theorem dX9_passYear_150 : decode cX9_passYear 150 = .ok (.iaload, 1) := by decide +kernel
theorem dX9_passYear_151 : decode cX9_passYear 151 = .ok (.aload_n 0, 1) := by decide +kernel
theorem dX9_passYear_152 : decode cX9_passYear 152 = .ok (.getfield 15, 3) := by decide +kernel
theorem dX9_passYear_155 : decode cX9_passYear 155 = .ok (.if_icmp .eq 19, 3) := by decide +kernel
theorem dX9_passYear_158 : decode cX9_passYear 158 = .ok (.aload_n 0, 1) := by decide +kernel
theorem dX9_passYear_159 : decode cX9_passYear 159 = .ok (.iload 6, 2) := by decide +kernel
theorem dX9_passYear_161 : decode cX9_passYear 161 = .ok (.iload_n 2, 1) := by decide +kernel
theorem dX9_passYear_162 : decode cX9_passYear 162 = .ok (.ifCond .eq 7, 3) := by decide +kernel
theorem dX9_passYear_165 : decode cX9_passYear 165 = .ok (.iconst 4, 1) := by decide +kernel
theorem dX9_passYear_166 : decode cX9_passYear 166 = .ok (.goto 5, 3) := by decide +kernel
theorem dX9_passYear_169 : decode cX9_passYear 169 = .ok (.iload 7, 2) := by decide +kernel
theorem dX9_passYear_171 : decode cX9_passYear 171 = .ok (.invokevirtual 45, 3) := by decide +kernel
theorem dX9_passYear_174 : decode cX9_passYear 174 = .ok (.iinc 5 1, 3) := by decide +kernel
theorem dX9_passYear_177 : decode cX9_passYear 177 = .ok (.goto (-146), 3) := by decide +kernel
theorem dX9_passYear_180 : decode cX9_passYear 180 = .ok (.return_, 1) := by decide +kernel
theorem dX9_firstOf_0 : decode cX9_firstOf 0 = .ok (.iconst 0, 1) := by decide +kernel
theorem dX9_firstOf_1 : decode cX9_firstOf 1 = .ok (.istore_n 2, 1) := by decide +kernel
theorem dX9_firstOf_2 : decode cX9_firstOf 2 = .ok (.iload_n 2, 1) := by decide +kernel
theorem dX9_firstOf_3 : decode cX9_firstOf 3 = .ok (.aload_n 0, 1) := by decide +kernel
theorem dX9_firstOf_4 : decode cX9_firstOf 4 = .ok (.getfield 25, 3) := by decide +kernel
theorem dX9_firstOf_7 : decode cX9_firstOf 7 = .ok (.if_icmp .ge 45, 3) := by decide +kernel
theorem dX9_firstOf_10 : decode cX9_firstOf 10 = .ok (.aload_n 0, 1) := by decide +kernel
theorem dX9_firstOf_11 : decode cX9_firstOf 11 = .ok (.getfield 19, 3) := by decide +kernel
theorem dX9_firstOf_14 : decode cX9_firstOf 14 = .ok (.iload_n 2, 1) := by decide +kernel
theorem dX9_firstOf_15 : decode cX9_firstOf 15 = .ok (.iaload, 1) := by decide +kernel
theorem dX9_firstOf_16 : decode cX9_firstOf 16 = .ok (.sipush 10000, 3) := by decide +kernel
theorem dX9_firstOf_19 : decode cX9_firstOf 19 = .ok (.irem, 1) := by decide +kernel
theorem dX9_firstOf_20 : decode cX9_firstOf 20 = .ok (.iload_n 1, 1) := by decide +kernel
theorem dX9_firstOf_21 : decode cX9_firstOf 21 = .ok (.if_icmp .ne 25, 3) := by decide +kernel
theorem dX9_firstOf_24 : decode cX9_firstOf 24 = .ok (.aload_n 0, 1) := by decide +kernel
theorem dX9_firstOf_25 : decode cX9_firstOf 25 = .ok (.getfield 19, 3) := by decide +kernel
theorem dX9_firstOf_28 : decode cX9_firstOf 28 = .ok (.iload_n 2, 1) := by decide +kernel
theorem dX9_firstOf_29 : decode cX9_firstOf 29 = .ok (.iaload, 1) := by decide +kernel
theorem dX9_firstOf_30 : decode cX9_firstOf 30 = .ok (.sipush 10000, 3) := by decide +kernel
theorem dX9_firstOf_33 : decode cX9_firstOf 33 = .ok (.idiv, 1) := by decide +kernel
theorem dX9_firstOf_34 : decode cX9_firstOf 34 = .ok (.istore_n 3, 1) := by decide +kernel
theorem dX9_firstOf_35 : decode cX9_firstOf 35 = .ok (.iload_n 3, 1) := by decide +kernel
theorem dX9_firstOf_36 : decode cX9_firstOf 36 = .ok (.iconst 4, 1) := by decide +kernel
theorem dX9_firstOf_37 : decode cX9_firstOf 37 = .ok (.if_icmp .ne 7, 3) := by decide +kernel
theorem dX9_firstOf_40 : decode cX9_firstOf 40 = .ok (.iconst (-1), 1) := by decide +kernel
theorem dX9_firstOf_41 : decode cX9_firstOf 41 = .ok (.goto 4, 3) := by decide +kernel
theorem dX9_firstOf_44 : decode cX9_firstOf 44 = .ok (.iload_n 3, 1) := by decide +kernel
theorem dX9_firstOf_45 : decode cX9_firstOf 45 = .ok (.ireturn, 1) := by decide +kernel
theorem dX9_firstOf_46 : decode cX9_firstOf 46 = .ok (.iinc 2 1, 3) := by decide +kernel
theorem dX9_firstOf_49 : decode cX9_firstOf 49 = .ok (.goto (-47), 3) := by decide +kernel
theorem dX9_firstOf_52 : decode cX9_firstOf 52 = .ok (.iconst (-1), 1) := by decide +kernel
theorem dX9_firstOf_53 : decode cX9_firstOf 53 = .ok (.ireturn, 1) := by decide +kernel
theorem dX9_startRound_0 : decode cX9_startRound 0 = .ok (.aload_n 0, 1) := by decide +kernel
theorem dX9_startRound_1 : decode cX9_startRound 1 = .ok (.dup, 1) := by decide +kernel
theorem dX9_startRound_2 : decode cX9_startRound 2 = .ok (.getfield 15, 3) := by decide +kernel
theorem dX9_startRound_5 : decode cX9_startRound 5 = .ok (.iconst 1, 1) := by decide +kernel
theorem dX9_startRound_6 : decode cX9_startRound 6 = .ok (.iadd, 1) := by decide +kernel
theorem dX9_startRound_7 : decode cX9_startRound 7 = .ok (.putfield 15, 3) := by decide +kernel
theorem dX9_startRound_10 : decode cX9_startRound 10 = .ok (.aload_n 0, 1) := by decide +kernel
theorem dX9_startRound_11 : decode cX9_startRound 11 = .ok (.iconst 0, 1) := by decide +kernel
theorem dX9_startRound_12 : decode cX9_startRound 12 = .ok (.putfield 25, 3) := by decide +kernel
theorem dX9_startRound_15 : decode cX9_startRound 15 = .ok (.return_, 1) := by decide +kernel
theorem dX9_reach_0 : decode cX9_reach 0 = .ok (.aload_n 0, 1) := by decide +kernel
theorem dX9_reach_1 : decode cX9_reach 1 = .ok (.getfield 25, 3) := by decide +kernel
theorem dX9_reach_4 : decode cX9_reach 4 = .ok (.sipush 10000, 3) := by decide +kernel
theorem dX9_reach_7 : decode cX9_reach 7 = .ok (.if_icmp .ge 39, 3) := by decide +kernel
theorem dX9_reach_10 : decode cX9_reach 10 = .ok (.aload_n 0, 1) := by decide +kernel
theorem dX9_reach_11 : decode cX9_reach 11 = .ok (.getfield 9, 3) := by decide +kernel
theorem dX9_reach_14 : decode cX9_reach 14 = .ok (.iload_n 1, 1) := by decide +kernel
theorem dX9_reach_15 : decode cX9_reach 15 = .ok (.aload_n 0, 1) := by decide +kernel
theorem dX9_reach_16 : decode cX9_reach 16 = .ok (.getfield 15, 3) := by decide +kernel
theorem dX9_reach_19 : decode cX9_reach 19 = .ok (.iastore, 1) := by decide +kernel
theorem dX9_reach_20 : decode cX9_reach 20 = .ok (.aload_n 0, 1) := by decide +kernel
theorem dX9_reach_21 : decode cX9_reach 21 = .ok (.getfield 19, 3) := by decide +kernel
theorem dX9_reach_24 : decode cX9_reach 24 = .ok (.aload_n 0, 1) := by decide +kernel
theorem dX9_reach_25 : decode cX9_reach 25 = .ok (.getfield 25, 3) := by decide +kernel
theorem dX9_reach_28 : decode cX9_reach 28 = .ok (.iload_n 2, 1) := by decide +kernel
theorem dX9_reach_29 : decode cX9_reach 29 = .ok (.sipush 10000, 3) := by decide +kernel
theorem dX9_reach_32 : decode cX9_reach 32 = .ok (.imul, 1) := by decide +kernel
theorem dX9_reach_33 : decode cX9_reach 33 = .ok (.iload_n 1, 1) := by decide +kernel
theorem dX9_reach_34 : decode cX9_reach 34 = .ok (.iadd, 1) := by decide +kernel
theorem dX9_reach_35 : decode cX9_reach 35 = .ok (.iastore, 1) := by decide +kernel
theorem dX9_reach_36 : decode cX9_reach 36 = .ok (.aload_n 0, 1) := by decide +kernel
theorem dX9_reach_37 : decode cX9_reach 37 = .ok (.dup, 1) := by decide +kernel
theorem dX9_reach_38 : decode cX9_reach 38 = .ok (.getfield 25, 3) := by decide +kernel
theorem dX9_reach_41 : decode cX9_reach 41 = .ok (.iconst 1, 1) := by decide +kernel
theorem dX9_reach_42 : decode cX9_reach 42 = .ok (.iadd, 1) := by decide +kernel
theorem dX9_reach_43 : decode cX9_reach 43 = .ok (.putfield 25, 3) := by decide +kernel
theorem dX9_reach_46 : decode cX9_reach 46 = .ok (.return_, 1) := by decide +kernel
theorem dX10_init_0 : decode cX10_init 0 = .ok (.aload_n 0, 1) := by decide +kernel
theorem dX10_init_1 : decode cX10_init 1 = .ok (.invokespecial 3, 3) := by decide +kernel
theorem dX10_init_4 : decode cX10_init 4 = .ok (.aload_n 0, 1) := by decide +kernel
theorem dX10_init_5 : decode cX10_init 5 = .ok (.bipush 36, 2) := by decide +kernel
theorem dX10_init_7 : decode cX10_init 7 = .ok (.newarray .int, 2) := by decide +kernel
theorem dX10_init_9 : decode cX10_init 9 = .ok (.putfield 9, 3) := by decide +kernel
theorem dX10_init_12 : decode cX10_init 12 = .ok (.aload_n 0, 1) := by decide +kernel
theorem dX10_init_13 : decode cX10_init 13 = .ok (.bipush 6, 2) := by decide +kernel
theorem dX10_init_15 : decode cX10_init 15 = .ok (.newarray .int, 2) := by decide +kernel
theorem dX10_init_17 : decode cX10_init 17 = .ok (.putfield 15, 3) := by decide +kernel
theorem dX10_init_20 : decode cX10_init 20 = .ok (.aload_n 0, 1) := by decide +kernel
theorem dX10_init_21 : decode cX10_init 21 = .ok (.bipush 6, 2) := by decide +kernel
theorem dX10_init_23 : decode cX10_init 23 = .ok (.newarray .int, 2) := by decide +kernel
theorem dX10_init_25 : decode cX10_init 25 = .ok (.putfield 18, 3) := by decide +kernel
theorem dX10_init_28 : decode cX10_init 28 = .ok (.aload_n 0, 1) := by decide +kernel
theorem dX10_init_29 : decode cX10_init 29 = .ok (.iconst 0, 1) := by decide +kernel
theorem dX10_init_30 : decode cX10_init 30 = .ok (.putfield 21, 3) := by decide +kernel
theorem dX10_init_33 : decode cX10_init 33 = .ok (.aload_n 0, 1) := by decide +kernel
theorem dX10_init_34 : decode cX10_init 34 = .ok (.iconst 0, 1) := by decide +kernel
theorem dX10_init_35 : decode cX10_init 35 = .ok (.putfield 25, 3) := by decide +kernel
theorem dX10_init_38 : decode cX10_init 38 = .ok (.aload_n 0, 1) := by decide +kernel
theorem dX10_init_39 : decode cX10_init 39 = .ok (.aload_n 1, 1) := by decide +kernel
theorem dX10_init_40 : decode cX10_init 40 = .ok (.putfield 28, 3) := by decide +kernel
theorem dX10_init_43 : decode cX10_init 43 = .ok (.return_, 1) := by decide +kernel
theorem dX10_cost_0 : decode cX10_cost 0 = .ok (.aload_n 0, 1) := by decide +kernel
theorem dX10_cost_1 : decode cX10_cost 1 = .ok (.getfield 25, 3) := by decide +kernel
theorem dX10_cost_4 : decode cX10_cost 4 = .ok (.ireturn, 1) := by decide +kernel
theorem dX10_place_0 : decode cX10_place 0 = .ok (.iload_n 1, 1) := by decide +kernel
theorem dX10_place_1 : decode cX10_place 1 = .ok (.ifCond .lt 20, 3) := by decide +kernel
theorem dX10_place_4 : decode cX10_place 4 = .ok (.iload_n 1, 1) := by decide +kernel
theorem dX10_place_5 : decode cX10_place 5 = .ok (.aload_n 0, 1) := by decide +kernel
theorem dX10_place_6 : decode cX10_place 6 = .ok (.getfield 21, 3) := by decide +kernel
theorem dX10_place_9 : decode cX10_place 9 = .ok (.if_icmp .ge 12, 3) := by decide +kernel
theorem dX10_place_12 : decode cX10_place 12 = .ok (.aload_n 0, 1) := by decide +kernel
theorem dX10_place_13 : decode cX10_place 13 = .ok (.getfield 18, 3) := by decide +kernel
theorem dX10_place_16 : decode cX10_place 16 = .ok (.iload_n 1, 1) := by decide +kernel
theorem dX10_place_17 : decode cX10_place 17 = .ok (.iaload, 1) := by decide +kernel
theorem dX10_place_18 : decode cX10_place 18 = .ok (.goto 4, 3) := by decide +kernel
theorem dX10_place_21 : decode cX10_place 21 = .ok (.iconst (-1), 1) := by decide +kernel
theorem dX10_place_22 : decode cX10_place 22 = .ok (.ireturn, 1) := by decide +kernel
theorem dX10_sort_0 : decode cX10_sort 0 = .ok (.aload_n 0, 1) := by decide +kernel
theorem dX10_sort_1 : decode cX10_sort 1 = .ok (.aload_n 1, 1) := by decide +kernel
theorem dX10_sort_2 : decode cX10_sort 2 = .ok (.invokevirtual 32, 3) := by decide +kernel
theorem dX10_sort_5 : decode cX10_sort 5 = .ok (.bipush 6, 2) := by decide +kernel
theorem dX10_sort_7 : decode cX10_sort 7 = .ok (.invokestatic 37, 3) := by decide +kernel
theorem dX10_sort_10 : decode cX10_sort 10 = .ok (.putfield 21, 3) := by decide +kernel
theorem dX10_sort_13 : decode cX10_sort 13 = .ok (.iconst 0, 1) := by decide +kernel
theorem dX10_sort_14 : decode cX10_sort 14 = .ok (.istore_n 2, 1) := by decide +kernel
theorem dX10_sort_15 : decode cX10_sort 15 = .ok (.iload_n 2, 1) := by decide +kernel
theorem dX10_sort_16 : decode cX10_sort 16 = .ok (.aload_n 0, 1) := by decide +kernel
theorem dX10_sort_17 : decode cX10_sort 17 = .ok (.getfield 21, 3) := by decide +kernel
theorem dX10_sort_20 : decode cX10_sort 20 = .ok (.if_icmp .ge 53, 3) := by decide +kernel
theorem dX10_sort_23 : decode cX10_sort 23 = .ok (.iconst 0, 1) := by decide +kernel
theorem dX10_sort_24 : decode cX10_sort 24 = .ok (.istore_n 3, 1) := by decide +kernel
theorem dX10_sort_25 : decode cX10_sort 25 = .ok (.iload_n 3, 1) := by decide +kernel
theorem dX10_sort_26 : decode cX10_sort 26 = .ok (.aload_n 0, 1) := by decide +kernel
theorem dX10_sort_27 : decode cX10_sort 27 = .ok (.getfield 21, 3) := by decide +kernel
theorem dX10_sort_30 : decode cX10_sort 30 = .ok (.if_icmp .ge 37, 3) := by decide +kernel
theorem dX10_sort_33 : decode cX10_sort 33 = .ok (.aload_n 0, 1) := by decide +kernel
theorem dX10_sort_34 : decode cX10_sort 34 = .ok (.getfield 9, 3) := by decide +kernel
theorem dX10_sort_37 : decode cX10_sort 37 = .ok (.iload_n 2, 1) := by decide +kernel
theorem dX10_sort_38 : decode cX10_sort 38 = .ok (.bipush 6, 2) := by decide +kernel
theorem dX10_sort_40 : decode cX10_sort 40 = .ok (.imul, 1) := by decide +kernel
theorem dX10_sort_41 : decode cX10_sort 41 = .ok (.iload_n 3, 1) := by decide +kernel
theorem dX10_sort_42 : decode cX10_sort 42 = .ok (.iadd, 1) := by decide +kernel
theorem dX10_sort_43 : decode cX10_sort 43 = .ok (.aload_n 0, 1) := by decide +kernel
theorem dX10_sort_44 : decode cX10_sort 44 = .ok (.getfield 28, 3) := by decide +kernel
theorem dX10_sort_47 : decode cX10_sort 47 = .ok (.aload_n 1, 1) := by decide +kernel
theorem dX10_sort_48 : decode cX10_sort 48 = .ok (.iload_n 2, 1) := by decide +kernel
theorem dX10_sort_49 : decode cX10_sort 49 = .ok (.invokevirtual 43, 3) := by decide +kernel
theorem dX10_sort_52 : decode cX10_sort 52 = .ok (.aload_n 1, 1) := by decide +kernel
theorem dX10_sort_53 : decode cX10_sort 53 = .ok (.iload_n 3, 1) := by decide +kernel
theorem dX10_sort_54 : decode cX10_sort 54 = .ok (.invokevirtual 43, 3) := by decide +kernel
theorem dX10_sort_57 : decode cX10_sort 57 = .ok (.invokevirtual 47, 3) := by decide +kernel
theorem dX10_sort_60 : decode cX10_sort 60 = .ok (.iastore, 1) := by decide +kernel
theorem dX10_sort_61 : decode cX10_sort 61 = .ok (.iinc 3 1, 3) := by decide +kernel
theorem dX10_sort_64 : decode cX10_sort 64 = .ok (.goto (-39), 3) := by decide +kernel
theorem dX10_sort_67 : decode cX10_sort 67 = .ok (.iinc 2 1, 3) := by decide +kernel
theorem dX10_sort_70 : decode cX10_sort 70 = .ok (.goto (-55), 3) := by decide +kernel
theorem dX10_sort_73 : decode cX10_sort 73 = .ok (.aload_n 0, 1) := by decide +kernel
theorem dX10_sort_74 : decode cX10_sort 74 = .ok (.sipush 217, 3) := by decide +kernel
theorem dX10_sort_77 : decode cX10_sort 77 = .ok (.putfield 25, 3) := by decide +kernel
theorem dX10_sort_80 : decode cX10_sort 80 = .ok (.aload_n 0, 1) := by decide +kernel
theorem dX10_sort_81 : decode cX10_sort 81 = .ok (.iconst 0, 1) := by decide +kernel
theorem dX10_sort_82 : decode cX10_sort 82 = .ok (.iconst 0, 1) := by decide +kernel
theorem dX10_sort_83 : decode cX10_sort 83 = .ok (.iconst 0, 1) := by decide +kernel
theorem dX10_sort_84 : decode cX10_sort 84 = .ok (.invokevirtual 52, 3) := by decide +kernel
theorem dX10_sort_87 : decode cX10_sort 87 = .ok (.return_, 1) := by decide +kernel
theorem dX10_tryPlaces_0 : decode cX10_tryPlaces 0 = .ok (.iload_n 3, 1) := by decide +kernel
theorem dX10_tryPlaces_1 : decode cX10_tryPlaces 1 = .ok (.aload_n 0, 1) := by decide +kernel
theorem dX10_tryPlaces_2 : decode cX10_tryPlaces 2 = .ok (.getfield 25, 3) := by decide +kernel
theorem dX10_tryPlaces_5 : decode cX10_tryPlaces 5 = .ok (.if_icmp .lt 4, 3) := by decide +kernel
theorem dX10_tryPlaces_8 : decode cX10_tryPlaces 8 = .ok (.return_, 1) := by decide +kernel
theorem dX10_tryPlaces_9 : decode cX10_tryPlaces 9 = .ok (.iload_n 1, 1) := by decide +kernel
theorem dX10_tryPlaces_10 : decode cX10_tryPlaces 10 = .ok (.aload_n 0, 1) := by decide +kernel
theorem dX10_tryPlaces_11 : decode cX10_tryPlaces 11 = .ok (.getfield 21, 3) := by decide +kernel
theorem dX10_tryPlaces_14 : decode cX10_tryPlaces 14 = .ok (.if_icmp .lt 26, 3) := by decide +kernel
theorem dX10_tryPlaces_17 : decode cX10_tryPlaces 17 = .ok (.aload_n 0, 1) := by decide +kernel
theorem dX10_tryPlaces_18 : decode cX10_tryPlaces 18 = .ok (.iload_n 3, 1) := by decide +kernel
theorem dX10_tryPlaces_19 : decode cX10_tryPlaces 19 = .ok (.putfield 25, 3) := by decide +kernel
theorem dX10_tryPlaces_22 : decode cX10_tryPlaces 22 = .ok (.aload_n 0, 1) := by decide +kernel
theorem dX10_tryPlaces_23 : decode cX10_tryPlaces 23 = .ok (.getfield 15, 3) := by decide +kernel
theorem dX10_tryPlaces_26 : decode cX10_tryPlaces 26 = .ok (.iconst 0, 1) := by decide +kernel
theorem dX10_tryPlaces_27 : decode cX10_tryPlaces 27 = .ok (.aload_n 0, 1) := by decide +kernel
theorem dX10_tryPlaces_28 : decode cX10_tryPlaces 28 = .ok (.getfield 18, 3) := by decide +kernel
theorem dX10_tryPlaces_31 : decode cX10_tryPlaces 31 = .ok (.iconst 0, 1) := by decide +kernel
theorem dX10_tryPlaces_32 : decode cX10_tryPlaces 32 = .ok (.aload_n 0, 1) := by decide +kernel
theorem dX10_tryPlaces_33 : decode cX10_tryPlaces 33 = .ok (.getfield 21, 3) := by decide +kernel
theorem dX10_tryPlaces_36 : decode cX10_tryPlaces 36 = .ok (.invokestatic 56, 3) := by decide +kernel
theorem dX10_tryPlaces_39 : decode cX10_tryPlaces 39 = .ok (.return_, 1) := by decide +kernel
theorem dX10_tryPlaces_40 : decode cX10_tryPlaces 40 = .ok (.iconst 0, 1) := by decide +kernel
theorem dX10_tryPlaces_41 : decode cX10_tryPlaces 41 = .ok (.istore 4, 2) := by decide +kernel
theorem dX10_tryPlaces_43 : decode cX10_tryPlaces 43 = .ok (.iload 4, 2) := by decide +kernel
theorem dX10_tryPlaces_45 : decode cX10_tryPlaces 45 = .ok (.aload_n 0, 1) := by decide +kernel
theorem dX10_tryPlaces_46 : decode cX10_tryPlaces 46 = .ok (.getfield 21, 3) := by decide +kernel
theorem dX10_tryPlaces_49 : decode cX10_tryPlaces 49 = .ok (.if_icmp .ge 72, 3) := by decide +kernel
theorem dX10_tryPlaces_52 : decode cX10_tryPlaces 52 = .ok (.iload_n 2, 1) := by decide +kernel
theorem dX10_tryPlaces_53 : decode cX10_tryPlaces 53 = .ok (.iload 4, 2) := by decide +kernel
theorem dX10_tryPlaces_55 : decode cX10_tryPlaces 55 = .ok (.ishr, 1) := by decide +kernel
theorem dX10_tryPlaces_56 : decode cX10_tryPlaces 56 = .ok (.iconst 1, 1) := by decide +kernel
theorem dX10_tryPlaces_57 : decode cX10_tryPlaces 57 = .ok (.iand, 1) := by decide +kernel
theorem dX10_tryPlaces_58 : decode cX10_tryPlaces 58 = .ok (.ifCond .ne 57, 3) := by decide +kernel
theorem dX10_tryPlaces_61 : decode cX10_tryPlaces 61 = .ok (.iload_n 1, 1) := by decide +kernel
theorem dX10_tryPlaces_62 : decode cX10_tryPlaces 62 = .ok (.ifCond .ne 7, 3) := by decide +kernel
theorem dX10_tryPlaces_65 : decode cX10_tryPlaces 65 = .ok (.iconst 0, 1) := by decide +kernel
theorem dX10_tryPlaces_66 : decode cX10_tryPlaces 66 = .ok (.goto 22, 3) := by decide +kernel
theorem dX10_tryPlaces_69 : decode cX10_tryPlaces 69 = .ok (.aload_n 0, 1) := by decide +kernel
theorem dX10_tryPlaces_70 : decode cX10_tryPlaces 70 = .ok (.getfield 9, 3) := by decide +kernel
theorem dX10_tryPlaces_73 : decode cX10_tryPlaces 73 = .ok (.aload_n 0, 1) := by decide +kernel
theorem dX10_tryPlaces_74 : decode cX10_tryPlaces 74 = .ok (.getfield 15, 3) := by decide +kernel
theorem dX10_tryPlaces_77 : decode cX10_tryPlaces 77 = .ok (.iload_n 1, 1) := by decide +kernel
theorem dX10_tryPlaces_78 : decode cX10_tryPlaces 78 = .ok (.iconst 1, 1) := by decide +kernel
theorem dX10_tryPlaces_79 : decode cX10_tryPlaces 79 = .ok (.isub, 1) := by decide +kernel
theorem dX10_tryPlaces_80 : decode cX10_tryPlaces 80 = .ok (.iaload, 1) := by decide +kernel
theorem dX10_tryPlaces_81 : decode cX10_tryPlaces 81 = .ok (.bipush 6, 2) := by decide +kernel
theorem dX10_tryPlaces_83 : decode cX10_tryPlaces 83 = .ok (.imul, 1) := by decide +kernel
theorem dX10_tryPlaces_84 : decode cX10_tryPlaces 84 = .ok (.iload 4, 2) := by decide +kernel
theorem dX10_tryPlaces_86 : decode cX10_tryPlaces 86 = .ok (.iadd, 1) := by decide +kernel
theorem dX10_tryPlaces_87 : decode cX10_tryPlaces 87 = .ok (.iaload, 1) := by decide +kernel
theorem dX10_tryPlaces_88 : decode cX10_tryPlaces 88 = .ok (.istore 5, 2) := by decide +kernel
theorem dX10_tryPlaces_90 : decode cX10_tryPlaces 90 = .ok (.aload_n 0, 1) := by decide +kernel
theorem dX10_tryPlaces_91 : decode cX10_tryPlaces 91 = .ok (.getfield 15, 3) := by decide +kernel
theorem dX10_tryPlaces_94 : decode cX10_tryPlaces 94 = .ok (.iload_n 1, 1) := by decide +kernel
theorem dX10_tryPlaces_95 : decode cX10_tryPlaces 95 = .ok (.iload 4, 2) := by decide +kernel
theorem dX10_tryPlaces_97 : decode cX10_tryPlaces 97 = .ok (.iastore, 1) := by decide +kernel
theorem dX10_tryPlaces_98 : decode cX10_tryPlaces 98 = .ok (.aload_n 0, 1) := by decide +kernel
theorem dX10_tryPlaces_99 : decode cX10_tryPlaces 99 = .ok (.iload_n 1, 1) := by decide +kernel
theorem dX10_tryPlaces_100 : decode cX10_tryPlaces 100 = .ok (.iconst 1, 1) := by decide +kernel
theorem dX10_tryPlaces_101 : decode cX10_tryPlaces 101 = .ok (.iadd, 1) := by decide +kernel
theorem dX10_tryPlaces_102 : decode cX10_tryPlaces 102 = .ok (.iload_n 2, 1) := by decide +kernel
theorem dX10_tryPlaces_103 : decode cX10_tryPlaces 103 = .ok (.iconst 1, 1) := by decide +kernel
theorem dX10_tryPlaces_104 : decode cX10_tryPlaces 104 = .ok (.iload 4, 2) := by decide +kernel
theorem dX10_tryPlaces_106 : decode cX10_tryPlaces 106 = .ok (.ishl, 1) := by decide +kernel
theorem dX10_tryPlaces_107 : decode cX10_tryPlaces 107 = .ok (.ior, 1) := by decide +kernel
theorem dX10_tryPlaces_108 : decode cX10_tryPlaces 108 = .ok (.iload_n 3, 1) := by decide +kernel
theorem dX10_tryPlaces_109 : decode cX10_tryPlaces 109 = .ok (.iload 5, 2) := by decide +kernel
theorem dX10_tryPlaces_111 : decode cX10_tryPlaces 111 = .ok (.iadd, 1) := by decide +kernel
theorem dX10_tryPlaces_112 : decode cX10_tryPlaces 112 = .ok (.invokevirtual 52, 3) := by decide +kernel
theorem dX10_tryPlaces_115 : decode cX10_tryPlaces 115 = .ok (.iinc 4 1, 3) := by decide +kernel
theorem dX10_tryPlaces_118 : decode cX10_tryPlaces 118 = .ok (.goto (-75), 3) := by decide +kernel
theorem dX10_tryPlaces_121 : decode cX10_tryPlaces 121 = .ok (.return_, 1) := by decide +kernel
theorem dX11_init_0 : decode cX11_init 0 = .ok (.aload_n 0, 1) := by decide +kernel
theorem dX11_init_1 : decode cX11_init 1 = .ok (.invokespecial 3, 3) := by decide +kernel
theorem dX11_init_4 : decode cX11_init 4 = .ok (.aload_n 0, 1) := by decide +kernel
theorem dX11_init_5 : decode cX11_init 5 = .ok (.new 9, 3) := by decide +kernel
theorem dX11_init_8 : decode cX11_init 8 = .ok (.dup, 1) := by decide +kernel
theorem dX11_init_9 : decode cX11_init 9 = .ok (.invokespecial 11, 3) := by decide +kernel
theorem dX11_init_12 : decode cX11_init 12 = .ok (.putfield 12, 3) := by decide +kernel
theorem dX11_init_15 : decode cX11_init 15 = .ok (.aload_n 0, 1) := by decide +kernel
theorem dX11_init_16 : decode cX11_init 16 = .ok (.new 16, 3) := by decide +kernel
theorem dX11_init_19 : decode cX11_init 19 = .ok (.dup, 1) := by decide +kernel
theorem dX11_init_20 : decode cX11_init 20 = .ok (.aload_n 0, 1) := by decide +kernel
theorem dX11_init_21 : decode cX11_init 21 = .ok (.getfield 12, 3) := by decide +kernel
theorem dX11_init_24 : decode cX11_init 24 = .ok (.invokespecial 18, 3) := by decide +kernel
theorem dX11_init_27 : decode cX11_init 27 = .ok (.putfield 21, 3) := by decide +kernel
theorem dX11_init_30 : decode cX11_init 30 = .ok (.aload_n 0, 1) := by decide +kernel
theorem dX11_init_31 : decode cX11_init 31 = .ok (.new 25, 3) := by decide +kernel
theorem dX11_init_34 : decode cX11_init 34 = .ok (.dup, 1) := by decide +kernel
theorem dX11_init_35 : decode cX11_init 35 = .ok (.invokespecial 27, 3) := by decide +kernel
theorem dX11_init_38 : decode cX11_init 38 = .ok (.putfield 28, 3) := by decide +kernel
theorem dX11_init_41 : decode cX11_init 41 = .ok (.aload_n 0, 1) := by decide +kernel
theorem dX11_init_42 : decode cX11_init 42 = .ok (.new 32, 3) := by decide +kernel
theorem dX11_init_45 : decode cX11_init 45 = .ok (.dup, 1) := by decide +kernel
theorem dX11_init_46 : decode cX11_init 46 = .ok (.aload_n 0, 1) := by decide +kernel
theorem dX11_init_47 : decode cX11_init 47 = .ok (.getfield 12, 3) := by decide +kernel
theorem dX11_init_50 : decode cX11_init 50 = .ok (.aload_n 0, 1) := by decide +kernel
theorem dX11_init_51 : decode cX11_init 51 = .ok (.getfield 21, 3) := by decide +kernel
theorem dX11_init_54 : decode cX11_init 54 = .ok (.invokespecial 34, 3) := by decide +kernel
theorem dX11_init_57 : decode cX11_init 57 = .ok (.putfield 37, 3) := by decide +kernel
theorem dX11_init_60 : decode cX11_init 60 = .ok (.aload_n 0, 1) := by decide +kernel
theorem dX11_init_61 : decode cX11_init 61 = .ok (.new 41, 3) := by decide +kernel
theorem dX11_init_64 : decode cX11_init 64 = .ok (.dup, 1) := by decide +kernel
theorem dX11_init_65 : decode cX11_init 65 = .ok (.aload_n 0, 1) := by decide +kernel
theorem dX11_init_66 : decode cX11_init 66 = .ok (.getfield 12, 3) := by decide +kernel
theorem dX11_init_69 : decode cX11_init 69 = .ok (.invokespecial 43, 3) := by decide +kernel
theorem dX11_init_72 : decode cX11_init 72 = .ok (.putfield 44, 3) := by decide +kernel
theorem dX11_init_75 : decode cX11_init 75 = .ok (.aload_n 0, 1) := by decide +kernel
theorem dX11_init_76 : decode cX11_init 76 = .ok (.new 48, 3) := by decide +kernel
theorem dX11_init_79 : decode cX11_init 79 = .ok (.dup, 1) := by decide +kernel
theorem dX11_init_80 : decode cX11_init 80 = .ok (.bipush 10, 2) := by decide +kernel
theorem dX11_init_82 : decode cX11_init 82 = .ok (.invokespecial 50, 3) := by decide +kernel
theorem dX11_init_85 : decode cX11_init 85 = .ok (.putfield 53, 3) := by decide +kernel
theorem dX11_init_88 : decode cX11_init 88 = .ok (.aload_n 0, 1) := by decide +kernel
theorem dX11_init_89 : decode cX11_init 89 = .ok (.new 48, 3) := by decide +kernel
theorem dX11_init_92 : decode cX11_init 92 = .ok (.dup, 1) := by decide +kernel
theorem dX11_init_93 : decode cX11_init 93 = .ok (.bipush 60, 2) := by decide +kernel
theorem dX11_init_95 : decode cX11_init 95 = .ok (.invokespecial 50, 3) := by decide +kernel
theorem dX11_init_98 : decode cX11_init 98 = .ok (.putfield 57, 3) := by decide +kernel
theorem dX11_init_101 : decode cX11_init 101 = .ok (.aload_n 0, 1) := by decide +kernel
theorem dX11_init_102 : decode cX11_init 102 = .ok (.new 48, 3) := by decide +kernel
theorem dX11_init_105 : decode cX11_init 105 = .ok (.dup, 1) := by decide +kernel
theorem dX11_init_106 : decode cX11_init 106 = .ok (.bipush 6, 2) := by decide +kernel
theorem dX11_init_108 : decode cX11_init 108 = .ok (.invokespecial 50, 3) := by decide +kernel
theorem dX11_init_111 : decode cX11_init 111 = .ok (.putfield 60, 3) := by decide +kernel
theorem dX11_init_114 : decode cX11_init 114 = .ok (.aload_n 0, 1) := by decide +kernel
theorem dX11_init_115 : decode cX11_init 115 = .ok (.new 48, 3) := by decide +kernel
theorem dX11_init_118 : decode cX11_init 118 = .ok (.dup, 1) := by decide +kernel
