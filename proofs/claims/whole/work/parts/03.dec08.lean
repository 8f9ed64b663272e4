theorem dX12_letsOne_79 : decode cX12_letsOne 79 = .ok (.iload 4, 2) := by decide +kernel
theorem dX12_letsOne_81 : decode cX12_letsOne 81 = .ok (.iconst 5, 1) := by decide +kernel
theorem dX12_letsOne_82 : decode cX12_letsOne 82 = .ok (.iadd, 1) := by decide +kernel
theorem dX12_letsOne_83 : decode cX12_letsOne 83 = .ok (.iaload, 1) := by decide +kernel
theorem dX12_letsOne_84 : decode cX12_letsOne 84 = .ok (.iconst 1, 1) := by decide +kernel
theorem dX12_letsOne_85 : decode cX12_letsOne 85 = .ok (.if_icmp .ne 12, 3) := by decide +kernel
theorem dX12_letsOne_88 : decode cX12_letsOne 88 = .ok (.iload 7, 2) := by decide +kernel
theorem dX12_letsOne_90 : decode cX12_letsOne 90 = .ok (.ifCond .ne 7, 3) := by decide +kernel
theorem dX12_letsOne_93 : decode cX12_letsOne 93 = .ok (.iconst 1, 1) := by decide +kernel
theorem dX12_letsOne_94 : decode cX12_letsOne 94 = .ok (.goto 4, 3) := by decide +kernel
theorem dX12_letsOne_97 : decode cX12_letsOne 97 = .ok (.iconst 0, 1) := by decide +kernel
theorem dX12_letsOne_98 : decode cX12_letsOne 98 = .ok (.istore 8, 2) := by decide +kernel
theorem dX12_letsOne_100 : decode cX12_letsOne 100 = .ok (.aload_n 0, 1) := by decide +kernel
theorem dX12_letsOne_101 : decode cX12_letsOne 101 = .ok (.iload 6, 2) := by decide +kernel
theorem dX12_letsOne_103 : decode cX12_letsOne 103 = .ok (.iload_n 2, 1) := by decide +kernel
theorem dX12_letsOne_104 : decode cX12_letsOne 104 = .ok (.iload_n 3, 1) := by decide +kernel
theorem dX12_letsOne_105 : decode cX12_letsOne 105 = .ok (.invokevirtual 115, 3) := by decide +kernel
theorem dX12_letsOne_108 : decode cX12_letsOne 108 = .ok (.iload 7, 2) := by decide +kernel
theorem dX12_letsOne_110 : decode cX12_letsOne 110 = .ok (.if_icmp .gt 28, 3) := by decide +kernel
theorem dX12_letsOne_113 : decode cX12_letsOne 113 = .ok (.iload 8, 2) := by decide +kernel
theorem dX12_letsOne_115 : decode cX12_letsOne 115 = .ok (.ifCond .eq 19, 3) := by decide +kernel
theorem dX12_letsOne_118 : decode cX12_letsOne 118 = .ok (.iload_n 3, 1) := by decide +kernel
theorem dX12_letsOne_119 : decode cX12_letsOne 119 = .ok (.iload 6, 2) := by decide +kernel
theorem dX12_letsOne_121 : decode cX12_letsOne 121 = .ok (.invokestatic 94, 3) := by decide +kernel
theorem dX12_letsOne_124 : decode cX12_letsOne 124 = .ok (.aload_n 0, 1) := by decide +kernel
theorem dX12_letsOne_125 : decode cX12_letsOne 125 = .ok (.getfield 13, 3) := by decide +kernel
theorem dX12_letsOne_128 : decode cX12_letsOne 128 = .ok (.iload 6, 2) := by decide +kernel
theorem dX12_letsOne_130 : decode cX12_letsOne 130 = .ok (.iaload, 1) := by decide +kernel
theorem dX12_letsOne_131 : decode cX12_letsOne 131 = .ok (.if_icmp .ne 7, 3) := by decide +kernel
theorem dX12_letsOne_134 : decode cX12_letsOne 134 = .ok (.iconst 1, 1) := by decide +kernel
theorem dX12_letsOne_135 : decode cX12_letsOne 135 = .ok (.goto 4, 3) := by decide +kernel
theorem dX12_letsOne_138 : decode cX12_letsOne 138 = .ok (.iconst 0, 1) := by decide +kernel
theorem dX12_letsOne_139 : decode cX12_letsOne 139 = .ok (.istore 5, 2) := by decide +kernel
theorem dX12_letsOne_141 : decode cX12_letsOne 141 = .ok (.iinc 6 1, 3) := by decide +kernel
theorem dX12_letsOne_144 : decode cX12_letsOne 144 = .ok (.goto (-95), 3) := by decide +kernel
theorem dX12_letsOne_147 : decode cX12_letsOne 147 = .ok (.iload 5, 2) := by decide +kernel
theorem dX12_letsOne_149 : decode cX12_letsOne 149 = .ok (.ireturn, 1) := by decide +kernel
theorem dX12_letsMany_0 : decode cX12_letsMany 0 = .ok (.iconst 0, 1) := by decide +kernel
theorem dX12_letsMany_1 : decode cX12_letsMany 1 = .ok (.istore_n 3, 1) := by decide +kernel
theorem dX12_letsMany_2 : decode cX12_letsMany 2 = .ok (.iconst 0, 1) := by decide +kernel
theorem dX12_letsMany_3 : decode cX12_letsMany 3 = .ok (.istore 4, 2) := by decide +kernel
theorem dX12_letsMany_5 : decode cX12_letsMany 5 = .ok (.iload 4, 2) := by decide +kernel
theorem dX12_letsMany_7 : decode cX12_letsMany 7 = .ok (.aload_n 0, 1) := by decide +kernel
theorem dX12_letsMany_8 : decode cX12_letsMany 8 = .ok (.getfield 154, 3) := by decide +kernel
theorem dX12_letsMany_11 : decode cX12_letsMany 11 = .ok (.if_icmp .ge 28, 3) := by decide +kernel
theorem dX12_letsMany_14 : decode cX12_letsMany 14 = .ok (.iload_n 3, 1) := by decide +kernel
theorem dX12_letsMany_15 : decode cX12_letsMany 15 = .ok (.aload_n 0, 1) := by decide +kernel
theorem dX12_letsMany_16 : decode cX12_letsMany 16 = .ok (.iload 4, 2) := by decide +kernel
theorem dX12_letsMany_18 : decode cX12_letsMany 18 = .ok (.iload_n 1, 1) := by decide +kernel
theorem dX12_letsMany_19 : decode cX12_letsMany 19 = .ok (.iload_n 2, 1) := by decide +kernel
theorem dX12_letsMany_20 : decode cX12_letsMany 20 = .ok (.invokevirtual 159, 3) := by decide +kernel
theorem dX12_letsMany_23 : decode cX12_letsMany 23 = .ok (.ifCond .eq 7, 3) := by decide +kernel
theorem dX12_letsMany_26 : decode cX12_letsMany 26 = .ok (.iconst 1, 1) := by decide +kernel
theorem dX12_letsMany_27 : decode cX12_letsMany 27 = .ok (.goto 4, 3) := by decide +kernel
theorem dX12_letsMany_30 : decode cX12_letsMany 30 = .ok (.iconst 0, 1) := by decide +kernel
theorem dX12_letsMany_31 : decode cX12_letsMany 31 = .ok (.iadd, 1) := by decide +kernel
theorem dX12_letsMany_32 : decode cX12_letsMany 32 = .ok (.istore_n 3, 1) := by decide +kernel
theorem dX12_letsMany_33 : decode cX12_letsMany 33 = .ok (.iinc 4 1, 3) := by decide +kernel
theorem dX12_letsMany_36 : decode cX12_letsMany 36 = .ok (.goto (-31), 3) := by decide +kernel
theorem dX12_letsMany_39 : decode cX12_letsMany 39 = .ok (.iload_n 3, 1) := by decide +kernel
theorem dX12_letsMany_40 : decode cX12_letsMany 40 = .ok (.ireturn, 1) := by decide +kernel
theorem dX12_isLet_0 : decode cX12_isLet 0 = .ok (.aload_n 0, 1) := by decide +kernel
theorem dX12_isLet_1 : decode cX12_isLet 1 = .ok (.getfield 154, 3) := by decide +kernel
theorem dX12_isLet_4 : decode cX12_isLet 4 = .ok (.ifCond .eq 18, 3) := by decide +kernel
theorem dX12_isLet_7 : decode cX12_isLet 7 = .ok (.iconst 2, 1) := by decide +kernel
theorem dX12_isLet_8 : decode cX12_isLet 8 = .ok (.aload_n 0, 1) := by decide +kernel
theorem dX12_isLet_9 : decode cX12_isLet 9 = .ok (.iload_n 1, 1) := by decide +kernel
theorem dX12_isLet_10 : decode cX12_isLet 10 = .ok (.iload_n 2, 1) := by decide +kernel
theorem dX12_isLet_11 : decode cX12_isLet 11 = .ok (.invokevirtual 163, 3) := by decide +kernel
theorem dX12_isLet_14 : decode cX12_isLet 14 = .ok (.imul, 1) := by decide +kernel
theorem dX12_isLet_15 : decode cX12_isLet 15 = .ok (.aload_n 0, 1) := by decide +kernel
theorem dX12_isLet_16 : decode cX12_isLet 16 = .ok (.getfield 154, 3) := by decide +kernel
theorem dX12_isLet_19 : decode cX12_isLet 19 = .ok (.if_icmp .le 7, 3) := by decide +kernel
theorem dX12_isLet_22 : decode cX12_isLet 22 = .ok (.iconst 1, 1) := by decide +kernel
theorem dX12_isLet_23 : decode cX12_isLet 23 = .ok (.goto 4, 3) := by decide +kernel
theorem dX12_isLet_26 : decode cX12_isLet 26 = .ok (.iconst 0, 1) := by decide +kernel
theorem dX12_isLet_27 : decode cX12_isLet 27 = .ok (.ireturn, 1) := by decide +kernel
theorem dX12_lets_0 : decode cX12_lets 0 = .ok (.aload_n 0, 1) := by decide +kernel
theorem dX12_lets_1 : decode cX12_lets 1 = .ok (.invokevirtual 79, 3) := by decide +kernel
theorem dX12_lets_4 : decode cX12_lets 4 = .ok (.ifCond .eq 6, 3) := by decide +kernel
theorem dX12_lets_7 : decode cX12_lets 7 = .ok (.bipush (-103), 2) := by decide +kernel
theorem dX12_lets_9 : decode cX12_lets 9 = .ok (.ireturn, 1) := by decide +kernel
theorem dX12_lets_10 : decode cX12_lets 10 = .ok (.aload_n 0, 1) := by decide +kernel
theorem dX12_lets_11 : decode cX12_lets 11 = .ok (.iload_n 1, 1) := by decide +kernel
theorem dX12_lets_12 : decode cX12_lets 12 = .ok (.invokevirtual 118, 3) := by decide +kernel
theorem dX12_lets_15 : decode cX12_lets 15 = .ok (.ifCond .eq 20, 3) := by decide +kernel
theorem dX12_lets_18 : decode cX12_lets 18 = .ok (.aload_n 0, 1) := by decide +kernel
theorem dX12_lets_19 : decode cX12_lets 19 = .ok (.iload_n 2, 1) := by decide +kernel
theorem dX12_lets_20 : decode cX12_lets 20 = .ok (.invokevirtual 118, 3) := by decide +kernel
theorem dX12_lets_23 : decode cX12_lets 23 = .ok (.ifCond .eq 12, 3) := by decide +kernel
theorem dX12_lets_26 : decode cX12_lets 26 = .ok (.aload_n 0, 1) := by decide +kernel
theorem dX12_lets_27 : decode cX12_lets 27 = .ok (.iload_n 1, 1) := by decide +kernel
theorem dX12_lets_28 : decode cX12_lets 28 = .ok (.iload_n 2, 1) := by decide +kernel
theorem dX12_lets_29 : decode cX12_lets 29 = .ok (.invokevirtual 163, 3) := by decide +kernel
theorem dX12_lets_32 : decode cX12_lets 32 = .ok (.goto 5, 3) := by decide +kernel
theorem dX12_lets_35 : decode cX12_lets 35 = .ok (.bipush (-102), 2) := by decide +kernel
theorem dX12_lets_37 : decode cX12_lets 37 = .ok (.ireturn, 1) := by decide +kernel
theorem dX12_strictOf_0 : decode cX12_strictOf 0 = .ok (.iconst (-1), 1) := by decide +kernel
theorem dX12_strictOf_1 : decode cX12_strictOf 1 = .ok (.istore_n 1, 1) := by decide +kernel
theorem dX12_strictOf_2 : decode cX12_strictOf 2 = .ok (.ldc 166, 2) := by decide +kernel
theorem dX12_strictOf_4 : decode cX12_strictOf 4 = .ok (.istore_n 2, 1) := by decide +kernel
theorem dX12_strictOf_5 : decode cX12_strictOf 5 = .ok (.iconst 0, 1) := by decide +kernel
theorem dX12_strictOf_6 : decode cX12_strictOf 6 = .ok (.istore_n 3, 1) := by decide +kernel
theorem dX12_strictOf_7 : decode cX12_strictOf 7 = .ok (.iload_n 3, 1) := by decide +kernel
theorem dX12_strictOf_8 : decode cX12_strictOf 8 = .ok (.aload_n 0, 1) := by decide +kernel
theorem dX12_strictOf_9 : decode cX12_strictOf 9 = .ok (.getfield 154, 3) := by decide +kernel
theorem dX12_strictOf_12 : decode cX12_strictOf 12 = .ok (.if_icmp .ge 79, 3) := by decide +kernel
theorem dX12_strictOf_15 : decode cX12_strictOf 15 = .ok (.iconst 0, 1) := by decide +kernel
theorem dX12_strictOf_16 : decode cX12_strictOf 16 = .ok (.istore 4, 2) := by decide +kernel
theorem dX12_strictOf_18 : decode cX12_strictOf 18 = .ok (.iconst 0, 1) := by decide +kernel
theorem dX12_strictOf_19 : decode cX12_strictOf 19 = .ok (.istore 5, 2) := by decide +kernel
theorem dX12_strictOf_21 : decode cX12_strictOf 21 = .ok (.iload 5, 2) := by decide +kernel
theorem dX12_strictOf_23 : decode cX12_strictOf 23 = .ok (.aload_n 0, 1) := by decide +kernel
theorem dX12_strictOf_24 : decode cX12_strictOf 24 = .ok (.invokevirtual 83, 3) := by decide +kernel
theorem dX12_strictOf_27 : decode cX12_strictOf 27 = .ok (.if_icmp .ge 33, 3) := by decide +kernel
theorem dX12_strictOf_30 : decode cX12_strictOf 30 = .ok (.iload 4, 2) := by decide +kernel
theorem dX12_strictOf_32 : decode cX12_strictOf 32 = .ok (.aload_n 0, 1) := by decide +kernel
theorem dX12_strictOf_33 : decode cX12_strictOf 33 = .ok (.iload_n 3, 1) := by decide +kernel
theorem dX12_strictOf_34 : decode cX12_strictOf 34 = .ok (.aload_n 0, 1) := by decide +kernel
theorem dX12_strictOf_35 : decode cX12_strictOf 35 = .ok (.invokevirtual 91, 3) := by decide +kernel
theorem dX12_strictOf_38 : decode cX12_strictOf 38 = .ok (.iload 5, 2) := by decide +kernel
theorem dX12_strictOf_40 : decode cX12_strictOf 40 = .ok (.invokevirtual 159, 3) := by decide +kernel
theorem dX12_strictOf_43 : decode cX12_strictOf 43 = .ok (.ifCond .eq 7, 3) := by decide +kernel
theorem dX12_strictOf_46 : decode cX12_strictOf 46 = .ok (.iconst 1, 1) := by decide +kernel
theorem dX12_strictOf_47 : decode cX12_strictOf 47 = .ok (.goto 4, 3) := by decide +kernel
theorem dX12_strictOf_50 : decode cX12_strictOf 50 = .ok (.iconst 0, 1) := by decide +kernel
theorem dX12_strictOf_51 : decode cX12_strictOf 51 = .ok (.iadd, 1) := by decide +kernel
theorem dX12_strictOf_52 : decode cX12_strictOf 52 = .ok (.istore 4, 2) := by decide +kernel
theorem dX12_strictOf_54 : decode cX12_strictOf 54 = .ok (.iinc 5 1, 3) := by decide +kernel
theorem dX12_strictOf_57 : decode cX12_strictOf 57 = .ok (.goto (-36), 3) := by decide +kernel
theorem dX12_strictOf_60 : decode cX12_strictOf 60 = .ok (.iload 4, 2) := by decide +kernel
theorem dX12_strictOf_62 : decode cX12_strictOf 62 = .ok (.iload_n 2, 1) := by decide +kernel
theorem dX12_strictOf_63 : decode cX12_strictOf 63 = .ok (.if_icmp .ge 7, 3) := by decide +kernel
theorem dX12_strictOf_66 : decode cX12_strictOf 66 = .ok (.iload_n 3, 1) := by decide +kernel
theorem dX12_strictOf_67 : decode cX12_strictOf 67 = .ok (.goto 4, 3) := by decide +kernel
theorem dX12_strictOf_70 : decode cX12_strictOf 70 = .ok (.iload_n 1, 1) := by decide +kernel
theorem dX12_strictOf_71 : decode cX12_strictOf 71 = .ok (.istore_n 1, 1) := by decide +kernel
theorem dX12_strictOf_72 : decode cX12_strictOf 72 = .ok (.iload 4, 2) := by decide +kernel
theorem dX12_strictOf_74 : decode cX12_strictOf 74 = .ok (.iload_n 2, 1) := by decide +kernel
theorem dX12_strictOf_75 : decode cX12_strictOf 75 = .ok (.if_icmp .ge 8, 3) := by decide +kernel
theorem dX12_strictOf_78 : decode cX12_strictOf 78 = .ok (.iload 4, 2) := by decide +kernel
theorem dX12_strictOf_80 : decode cX12_strictOf 80 = .ok (.goto 4, 3) := by decide +kernel
theorem dX12_strictOf_83 : decode cX12_strictOf 83 = .ok (.iload_n 2, 1) := by decide +kernel
theorem dX12_strictOf_84 : decode cX12_strictOf 84 = .ok (.istore_n 2, 1) := by decide +kernel
theorem dX12_strictOf_85 : decode cX12_strictOf 85 = .ok (.iinc 3 1, 3) := by decide +kernel
theorem dX12_strictOf_88 : decode cX12_strictOf 88 = .ok (.goto (-81), 3) := by decide +kernel
theorem dX12_strictOf_91 : decode cX12_strictOf 91 = .ok (.iload_n 1, 1) := by decide +kernel
theorem dX12_strictOf_92 : decode cX12_strictOf 92 = .ok (.ireturn, 1) := by decide +kernel
theorem dX12_strict_0 : decode cX12_strict 0 = .ok (.aload_n 0, 1) := by decide +kernel
theorem dX12_strict_1 : decode cX12_strict 1 = .ok (.invokevirtual 79, 3) := by decide +kernel
theorem dX12_strict_4 : decode cX12_strict 4 = .ok (.ifCond .eq 8, 3) := by decide +kernel
theorem dX12_strict_7 : decode cX12_strict 7 = .ok (.bipush (-103), 2) := by decide +kernel
theorem dX12_strict_9 : decode cX12_strict 9 = .ok (.goto 7, 3) := by decide +kernel
theorem dX12_strict_12 : decode cX12_strict 12 = .ok (.aload_n 0, 1) := by decide +kernel
theorem dX12_strict_13 : decode cX12_strict 13 = .ok (.invokevirtual 167, 3) := by decide +kernel
theorem dX12_strict_16 : decode cX12_strict 16 = .ok (.ireturn, 1) := by decide +kernel
theorem dX12_slipOf_0 : decode cX12_slipOf 0 = .ok (.iload_n 1, 1) := by decide +kernel
theorem dX12_slipOf_1 : decode cX12_slipOf 1 = .ok (.iload_n 2, 1) := by decide +kernel
theorem dX12_slipOf_2 : decode cX12_slipOf 2 = .ok (.invokestatic 94, 3) := by decide +kernel
theorem dX12_slipOf_5 : decode cX12_slipOf 5 = .ok (.istore 4, 2) := by decide +kernel
theorem dX12_slipOf_7 : decode cX12_slipOf 7 = .ok (.iload_n 3, 1) := by decide +kernel
theorem dX12_slipOf_8 : decode cX12_slipOf 8 = .ok (.iconst 1, 1) := by decide +kernel
theorem dX12_slipOf_9 : decode cX12_slipOf 9 = .ok (.if_icmp .ne 10, 3) := by decide +kernel
theorem dX12_slipOf_12 : decode cX12_slipOf 12 = .ok (.iload 4, 2) := by decide +kernel
theorem dX12_slipOf_14 : decode cX12_slipOf 14 = .ok (.iconst 1, 1) := by decide +kernel
theorem dX12_slipOf_15 : decode cX12_slipOf 15 = .ok (.iadd, 1) := by decide +kernel
theorem dX12_slipOf_16 : decode cX12_slipOf 16 = .ok (.goto 7, 3) := by decide +kernel
theorem dX12_slipOf_19 : decode cX12_slipOf 19 = .ok (.iload 4, 2) := by decide +kernel
theorem dX12_slipOf_21 : decode cX12_slipOf 21 = .ok (.iconst 1, 1) := by decide +kernel
theorem dX12_slipOf_22 : decode cX12_slipOf 22 = .ok (.isub, 1) := by decide +kernel
theorem dX12_slipOf_23 : decode cX12_slipOf 23 = .ok (.istore 5, 2) := by decide +kernel
theorem dX12_slipOf_25 : decode cX12_slipOf 25 = .ok (.aload_n 0, 1) := by decide +kernel
theorem dX12_slipOf_26 : decode cX12_slipOf 26 = .ok (.getfield 7, 3) := by decide +kernel
theorem dX12_slipOf_29 : decode cX12_slipOf 29 = .ok (.iload_n 2, 1) := by decide +kernel
theorem dX12_slipOf_30 : decode cX12_slipOf 30 = .ok (.iaload, 1) := by decide +kernel
theorem dX12_slipOf_31 : decode cX12_slipOf 31 = .ok (.iconst 3, 1) := by decide +kernel
theorem dX12_slipOf_32 : decode cX12_slipOf 32 = .ok (.if_icmp .ne 14, 3) := by decide +kernel
theorem dX12_slipOf_35 : decode cX12_slipOf 35 = .ok (.iload 5, 2) := by decide +kernel
theorem dX12_slipOf_37 : decode cX12_slipOf 37 = .ok (.bipush 10, 2) := by decide +kernel
theorem dX12_slipOf_39 : decode cX12_slipOf 39 = .ok (.iadd, 1) := by decide +kernel
theorem dX12_slipOf_40 : decode cX12_slipOf 40 = .ok (.bipush 10, 2) := by decide +kernel
theorem dX12_slipOf_42 : decode cX12_slipOf 42 = .ok (.irem, 1) := by decide +kernel
theorem dX12_slipOf_43 : decode cX12_slipOf 43 = .ok (.goto 5, 3) := by decide +kernel
theorem dX12_slipOf_46 : decode cX12_slipOf 46 = .ok (.iload 5, 2) := by decide +kernel
theorem dX12_slipOf_48 : decode cX12_slipOf 48 = .ok (.istore 5, 2) := by decide +kernel
theorem dX12_slipOf_50 : decode cX12_slipOf 50 = .ok (.iload 5, 2) := by decide +kernel
theorem dX12_slipOf_52 : decode cX12_slipOf 52 = .ok (.i2l, 1) := by decide +kernel
theorem dX12_slipOf_53 : decode cX12_slipOf 53 = .ok (.lconst 0, 1) := by decide +kernel
theorem dX12_slipOf_54 : decode cX12_slipOf 54 = .ok (.ldc2_w 77, 3) := by decide +kernel
theorem dX12_slipOf_57 : decode cX12_slipOf 57 = .ok (.invokestatic 68, 3) := by decide +kernel
theorem dX12_slipOf_60 : decode cX12_slipOf 60 = .ok (.ifCond .eq 18, 3) := by decide +kernel
theorem dX12_slipOf_63 : decode cX12_slipOf 63 = .ok (.iload_n 1, 1) := by decide +kernel
theorem dX12_slipOf_64 : decode cX12_slipOf 64 = .ok (.iload_n 2, 1) := by decide +kernel
theorem dX12_slipOf_65 : decode cX12_slipOf 65 = .ok (.invokestatic 87, 3) := by decide +kernel
theorem dX12_slipOf_68 : decode cX12_slipOf 68 = .ok (.iload 5, 2) := by decide +kernel
theorem dX12_slipOf_70 : decode cX12_slipOf 70 = .ok (.iload 4, 2) := by decide +kernel
theorem dX12_slipOf_72 : decode cX12_slipOf 72 = .ok (.isub, 1) := by decide +kernel
theorem dX12_slipOf_73 : decode cX12_slipOf 73 = .ok (.imul, 1) := by decide +kernel
theorem dX12_slipOf_74 : decode cX12_slipOf 74 = .ok (.iadd, 1) := by decide +kernel
theorem dX12_slipOf_75 : decode cX12_slipOf 75 = .ok (.goto 4, 3) := by decide +kernel
theorem dX12_slipOf_78 : decode cX12_slipOf 78 = .ok (.iload_n 1, 1) := by decide +kernel
theorem dX12_slipOf_79 : decode cX12_slipOf 79 = .ok (.ireturn, 1) := by decide +kernel
theorem dX12_slipsOf_0 : decode cX12_slipsOf 0 = .ok (.iconst 0, 1) := by decide +kernel
theorem dX12_slipsOf_1 : decode cX12_slipsOf 1 = .ok (.istore_n 3, 1) := by decide +kernel
theorem dX12_slipsOf_2 : decode cX12_slipsOf 2 = .ok (.iload_n 3, 1) := by decide +kernel
theorem dX12_slipsOf_3 : decode cX12_slipsOf 3 = .ok (.sipush 10000, 3) := by decide +kernel
theorem dX12_slipsOf_6 : decode cX12_slipsOf 6 = .ok (.if_icmp .ge 25, 3) := by decide +kernel
theorem dX12_slipsOf_9 : decode cX12_slipsOf 9 = .ok (.aload_n 0, 1) := by decide +kernel
theorem dX12_slipsOf_10 : decode cX12_slipsOf 10 = .ok (.getfield 31, 3) := by decide +kernel
theorem dX12_slipsOf_13 : decode cX12_slipsOf 13 = .ok (.iload_n 3, 1) := by decide +kernel
theorem dX12_slipsOf_14 : decode cX12_slipsOf 14 = .ok (.iload_n 3, 1) := by decide +kernel
theorem dX12_slipsOf_15 : decode cX12_slipsOf 15 = .ok (.iload_n 1, 1) := by decide +kernel
theorem dX12_slipsOf_16 : decode cX12_slipsOf 16 = .ok (.if_icmp .ne 7, 3) := by decide +kernel
theorem dX12_slipsOf_19 : decode cX12_slipsOf 19 = .ok (.iconst 0, 1) := by decide +kernel
theorem dX12_slipsOf_20 : decode cX12_slipsOf 20 = .ok (.goto 4, 3) := by decide +kernel
theorem dX12_slipsOf_23 : decode cX12_slipsOf 23 = .ok (.iconst (-1), 1) := by decide +kernel
theorem dX12_slipsOf_24 : decode cX12_slipsOf 24 = .ok (.iastore, 1) := by decide +kernel
theorem dX12_slipsOf_25 : decode cX12_slipsOf 25 = .ok (.iinc 3 1, 3) := by decide +kernel
theorem dX12_slipsOf_28 : decode cX12_slipsOf 28 = .ok (.goto (-26), 3) := by decide +kernel
theorem dX12_slipsOf_31 : decode cX12_slipsOf 31 = .ok (.aload_n 0, 1) := by decide +kernel
theorem dX12_slipsOf_32 : decode cX12_slipsOf 32 = .ok (.getfield 34, 3) := by decide +kernel
theorem dX12_slipsOf_35 : decode cX12_slipsOf 35 = .ok (.iconst 0, 1) := by decide +kernel
theorem dX12_slipsOf_36 : decode cX12_slipsOf 36 = .ok (.iload_n 1, 1) := by decide +kernel
theorem dX12_slipsOf_37 : decode cX12_slipsOf 37 = .ok (.iastore, 1) := by decide +kernel
theorem dX12_slipsOf_38 : decode cX12_slipsOf 38 = .ok (.iconst 1, 1) := by decide +kernel
theorem dX12_slipsOf_39 : decode cX12_slipsOf 39 = .ok (.istore_n 3, 1) := by decide +kernel
theorem dX12_slipsOf_40 : decode cX12_slipsOf 40 = .ok (.iconst 0, 1) := by decide +kernel
theorem dX12_slipsOf_41 : decode cX12_slipsOf 41 = .ok (.istore 4, 2) := by decide +kernel
theorem dX12_slipsOf_43 : decode cX12_slipsOf 43 = .ok (.iload 4, 2) := by decide +kernel
theorem dX12_slipsOf_45 : decode cX12_slipsOf 45 = .ok (.iload_n 3, 1) := by decide +kernel
theorem dX12_slipsOf_46 : decode cX12_slipsOf 46 = .ok (.if_icmp .ge 125, 3) := by decide +kernel
theorem dX12_slipsOf_49 : decode cX12_slipsOf 49 = .ok (.aload_n 0, 1) := by decide +kernel
theorem dX12_slipsOf_50 : decode cX12_slipsOf 50 = .ok (.getfield 31, 3) := by decide +kernel
theorem dX12_slipsOf_53 : decode cX12_slipsOf 53 = .ok (.iload_n 2, 1) := by decide +kernel
theorem dX12_slipsOf_54 : decode cX12_slipsOf 54 = .ok (.iaload, 1) := by decide +kernel
theorem dX12_slipsOf_55 : decode cX12_slipsOf 55 = .ok (.iconst (-1), 1) := by decide +kernel
theorem dX12_slipsOf_56 : decode cX12_slipsOf 56 = .ok (.if_icmp .ne 115, 3) := by decide +kernel
theorem dX12_slipsOf_59 : decode cX12_slipsOf 59 = .ok (.aload_n 0, 1) := by decide +kernel
theorem dX12_slipsOf_60 : decode cX12_slipsOf 60 = .ok (.getfield 34, 3) := by decide +kernel
theorem dX12_slipsOf_63 : decode cX12_slipsOf 63 = .ok (.iload 4, 2) := by decide +kernel
theorem dX12_slipsOf_65 : decode cX12_slipsOf 65 = .ok (.iaload, 1) := by decide +kernel
theorem dX12_slipsOf_66 : decode cX12_slipsOf 66 = .ok (.istore 5, 2) := by decide +kernel
theorem dX12_slipsOf_68 : decode cX12_slipsOf 68 = .ok (.iconst 0, 1) := by decide +kernel
theorem dX12_slipsOf_69 : decode cX12_slipsOf 69 = .ok (.istore 6, 2) := by decide +kernel
theorem dX12_slipsOf_71 : decode cX12_slipsOf 71 = .ok (.iload 6, 2) := by decide +kernel
theorem dX12_slipsOf_73 : decode cX12_slipsOf 73 = .ok (.iconst 2, 1) := by decide +kernel
theorem dX12_slipsOf_74 : decode cX12_slipsOf 74 = .ok (.aload_n 0, 1) := by decide +kernel
theorem dX12_slipsOf_75 : decode cX12_slipsOf 75 = .ok (.getfield 65, 3) := by decide +kernel
theorem dX12_slipsOf_78 : decode cX12_slipsOf 78 = .ok (.imul, 1) := by decide +kernel
theorem dX12_slipsOf_79 : decode cX12_slipsOf 79 = .ok (.if_icmp .ge 86, 3) := by decide +kernel
theorem dX12_slipsOf_82 : decode cX12_slipsOf 82 = .ok (.aload_n 0, 1) := by decide +kernel
theorem dX12_slipsOf_83 : decode cX12_slipsOf 83 = .ok (.getfield 31, 3) := by decide +kernel
theorem dX12_slipsOf_86 : decode cX12_slipsOf 86 = .ok (.iload 5, 2) := by decide +kernel
theorem dX12_slipsOf_88 : decode cX12_slipsOf 88 = .ok (.iaload, 1) := by decide +kernel
theorem dX12_slipsOf_89 : decode cX12_slipsOf 89 = .ok (.bipush 20, 2) := by decide +kernel
theorem dX12_slipsOf_91 : decode cX12_slipsOf 91 = .ok (.if_icmp .ge 74, 3) := by decide +kernel
theorem dX12_slipsOf_94 : decode cX12_slipsOf 94 = .ok (.aload_n 0, 1) := by decide +kernel
theorem dX12_slipsOf_95 : decode cX12_slipsOf 95 = .ok (.iload 5, 2) := by decide +kernel
theorem dX12_slipsOf_97 : decode cX12_slipsOf 97 = .ok (.iload 6, 2) := by decide +kernel
theorem dX12_slipsOf_99 : decode cX12_slipsOf 99 = .ok (.iconst 2, 1) := by decide +kernel
theorem dX12_slipsOf_100 : decode cX12_slipsOf 100 = .ok (.idiv, 1) := by decide +kernel
theorem dX12_slipsOf_101 : decode cX12_slipsOf 101 = .ok (.iload 6, 2) := by decide +kernel
theorem dX12_slipsOf_103 : decode cX12_slipsOf 103 = .ok (.iconst 2, 1) := by decide +kernel
theorem dX12_slipsOf_104 : decode cX12_slipsOf 104 = .ok (.irem, 1) := by decide +kernel
theorem dX12_slipsOf_105 : decode cX12_slipsOf 105 = .ok (.invokevirtual 170, 3) := by decide +kernel
theorem dX12_slipsOf_108 : decode cX12_slipsOf 108 = .ok (.istore 7, 2) := by decide +kernel
theorem dX12_slipsOf_110 : decode cX12_slipsOf 110 = .ok (.aload_n 0, 1) := by decide +kernel
theorem dX12_slipsOf_111 : decode cX12_slipsOf 111 = .ok (.getfield 31, 3) := by decide +kernel
theorem dX12_slipsOf_114 : decode cX12_slipsOf 114 = .ok (.iload 7, 2) := by decide +kernel
theorem dX12_slipsOf_116 : decode cX12_slipsOf 116 = .ok (.iaload, 1) := by decide +kernel
theorem dX12_slipsOf_117 : decode cX12_slipsOf 117 = .ok (.iconst (-1), 1) := by decide +kernel
theorem dX12_slipsOf_118 : decode cX12_slipsOf 118 = .ok (.if_icmp .ne 41, 3) := by decide +kernel
theorem dX12_slipsOf_121 : decode cX12_slipsOf 121 = .ok (.aload_n 0, 1) := by decide +kernel
theorem dX12_slipsOf_122 : decode cX12_slipsOf 122 = .ok (.iload 5, 2) := by decide +kernel
theorem dX12_slipsOf_124 : decode cX12_slipsOf 124 = .ok (.iload 7, 2) := by decide +kernel
theorem dX12_slipsOf_126 : decode cX12_slipsOf 126 = .ok (.invokevirtual 130, 3) := by decide +kernel
theorem dX12_slipsOf_129 : decode cX12_slipsOf 129 = .ok (.ifCond .eq 30, 3) := by decide +kernel
theorem dX12_slipsOf_132 : decode cX12_slipsOf 132 = .ok (.aload_n 0, 1) := by decide +kernel
theorem dX12_slipsOf_133 : decode cX12_slipsOf 133 = .ok (.getfield 31, 3) := by decide +kernel
theorem dX12_slipsOf_136 : decode cX12_slipsOf 136 = .ok (.iload 7, 2) := by decide +kernel
theorem dX12_slipsOf_138 : decode cX12_slipsOf 138 = .ok (.aload_n 0, 1) := by decide +kernel
theorem dX12_slipsOf_139 : decode cX12_slipsOf 139 = .ok (.getfield 31, 3) := by decide +kernel
theorem dX12_slipsOf_142 : decode cX12_slipsOf 142 = .ok (.iload 5, 2) := by decide +kernel
theorem dX12_slipsOf_144 : decode cX12_slipsOf 144 = .ok (.iaload, 1) := by decide +kernel
theorem dX12_slipsOf_145 : decode cX12_slipsOf 145 = .ok (.iconst 1, 1) := by decide +kernel
theorem dX12_slipsOf_146 : decode cX12_slipsOf 146 = .ok (.iadd, 1) := by decide +kernel
theorem dX12_slipsOf_147 : decode cX12_slipsOf 147 = .ok (.iastore, 1) := by decide +kernel
theorem dX12_slipsOf_148 : decode cX12_slipsOf 148 = .ok (.aload_n 0, 1) := by decide +kernel
theorem dX12_slipsOf_149 : decode cX12_slipsOf 149 = .ok (.getfield 34, 3) := by decide +kernel
theorem dX12_slipsOf_152 : decode cX12_slipsOf 152 = .ok (.iload_n 3, 1) := by decide +kernel
theorem dX12_slipsOf_153 : decode cX12_slipsOf 153 = .ok (.iload 7, 2) := by decide +kernel
theorem dX12_slipsOf_155 : decode cX12_slipsOf 155 = .ok (.iastore, 1) := by decide +kernel
theorem dX12_slipsOf_156 : decode cX12_slipsOf 156 = .ok (.iinc 3 1, 3) := by decide +kernel
theorem dX12_slipsOf_159 : decode cX12_slipsOf 159 = .ok (.iinc 6 1, 3) := by decide +kernel
theorem dX12_slipsOf_162 : decode cX12_slipsOf 162 = .ok (.goto (-91), 3) := by decide +kernel
theorem dX12_slipsOf_165 : decode cX12_slipsOf 165 = .ok (.iinc 4 1, 3) := by decide +kernel
theorem dX12_slipsOf_168 : decode cX12_slipsOf 168 = .ok (.goto (-125), 3) := by decide +kernel
theorem dX12_slipsOf_171 : decode cX12_slipsOf 171 = .ok (.aload_n 0, 1) := by decide +kernel
theorem dX12_slipsOf_172 : decode cX12_slipsOf 172 = .ok (.getfield 31, 3) := by decide +kernel
theorem dX12_slipsOf_175 : decode cX12_slipsOf 175 = .ok (.iload_n 2, 1) := by decide +kernel
theorem dX12_slipsOf_176 : decode cX12_slipsOf 176 = .ok (.iaload, 1) := by decide +kernel
theorem dX12_slipsOf_177 : decode cX12_slipsOf 177 = .ok (.ireturn, 1) := by decide +kernel
theorem dX12_slips_0 : decode cX12_slips 0 = .ok (.aload_n 0, 1) := by decide +kernel
theorem dX12_slips_1 : decode cX12_slips 1 = .ok (.invokevirtual 79, 3) := by decide +kernel
theorem dX12_slips_4 : decode cX12_slips 4 = .ok (.ifCond .eq 6, 3) := by decide +kernel
theorem dX12_slips_7 : decode cX12_slips 7 = .ok (.bipush (-103), 2) := by decide +kernel
theorem dX12_slips_9 : decode cX12_slips 9 = .ok (.ireturn, 1) := by decide +kernel
theorem dX12_slips_10 : decode cX12_slips 10 = .ok (.aload_n 0, 1) := by decide +kernel
theorem dX12_slips_11 : decode cX12_slips 11 = .ok (.iload_n 1, 1) := by decide +kernel
theorem dX12_slips_12 : decode cX12_slips 12 = .ok (.invokevirtual 118, 3) := by decide +kernel
theorem dX12_slips_15 : decode cX12_slips 15 = .ok (.ifCond .eq 20, 3) := by decide +kernel
theorem dX12_slips_18 : decode cX12_slips 18 = .ok (.aload_n 0, 1) := by decide +kernel
theorem dX12_slips_19 : decode cX12_slips 19 = .ok (.iload_n 2, 1) := by decide +kernel
theorem dX12_slips_20 : decode cX12_slips 20 = .ok (.invokevirtual 118, 3) := by decide +kernel
theorem dX12_slips_23 : decode cX12_slips 23 = .ok (.ifCond .eq 12, 3) := by decide +kernel
theorem dX12_slips_26 : decode cX12_slips 26 = .ok (.aload_n 0, 1) := by decide +kernel
theorem dX12_slips_27 : decode cX12_slips 27 = .ok (.iload_n 1, 1) := by decide +kernel
theorem dX12_slips_28 : decode cX12_slips 28 = .ok (.iload_n 2, 1) := by decide +kernel
theorem dX12_slips_29 : decode cX12_slips 29 = .ok (.invokevirtual 173, 3) := by decide +kernel
theorem dX12_slips_32 : decode cX12_slips 32 = .ok (.goto 5, 3) := by decide +kernel
theorem dX12_slips_35 : decode cX12_slips 35 = .ok (.bipush (-102), 2) := by decide +kernel
theorem dX12_slips_37 : decode cX12_slips 37 = .ok (.ireturn, 1) := by decide +kernel
theorem dX12_madeTrue_0 : decode cX12_madeTrue 0 = .ok (.iload_n 2, 1) := by decide +kernel
theorem dX12_madeTrue_1 : decode cX12_madeTrue 1 = .ok (.aload_n 0, 1) := by decide +kernel
theorem dX12_madeTrue_2 : decode cX12_madeTrue 2 = .ok (.getfield 65, 3) := by decide +kernel
theorem dX12_madeTrue_5 : decode cX12_madeTrue 5 = .ok (.if_icmp .ne 7, 3) := by decide +kernel
theorem dX12_madeTrue_8 : decode cX12_madeTrue 8 = .ok (.iload_n 1, 1) := by decide +kernel
theorem dX12_madeTrue_9 : decode cX12_madeTrue 9 = .ok (.goto 22, 3) := by decide +kernel
theorem dX12_madeTrue_12 : decode cX12_madeTrue 12 = .ok (.iload_n 1, 1) := by decide +kernel
theorem dX12_madeTrue_13 : decode cX12_madeTrue 13 = .ok (.iload_n 2, 1) := by decide +kernel
theorem dX12_madeTrue_14 : decode cX12_madeTrue 14 = .ok (.invokestatic 87, 3) := by decide +kernel
theorem dX12_madeTrue_17 : decode cX12_madeTrue 17 = .ok (.aload_n 0, 1) := by decide +kernel
theorem dX12_madeTrue_18 : decode cX12_madeTrue 18 = .ok (.getfield 13, 3) := by decide +kernel
theorem dX12_madeTrue_21 : decode cX12_madeTrue 21 = .ok (.iload_n 2, 1) := by decide +kernel
theorem dX12_madeTrue_22 : decode cX12_madeTrue 22 = .ok (.iaload, 1) := by decide +kernel
theorem dX12_madeTrue_23 : decode cX12_madeTrue 23 = .ok (.iload_n 1, 1) := by decide +kernel
theorem dX12_madeTrue_24 : decode cX12_madeTrue 24 = .ok (.iload_n 2, 1) := by decide +kernel
theorem dX12_madeTrue_25 : decode cX12_madeTrue 25 = .ok (.invokestatic 94, 3) := by decide +kernel
theorem dX12_madeTrue_28 : decode cX12_madeTrue 28 = .ok (.isub, 1) := by decide +kernel
theorem dX12_madeTrue_29 : decode cX12_madeTrue 29 = .ok (.imul, 1) := by decide +kernel
theorem dX12_madeTrue_30 : decode cX12_madeTrue 30 = .ok (.iadd, 1) := by decide +kernel
theorem dX12_madeTrue_31 : decode cX12_madeTrue 31 = .ok (.ireturn, 1) := by decide +kernel
theorem dX12_truthBy_0 : decode cX12_truthBy 0 = .ok (.aload_n 0, 1) := by decide +kernel
theorem dX12_truthBy_1 : decode cX12_truthBy 1 = .ok (.invokevirtual 124, 3) := by decide +kernel
theorem dX12_truthBy_4 : decode cX12_truthBy 4 = .ok (.iconst 0, 1) := by decide +kernel
theorem dX12_truthBy_5 : decode cX12_truthBy 5 = .ok (.istore_n 2, 1) := by decide +kernel
theorem dX12_truthBy_6 : decode cX12_truthBy 6 = .ok (.iload_n 2, 1) := by decide +kernel
theorem dX12_truthBy_7 : decode cX12_truthBy 7 = .ok (.sipush 10000, 3) := by decide +kernel
theorem dX12_truthBy_10 : decode cX12_truthBy 10 = .ok (.if_icmp .ge 16, 3) := by decide +kernel
theorem dX12_truthBy_13 : decode cX12_truthBy 13 = .ok (.aload_n 0, 1) := by decide +kernel
theorem dX12_truthBy_14 : decode cX12_truthBy 14 = .ok (.getfield 31, 3) := by decide +kernel
theorem dX12_truthBy_17 : decode cX12_truthBy 17 = .ok (.iload_n 2, 1) := by decide +kernel
theorem dX12_truthBy_18 : decode cX12_truthBy 18 = .ok (.iconst 0, 1) := by decide +kernel
theorem dX12_truthBy_19 : decode cX12_truthBy 19 = .ok (.iastore, 1) := by decide +kernel
theorem dX12_truthBy_20 : decode cX12_truthBy 20 = .ok (.iinc 2 1, 3) := by decide +kernel
theorem dX12_truthBy_23 : decode cX12_truthBy 23 = .ok (.goto (-17), 3) := by decide +kernel
theorem dX12_truthBy_26 : decode cX12_truthBy 26 = .ok (.aload_n 0, 1) := by decide +kernel
theorem dX12_truthBy_27 : decode cX12_truthBy 27 = .ok (.invokevirtual 127, 3) := by decide +kernel
theorem dX12_truthBy_30 : decode cX12_truthBy 30 = .ok (.iload_n 1, 1) := by decide +kernel
theorem dX12_truthBy_31 : decode cX12_truthBy 31 = .ok (.aload_n 0, 1) := by decide +kernel
theorem dX12_truthBy_32 : decode cX12_truthBy 32 = .ok (.getfield 65, 3) := by decide +kernel
theorem dX12_truthBy_35 : decode cX12_truthBy 35 = .ok (.if_icmp .eq 23, 3) := by decide +kernel
theorem dX12_truthBy_38 : decode cX12_truthBy 38 = .ok (.aload_n 0, 1) := by decide +kernel
theorem dX12_truthBy_39 : decode cX12_truthBy 39 = .ok (.aload_n 0, 1) := by decide +kernel
theorem dX12_truthBy_40 : decode cX12_truthBy 40 = .ok (.invokevirtual 91, 3) := by decide +kernel
theorem dX12_truthBy_43 : decode cX12_truthBy 43 = .ok (.aload_n 0, 1) := by decide +kernel
theorem dX12_truthBy_44 : decode cX12_truthBy 44 = .ok (.aload_n 0, 1) := by decide +kernel
theorem dX12_truthBy_45 : decode cX12_truthBy 45 = .ok (.invokevirtual 91, 3) := by decide +kernel
theorem dX12_truthBy_48 : decode cX12_truthBy 48 = .ok (.iload_n 1, 1) := by decide +kernel
theorem dX12_truthBy_49 : decode cX12_truthBy 49 = .ok (.invokevirtual 176, 3) := by decide +kernel
theorem dX12_truthBy_52 : decode cX12_truthBy 52 = .ok (.invokevirtual 130, 3) := by decide +kernel
theorem dX12_truthBy_55 : decode cX12_truthBy 55 = .ok (.ifCond .eq 7, 3) := by decide +kernel
theorem dX12_truthBy_58 : decode cX12_truthBy 58 = .ok (.iconst 1, 1) := by decide +kernel
theorem dX12_truthBy_59 : decode cX12_truthBy 59 = .ok (.goto 4, 3) := by decide +kernel
theorem dX12_truthBy_62 : decode cX12_truthBy 62 = .ok (.iconst 0, 1) := by decide +kernel
theorem dX12_truthBy_63 : decode cX12_truthBy 63 = .ok (.istore_n 2, 1) := by decide +kernel
theorem dX12_truthBy_64 : decode cX12_truthBy 64 = .ok (.iconst 0, 1) := by decide +kernel
theorem dX12_truthBy_65 : decode cX12_truthBy 65 = .ok (.istore_n 3, 1) := by decide +kernel
theorem dX12_truthBy_66 : decode cX12_truthBy 66 = .ok (.iload_n 2, 1) := by decide +kernel
theorem dX12_truthBy_67 : decode cX12_truthBy 67 = .ok (.ifCond .eq 32, 3) := by decide +kernel
theorem dX12_truthBy_70 : decode cX12_truthBy 70 = .ok (.aload_n 0, 1) := by decide +kernel
theorem dX12_truthBy_71 : decode cX12_truthBy 71 = .ok (.getfield 34, 3) := by decide +kernel
theorem dX12_truthBy_74 : decode cX12_truthBy 74 = .ok (.iconst 0, 1) := by decide +kernel
theorem dX12_truthBy_75 : decode cX12_truthBy 75 = .ok (.aload_n 0, 1) := by decide +kernel
theorem dX12_truthBy_76 : decode cX12_truthBy 76 = .ok (.aload_n 0, 1) := by decide +kernel
theorem dX12_truthBy_77 : decode cX12_truthBy 77 = .ok (.invokevirtual 91, 3) := by decide +kernel
theorem dX12_truthBy_80 : decode cX12_truthBy 80 = .ok (.iload_n 1, 1) := by decide +kernel
theorem dX12_truthBy_81 : decode cX12_truthBy 81 = .ok (.invokevirtual 176, 3) := by decide +kernel
theorem dX12_truthBy_84 : decode cX12_truthBy 84 = .ok (.iastore, 1) := by decide +kernel
theorem dX12_truthBy_85 : decode cX12_truthBy 85 = .ok (.aload_n 0, 1) := by decide +kernel
theorem dX12_truthBy_86 : decode cX12_truthBy 86 = .ok (.getfield 31, 3) := by decide +kernel
theorem dX12_truthBy_89 : decode cX12_truthBy 89 = .ok (.aload_n 0, 1) := by decide +kernel
theorem dX12_truthBy_90 : decode cX12_truthBy 90 = .ok (.getfield 34, 3) := by decide +kernel
theorem dX12_truthBy_93 : decode cX12_truthBy 93 = .ok (.iconst 0, 1) := by decide +kernel
theorem dX12_truthBy_94 : decode cX12_truthBy 94 = .ok (.iaload, 1) := by decide +kernel
theorem dX12_truthBy_95 : decode cX12_truthBy 95 = .ok (.iconst 1, 1) := by decide +kernel
theorem dX12_truthBy_96 : decode cX12_truthBy 96 = .ok (.iastore, 1) := by decide +kernel
theorem dX12_truthBy_97 : decode cX12_truthBy 97 = .ok (.iconst 1, 1) := by decide +kernel
theorem dX12_truthBy_98 : decode cX12_truthBy 98 = .ok (.istore_n 3, 1) := by decide +kernel
theorem dX12_truthBy_99 : decode cX12_truthBy 99 = .ok (.ldc 166, 2) := by decide +kernel
theorem dX12_truthBy_101 : decode cX12_truthBy 101 = .ok (.istore 4, 2) := by decide +kernel
theorem dX12_truthBy_103 : decode cX12_truthBy 103 = .ok (.iconst 1, 1) := by decide +kernel
theorem dX12_truthBy_104 : decode cX12_truthBy 104 = .ok (.istore 5, 2) := by decide +kernel
theorem dX12_truthBy_106 : decode cX12_truthBy 106 = .ok (.iload 5, 2) := by decide +kernel
theorem dX12_truthBy_108 : decode cX12_truthBy 108 = .ok (.bipush 13, 2) := by decide +kernel
theorem dX12_truthBy_110 : decode cX12_truthBy 110 = .ok (.if_icmp .ge 140, 3) := by decide +kernel
theorem dX12_truthBy_113 : decode cX12_truthBy 113 = .ok (.iload 4, 2) := by decide +kernel
theorem dX12_truthBy_115 : decode cX12_truthBy 115 = .ok (.ldc 166, 2) := by decide +kernel
theorem dX12_truthBy_117 : decode cX12_truthBy 117 = .ok (.if_icmp .ne 133, 3) := by decide +kernel
theorem dX12_truthBy_120 : decode cX12_truthBy 120 = .ok (.iload_n 3, 1) := by decide +kernel
theorem dX12_truthBy_121 : decode cX12_truthBy 121 = .ok (.ifCond .le 129, 3) := by decide +kernel
theorem dX12_truthBy_124 : decode cX12_truthBy 124 = .ok (.aload_n 0, 1) := by decide +kernel
theorem dX12_truthBy_125 : decode cX12_truthBy 125 = .ok (.getfield 31, 3) := by decide +kernel
theorem dX12_truthBy_128 : decode cX12_truthBy 128 = .ok (.aload_n 0, 1) := by decide +kernel
theorem dX12_truthBy_129 : decode cX12_truthBy 129 = .ok (.invokevirtual 105, 3) := by decide +kernel
theorem dX12_truthBy_132 : decode cX12_truthBy 132 = .ok (.iaload, 1) := by decide +kernel
theorem dX12_truthBy_133 : decode cX12_truthBy 133 = .ok (.ifCond .le 10, 3) := by decide +kernel
theorem dX12_truthBy_136 : decode cX12_truthBy 136 = .ok (.iload 5, 2) := by decide +kernel
theorem dX12_truthBy_138 : decode cX12_truthBy 138 = .ok (.istore 4, 2) := by decide +kernel
theorem dX12_truthBy_140 : decode cX12_truthBy 140 = .ok (.goto 104, 3) := by decide +kernel
theorem dX12_truthBy_143 : decode cX12_truthBy 143 = .ok (.aload_n 0, 1) := by decide +kernel
theorem dX12_truthBy_144 : decode cX12_truthBy 144 = .ok (.invokevirtual 127, 3) := by decide +kernel
theorem dX12_truthBy_147 : decode cX12_truthBy 147 = .ok (.iload_n 3, 1) := by decide +kernel
theorem dX12_truthBy_148 : decode cX12_truthBy 148 = .ok (.istore 6, 2) := by decide +kernel
theorem dX12_truthBy_150 : decode cX12_truthBy 150 = .ok (.iconst 0, 1) := by decide +kernel
theorem dX12_truthBy_151 : decode cX12_truthBy 151 = .ok (.istore 7, 2) := by decide +kernel
theorem dX12_truthBy_153 : decode cX12_truthBy 153 = .ok (.iload 7, 2) := by decide +kernel
theorem dX12_truthBy_155 : decode cX12_truthBy 155 = .ok (.iload 6, 2) := by decide +kernel
theorem dX12_truthBy_157 : decode cX12_truthBy 157 = .ok (.if_icmp .ge 87, 3) := by decide +kernel
theorem dX12_truthBy_160 : decode cX12_truthBy 160 = .ok (.iconst 0, 1) := by decide +kernel
theorem dX12_truthBy_161 : decode cX12_truthBy 161 = .ok (.istore 8, 2) := by decide +kernel
theorem dX12_truthBy_163 : decode cX12_truthBy 163 = .ok (.iload 8, 2) := by decide +kernel
theorem dX12_truthBy_165 : decode cX12_truthBy 165 = .ok (.aload_n 0, 1) := by decide +kernel
theorem dX12_truthBy_166 : decode cX12_truthBy 166 = .ok (.getfield 65, 3) := by decide +kernel
theorem dX12_truthBy_169 : decode cX12_truthBy 169 = .ok (.if_icmp .ge 69, 3) := by decide +kernel
theorem dX12_truthBy_172 : decode cX12_truthBy 172 = .ok (.aload_n 0, 1) := by decide +kernel
theorem dX12_truthBy_173 : decode cX12_truthBy 173 = .ok (.aload_n 0, 1) := by decide +kernel
theorem dX12_truthBy_174 : decode cX12_truthBy 174 = .ok (.getfield 34, 3) := by decide +kernel
theorem dX12_truthBy_177 : decode cX12_truthBy 177 = .ok (.iload 7, 2) := by decide +kernel
theorem dX12_truthBy_179 : decode cX12_truthBy 179 = .ok (.iaload, 1) := by decide +kernel
theorem dX12_truthBy_180 : decode cX12_truthBy 180 = .ok (.iload 8, 2) := by decide +kernel
theorem dX12_truthBy_182 : decode cX12_truthBy 182 = .ok (.invokevirtual 176, 3) := by decide +kernel
theorem dX12_truthBy_185 : decode cX12_truthBy 185 = .ok (.istore 9, 2) := by decide +kernel
theorem dX12_truthBy_187 : decode cX12_truthBy 187 = .ok (.aload_n 0, 1) := by decide +kernel
theorem dX12_truthBy_188 : decode cX12_truthBy 188 = .ok (.getfield 31, 3) := by decide +kernel
theorem dX12_truthBy_191 : decode cX12_truthBy 191 = .ok (.iload 9, 2) := by decide +kernel
theorem dX12_truthBy_193 : decode cX12_truthBy 193 = .ok (.iaload, 1) := by decide +kernel
theorem dX12_truthBy_194 : decode cX12_truthBy 194 = .ok (.ifCond .ne 38, 3) := by decide +kernel
theorem dX12_truthBy_197 : decode cX12_truthBy 197 = .ok (.aload_n 0, 1) := by decide +kernel
theorem dX12_truthBy_198 : decode cX12_truthBy 198 = .ok (.aload_n 0, 1) := by decide +kernel
theorem dX12_truthBy_199 : decode cX12_truthBy 199 = .ok (.getfield 34, 3) := by decide +kernel
theorem dX12_truthBy_202 : decode cX12_truthBy 202 = .ok (.iload 7, 2) := by decide +kernel
theorem dX12_truthBy_204 : decode cX12_truthBy 204 = .ok (.iaload, 1) := by decide +kernel
theorem dX12_truthBy_205 : decode cX12_truthBy 205 = .ok (.iload 9, 2) := by decide +kernel
theorem dX12_truthBy_207 : decode cX12_truthBy 207 = .ok (.invokevirtual 130, 3) := by decide +kernel
theorem dX12_truthBy_210 : decode cX12_truthBy 210 = .ok (.ifCond .eq 22, 3) := by decide +kernel
theorem dX12_truthBy_213 : decode cX12_truthBy 213 = .ok (.aload_n 0, 1) := by decide +kernel
theorem dX12_truthBy_214 : decode cX12_truthBy 214 = .ok (.getfield 31, 3) := by decide +kernel
theorem dX12_truthBy_217 : decode cX12_truthBy 217 = .ok (.iload 9, 2) := by decide +kernel
theorem dX12_truthBy_219 : decode cX12_truthBy 219 = .ok (.iconst 1, 1) := by decide +kernel
theorem dX12_truthBy_220 : decode cX12_truthBy 220 = .ok (.iastore, 1) := by decide +kernel
theorem dX12_truthBy_221 : decode cX12_truthBy 221 = .ok (.aload_n 0, 1) := by decide +kernel
theorem dX12_truthBy_222 : decode cX12_truthBy 222 = .ok (.getfield 34, 3) := by decide +kernel
theorem dX12_truthBy_225 : decode cX12_truthBy 225 = .ok (.iload_n 3, 1) := by decide +kernel
theorem dX12_truthBy_226 : decode cX12_truthBy 226 = .ok (.iload 9, 2) := by decide +kernel
theorem dX12_truthBy_228 : decode cX12_truthBy 228 = .ok (.iastore, 1) := by decide +kernel
theorem dX12_truthBy_229 : decode cX12_truthBy 229 = .ok (.iinc 3 1, 3) := by decide +kernel
theorem dX12_truthBy_232 : decode cX12_truthBy 232 = .ok (.iinc 8 1, 3) := by decide +kernel
theorem dX12_truthBy_235 : decode cX12_truthBy 235 = .ok (.goto (-72), 3) := by decide +kernel
theorem dX12_truthBy_238 : decode cX12_truthBy 238 = .ok (.iinc 7 1, 3) := by decide +kernel
theorem dX12_truthBy_241 : decode cX12_truthBy 241 = .ok (.goto (-88), 3) := by decide +kernel
theorem dX12_truthBy_244 : decode cX12_truthBy 244 = .ok (.iinc 5 1, 3) := by decide +kernel
theorem dX12_truthBy_247 : decode cX12_truthBy 247 = .ok (.goto (-141), 3) := by decide +kernel
theorem dX12_truthBy_250 : decode cX12_truthBy 250 = .ok (.aload_n 0, 1) := by decide +kernel
theorem dX12_truthBy_251 : decode cX12_truthBy 251 = .ok (.invokevirtual 134, 3) := by decide +kernel
theorem dX12_truthBy_254 : decode cX12_truthBy 254 = .ok (.iload 4, 2) := by decide +kernel
theorem dX12_truthBy_256 : decode cX12_truthBy 256 = .ok (.ireturn, 1) := by decide +kernel
theorem dX12_truth_0 : decode cX12_truth 0 = .ok (.aload_n 0, 1) := by decide +kernel
theorem dX12_truth_1 : decode cX12_truth 1 = .ok (.invokevirtual 79, 3) := by decide +kernel
theorem dX12_truth_4 : decode cX12_truth 4 = .ok (.ifCond .eq 6, 3) := by decide +kernel
