theorem dX11_drawn_5 : decode cX11_drawn 5 = .ok (.ldc_w 310, 3) := by decide +kernel
theorem dX11_drawn_8 : decode cX11_drawn 8 = .ok (.idiv, 1) := by decide +kernel
theorem dX11_drawn_9 : decode cX11_drawn 9 = .ok (.iload_n 1, 1) := by decide +kernel
theorem dX11_drawn_10 : decode cX11_drawn 10 = .ok (.irem, 1) := by decide +kernel
theorem dX11_drawn_11 : decode cX11_drawn 11 = .ok (.goto 4, 3) := by decide +kernel
theorem dX11_drawn_14 : decode cX11_drawn 14 = .ok (.iconst 0, 1) := by decide +kernel
theorem dX11_drawn_15 : decode cX11_drawn 15 = .ok (.ireturn, 1) := by decide +kernel
theorem dX12_init_0 : decode cX12_init 0 = .ok (.aload_n 0, 1) := by decide +kernel
theorem dX12_init_1 : decode cX12_init 1 = .ok (.invokespecial 1, 3) := by decide +kernel
theorem dX12_init_4 : decode cX12_init 4 = .ok (.aload_n 0, 1) := by decide +kernel
theorem dX12_init_5 : decode cX12_init 5 = .ok (.iconst 4, 1) := by decide +kernel
theorem dX12_init_6 : decode cX12_init 6 = .ok (.newarray .int, 2) := by decide +kernel
theorem dX12_init_8 : decode cX12_init 8 = .ok (.putfield 7, 3) := by decide +kernel
theorem dX12_init_11 : decode cX12_init 11 = .ok (.aload_n 0, 1) := by decide +kernel
theorem dX12_init_12 : decode cX12_init 12 = .ok (.iconst 4, 1) := by decide +kernel
theorem dX12_init_13 : decode cX12_init 13 = .ok (.newarray .int, 2) := by decide +kernel
theorem dX12_init_15 : decode cX12_init 15 = .ok (.putfield 13, 3) := by decide +kernel
theorem dX12_init_18 : decode cX12_init 18 = .ok (.aload_n 0, 1) := by decide +kernel
theorem dX12_init_19 : decode cX12_init 19 = .ok (.bipush 60, 2) := by decide +kernel
theorem dX12_init_21 : decode cX12_init 21 = .ok (.newarray .int, 2) := by decide +kernel
theorem dX12_init_23 : decode cX12_init 23 = .ok (.putfield 16, 3) := by decide +kernel
theorem dX12_init_26 : decode cX12_init 26 = .ok (.aload_n 0, 1) := by decide +kernel
theorem dX12_init_27 : decode cX12_init 27 = .ok (.iconst 4, 1) := by decide +kernel
theorem dX12_init_28 : decode cX12_init 28 = .ok (.newarray .int, 2) := by decide +kernel
theorem dX12_init_30 : decode cX12_init 30 = .ok (.putfield 19, 3) := by decide +kernel
theorem dX12_init_33 : decode cX12_init 33 = .ok (.aload_n 0, 1) := by decide +kernel
theorem dX12_init_34 : decode cX12_init 34 = .ok (.bipush 10, 2) := by decide +kernel
theorem dX12_init_36 : decode cX12_init 36 = .ok (.newarray .int, 2) := by decide +kernel
theorem dX12_init_38 : decode cX12_init 38 = .ok (.putfield 22, 3) := by decide +kernel
theorem dX12_init_41 : decode cX12_init 41 = .ok (.aload_n 0, 1) := by decide +kernel
theorem dX12_init_42 : decode cX12_init 42 = .ok (.bipush 6, 2) := by decide +kernel
theorem dX12_init_44 : decode cX12_init 44 = .ok (.newarray .int, 2) := by decide +kernel
theorem dX12_init_46 : decode cX12_init 46 = .ok (.putfield 25, 3) := by decide +kernel
theorem dX12_init_49 : decode cX12_init 49 = .ok (.aload_n 0, 1) := by decide +kernel
theorem dX12_init_50 : decode cX12_init 50 = .ok (.bipush 30, 2) := by decide +kernel
theorem dX12_init_52 : decode cX12_init 52 = .ok (.newarray .int, 2) := by decide +kernel
theorem dX12_init_54 : decode cX12_init 54 = .ok (.putfield 28, 3) := by decide +kernel
theorem dX12_init_57 : decode cX12_init 57 = .ok (.aload_n 0, 1) := by decide +kernel
theorem dX12_init_58 : decode cX12_init 58 = .ok (.sipush 10000, 3) := by decide +kernel
theorem dX12_init_61 : decode cX12_init 61 = .ok (.newarray .int, 2) := by decide +kernel
theorem dX12_init_63 : decode cX12_init 63 = .ok (.putfield 31, 3) := by decide +kernel
theorem dX12_init_66 : decode cX12_init 66 = .ok (.aload_n 0, 1) := by decide +kernel
theorem dX12_init_67 : decode cX12_init 67 = .ok (.sipush 10000, 3) := by decide +kernel
theorem dX12_init_70 : decode cX12_init 70 = .ok (.newarray .int, 2) := by decide +kernel
theorem dX12_init_72 : decode cX12_init 72 = .ok (.putfield 34, 3) := by decide +kernel
theorem dX12_init_75 : decode cX12_init 75 = .ok (.aload_n 0, 1) := by decide +kernel
theorem dX12_init_76 : decode cX12_init 76 = .ok (.bipush 6, 2) := by decide +kernel
theorem dX12_init_78 : decode cX12_init 78 = .ok (.newarray .int, 2) := by decide +kernel
theorem dX12_init_80 : decode cX12_init 80 = .ok (.putfield 37, 3) := by decide +kernel
theorem dX12_init_83 : decode cX12_init 83 = .ok (.aload_n 0, 1) := by decide +kernel
theorem dX12_init_84 : decode cX12_init 84 = .ok (.bipush 6, 2) := by decide +kernel
theorem dX12_init_86 : decode cX12_init 86 = .ok (.newarray .int, 2) := by decide +kernel
theorem dX12_init_88 : decode cX12_init 88 = .ok (.putfield 40, 3) := by decide +kernel
theorem dX12_init_91 : decode cX12_init 91 = .ok (.aload_n 0, 1) := by decide +kernel
theorem dX12_init_92 : decode cX12_init 92 = .ok (.bipush 6, 2) := by decide +kernel
theorem dX12_init_94 : decode cX12_init 94 = .ok (.newarray .int, 2) := by decide +kernel
theorem dX12_init_96 : decode cX12_init 96 = .ok (.putfield 43, 3) := by decide +kernel
theorem dX12_init_99 : decode cX12_init 99 = .ok (.aload_n 0, 1) := by decide +kernel
theorem dX12_init_100 : decode cX12_init 100 = .ok (.bipush 6, 2) := by decide +kernel
theorem dX12_init_102 : decode cX12_init 102 = .ok (.newarray .int, 2) := by decide +kernel
theorem dX12_init_104 : decode cX12_init 104 = .ok (.putfield 46, 3) := by decide +kernel
theorem dX12_init_107 : decode cX12_init 107 = .ok (.aload_n 0, 1) := by decide +kernel
theorem dX12_init_108 : decode cX12_init 108 = .ok (.iconst 4, 1) := by decide +kernel
theorem dX12_init_109 : decode cX12_init 109 = .ok (.newarray .int, 2) := by decide +kernel
theorem dX12_init_111 : decode cX12_init 111 = .ok (.putfield 49, 3) := by decide +kernel
theorem dX12_init_114 : decode cX12_init 114 = .ok (.aload_n 0, 1) := by decide +kernel
theorem dX12_init_115 : decode cX12_init 115 = .ok (.bipush 60, 2) := by decide +kernel
theorem dX12_init_117 : decode cX12_init 117 = .ok (.newarray .int, 2) := by decide +kernel
theorem dX12_init_119 : decode cX12_init 119 = .ok (.putfield 52, 3) := by decide +kernel
theorem dX12_init_122 : decode cX12_init 122 = .ok (.aload_n 0, 1) := by decide +kernel
theorem dX12_init_123 : decode cX12_init 123 = .ok (.bipush 6, 2) := by decide +kernel
theorem dX12_init_125 : decode cX12_init 125 = .ok (.newarray .int, 2) := by decide +kernel
theorem dX12_init_127 : decode cX12_init 127 = .ok (.putfield 55, 3) := by decide +kernel
theorem dX12_init_130 : decode cX12_init 130 = .ok (.aload_n 0, 1) := by decide +kernel
theorem dX12_init_131 : decode cX12_init 131 = .ok (.bipush 6, 2) := by decide +kernel
theorem dX12_init_133 : decode cX12_init 133 = .ok (.newarray .int, 2) := by decide +kernel
theorem dX12_init_135 : decode cX12_init 135 = .ok (.putfield 58, 3) := by decide +kernel
theorem dX12_init_138 : decode cX12_init 138 = .ok (.aload_n 0, 1) := by decide +kernel
theorem dX12_init_139 : decode cX12_init 139 = .ok (.iconst (-1), 1) := by decide +kernel
theorem dX12_init_140 : decode cX12_init 140 = .ok (.putfield 61, 3) := by decide +kernel
theorem dX12_init_143 : decode cX12_init 143 = .ok (.return_, 1) := by decide +kernel
theorem dX12_in_0 : decode cX12_in 0 = .ok (.lload_n 0, 1) := by decide +kernel
theorem dX12_in_1 : decode cX12_in 1 = .ok (.lload_n 2, 1) := by decide +kernel
theorem dX12_in_2 : decode cX12_in 2 = .ok (.lcmp, 1) := by decide +kernel
theorem dX12_in_3 : decode cX12_in 3 = .ok (.ifCond .lt 14, 3) := by decide +kernel
theorem dX12_in_6 : decode cX12_in 6 = .ok (.lload_n 0, 1) := by decide +kernel
theorem dX12_in_7 : decode cX12_in 7 = .ok (.lload 4, 2) := by decide +kernel
theorem dX12_in_9 : decode cX12_in 9 = .ok (.lcmp, 1) := by decide +kernel
theorem dX12_in_10 : decode cX12_in 10 = .ok (.ifCond .gt 7, 3) := by decide +kernel
theorem dX12_in_13 : decode cX12_in 13 = .ok (.iconst 1, 1) := by decide +kernel
theorem dX12_in_14 : decode cX12_in 14 = .ok (.goto 4, 3) := by decide +kernel
theorem dX12_in_17 : decode cX12_in 17 = .ok (.iconst 0, 1) := by decide +kernel
theorem dX12_in_18 : decode cX12_in 18 = .ok (.ireturn, 1) := by decide +kernel
theorem dX12_isFeature_0 : decode cX12_isFeature 0 = .ok (.iload_n 1, 1) := by decide +kernel
theorem dX12_isFeature_1 : decode cX12_isFeature 1 = .ok (.i2l, 1) := by decide +kernel
theorem dX12_isFeature_2 : decode cX12_isFeature 2 = .ok (.lconst 0, 1) := by decide +kernel
theorem dX12_isFeature_3 : decode cX12_isFeature 3 = .ok (.aload_n 0, 1) := by decide +kernel
theorem dX12_isFeature_4 : decode cX12_isFeature 4 = .ok (.getfield 65, 3) := by decide +kernel
theorem dX12_isFeature_7 : decode cX12_isFeature 7 = .ok (.iconst 1, 1) := by decide +kernel
theorem dX12_isFeature_8 : decode cX12_isFeature 8 = .ok (.isub, 1) := by decide +kernel
theorem dX12_isFeature_9 : decode cX12_isFeature 9 = .ok (.i2l, 1) := by decide +kernel
theorem dX12_isFeature_10 : decode cX12_isFeature 10 = .ok (.invokestatic 68, 3) := by decide +kernel
theorem dX12_isFeature_13 : decode cX12_isFeature 13 = .ok (.ireturn, 1) := by decide +kernel
theorem dX12_lacks_0 : decode cX12_lacks 0 = .ok (.aload_n 0, 1) := by decide +kernel
theorem dX12_lacks_1 : decode cX12_lacks 1 = .ok (.getfield 72, 3) := by decide +kernel
theorem dX12_lacks_4 : decode cX12_lacks 4 = .ok (.ifCond .ne 7, 3) := by decide +kernel
theorem dX12_lacks_7 : decode cX12_lacks 7 = .ok (.iconst 1, 1) := by decide +kernel
theorem dX12_lacks_8 : decode cX12_lacks 8 = .ok (.goto 4, 3) := by decide +kernel
theorem dX12_lacks_11 : decode cX12_lacks 11 = .ok (.iconst 0, 1) := by decide +kernel
theorem dX12_lacks_12 : decode cX12_lacks 12 = .ok (.ireturn, 1) := by decide +kernel
theorem dX12_feature_0 : decode cX12_feature 0 = .ok (.iload_n 1, 1) := by decide +kernel
theorem dX12_feature_1 : decode cX12_feature 1 = .ok (.i2l, 1) := by decide +kernel
theorem dX12_feature_2 : decode cX12_feature 2 = .ok (.lconst 0, 1) := by decide +kernel
theorem dX12_feature_3 : decode cX12_feature 3 = .ok (.ldc2_w 75, 3) := by decide +kernel
theorem dX12_feature_6 : decode cX12_feature 6 = .ok (.invokestatic 68, 3) := by decide +kernel
theorem dX12_feature_9 : decode cX12_feature 9 = .ok (.ifCond .eq 15, 3) := by decide +kernel
theorem dX12_feature_12 : decode cX12_feature 12 = .ok (.iload_n 2, 1) := by decide +kernel
theorem dX12_feature_13 : decode cX12_feature 13 = .ok (.i2l, 1) := by decide +kernel
theorem dX12_feature_14 : decode cX12_feature 14 = .ok (.lconst 0, 1) := by decide +kernel
theorem dX12_feature_15 : decode cX12_feature 15 = .ok (.ldc2_w 77, 3) := by decide +kernel
theorem dX12_feature_18 : decode cX12_feature 18 = .ok (.invokestatic 68, 3) := by decide +kernel
theorem dX12_feature_21 : decode cX12_feature 21 = .ok (.ifCond .ne 6, 3) := by decide +kernel
theorem dX12_feature_24 : decode cX12_feature 24 = .ok (.bipush (-102), 2) := by decide +kernel
theorem dX12_feature_26 : decode cX12_feature 26 = .ok (.ireturn, 1) := by decide +kernel
theorem dX12_feature_27 : decode cX12_feature 27 = .ok (.aload_n 0, 1) := by decide +kernel
theorem dX12_feature_28 : decode cX12_feature 28 = .ok (.invokevirtual 79, 3) := by decide +kernel
theorem dX12_feature_31 : decode cX12_feature 31 = .ok (.ifCond .ne 6, 3) := by decide +kernel
theorem dX12_feature_34 : decode cX12_feature 34 = .ok (.bipush (-103), 2) := by decide +kernel
theorem dX12_feature_36 : decode cX12_feature 36 = .ok (.ireturn, 1) := by decide +kernel
theorem dX12_feature_37 : decode cX12_feature 37 = .ok (.aload_n 0, 1) := by decide +kernel
theorem dX12_feature_38 : decode cX12_feature 38 = .ok (.getfield 65, 3) := by decide +kernel
theorem dX12_feature_41 : decode cX12_feature 41 = .ok (.iconst 4, 1) := by decide +kernel
theorem dX12_feature_42 : decode cX12_feature 42 = .ok (.if_icmp .ne 6, 3) := by decide +kernel
theorem dX12_feature_45 : decode cX12_feature 45 = .ok (.bipush (-104), 2) := by decide +kernel
theorem dX12_feature_47 : decode cX12_feature 47 = .ok (.ireturn, 1) := by decide +kernel
theorem dX12_feature_48 : decode cX12_feature 48 = .ok (.aload_n 0, 1) := by decide +kernel
theorem dX12_feature_49 : decode cX12_feature 49 = .ok (.getfield 7, 3) := by decide +kernel
theorem dX12_feature_52 : decode cX12_feature 52 = .ok (.aload_n 0, 1) := by decide +kernel
theorem dX12_feature_53 : decode cX12_feature 53 = .ok (.getfield 65, 3) := by decide +kernel
theorem dX12_feature_56 : decode cX12_feature 56 = .ok (.iload_n 1, 1) := by decide +kernel
theorem dX12_feature_57 : decode cX12_feature 57 = .ok (.iastore, 1) := by decide +kernel
theorem dX12_feature_58 : decode cX12_feature 58 = .ok (.aload_n 0, 1) := by decide +kernel
theorem dX12_feature_59 : decode cX12_feature 59 = .ok (.getfield 13, 3) := by decide +kernel
theorem dX12_feature_62 : decode cX12_feature 62 = .ok (.aload_n 0, 1) := by decide +kernel
theorem dX12_feature_63 : decode cX12_feature 63 = .ok (.getfield 65, 3) := by decide +kernel
theorem dX12_feature_66 : decode cX12_feature 66 = .ok (.iload_n 2, 1) := by decide +kernel
theorem dX12_feature_67 : decode cX12_feature 67 = .ok (.iastore, 1) := by decide +kernel
theorem dX12_feature_68 : decode cX12_feature 68 = .ok (.aload_n 0, 1) := by decide +kernel
theorem dX12_feature_69 : decode cX12_feature 69 = .ok (.dup, 1) := by decide +kernel
theorem dX12_feature_70 : decode cX12_feature 70 = .ok (.getfield 65, 3) := by decide +kernel
theorem dX12_feature_73 : decode cX12_feature 73 = .ok (.iconst 1, 1) := by decide +kernel
theorem dX12_feature_74 : decode cX12_feature 74 = .ok (.iadd, 1) := by decide +kernel
theorem dX12_feature_75 : decode cX12_feature 75 = .ok (.putfield 65, 3) := by decide +kernel
theorem dX12_feature_78 : decode cX12_feature 78 = .ok (.aload_n 0, 1) := by decide +kernel
theorem dX12_feature_79 : decode cX12_feature 79 = .ok (.getfield 65, 3) := by decide +kernel
theorem dX12_feature_82 : decode cX12_feature 82 = .ok (.iconst 1, 1) := by decide +kernel
theorem dX12_feature_83 : decode cX12_feature 83 = .ok (.isub, 1) := by decide +kernel
theorem dX12_feature_84 : decode cX12_feature 84 = .ok (.ireturn, 1) := by decide +kernel
theorem dX12_portraits_0 : decode cX12_portraits 0 = .ok (.iconst 1, 1) := by decide +kernel
theorem dX12_portraits_1 : decode cX12_portraits 1 = .ok (.istore_n 1, 1) := by decide +kernel
theorem dX12_portraits_2 : decode cX12_portraits 2 = .ok (.iconst 0, 1) := by decide +kernel
theorem dX12_portraits_3 : decode cX12_portraits 3 = .ok (.istore_n 2, 1) := by decide +kernel
theorem dX12_portraits_4 : decode cX12_portraits 4 = .ok (.iload_n 2, 1) := by decide +kernel
theorem dX12_portraits_5 : decode cX12_portraits 5 = .ok (.aload_n 0, 1) := by decide +kernel
theorem dX12_portraits_6 : decode cX12_portraits 6 = .ok (.getfield 65, 3) := by decide +kernel
theorem dX12_portraits_9 : decode cX12_portraits 9 = .ok (.if_icmp .ge 14, 3) := by decide +kernel
theorem dX12_portraits_12 : decode cX12_portraits 12 = .ok (.iload_n 1, 1) := by decide +kernel
theorem dX12_portraits_13 : decode cX12_portraits 13 = .ok (.bipush 10, 2) := by decide +kernel
theorem dX12_portraits_15 : decode cX12_portraits 15 = .ok (.imul, 1) := by decide +kernel
theorem dX12_portraits_16 : decode cX12_portraits 16 = .ok (.istore_n 1, 1) := by decide +kernel
theorem dX12_portraits_17 : decode cX12_portraits 17 = .ok (.iinc 2 1, 3) := by decide +kernel
theorem dX12_portraits_20 : decode cX12_portraits 20 = .ok (.goto (-16), 3) := by decide +kernel
theorem dX12_portraits_23 : decode cX12_portraits 23 = .ok (.iload_n 1, 1) := by decide +kernel
theorem dX12_portraits_24 : decode cX12_portraits 24 = .ok (.ireturn, 1) := by decide +kernel
theorem dX12_isPortrait_0 : decode cX12_isPortrait 0 = .ok (.iload_n 1, 1) := by decide +kernel
theorem dX12_isPortrait_1 : decode cX12_isPortrait 1 = .ok (.i2l, 1) := by decide +kernel
theorem dX12_isPortrait_2 : decode cX12_isPortrait 2 = .ok (.lconst 0, 1) := by decide +kernel
theorem dX12_isPortrait_3 : decode cX12_isPortrait 3 = .ok (.aload_n 0, 1) := by decide +kernel
theorem dX12_isPortrait_4 : decode cX12_isPortrait 4 = .ok (.invokevirtual 83, 3) := by decide +kernel
theorem dX12_isPortrait_7 : decode cX12_isPortrait 7 = .ok (.iconst 1, 1) := by decide +kernel
theorem dX12_isPortrait_8 : decode cX12_isPortrait 8 = .ok (.isub, 1) := by decide +kernel
theorem dX12_isPortrait_9 : decode cX12_isPortrait 9 = .ok (.i2l, 1) := by decide +kernel
theorem dX12_isPortrait_10 : decode cX12_isPortrait 10 = .ok (.invokestatic 68, 3) := by decide +kernel
theorem dX12_isPortrait_13 : decode cX12_isPortrait 13 = .ok (.ireturn, 1) := by decide +kernel
theorem dX12_sizeOf_0 : decode cX12_sizeOf 0 = .ok (.iload_n 0, 1) := by decide +kernel
theorem dX12_sizeOf_1 : decode cX12_sizeOf 1 = .ok (.istore_n 2, 1) := by decide +kernel
theorem dX12_sizeOf_2 : decode cX12_sizeOf 2 = .ok (.iconst 0, 1) := by decide +kernel
theorem dX12_sizeOf_3 : decode cX12_sizeOf 3 = .ok (.istore_n 3, 1) := by decide +kernel
theorem dX12_sizeOf_4 : decode cX12_sizeOf 4 = .ok (.iload_n 3, 1) := by decide +kernel
theorem dX12_sizeOf_5 : decode cX12_sizeOf 5 = .ok (.iload_n 1, 1) := by decide +kernel
theorem dX12_sizeOf_6 : decode cX12_sizeOf 6 = .ok (.if_icmp .ge 14, 3) := by decide +kernel
theorem dX12_sizeOf_9 : decode cX12_sizeOf 9 = .ok (.iload_n 2, 1) := by decide +kernel
theorem dX12_sizeOf_10 : decode cX12_sizeOf 10 = .ok (.bipush 10, 2) := by decide +kernel
theorem dX12_sizeOf_12 : decode cX12_sizeOf 12 = .ok (.idiv, 1) := by decide +kernel
theorem dX12_sizeOf_13 : decode cX12_sizeOf 13 = .ok (.istore_n 2, 1) := by decide +kernel
theorem dX12_sizeOf_14 : decode cX12_sizeOf 14 = .ok (.iinc 3 1, 3) := by decide +kernel
theorem dX12_sizeOf_17 : decode cX12_sizeOf 17 = .ok (.goto (-13), 3) := by decide +kernel
theorem dX12_sizeOf_20 : decode cX12_sizeOf 20 = .ok (.iload_n 2, 1) := by decide +kernel
theorem dX12_sizeOf_21 : decode cX12_sizeOf 21 = .ok (.bipush 10, 2) := by decide +kernel
theorem dX12_sizeOf_23 : decode cX12_sizeOf 23 = .ok (.irem, 1) := by decide +kernel
theorem dX12_sizeOf_24 : decode cX12_sizeOf 24 = .ok (.ireturn, 1) := by decide +kernel
theorem dX12_unit_0 : decode cX12_unit 0 = .ok (.iload_n 0, 1) := by decide +kernel
theorem dX12_unit_1 : decode cX12_unit 1 = .ok (.ifCond .ne 7, 3) := by decide +kernel
theorem dX12_unit_4 : decode cX12_unit 4 = .ok (.iconst 1, 1) := by decide +kernel
theorem dX12_unit_5 : decode cX12_unit 5 = .ok (.goto 26, 3) := by decide +kernel
theorem dX12_unit_8 : decode cX12_unit 8 = .ok (.iload_n 0, 1) := by decide +kernel
theorem dX12_unit_9 : decode cX12_unit 9 = .ok (.iconst 1, 1) := by decide +kernel
theorem dX12_unit_10 : decode cX12_unit 10 = .ok (.if_icmp .ne 8, 3) := by decide +kernel
theorem dX12_unit_13 : decode cX12_unit 13 = .ok (.bipush 10, 2) := by decide +kernel
theorem dX12_unit_15 : decode cX12_unit 15 = .ok (.goto 16, 3) := by decide +kernel
theorem dX12_unit_18 : decode cX12_unit 18 = .ok (.iload_n 0, 1) := by decide +kernel
theorem dX12_unit_19 : decode cX12_unit 19 = .ok (.iconst 2, 1) := by decide +kernel
theorem dX12_unit_20 : decode cX12_unit 20 = .ok (.if_icmp .ne 8, 3) := by decide +kernel
theorem dX12_unit_23 : decode cX12_unit 23 = .ok (.bipush 100, 2) := by decide +kernel
theorem dX12_unit_25 : decode cX12_unit 25 = .ok (.goto 6, 3) := by decide +kernel
theorem dX12_unit_28 : decode cX12_unit 28 = .ok (.sipush 1000, 3) := by decide +kernel
theorem dX12_unit_31 : decode cX12_unit 31 = .ok (.ireturn, 1) := by decide +kernel
theorem dX12_kingAsPortrait_0 : decode cX12_kingAsPortrait 0 = .ok (.iconst 0, 1) := by decide +kernel
theorem dX12_kingAsPortrait_1 : decode cX12_kingAsPortrait 1 = .ok (.istore_n 1, 1) := by decide +kernel
theorem dX12_kingAsPortrait_2 : decode cX12_kingAsPortrait 2 = .ok (.iconst 0, 1) := by decide +kernel
theorem dX12_kingAsPortrait_3 : decode cX12_kingAsPortrait 3 = .ok (.istore_n 2, 1) := by decide +kernel
theorem dX12_kingAsPortrait_4 : decode cX12_kingAsPortrait 4 = .ok (.iload_n 2, 1) := by decide +kernel
theorem dX12_kingAsPortrait_5 : decode cX12_kingAsPortrait 5 = .ok (.aload_n 0, 1) := by decide +kernel
theorem dX12_kingAsPortrait_6 : decode cX12_kingAsPortrait 6 = .ok (.getfield 65, 3) := by decide +kernel
theorem dX12_kingAsPortrait_9 : decode cX12_kingAsPortrait 9 = .ok (.if_icmp .ge 23, 3) := by decide +kernel
theorem dX12_kingAsPortrait_12 : decode cX12_kingAsPortrait 12 = .ok (.iload_n 1, 1) := by decide +kernel
theorem dX12_kingAsPortrait_13 : decode cX12_kingAsPortrait 13 = .ok (.iload_n 2, 1) := by decide +kernel
theorem dX12_kingAsPortrait_14 : decode cX12_kingAsPortrait 14 = .ok (.invokestatic 87, 3) := by decide +kernel
theorem dX12_kingAsPortrait_17 : decode cX12_kingAsPortrait 17 = .ok (.aload_n 0, 1) := by decide +kernel
theorem dX12_kingAsPortrait_18 : decode cX12_kingAsPortrait 18 = .ok (.getfield 13, 3) := by decide +kernel
theorem dX12_kingAsPortrait_21 : decode cX12_kingAsPortrait 21 = .ok (.iload_n 2, 1) := by decide +kernel
theorem dX12_kingAsPortrait_22 : decode cX12_kingAsPortrait 22 = .ok (.iaload, 1) := by decide +kernel
theorem dX12_kingAsPortrait_23 : decode cX12_kingAsPortrait 23 = .ok (.imul, 1) := by decide +kernel
theorem dX12_kingAsPortrait_24 : decode cX12_kingAsPortrait 24 = .ok (.iadd, 1) := by decide +kernel
theorem dX12_kingAsPortrait_25 : decode cX12_kingAsPortrait 25 = .ok (.istore_n 1, 1) := by decide +kernel
theorem dX12_kingAsPortrait_26 : decode cX12_kingAsPortrait 26 = .ok (.iinc 2 1, 3) := by decide +kernel
theorem dX12_kingAsPortrait_29 : decode cX12_kingAsPortrait 29 = .ok (.goto (-25), 3) := by decide +kernel
theorem dX12_kingAsPortrait_32 : decode cX12_kingAsPortrait 32 = .ok (.iload_n 1, 1) := by decide +kernel
theorem dX12_kingAsPortrait_33 : decode cX12_kingAsPortrait 33 = .ok (.ireturn, 1) := by decide +kernel
theorem dX12_last_0 : decode cX12_last 0 = .ok (.aload_n 0, 1) := by decide +kernel
theorem dX12_last_1 : decode cX12_last 1 = .ok (.getfield 16, 3) := by decide +kernel
theorem dX12_last_4 : decode cX12_last 4 = .ok (.aload_n 0, 1) := by decide +kernel
theorem dX12_last_5 : decode cX12_last 5 = .ok (.getfield 72, 3) := by decide +kernel
theorem dX12_last_8 : decode cX12_last 8 = .ok (.iconst 1, 1) := by decide +kernel
theorem dX12_last_9 : decode cX12_last 9 = .ok (.isub, 1) := by decide +kernel
theorem dX12_last_10 : decode cX12_last 10 = .ok (.iaload, 1) := by decide +kernel
theorem dX12_last_11 : decode cX12_last 11 = .ok (.ireturn, 1) := by decide +kernel
theorem dX12_tellFeature_0 : decode cX12_tellFeature 0 = .ok (.iload_n 2, 1) := by decide +kernel
theorem dX12_tellFeature_1 : decode cX12_tellFeature 1 = .ok (.ifCond .ne 12, 3) := by decide +kernel
theorem dX12_tellFeature_4 : decode cX12_tellFeature 4 = .ok (.aload_n 0, 1) := by decide +kernel
theorem dX12_tellFeature_5 : decode cX12_tellFeature 5 = .ok (.getfield 7, 3) := by decide +kernel
theorem dX12_tellFeature_8 : decode cX12_tellFeature 8 = .ok (.iload_n 1, 1) := by decide +kernel
theorem dX12_tellFeature_9 : decode cX12_tellFeature 9 = .ok (.iaload, 1) := by decide +kernel
theorem dX12_tellFeature_10 : decode cX12_tellFeature 10 = .ok (.goto 46, 3) := by decide +kernel
theorem dX12_tellFeature_13 : decode cX12_tellFeature 13 = .ok (.iload_n 2, 1) := by decide +kernel
theorem dX12_tellFeature_14 : decode cX12_tellFeature 14 = .ok (.iconst 1, 1) := by decide +kernel
theorem dX12_tellFeature_15 : decode cX12_tellFeature 15 = .ok (.if_icmp .ne 12, 3) := by decide +kernel
theorem dX12_tellFeature_18 : decode cX12_tellFeature 18 = .ok (.aload_n 0, 1) := by decide +kernel
theorem dX12_tellFeature_19 : decode cX12_tellFeature 19 = .ok (.getfield 13, 3) := by decide +kernel
theorem dX12_tellFeature_22 : decode cX12_tellFeature 22 = .ok (.iload_n 1, 1) := by decide +kernel
theorem dX12_tellFeature_23 : decode cX12_tellFeature 23 = .ok (.iaload, 1) := by decide +kernel
theorem dX12_tellFeature_24 : decode cX12_tellFeature 24 = .ok (.goto 32, 3) := by decide +kernel
theorem dX12_tellFeature_27 : decode cX12_tellFeature 27 = .ok (.iload_n 2, 1) := by decide +kernel
theorem dX12_tellFeature_28 : decode cX12_tellFeature 28 = .ok (.iconst 2, 1) := by decide +kernel
theorem dX12_tellFeature_29 : decode cX12_tellFeature 29 = .ok (.if_icmp .ne 25, 3) := by decide +kernel
theorem dX12_tellFeature_32 : decode cX12_tellFeature 32 = .ok (.aload_n 0, 1) := by decide +kernel
theorem dX12_tellFeature_33 : decode cX12_tellFeature 33 = .ok (.invokevirtual 79, 3) := by decide +kernel
theorem dX12_tellFeature_36 : decode cX12_tellFeature 36 = .ok (.ifCond .eq 7, 3) := by decide +kernel
theorem dX12_tellFeature_39 : decode cX12_tellFeature 39 = .ok (.iconst (-1), 1) := by decide +kernel
theorem dX12_tellFeature_40 : decode cX12_tellFeature 40 = .ok (.goto 16, 3) := by decide +kernel
theorem dX12_tellFeature_43 : decode cX12_tellFeature 43 = .ok (.aload_n 0, 1) := by decide +kernel
theorem dX12_tellFeature_44 : decode cX12_tellFeature 44 = .ok (.invokevirtual 91, 3) := by decide +kernel
theorem dX12_tellFeature_47 : decode cX12_tellFeature 47 = .ok (.iload_n 1, 1) := by decide +kernel
theorem dX12_tellFeature_48 : decode cX12_tellFeature 48 = .ok (.invokestatic 94, 3) := by decide +kernel
theorem dX12_tellFeature_51 : decode cX12_tellFeature 51 = .ok (.goto 5, 3) := by decide +kernel
theorem dX12_tellFeature_54 : decode cX12_tellFeature 54 = .ok (.bipush (-102), 2) := by decide +kernel
theorem dX12_tellFeature_56 : decode cX12_tellFeature 56 = .ok (.ireturn, 1) := by decide +kernel
theorem dX12_about_0 : decode cX12_about 0 = .ok (.aload_n 0, 1) := by decide +kernel
theorem dX12_about_1 : decode cX12_about 1 = .ok (.iload_n 1, 1) := by decide +kernel
theorem dX12_about_2 : decode cX12_about 2 = .ok (.invokevirtual 98, 3) := by decide +kernel
theorem dX12_about_5 : decode cX12_about 5 = .ok (.ifCond .eq 12, 3) := by decide +kernel
theorem dX12_about_8 : decode cX12_about 8 = .ok (.aload_n 0, 1) := by decide +kernel
theorem dX12_about_9 : decode cX12_about 9 = .ok (.iload_n 1, 1) := by decide +kernel
theorem dX12_about_10 : decode cX12_about 10 = .ok (.iload_n 2, 1) := by decide +kernel
theorem dX12_about_11 : decode cX12_about 11 = .ok (.invokevirtual 102, 3) := by decide +kernel
theorem dX12_about_14 : decode cX12_about 14 = .ok (.goto 5, 3) := by decide +kernel
theorem dX12_about_17 : decode cX12_about 17 = .ok (.bipush (-101), 2) := by decide +kernel
theorem dX12_about_19 : decode cX12_about 19 = .ok (.ireturn, 1) := by decide +kernel
theorem dX12_as_0 : decode cX12_as 0 = .ok (.aload_n 0, 1) := by decide +kernel
theorem dX12_as_1 : decode cX12_as 1 = .ok (.iload_n 1, 1) := by decide +kernel
theorem dX12_as_2 : decode cX12_as 2 = .ok (.invokevirtual 98, 3) := by decide +kernel
theorem dX12_as_5 : decode cX12_as 5 = .ok (.ifCond .ne 6, 3) := by decide +kernel
theorem dX12_as_8 : decode cX12_as 8 = .ok (.bipush (-101), 2) := by decide +kernel
theorem dX12_as_10 : decode cX12_as 10 = .ok (.ireturn, 1) := by decide +kernel
theorem dX12_as_11 : decode cX12_as 11 = .ok (.iload_n 2, 1) := by decide +kernel
theorem dX12_as_12 : decode cX12_as 12 = .ok (.i2l, 1) := by decide +kernel
theorem dX12_as_13 : decode cX12_as 13 = .ok (.lconst 0, 1) := by decide +kernel
theorem dX12_as_14 : decode cX12_as 14 = .ok (.ldc2_w 75, 3) := by decide +kernel
theorem dX12_as_17 : decode cX12_as 17 = .ok (.invokestatic 68, 3) := by decide +kernel
theorem dX12_as_20 : decode cX12_as 20 = .ok (.ifCond .ne 6, 3) := by decide +kernel
theorem dX12_as_23 : decode cX12_as 23 = .ok (.bipush (-102), 2) := by decide +kernel
theorem dX12_as_25 : decode cX12_as 25 = .ok (.ireturn, 1) := by decide +kernel
theorem dX12_as_26 : decode cX12_as 26 = .ok (.iload_n 2, 1) := by decide +kernel
theorem dX12_as_27 : decode cX12_as 27 = .ok (.ifCond .eq 28, 3) := by decide +kernel
theorem dX12_as_30 : decode cX12_as 30 = .ok (.iload_n 2, 1) := by decide +kernel
theorem dX12_as_31 : decode cX12_as 31 = .ok (.aload_n 0, 1) := by decide +kernel
theorem dX12_as_32 : decode cX12_as 32 = .ok (.getfield 7, 3) := by decide +kernel
theorem dX12_as_35 : decode cX12_as 35 = .ok (.iload_n 1, 1) := by decide +kernel
theorem dX12_as_36 : decode cX12_as 36 = .ok (.iaload, 1) := by decide +kernel
theorem dX12_as_37 : decode cX12_as 37 = .ok (.if_icmp .eq 18, 3) := by decide +kernel
theorem dX12_as_40 : decode cX12_as 40 = .ok (.iload_n 2, 1) := by decide +kernel
theorem dX12_as_41 : decode cX12_as 41 = .ok (.iconst 2, 1) := by decide +kernel
theorem dX12_as_42 : decode cX12_as 42 = .ok (.if_icmp .ne 17, 3) := by decide +kernel
theorem dX12_as_45 : decode cX12_as 45 = .ok (.aload_n 0, 1) := by decide +kernel
theorem dX12_as_46 : decode cX12_as 46 = .ok (.getfield 7, 3) := by decide +kernel
theorem dX12_as_49 : decode cX12_as 49 = .ok (.iload_n 1, 1) := by decide +kernel
theorem dX12_as_50 : decode cX12_as 50 = .ok (.iaload, 1) := by decide +kernel
theorem dX12_as_51 : decode cX12_as 51 = .ok (.iconst 4, 1) := by decide +kernel
theorem dX12_as_52 : decode cX12_as 52 = .ok (.if_icmp .ne 7, 3) := by decide +kernel
theorem dX12_as_55 : decode cX12_as 55 = .ok (.iconst 1, 1) := by decide +kernel
theorem dX12_as_56 : decode cX12_as 56 = .ok (.goto 4, 3) := by decide +kernel
theorem dX12_as_59 : decode cX12_as 59 = .ok (.iconst 0, 1) := by decide +kernel
theorem dX12_as_60 : decode cX12_as 60 = .ok (.istore_n 3, 1) := by decide +kernel
theorem dX12_as_61 : decode cX12_as 61 = .ok (.iload_n 3, 1) := by decide +kernel
theorem dX12_as_62 : decode cX12_as 62 = .ok (.ifCond .eq 7, 3) := by decide +kernel
theorem dX12_as_65 : decode cX12_as 65 = .ok (.iload_n 1, 1) := by decide +kernel
theorem dX12_as_66 : decode cX12_as 66 = .ok (.goto 4, 3) := by decide +kernel
theorem dX12_as_69 : decode cX12_as 69 = .ok (.iconst (-1), 1) := by decide +kernel
theorem dX12_as_70 : decode cX12_as 70 = .ok (.ireturn, 1) := by decide +kernel
theorem dX12_begin_0 : decode cX12_begin 0 = .ok (.aload_n 0, 1) := by decide +kernel
theorem dX12_begin_1 : decode cX12_begin 1 = .ok (.invokevirtual 79, 3) := by decide +kernel
theorem dX12_begin_4 : decode cX12_begin 4 = .ok (.ifCond .eq 11, 3) := by decide +kernel
theorem dX12_begin_7 : decode cX12_begin 7 = .ok (.aload_n 0, 1) := by decide +kernel
theorem dX12_begin_8 : decode cX12_begin 8 = .ok (.getfield 65, 3) := by decide +kernel
theorem dX12_begin_11 : decode cX12_begin 11 = .ok (.iconst 2, 1) := by decide +kernel
theorem dX12_begin_12 : decode cX12_begin 12 = .ok (.if_icmp .ge 6, 3) := by decide +kernel
theorem dX12_begin_15 : decode cX12_begin 15 = .ok (.bipush (-103), 2) := by decide +kernel
theorem dX12_begin_17 : decode cX12_begin 17 = .ok (.ireturn, 1) := by decide +kernel
theorem dX12_begin_18 : decode cX12_begin 18 = .ok (.aload_n 0, 1) := by decide +kernel
theorem dX12_begin_19 : decode cX12_begin 19 = .ok (.getfield 16, 3) := by decide +kernel
theorem dX12_begin_22 : decode cX12_begin 22 = .ok (.iconst 0, 1) := by decide +kernel
theorem dX12_begin_23 : decode cX12_begin 23 = .ok (.aload_n 0, 1) := by decide +kernel
theorem dX12_begin_24 : decode cX12_begin 24 = .ok (.invokevirtual 105, 3) := by decide +kernel
theorem dX12_begin_27 : decode cX12_begin 27 = .ok (.iastore, 1) := by decide +kernel
theorem dX12_begin_28 : decode cX12_begin 28 = .ok (.aload_n 0, 1) := by decide +kernel
theorem dX12_begin_29 : decode cX12_begin 29 = .ok (.iconst 1, 1) := by decide +kernel
theorem dX12_begin_30 : decode cX12_begin 30 = .ok (.putfield 72, 3) := by decide +kernel
theorem dX12_begin_33 : decode cX12_begin 33 = .ok (.aload_n 0, 1) := by decide +kernel
theorem dX12_begin_34 : decode cX12_begin 34 = .ok (.getfield 16, 3) := by decide +kernel
theorem dX12_begin_37 : decode cX12_begin 37 = .ok (.iconst 0, 1) := by decide +kernel
theorem dX12_begin_38 : decode cX12_begin 38 = .ok (.iaload, 1) := by decide +kernel
theorem dX12_begin_39 : decode cX12_begin 39 = .ok (.ireturn, 1) := by decide +kernel
theorem dX12_gap_0 : decode cX12_gap 0 = .ok (.iload_n 0, 1) := by decide +kernel
theorem dX12_gap_1 : decode cX12_gap 1 = .ok (.iload_n 1, 1) := by decide +kernel
theorem dX12_gap_2 : decode cX12_gap 2 = .ok (.if_icmp .le 9, 3) := by decide +kernel
theorem dX12_gap_5 : decode cX12_gap 5 = .ok (.iload_n 0, 1) := by decide +kernel
theorem dX12_gap_6 : decode cX12_gap 6 = .ok (.iload_n 1, 1) := by decide +kernel
theorem dX12_gap_7 : decode cX12_gap 7 = .ok (.isub, 1) := by decide +kernel
theorem dX12_gap_8 : decode cX12_gap 8 = .ok (.goto 6, 3) := by decide +kernel
theorem dX12_gap_11 : decode cX12_gap 11 = .ok (.iload_n 1, 1) := by decide +kernel
theorem dX12_gap_12 : decode cX12_gap 12 = .ok (.iload_n 0, 1) := by decide +kernel
theorem dX12_gap_13 : decode cX12_gap 13 = .ok (.isub, 1) := by decide +kernel
theorem dX12_gap_14 : decode cX12_gap 14 = .ok (.ireturn, 1) := by decide +kernel
theorem dX12_stepsOf_0 : decode cX12_stepsOf 0 = .ok (.iload_n 2, 1) := by decide +kernel
theorem dX12_stepsOf_1 : decode cX12_stepsOf 1 = .ok (.iload_n 1, 1) := by decide +kernel
theorem dX12_stepsOf_2 : decode cX12_stepsOf 2 = .ok (.invokestatic 94, 3) := by decide +kernel
theorem dX12_stepsOf_5 : decode cX12_stepsOf 5 = .ok (.iload_n 3, 1) := by decide +kernel
theorem dX12_stepsOf_6 : decode cX12_stepsOf 6 = .ok (.iload_n 1, 1) := by decide +kernel
theorem dX12_stepsOf_7 : decode cX12_stepsOf 7 = .ok (.invokestatic 94, 3) := by decide +kernel
theorem dX12_stepsOf_10 : decode cX12_stepsOf 10 = .ok (.invokestatic 108, 3) := by decide +kernel
theorem dX12_stepsOf_13 : decode cX12_stepsOf 13 = .ok (.istore 4, 2) := by decide +kernel
theorem dX12_stepsOf_15 : decode cX12_stepsOf 15 = .ok (.aload_n 0, 1) := by decide +kernel
theorem dX12_stepsOf_16 : decode cX12_stepsOf 16 = .ok (.getfield 7, 3) := by decide +kernel
theorem dX12_stepsOf_19 : decode cX12_stepsOf 19 = .ok (.iload_n 1, 1) := by decide +kernel
theorem dX12_stepsOf_20 : decode cX12_stepsOf 20 = .ok (.iaload, 1) := by decide +kernel
theorem dX12_stepsOf_21 : decode cX12_stepsOf 21 = .ok (.iconst 3, 1) := by decide +kernel
theorem dX12_stepsOf_22 : decode cX12_stepsOf 22 = .ok (.if_icmp .ne 17, 3) := by decide +kernel
theorem dX12_stepsOf_25 : decode cX12_stepsOf 25 = .ok (.iload 4, 2) := by decide +kernel
theorem dX12_stepsOf_27 : decode cX12_stepsOf 27 = .ok (.iconst 5, 1) := by decide +kernel
theorem dX12_stepsOf_28 : decode cX12_stepsOf 28 = .ok (.if_icmp .le 11, 3) := by decide +kernel
theorem dX12_stepsOf_31 : decode cX12_stepsOf 31 = .ok (.bipush 10, 2) := by decide +kernel
theorem dX12_stepsOf_33 : decode cX12_stepsOf 33 = .ok (.iload 4, 2) := by decide +kernel
theorem dX12_stepsOf_35 : decode cX12_stepsOf 35 = .ok (.isub, 1) := by decide +kernel
theorem dX12_stepsOf_36 : decode cX12_stepsOf 36 = .ok (.goto 5, 3) := by decide +kernel
theorem dX12_stepsOf_39 : decode cX12_stepsOf 39 = .ok (.iload 4, 2) := by decide +kernel
theorem dX12_stepsOf_41 : decode cX12_stepsOf 41 = .ok (.ireturn, 1) := by decide +kernel
theorem dX12_apartIn_0 : decode cX12_apartIn 0 = .ok (.aload_n 0, 1) := by decide +kernel
theorem dX12_apartIn_1 : decode cX12_apartIn 1 = .ok (.iload_n 1, 1) := by decide +kernel
theorem dX12_apartIn_2 : decode cX12_apartIn 2 = .ok (.iload_n 2, 1) := by decide +kernel
theorem dX12_apartIn_3 : decode cX12_apartIn 3 = .ok (.iload_n 3, 1) := by decide +kernel
theorem dX12_apartIn_4 : decode cX12_apartIn 4 = .ok (.invokevirtual 111, 3) := by decide +kernel
theorem dX12_apartIn_7 : decode cX12_apartIn 7 = .ok (.istore 4, 2) := by decide +kernel
theorem dX12_apartIn_9 : decode cX12_apartIn 9 = .ok (.aload_n 0, 1) := by decide +kernel
theorem dX12_apartIn_10 : decode cX12_apartIn 10 = .ok (.getfield 7, 3) := by decide +kernel
theorem dX12_apartIn_13 : decode cX12_apartIn 13 = .ok (.iload_n 1, 1) := by decide +kernel
theorem dX12_apartIn_14 : decode cX12_apartIn 14 = .ok (.iaload, 1) := by decide +kernel
theorem dX12_apartIn_15 : decode cX12_apartIn 15 = .ok (.iconst 2, 1) := by decide +kernel
theorem dX12_apartIn_16 : decode cX12_apartIn 16 = .ok (.if_icmp .eq 13, 3) := by decide +kernel
theorem dX12_apartIn_19 : decode cX12_apartIn 19 = .ok (.aload_n 0, 1) := by decide +kernel
theorem dX12_apartIn_20 : decode cX12_apartIn 20 = .ok (.getfield 7, 3) := by decide +kernel
theorem dX12_apartIn_23 : decode cX12_apartIn 23 = .ok (.iload_n 1, 1) := by decide +kernel
theorem dX12_apartIn_24 : decode cX12_apartIn 24 = .ok (.iaload, 1) := by decide +kernel
theorem dX12_apartIn_25 : decode cX12_apartIn 25 = .ok (.iconst 4, 1) := by decide +kernel
theorem dX12_apartIn_26 : decode cX12_apartIn 26 = .ok (.if_icmp .ne 13, 3) := by decide +kernel
theorem dX12_apartIn_29 : decode cX12_apartIn 29 = .ok (.iload 4, 2) := by decide +kernel
theorem dX12_apartIn_31 : decode cX12_apartIn 31 = .ok (.ifCond .le 8, 3) := by decide +kernel
theorem dX12_apartIn_34 : decode cX12_apartIn 34 = .ok (.bipush 9, 2) := by decide +kernel
theorem dX12_apartIn_36 : decode cX12_apartIn 36 = .ok (.goto 5, 3) := by decide +kernel
theorem dX12_apartIn_39 : decode cX12_apartIn 39 = .ok (.iload 4, 2) := by decide +kernel
theorem dX12_apartIn_41 : decode cX12_apartIn 41 = .ok (.ireturn, 1) := by decide +kernel
theorem dX12_apartOf_0 : decode cX12_apartOf 0 = .ok (.iconst 0, 1) := by decide +kernel
theorem dX12_apartOf_1 : decode cX12_apartOf 1 = .ok (.istore_n 3, 1) := by decide +kernel
theorem dX12_apartOf_2 : decode cX12_apartOf 2 = .ok (.iconst 0, 1) := by decide +kernel
theorem dX12_apartOf_3 : decode cX12_apartOf 3 = .ok (.istore 4, 2) := by decide +kernel
theorem dX12_apartOf_5 : decode cX12_apartOf 5 = .ok (.iload 4, 2) := by decide +kernel
theorem dX12_apartOf_7 : decode cX12_apartOf 7 = .ok (.aload_n 0, 1) := by decide +kernel
theorem dX12_apartOf_8 : decode cX12_apartOf 8 = .ok (.getfield 65, 3) := by decide +kernel
theorem dX12_apartOf_11 : decode cX12_apartOf 11 = .ok (.if_icmp .ge 20, 3) := by decide +kernel
theorem dX12_apartOf_14 : decode cX12_apartOf 14 = .ok (.iload_n 3, 1) := by decide +kernel
theorem dX12_apartOf_15 : decode cX12_apartOf 15 = .ok (.aload_n 0, 1) := by decide +kernel
theorem dX12_apartOf_16 : decode cX12_apartOf 16 = .ok (.iload 4, 2) := by decide +kernel
theorem dX12_apartOf_18 : decode cX12_apartOf 18 = .ok (.iload_n 1, 1) := by decide +kernel
theorem dX12_apartOf_19 : decode cX12_apartOf 19 = .ok (.iload_n 2, 1) := by decide +kernel
theorem dX12_apartOf_20 : decode cX12_apartOf 20 = .ok (.invokevirtual 115, 3) := by decide +kernel
theorem dX12_apartOf_23 : decode cX12_apartOf 23 = .ok (.iadd, 1) := by decide +kernel
theorem dX12_apartOf_24 : decode cX12_apartOf 24 = .ok (.istore_n 3, 1) := by decide +kernel
theorem dX12_apartOf_25 : decode cX12_apartOf 25 = .ok (.iinc 4 1, 3) := by decide +kernel
theorem dX12_apartOf_28 : decode cX12_apartOf 28 = .ok (.goto (-23), 3) := by decide +kernel
theorem dX12_apartOf_31 : decode cX12_apartOf 31 = .ok (.iload_n 3, 1) := by decide +kernel
theorem dX12_apartOf_32 : decode cX12_apartOf 32 = .ok (.ireturn, 1) := by decide +kernel
theorem dX12_apart_0 : decode cX12_apart 0 = .ok (.aload_n 0, 1) := by decide +kernel
theorem dX12_apart_1 : decode cX12_apart 1 = .ok (.invokevirtual 79, 3) := by decide +kernel
theorem dX12_apart_4 : decode cX12_apart 4 = .ok (.ifCond .eq 6, 3) := by decide +kernel
theorem dX12_apart_7 : decode cX12_apart 7 = .ok (.bipush (-103), 2) := by decide +kernel
theorem dX12_apart_9 : decode cX12_apart 9 = .ok (.ireturn, 1) := by decide +kernel
theorem dX12_apart_10 : decode cX12_apart 10 = .ok (.aload_n 0, 1) := by decide +kernel
theorem dX12_apart_11 : decode cX12_apart 11 = .ok (.iload_n 1, 1) := by decide +kernel
theorem dX12_apart_12 : decode cX12_apart 12 = .ok (.invokevirtual 118, 3) := by decide +kernel
theorem dX12_apart_15 : decode cX12_apart 15 = .ok (.ifCond .eq 20, 3) := by decide +kernel
theorem dX12_apart_18 : decode cX12_apart 18 = .ok (.aload_n 0, 1) := by decide +kernel
theorem dX12_apart_19 : decode cX12_apart 19 = .ok (.iload_n 2, 1) := by decide +kernel
theorem dX12_apart_20 : decode cX12_apart 20 = .ok (.invokevirtual 118, 3) := by decide +kernel
theorem dX12_apart_23 : decode cX12_apart 23 = .ok (.ifCond .eq 12, 3) := by decide +kernel
theorem dX12_apart_26 : decode cX12_apart 26 = .ok (.aload_n 0, 1) := by decide +kernel
theorem dX12_apart_27 : decode cX12_apart 27 = .ok (.iload_n 1, 1) := by decide +kernel
theorem dX12_apart_28 : decode cX12_apart 28 = .ok (.iload_n 2, 1) := by decide +kernel
theorem dX12_apart_29 : decode cX12_apart 29 = .ok (.invokevirtual 121, 3) := by decide +kernel
theorem dX12_apart_32 : decode cX12_apart 32 = .ok (.goto 5, 3) := by decide +kernel
theorem dX12_apart_35 : decode cX12_apart 35 = .ok (.bipush (-102), 2) := by decide +kernel
theorem dX12_apart_37 : decode cX12_apart 37 = .ok (.ireturn, 1) := by decide +kernel
theorem dX12_age_0 : decode cX12_age 0 = .ok (.iconst 0, 1) := by decide +kernel
theorem dX12_age_1 : decode cX12_age 1 = .ok (.istore_n 1, 1) := by decide +kernel
theorem dX12_age_2 : decode cX12_age 2 = .ok (.iload_n 1, 1) := by decide +kernel
theorem dX12_age_3 : decode cX12_age 3 = .ok (.aload_n 0, 1) := by decide +kernel
theorem dX12_age_4 : decode cX12_age 4 = .ok (.getfield 65, 3) := by decide +kernel
theorem dX12_age_7 : decode cX12_age 7 = .ok (.if_icmp .ge 75, 3) := by decide +kernel
theorem dX12_age_10 : decode cX12_age 10 = .ok (.aload_n 0, 1) := by decide +kernel
theorem dX12_age_11 : decode cX12_age 11 = .ok (.getfield 13, 3) := by decide +kernel
theorem dX12_age_14 : decode cX12_age 14 = .ok (.iload_n 1, 1) := by decide +kernel
theorem dX12_age_15 : decode cX12_age 15 = .ok (.aload_n 0, 1) := by decide +kernel
theorem dX12_age_16 : decode cX12_age 16 = .ok (.getfield 7, 3) := by decide +kernel
theorem dX12_age_19 : decode cX12_age 19 = .ok (.iload_n 1, 1) := by decide +kernel
theorem dX12_age_20 : decode cX12_age 20 = .ok (.iaload, 1) := by decide +kernel
theorem dX12_age_21 : decode cX12_age 21 = .ok (.iconst 1, 1) := by decide +kernel
theorem dX12_age_22 : decode cX12_age 22 = .ok (.if_icmp .ne 23, 3) := by decide +kernel
theorem dX12_age_25 : decode cX12_age 25 = .ok (.aload_n 0, 1) := by decide +kernel
theorem dX12_age_26 : decode cX12_age 26 = .ok (.getfield 13, 3) := by decide +kernel
theorem dX12_age_29 : decode cX12_age 29 = .ok (.iload_n 1, 1) := by decide +kernel
theorem dX12_age_30 : decode cX12_age 30 = .ok (.iaload, 1) := by decide +kernel
theorem dX12_age_31 : decode cX12_age 31 = .ok (.ifCond .le 14, 3) := by decide +kernel
theorem dX12_age_34 : decode cX12_age 34 = .ok (.aload_n 0, 1) := by decide +kernel
theorem dX12_age_35 : decode cX12_age 35 = .ok (.getfield 13, 3) := by decide +kernel
theorem dX12_age_38 : decode cX12_age 38 = .ok (.iload_n 1, 1) := by decide +kernel
theorem dX12_age_39 : decode cX12_age 39 = .ok (.iaload, 1) := by decide +kernel
theorem dX12_age_40 : decode cX12_age 40 = .ok (.iconst 1, 1) := by decide +kernel
theorem dX12_age_41 : decode cX12_age 41 = .ok (.isub, 1) := by decide +kernel
theorem dX12_age_42 : decode cX12_age 42 = .ok (.goto 33, 3) := by decide +kernel
theorem dX12_age_45 : decode cX12_age 45 = .ok (.aload_n 0, 1) := by decide +kernel
theorem dX12_age_46 : decode cX12_age 46 = .ok (.getfield 7, 3) := by decide +kernel
theorem dX12_age_49 : decode cX12_age 49 = .ok (.iload_n 1, 1) := by decide +kernel
