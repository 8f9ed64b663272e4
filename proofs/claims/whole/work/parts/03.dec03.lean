theorem dX10_tryPlaces_90 : decode cX10_tryPlaces 90 = .ok (.aload_n 0, 1) := by decide +kernel
theorem dX10_tryPlaces_91 : decode cX10_tryPlaces 91 = .ok (.getfield 15, 3) := by decide +kernel
theorem dX10_tryPlaces_94 : decode cX10_tryPlaces 94 = .ok (.iload_n 1, 1) := by decide +kernel
theorem dX10_tryPlaces_95 : decode cX10_tryPlaces 95 = .ok (.iload 4, 2) := by decide +kernel
theorem dX10_tryPlaces_97 : decode cX10_tryPlaces 97 = .ok (.iastore, 1) := by decide +kernel
theorem dX10_tryPlaces_98 : decode cX10_tryPlaces 98 = .ok (.aload_n 0, 1) := by decide +kernel
theorem dX10_tryPlaces_99 : decode cX10_tryPlaces 99 = .ok (.iload_n 1, 1) := by decide +kernel
theorem dX10_tryPlaces_100 : decode cX10_tryPlaces 100 = .ok (.iconst 1, 1) := by decide +kernel
theorem dX10_tryPlaces_101 : decode cX10_tryPlaces 101 = .ok (.iadd, 1) := by decide +kernel
theorem dX10_tryPlaces_102 : decode cX10_tryPlaces 102 = .ok (.iload_n 2, 1) := by decide +kernel
theorem dX10_tryPlaces_103 : decode cX10_tryPlaces 103 = .ok (.iconst 1, 1) := by decide +kernel
theorem dX10_tryPlaces_104 : decode cX10_tryPlaces 104 = .ok (.iload 4, 2) := by decide +kernel
theorem dX10_tryPlaces_106 : decode cX10_tryPlaces 106 = .ok (.ishl, 1) := by decide +kernel
theorem dX10_tryPlaces_107 : decode cX10_tryPlaces 107 = .ok (.ior, 1) := by decide +kernel
theorem dX10_tryPlaces_108 : decode cX10_tryPlaces 108 = .ok (.iload_n 3, 1) := by decide +kernel
theorem dX10_tryPlaces_109 : decode cX10_tryPlaces 109 = .ok (.iload 5, 2) := by decide +kernel
theorem dX10_tryPlaces_111 : decode cX10_tryPlaces 111 = .ok (.iadd, 1) := by decide +kernel
theorem dX10_tryPlaces_112 : decode cX10_tryPlaces 112 = .ok (.invokevirtual 52, 3) := by decide +kernel
theorem dX10_tryPlaces_115 : decode cX10_tryPlaces 115 = .ok (.iinc 4 1, 3) := by decide +kernel
theorem dX10_tryPlaces_118 : decode cX10_tryPlaces 118 = .ok (.goto (-75), 3) := by decide +kernel
theorem dX10_tryPlaces_121 : decode cX10_tryPlaces 121 = .ok (.return_, 1) := by decide +kernel
theorem dX11_init_0 : decode cX11_init 0 = .ok (.aload_n 0, 1) := by decide +kernel
theorem dX11_init_1 : decode cX11_init 1 = .ok (.invokespecial 3, 3) := by decide +kernel
theorem dX11_init_4 : decode cX11_init 4 = .ok (.aload_n 0, 1) := by decide +kernel
theorem dX11_init_5 : decode cX11_init 5 = .ok (.new 9, 3) := by decide +kernel
theorem dX11_init_8 : decode cX11_init 8 = .ok (.dup, 1) := by decide +kernel
theorem dX11_init_9 : decode cX11_init 9 = .ok (.invokespecial 11, 3) := by decide +kernel
theorem dX11_init_12 : decode cX11_init 12 = .ok (.putfield 12, 3) := by decide +kernel
theorem dX11_init_15 : decode cX11_init 15 = .ok (.aload_n 0, 1) := by decide +kernel
theorem dX11_init_16 : decode cX11_init 16 = .ok (.new 16, 3) := by decide +kernel
theorem dX11_init_19 : decode cX11_init 19 = .ok (.dup, 1) := by decide +kernel
theorem dX11_init_20 : decode cX11_init 20 = .ok (.aload_n 0, 1) := by decide +kernel
theorem dX11_init_21 : decode cX11_init 21 = .ok (.getfield 12, 3) := by decide +kernel
theorem dX11_init_24 : decode cX11_init 24 = .ok (.invokespecial 18, 3) := by decide +kernel
theorem dX11_init_27 : decode cX11_init 27 = .ok (.putfield 21, 3) := by decide +kernel
theorem dX11_init_30 : decode cX11_init 30 = .ok (.aload_n 0, 1) := by decide +kernel
theorem dX11_init_31 : decode cX11_init 31 = .ok (.new 25, 3) := by decide +kernel
theorem dX11_init_34 : decode cX11_init 34 = .ok (.dup, 1) := by decide +kernel
theorem dX11_init_35 : decode cX11_init 35 = .ok (.invokespecial 27, 3) := by decide +kernel
theorem dX11_init_38 : decode cX11_init 38 = .ok (.putfield 28, 3) := by decide +kernel
theorem dX11_init_41 : decode cX11_init 41 = .ok (.aload_n 0, 1) := by decide +kernel
theorem dX11_init_42 : decode cX11_init 42 = .ok (.new 32, 3) := by decide +kernel
theorem dX11_init_45 : decode cX11_init 45 = .ok (.dup, 1) := by decide +kernel
theorem dX11_init_46 : decode cX11_init 46 = .ok (.aload_n 0, 1) := by decide +kernel
theorem dX11_init_47 : decode cX11_init 47 = .ok (.getfield 12, 3) := by decide +kernel
theorem dX11_init_50 : decode cX11_init 50 = .ok (.aload_n 0, 1) := by decide +kernel
theorem dX11_init_51 : decode cX11_init 51 = .ok (.getfield 21, 3) := by decide +kernel
theorem dX11_init_54 : decode cX11_init 54 = .ok (.invokespecial 34, 3) := by decide +kernel
theorem dX11_init_57 : decode cX11_init 57 = .ok (.putfield 37, 3) := by decide +kernel
theorem dX11_init_60 : decode cX11_init 60 = .ok (.aload_n 0, 1) := by decide +kernel
theorem dX11_init_61 : decode cX11_init 61 = .ok (.new 41, 3) := by decide +kernel
theorem dX11_init_64 : decode cX11_init 64 = .ok (.dup, 1) := by decide +kernel
theorem dX11_init_65 : decode cX11_init 65 = .ok (.aload_n 0, 1) := by decide +kernel
theorem dX11_init_66 : decode cX11_init 66 = .ok (.getfield 12, 3) := by decide +kernel
theorem dX11_init_69 : decode cX11_init 69 = .ok (.invokespecial 43, 3) := by decide +kernel
theorem dX11_init_72 : decode cX11_init 72 = .ok (.putfield 44, 3) := by decide +kernel
theorem dX11_init_75 : decode cX11_init 75 = .ok (.aload_n 0, 1) := by decide +kernel
theorem dX11_init_76 : decode cX11_init 76 = .ok (.new 48, 3) := by decide +kernel
theorem dX11_init_79 : decode cX11_init 79 = .ok (.dup, 1) := by decide +kernel
theorem dX11_init_80 : decode cX11_init 80 = .ok (.bipush 10, 2) := by decide +kernel
theorem dX11_init_82 : decode cX11_init 82 = .ok (.invokespecial 50, 3) := by decide +kernel
theorem dX11_init_85 : decode cX11_init 85 = .ok (.putfield 53, 3) := by decide +kernel
theorem dX11_init_88 : decode cX11_init 88 = .ok (.aload_n 0, 1) := by decide +kernel
theorem dX11_init_89 : decode cX11_init 89 = .ok (.new 48, 3) := by decide +kernel
theorem dX11_init_92 : decode cX11_init 92 = .ok (.dup, 1) := by decide +kernel
theorem dX11_init_93 : decode cX11_init 93 = .ok (.bipush 60, 2) := by decide +kernel
theorem dX11_init_95 : decode cX11_init 95 = .ok (.invokespecial 50, 3) := by decide +kernel
theorem dX11_init_98 : decode cX11_init 98 = .ok (.putfield 57, 3) := by decide +kernel
theorem dX11_init_101 : decode cX11_init 101 = .ok (.aload_n 0, 1) := by decide +kernel
theorem dX11_init_102 : decode cX11_init 102 = .ok (.new 48, 3) := by decide +kernel
theorem dX11_init_105 : decode cX11_init 105 = .ok (.dup, 1) := by decide +kernel
theorem dX11_init_106 : decode cX11_init 106 = .ok (.bipush 6, 2) := by decide +kernel
theorem dX11_init_108 : decode cX11_init 108 = .ok (.invokespecial 50, 3) := by decide +kernel
theorem dX11_init_111 : decode cX11_init 111 = .ok (.putfield 60, 3) := by decide +kernel
theorem dX11_init_114 : decode cX11_init 114 = .ok (.aload_n 0, 1) := by decide +kernel
theorem dX11_init_115 : decode cX11_init 115 = .ok (.new 48, 3) := by decide +kernel
theorem dX11_init_118 : decode cX11_init 118 = .ok (.dup, 1) := by decide +kernel
theorem dX11_init_119 : decode cX11_init 119 = .ok (.bipush 6, 2) := by decide +kernel
theorem dX11_init_121 : decode cX11_init 121 = .ok (.invokespecial 50, 3) := by decide +kernel
theorem dX11_init_124 : decode cX11_init 124 = .ok (.putfield 63, 3) := by decide +kernel
theorem dX11_init_127 : decode cX11_init 127 = .ok (.aload_n 0, 1) := by decide +kernel
theorem dX11_init_128 : decode cX11_init 128 = .ok (.iconst 0, 1) := by decide +kernel
theorem dX11_init_129 : decode cX11_init 129 = .ok (.putfield 66, 3) := by decide +kernel
theorem dX11_init_132 : decode cX11_init 132 = .ok (.aload_n 0, 1) := by decide +kernel
theorem dX11_init_133 : decode cX11_init 133 = .ok (.iconst 0, 1) := by decide +kernel
theorem dX11_init_134 : decode cX11_init 134 = .ok (.putfield 70, 3) := by decide +kernel
theorem dX11_init_137 : decode cX11_init 137 = .ok (.aload_n 0, 1) := by decide +kernel
theorem dX11_init_138 : decode cX11_init 138 = .ok (.iconst 0, 1) := by decide +kernel
theorem dX11_init_139 : decode cX11_init 139 = .ok (.putfield 73, 3) := by decide +kernel
theorem dX11_init_142 : decode cX11_init 142 = .ok (.aload_n 0, 1) := by decide +kernel
theorem dX11_init_143 : decode cX11_init 143 = .ok (.iconst 0, 1) := by decide +kernel
theorem dX11_init_144 : decode cX11_init 144 = .ok (.putfield 76, 3) := by decide +kernel
theorem dX11_init_147 : decode cX11_init 147 = .ok (.aload_n 0, 1) := by decide +kernel
theorem dX11_init_148 : decode cX11_init 148 = .ok (.iconst 0, 1) := by decide +kernel
theorem dX11_init_149 : decode cX11_init 149 = .ok (.putfield 79, 3) := by decide +kernel
theorem dX11_init_152 : decode cX11_init 152 = .ok (.aload_n 0, 1) := by decide +kernel
theorem dX11_init_153 : decode cX11_init 153 = .ok (.iconst 0, 1) := by decide +kernel
theorem dX11_init_154 : decode cX11_init 154 = .ok (.putfield 82, 3) := by decide +kernel
theorem dX11_init_157 : decode cX11_init 157 = .ok (.return_, 1) := by decide +kernel
theorem dX11_feature_0 : decode cX11_feature 0 = .ok (.iload_n 1, 1) := by decide +kernel
theorem dX11_feature_1 : decode cX11_feature 1 = .ok (.invokestatic 85, 3) := by decide +kernel
theorem dX11_feature_4 : decode cX11_feature 4 = .ok (.ifCond .eq 13, 3) := by decide +kernel
theorem dX11_feature_7 : decode cX11_feature 7 = .ok (.iload_n 2, 1) := by decide +kernel
theorem dX11_feature_8 : decode cX11_feature 8 = .ok (.ifCond .lt 9, 3) := by decide +kernel
theorem dX11_feature_11 : decode cX11_feature 11 = .ok (.iload_n 2, 1) := by decide +kernel
theorem dX11_feature_12 : decode cX11_feature 12 = .ok (.bipush 9, 2) := by decide +kernel
theorem dX11_feature_14 : decode cX11_feature 14 = .ok (.if_icmp .le 6, 3) := by decide +kernel
theorem dX11_feature_17 : decode cX11_feature 17 = .ok (.bipush (-102), 2) := by decide +kernel
theorem dX11_feature_19 : decode cX11_feature 19 = .ok (.ireturn, 1) := by decide +kernel
theorem dX11_feature_20 : decode cX11_feature 20 = .ok (.aload_n 0, 1) := by decide +kernel
theorem dX11_feature_21 : decode cX11_feature 21 = .ok (.invokevirtual 89, 3) := by decide +kernel
theorem dX11_feature_24 : decode cX11_feature 24 = .ok (.ifCond .eq 6, 3) := by decide +kernel
theorem dX11_feature_27 : decode cX11_feature 27 = .ok (.bipush (-103), 2) := by decide +kernel
theorem dX11_feature_29 : decode cX11_feature 29 = .ok (.ireturn, 1) := by decide +kernel
theorem dX11_feature_30 : decode cX11_feature 30 = .ok (.aload_n 0, 1) := by decide +kernel
theorem dX11_feature_31 : decode cX11_feature 31 = .ok (.getfield 12, 3) := by decide +kernel
theorem dX11_feature_34 : decode cX11_feature 34 = .ok (.invokevirtual 93, 3) := by decide +kernel
theorem dX11_feature_37 : decode cX11_feature 37 = .ok (.ifCond .eq 6, 3) := by decide +kernel
theorem dX11_feature_40 : decode cX11_feature 40 = .ok (.bipush (-104), 2) := by decide +kernel
theorem dX11_feature_42 : decode cX11_feature 42 = .ok (.ireturn, 1) := by decide +kernel
theorem dX11_feature_43 : decode cX11_feature 43 = .ok (.aload_n 0, 1) := by decide +kernel
theorem dX11_feature_44 : decode cX11_feature 44 = .ok (.getfield 12, 3) := by decide +kernel
theorem dX11_feature_47 : decode cX11_feature 47 = .ok (.iload_n 1, 1) := by decide +kernel
theorem dX11_feature_48 : decode cX11_feature 48 = .ok (.invokestatic 96, 3) := by decide +kernel
theorem dX11_feature_51 : decode cX11_feature 51 = .ok (.invokevirtual 100, 3) := by decide +kernel
theorem dX11_feature_54 : decode cX11_feature 54 = .ok (.istore_n 3, 1) := by decide +kernel
theorem dX11_feature_55 : decode cX11_feature 55 = .ok (.aload_n 0, 1) := by decide +kernel
theorem dX11_feature_56 : decode cX11_feature 56 = .ok (.aload_n 0, 1) := by decide +kernel
theorem dX11_feature_57 : decode cX11_feature 57 = .ok (.getfield 12, 3) := by decide +kernel
theorem dX11_feature_60 : decode cX11_feature 60 = .ok (.aload_n 0, 1) := by decide +kernel
theorem dX11_feature_61 : decode cX11_feature 61 = .ok (.getfield 66, 3) := by decide +kernel
theorem dX11_feature_64 : decode cX11_feature 64 = .ok (.iload_n 3, 1) := by decide +kernel
theorem dX11_feature_65 : decode cX11_feature 65 = .ok (.iload_n 2, 1) := by decide +kernel
theorem dX11_feature_66 : decode cX11_feature 66 = .ok (.invokevirtual 104, 3) := by decide +kernel
theorem dX11_feature_69 : decode cX11_feature 69 = .ok (.putfield 66, 3) := by decide +kernel
theorem dX11_feature_72 : decode cX11_feature 72 = .ok (.iload_n 3, 1) := by decide +kernel
theorem dX11_feature_73 : decode cX11_feature 73 = .ok (.ireturn, 1) := by decide +kernel
theorem dX11_about_0 : decode cX11_about 0 = .ok (.aload_n 0, 1) := by decide +kernel
theorem dX11_about_1 : decode cX11_about 1 = .ok (.getfield 12, 3) := by decide +kernel
theorem dX11_about_4 : decode cX11_about 4 = .ok (.iload_n 1, 1) := by decide +kernel
theorem dX11_about_5 : decode cX11_about 5 = .ok (.invokevirtual 108, 3) := by decide +kernel
theorem dX11_about_8 : decode cX11_about 8 = .ok (.ifCond .ne 6, 3) := by decide +kernel
theorem dX11_about_11 : decode cX11_about 11 = .ok (.bipush (-101), 2) := by decide +kernel
theorem dX11_about_13 : decode cX11_about 13 = .ok (.ireturn, 1) := by decide +kernel
theorem dX11_about_14 : decode cX11_about 14 = .ok (.iload_n 2, 1) := by decide +kernel
theorem dX11_about_15 : decode cX11_about 15 = .ok (.ifCond .lt 8, 3) := by decide +kernel
theorem dX11_about_18 : decode cX11_about 18 = .ok (.iload_n 2, 1) := by decide +kernel
theorem dX11_about_19 : decode cX11_about 19 = .ok (.iconst 3, 1) := by decide +kernel
theorem dX11_about_20 : decode cX11_about 20 = .ok (.if_icmp .lt 6, 3) := by decide +kernel
theorem dX11_about_23 : decode cX11_about 23 = .ok (.bipush (-102), 2) := by decide +kernel
theorem dX11_about_25 : decode cX11_about 25 = .ok (.ireturn, 1) := by decide +kernel
theorem dX11_about_26 : decode cX11_about 26 = .ok (.aload_n 0, 1) := by decide +kernel
theorem dX11_about_27 : decode cX11_about 27 = .ok (.iload_n 1, 1) := by decide +kernel
theorem dX11_about_28 : decode cX11_about 28 = .ok (.iload_n 2, 1) := by decide +kernel
theorem dX11_about_29 : decode cX11_about 29 = .ok (.invokevirtual 111, 3) := by decide +kernel
theorem dX11_about_32 : decode cX11_about 32 = .ok (.ireturn, 1) := by decide +kernel
theorem dX11_as_0 : decode cX11_as 0 = .ok (.aload_n 0, 1) := by decide +kernel
theorem dX11_as_1 : decode cX11_as 1 = .ok (.getfield 12, 3) := by decide +kernel
theorem dX11_as_4 : decode cX11_as 4 = .ok (.iload_n 1, 1) := by decide +kernel
theorem dX11_as_5 : decode cX11_as 5 = .ok (.invokevirtual 108, 3) := by decide +kernel
theorem dX11_as_8 : decode cX11_as 8 = .ok (.ifCond .ne 6, 3) := by decide +kernel
theorem dX11_as_11 : decode cX11_as 11 = .ok (.bipush (-101), 2) := by decide +kernel
theorem dX11_as_13 : decode cX11_as 13 = .ok (.ireturn, 1) := by decide +kernel
theorem dX11_as_14 : decode cX11_as 14 = .ok (.iload_n 2, 1) := by decide +kernel
theorem dX11_as_15 : decode cX11_as 15 = .ok (.invokestatic 85, 3) := by decide +kernel
theorem dX11_as_18 : decode cX11_as 18 = .ok (.ifCond .ne 6, 3) := by decide +kernel
theorem dX11_as_21 : decode cX11_as 21 = .ok (.bipush (-102), 2) := by decide +kernel
theorem dX11_as_23 : decode cX11_as 23 = .ok (.ireturn, 1) := by decide +kernel
theorem dX11_as_24 : decode cX11_as 24 = .ok (.aload_n 0, 1) := by decide +kernel
theorem dX11_as_25 : decode cX11_as 25 = .ok (.getfield 12, 3) := by decide +kernel
theorem dX11_as_28 : decode cX11_as 28 = .ok (.iload_n 1, 1) := by decide +kernel
theorem dX11_as_29 : decode cX11_as 29 = .ok (.invokevirtual 115, 3) := by decide +kernel
theorem dX11_as_32 : decode cX11_as 32 = .ok (.iload_n 2, 1) := by decide +kernel
theorem dX11_as_33 : decode cX11_as 33 = .ok (.invokestatic 118, 3) := by decide +kernel
theorem dX11_as_36 : decode cX11_as 36 = .ok (.ifCond .eq 7, 3) := by decide +kernel
theorem dX11_as_39 : decode cX11_as 39 = .ok (.iload_n 1, 1) := by decide +kernel
theorem dX11_as_40 : decode cX11_as 40 = .ok (.goto 4, 3) := by decide +kernel
theorem dX11_as_43 : decode cX11_as 43 = .ok (.iconst (-1), 1) := by decide +kernel
theorem dX11_as_44 : decode cX11_as 44 = .ok (.ireturn, 1) := by decide +kernel
theorem dX11_begin_0 : decode cX11_begin 0 = .ok (.aload_n 0, 1) := by decide +kernel
theorem dX11_begin_1 : decode cX11_begin 1 = .ok (.invokevirtual 89, 3) := by decide +kernel
theorem dX11_begin_4 : decode cX11_begin 4 = .ok (.ifCond .ne 14, 3) := by decide +kernel
theorem dX11_begin_7 : decode cX11_begin 7 = .ok (.aload_n 0, 1) := by decide +kernel
theorem dX11_begin_8 : decode cX11_begin 8 = .ok (.getfield 12, 3) := by decide +kernel
theorem dX11_begin_11 : decode cX11_begin 11 = .ok (.invokevirtual 122, 3) := by decide +kernel
theorem dX11_begin_14 : decode cX11_begin 14 = .ok (.iconst 2, 1) := by decide +kernel
theorem dX11_begin_15 : decode cX11_begin 15 = .ok (.if_icmp .ge 6, 3) := by decide +kernel
theorem dX11_begin_18 : decode cX11_begin 18 = .ok (.bipush (-103), 2) := by decide +kernel
theorem dX11_begin_20 : decode cX11_begin 20 = .ok (.ireturn, 1) := by decide +kernel
theorem dX11_begin_21 : decode cX11_begin 21 = .ok (.aload_n 0, 1) := by decide +kernel
theorem dX11_begin_22 : decode cX11_begin 22 = .ok (.getfield 57, 3) := by decide +kernel
theorem dX11_begin_25 : decode cX11_begin 25 = .ok (.aload_n 0, 1) := by decide +kernel
theorem dX11_begin_26 : decode cX11_begin 26 = .ok (.getfield 66, 3) := by decide +kernel
theorem dX11_begin_29 : decode cX11_begin 29 = .ok (.invokevirtual 126, 3) := by decide +kernel
theorem dX11_begin_32 : decode cX11_begin 32 = .ok (.aload_n 0, 1) := by decide +kernel
theorem dX11_begin_33 : decode cX11_begin 33 = .ok (.getfield 66, 3) := by decide +kernel
theorem dX11_begin_36 : decode cX11_begin 36 = .ok (.ireturn, 1) := by decide +kernel
theorem dX11_apart_0 : decode cX11_apart 0 = .ok (.aload_n 0, 1) := by decide +kernel
theorem dX11_apart_1 : decode cX11_apart 1 = .ok (.invokevirtual 89, 3) := by decide +kernel
theorem dX11_apart_4 : decode cX11_apart 4 = .ok (.ifCond .ne 6, 3) := by decide +kernel
theorem dX11_apart_7 : decode cX11_apart 7 = .ok (.bipush (-103), 2) := by decide +kernel
theorem dX11_apart_9 : decode cX11_apart 9 = .ok (.ireturn, 1) := by decide +kernel
theorem dX11_apart_10 : decode cX11_apart 10 = .ok (.aload_n 0, 1) := by decide +kernel
theorem dX11_apart_11 : decode cX11_apart 11 = .ok (.getfield 12, 3) := by decide +kernel
theorem dX11_apart_14 : decode cX11_apart 14 = .ok (.iload_n 1, 1) := by decide +kernel
theorem dX11_apart_15 : decode cX11_apart 15 = .ok (.invokevirtual 128, 3) := by decide +kernel
theorem dX11_apart_18 : decode cX11_apart 18 = .ok (.ifCond .eq 14, 3) := by decide +kernel
theorem dX11_apart_21 : decode cX11_apart 21 = .ok (.aload_n 0, 1) := by decide +kernel
theorem dX11_apart_22 : decode cX11_apart 22 = .ok (.getfield 12, 3) := by decide +kernel
theorem dX11_apart_25 : decode cX11_apart 25 = .ok (.iload_n 2, 1) := by decide +kernel
theorem dX11_apart_26 : decode cX11_apart 26 = .ok (.invokevirtual 128, 3) := by decide +kernel
theorem dX11_apart_29 : decode cX11_apart 29 = .ok (.ifCond .ne 6, 3) := by decide +kernel
theorem dX11_apart_32 : decode cX11_apart 32 = .ok (.bipush (-102), 2) := by decide +kernel
theorem dX11_apart_34 : decode cX11_apart 34 = .ok (.ireturn, 1) := by decide +kernel
theorem dX11_apart_35 : decode cX11_apart 35 = .ok (.aload_n 0, 1) := by decide +kernel
theorem dX11_apart_36 : decode cX11_apart 36 = .ok (.getfield 12, 3) := by decide +kernel
theorem dX11_apart_39 : decode cX11_apart 39 = .ok (.iload_n 1, 1) := by decide +kernel
theorem dX11_apart_40 : decode cX11_apart 40 = .ok (.iload_n 2, 1) := by decide +kernel
theorem dX11_apart_41 : decode cX11_apart 41 = .ok (.invokevirtual 131, 3) := by decide +kernel
theorem dX11_apart_44 : decode cX11_apart 44 = .ok (.ireturn, 1) := by decide +kernel
theorem dX11_paint_0 : decode cX11_paint 0 = .ok (.aload_n 0, 1) := by decide +kernel
theorem dX11_paint_1 : decode cX11_paint 1 = .ok (.invokevirtual 89, 3) := by decide +kernel
theorem dX11_paint_4 : decode cX11_paint 4 = .ok (.ifCond .ne 6, 3) := by decide +kernel
theorem dX11_paint_7 : decode cX11_paint 7 = .ok (.bipush (-103), 2) := by decide +kernel
theorem dX11_paint_9 : decode cX11_paint 9 = .ok (.ireturn, 1) := by decide +kernel
theorem dX11_paint_10 : decode cX11_paint 10 = .ok (.aload_n 0, 1) := by decide +kernel
theorem dX11_paint_11 : decode cX11_paint 11 = .ok (.getfield 12, 3) := by decide +kernel
theorem dX11_paint_14 : decode cX11_paint 14 = .ok (.iload_n 1, 1) := by decide +kernel
theorem dX11_paint_15 : decode cX11_paint 15 = .ok (.invokevirtual 128, 3) := by decide +kernel
theorem dX11_paint_18 : decode cX11_paint 18 = .ok (.ifCond .ne 6, 3) := by decide +kernel
theorem dX11_paint_21 : decode cX11_paint 21 = .ok (.bipush (-102), 2) := by decide +kernel
theorem dX11_paint_23 : decode cX11_paint 23 = .ok (.ireturn, 1) := by decide +kernel
theorem dX11_paint_24 : decode cX11_paint 24 = .ok (.aload_n 0, 1) := by decide +kernel
theorem dX11_paint_25 : decode cX11_paint 25 = .ok (.getfield 12, 3) := by decide +kernel
theorem dX11_paint_28 : decode cX11_paint 28 = .ok (.aload_n 0, 1) := by decide +kernel
theorem dX11_paint_29 : decode cX11_paint 29 = .ok (.getfield 66, 3) := by decide +kernel
theorem dX11_paint_32 : decode cX11_paint 32 = .ok (.invokevirtual 134, 3) := by decide +kernel
theorem dX11_paint_35 : decode cX11_paint 35 = .ok (.istore_n 2, 1) := by decide +kernel
theorem dX11_paint_36 : decode cX11_paint 36 = .ok (.aload_n 0, 1) := by decide +kernel
theorem dX11_paint_37 : decode cX11_paint 37 = .ok (.getfield 21, 3) := by decide +kernel
theorem dX11_paint_40 : decode cX11_paint 40 = .ok (.aload_n 0, 1) := by decide +kernel
theorem dX11_paint_41 : decode cX11_paint 41 = .ok (.getfield 57, 3) := by decide +kernel
theorem dX11_paint_44 : decode cX11_paint 44 = .ok (.invokevirtual 138, 3) := by decide +kernel
theorem dX11_paint_47 : decode cX11_paint 47 = .ok (.iload_n 1, 1) := by decide +kernel
theorem dX11_paint_48 : decode cX11_paint 48 = .ok (.iload_n 2, 1) := by decide +kernel
theorem dX11_paint_49 : decode cX11_paint 49 = .ok (.invokevirtual 141, 3) := by decide +kernel
theorem dX11_paint_52 : decode cX11_paint 52 = .ok (.ifCond .ne 6, 3) := by decide +kernel
theorem dX11_paint_55 : decode cX11_paint 55 = .ok (.bipush (-103), 2) := by decide +kernel
theorem dX11_paint_57 : decode cX11_paint 57 = .ok (.ireturn, 1) := by decide +kernel
theorem dX11_paint_58 : decode cX11_paint 58 = .ok (.aload_n 0, 1) := by decide +kernel
theorem dX11_paint_59 : decode cX11_paint 59 = .ok (.getfield 57, 3) := by decide +kernel
theorem dX11_paint_62 : decode cX11_paint 62 = .ok (.invokevirtual 145, 3) := by decide +kernel
theorem dX11_paint_65 : decode cX11_paint 65 = .ok (.ifCond .eq 6, 3) := by decide +kernel
theorem dX11_paint_68 : decode cX11_paint 68 = .ok (.bipush (-104), 2) := by decide +kernel
theorem dX11_paint_70 : decode cX11_paint 70 = .ok (.ireturn, 1) := by decide +kernel
theorem dX11_paint_71 : decode cX11_paint 71 = .ok (.aload_n 0, 1) := by decide +kernel
theorem dX11_paint_72 : decode cX11_paint 72 = .ok (.iload_n 2, 1) := by decide +kernel
theorem dX11_paint_73 : decode cX11_paint 73 = .ok (.putfield 66, 3) := by decide +kernel
theorem dX11_paint_76 : decode cX11_paint 76 = .ok (.aload_n 0, 1) := by decide +kernel
theorem dX11_paint_77 : decode cX11_paint 77 = .ok (.getfield 57, 3) := by decide +kernel
theorem dX11_paint_80 : decode cX11_paint 80 = .ok (.iload_n 1, 1) := by decide +kernel
theorem dX11_paint_81 : decode cX11_paint 81 = .ok (.invokevirtual 126, 3) := by decide +kernel
theorem dX11_paint_84 : decode cX11_paint 84 = .ok (.aload_n 0, 1) := by decide +kernel
theorem dX11_paint_85 : decode cX11_paint 85 = .ok (.getfield 12, 3) := by decide +kernel
theorem dX11_paint_88 : decode cX11_paint 88 = .ok (.aload_n 0, 1) := by decide +kernel
theorem dX11_paint_89 : decode cX11_paint 89 = .ok (.getfield 66, 3) := by decide +kernel
theorem dX11_paint_92 : decode cX11_paint 92 = .ok (.iload_n 1, 1) := by decide +kernel
theorem dX11_paint_93 : decode cX11_paint 93 = .ok (.invokevirtual 131, 3) := by decide +kernel
theorem dX11_paint_96 : decode cX11_paint 96 = .ok (.ireturn, 1) := by decide +kernel
theorem dX11_line_0 : decode cX11_line 0 = .ok (.aload_n 0, 1) := by decide +kernel
theorem dX11_line_1 : decode cX11_line 1 = .ok (.getfield 57, 3) := by decide +kernel
theorem dX11_line_4 : decode cX11_line 4 = .ok (.iload_n 1, 1) := by decide +kernel
theorem dX11_line_5 : decode cX11_line 5 = .ok (.invokevirtual 146, 3) := by decide +kernel
theorem dX11_line_8 : decode cX11_line 8 = .ok (.ifCond .eq 14, 3) := by decide +kernel
theorem dX11_line_11 : decode cX11_line 11 = .ok (.aload_n 0, 1) := by decide +kernel
theorem dX11_line_12 : decode cX11_line 12 = .ok (.getfield 57, 3) := by decide +kernel
theorem dX11_line_15 : decode cX11_line 15 = .ok (.iload_n 1, 1) := by decide +kernel
theorem dX11_line_16 : decode cX11_line 16 = .ok (.invokevirtual 147, 3) := by decide +kernel
theorem dX11_line_19 : decode cX11_line 19 = .ok (.goto 5, 3) := by decide +kernel
theorem dX11_line_22 : decode cX11_line 22 = .ok (.bipush (-101), 2) := by decide +kernel
theorem dX11_line_24 : decode cX11_line 24 = .ok (.ireturn, 1) := by decide +kernel
theorem dX11_letters_0 : decode cX11_letters 0 = .ok (.lload_n 1, 1) := by decide +kernel
theorem dX11_letters_1 : decode cX11_letters 1 = .ok (.invokestatic 150, 3) := by decide +kernel
theorem dX11_letters_4 : decode cX11_letters 4 = .ok (.istore_n 3, 1) := by decide +kernel
theorem dX11_letters_5 : decode cX11_letters 5 = .ok (.iload_n 3, 1) := by decide +kernel
theorem dX11_letters_6 : decode cX11_letters 6 = .ok (.iconst (-1), 1) := by decide +kernel
theorem dX11_letters_7 : decode cX11_letters 7 = .ok (.if_icmp .ne 6, 3) := by decide +kernel
theorem dX11_letters_10 : decode cX11_letters 10 = .ok (.bipush (-102), 2) := by decide +kernel
theorem dX11_letters_12 : decode cX11_letters 12 = .ok (.ireturn, 1) := by decide +kernel
theorem dX11_letters_13 : decode cX11_letters 13 = .ok (.aload_n 0, 1) := by decide +kernel
theorem dX11_letters_14 : decode cX11_letters 14 = .ok (.getfield 53, 3) := by decide +kernel
theorem dX11_letters_17 : decode cX11_letters 17 = .ok (.invokevirtual 154, 3) := by decide +kernel
theorem dX11_letters_20 : decode cX11_letters 20 = .ok (.iload_n 3, 1) := by decide +kernel
theorem dX11_letters_21 : decode cX11_letters 21 = .ok (.iadd, 1) := by decide +kernel
theorem dX11_letters_22 : decode cX11_letters 22 = .ok (.bipush 10, 2) := by decide +kernel
theorem dX11_letters_24 : decode cX11_letters 24 = .ok (.if_icmp .le 6, 3) := by decide +kernel
theorem dX11_letters_27 : decode cX11_letters 27 = .ok (.bipush (-104), 2) := by decide +kernel
theorem dX11_letters_29 : decode cX11_letters 29 = .ok (.ireturn, 1) := by decide +kernel
theorem dX11_letters_30 : decode cX11_letters 30 = .ok (.iconst 0, 1) := by decide +kernel
theorem dX11_letters_31 : decode cX11_letters 31 = .ok (.istore 4, 2) := by decide +kernel
theorem dX11_letters_33 : decode cX11_letters 33 = .ok (.iload 4, 2) := by decide +kernel
theorem dX11_letters_35 : decode cX11_letters 35 = .ok (.iload_n 3, 1) := by decide +kernel
theorem dX11_letters_36 : decode cX11_letters 36 = .ok (.if_icmp .ge 22, 3) := by decide +kernel
theorem dX11_letters_39 : decode cX11_letters 39 = .ok (.aload_n 0, 1) := by decide +kernel
theorem dX11_letters_40 : decode cX11_letters 40 = .ok (.getfield 53, 3) := by decide +kernel
theorem dX11_letters_43 : decode cX11_letters 43 = .ok (.lload_n 1, 1) := by decide +kernel
theorem dX11_letters_44 : decode cX11_letters 44 = .ok (.iload 4, 2) := by decide +kernel
theorem dX11_letters_46 : decode cX11_letters 46 = .ok (.invokestatic 155, 3) := by decide +kernel
theorem dX11_letters_49 : decode cX11_letters 49 = .ok (.invokevirtual 126, 3) := by decide +kernel
theorem dX11_letters_52 : decode cX11_letters 52 = .ok (.iinc 4 1, 3) := by decide +kernel
theorem dX11_letters_55 : decode cX11_letters 55 = .ok (.goto (-22), 3) := by decide +kernel
theorem dX11_letters_58 : decode cX11_letters 58 = .ok (.aload_n 0, 1) := by decide +kernel
theorem dX11_letters_59 : decode cX11_letters 59 = .ok (.getfield 53, 3) := by decide +kernel
theorem dX11_letters_62 : decode cX11_letters 62 = .ok (.invokevirtual 154, 3) := by decide +kernel
theorem dX11_letters_65 : decode cX11_letters 65 = .ok (.ireturn, 1) := by decide +kernel
theorem dX11_blank_0 : decode cX11_blank 0 = .ok (.aload_n 0, 1) := by decide +kernel
theorem dX11_blank_1 : decode cX11_blank 1 = .ok (.getfield 53, 3) := by decide +kernel
theorem dX11_blank_4 : decode cX11_blank 4 = .ok (.invokevirtual 154, 3) := by decide +kernel
theorem dX11_blank_7 : decode cX11_blank 7 = .ok (.istore_n 1, 1) := by decide +kernel
theorem dX11_blank_8 : decode cX11_blank 8 = .ok (.aload_n 0, 1) := by decide +kernel
theorem dX11_blank_9 : decode cX11_blank 9 = .ok (.getfield 53, 3) := by decide +kernel
theorem dX11_blank_12 : decode cX11_blank 12 = .ok (.iconst 0, 1) := by decide +kernel
theorem dX11_blank_13 : decode cX11_blank 13 = .ok (.invokevirtual 159, 3) := by decide +kernel
theorem dX11_blank_16 : decode cX11_blank 16 = .ok (.iload_n 1, 1) := by decide +kernel
theorem dX11_blank_17 : decode cX11_blank 17 = .ok (.ireturn, 1) := by decide +kernel
theorem dX11_fault_0 : decode cX11_fault 0 = .ok (.aload_n 0, 1) := by decide +kernel
theorem dX11_fault_1 : decode cX11_fault 1 = .ok (.getfield 53, 3) := by decide +kernel
theorem dX11_fault_4 : decode cX11_fault 4 = .ok (.aload_n 0, 1) := by decide +kernel
theorem dX11_fault_5 : decode cX11_fault 5 = .ok (.getfield 12, 3) := by decide +kernel
theorem dX11_fault_8 : decode cX11_fault 8 = .ok (.invokevirtual 122, 3) := by decide +kernel
theorem dX11_fault_11 : decode cX11_fault 11 = .ok (.invokestatic 162, 3) := by decide +kernel
theorem dX11_fault_14 : decode cX11_fault 14 = .ok (.ireturn, 1) := by decide +kernel
theorem dX11_judge_0 : decode cX11_judge 0 = .ok (.aload_n 0, 1) := by decide +kernel
theorem dX11_judge_1 : decode cX11_judge 1 = .ok (.invokevirtual 89, 3) := by decide +kernel
theorem dX11_judge_4 : decode cX11_judge 4 = .ok (.ifCond .eq 20, 3) := by decide +kernel
theorem dX11_judge_7 : decode cX11_judge 7 = .ok (.aload_n 0, 1) := by decide +kernel
theorem dX11_judge_8 : decode cX11_judge 8 = .ok (.getfield 53, 3) := by decide +kernel
theorem dX11_judge_11 : decode cX11_judge 11 = .ok (.aload_n 0, 1) := by decide +kernel
theorem dX11_judge_12 : decode cX11_judge 12 = .ok (.getfield 12, 3) := by decide +kernel
theorem dX11_judge_15 : decode cX11_judge 15 = .ok (.invokevirtual 122, 3) := by decide +kernel
theorem dX11_judge_18 : decode cX11_judge 18 = .ok (.invokestatic 166, 3) := by decide +kernel
theorem dX11_judge_21 : decode cX11_judge 21 = .ok (.ifCond .ne 6, 3) := by decide +kernel
theorem dX11_judge_24 : decode cX11_judge 24 = .ok (.bipush (-103), 2) := by decide +kernel
theorem dX11_judge_26 : decode cX11_judge 26 = .ok (.ireturn, 1) := by decide +kernel
theorem dX11_judge_27 : decode cX11_judge 27 = .ok (.aload_n 0, 1) := by decide +kernel
theorem dX11_judge_28 : decode cX11_judge 28 = .ok (.getfield 21, 3) := by decide +kernel
theorem dX11_judge_31 : decode cX11_judge 31 = .ok (.invokevirtual 170, 3) := by decide +kernel
theorem dX11_judge_34 : decode cX11_judge 34 = .ok (.ifCond .eq 6, 3) := by decide +kernel
theorem dX11_judge_37 : decode cX11_judge 37 = .ok (.bipush (-104), 2) := by decide +kernel
theorem dX11_judge_39 : decode cX11_judge 39 = .ok (.ireturn, 1) := by decide +kernel
theorem dX11_judge_40 : decode cX11_judge 40 = .ok (.aload_n 0, 1) := by decide +kernel
theorem dX11_judge_41 : decode cX11_judge 41 = .ok (.getfield 21, 3) := by decide +kernel
theorem dX11_judge_44 : decode cX11_judge 44 = .ok (.aload_n 0, 1) := by decide +kernel
theorem dX11_judge_45 : decode cX11_judge 45 = .ok (.getfield 53, 3) := by decide +kernel
theorem dX11_judge_48 : decode cX11_judge 48 = .ok (.invokevirtual 171, 3) := by decide +kernel
theorem dX11_judge_51 : decode cX11_judge 51 = .ok (.istore_n 1, 1) := by decide +kernel
theorem dX11_judge_52 : decode cX11_judge 52 = .ok (.aload_n 0, 1) := by decide +kernel
theorem dX11_judge_53 : decode cX11_judge 53 = .ok (.getfield 53, 3) := by decide +kernel
theorem dX11_judge_56 : decode cX11_judge 56 = .ok (.iconst 0, 1) := by decide +kernel
theorem dX11_judge_57 : decode cX11_judge 57 = .ok (.invokevirtual 159, 3) := by decide +kernel
theorem dX11_judge_60 : decode cX11_judge 60 = .ok (.iload_n 1, 1) := by decide +kernel
theorem dX11_judge_61 : decode cX11_judge 61 = .ok (.ireturn, 1) := by decide +kernel
theorem dX11_told_0 : decode cX11_told 0 = .ok (.aload_n 0, 1) := by decide +kernel
theorem dX11_told_1 : decode cX11_told 1 = .ok (.getfield 21, 3) := by decide +kernel
theorem dX11_told_4 : decode cX11_told 4 = .ok (.iload_n 1, 1) := by decide +kernel
theorem dX11_told_5 : decode cX11_told 5 = .ok (.invokevirtual 174, 3) := by decide +kernel
theorem dX11_told_8 : decode cX11_told 8 = .ok (.ifCond .ne 6, 3) := by decide +kernel
theorem dX11_told_11 : decode cX11_told 11 = .ok (.bipush (-101), 2) := by decide +kernel
theorem dX11_told_13 : decode cX11_told 13 = .ok (.ireturn, 1) := by decide +kernel
theorem dX11_told_14 : decode cX11_told 14 = .ok (.iload_n 2, 1) := by decide +kernel
theorem dX11_told_15 : decode cX11_told 15 = .ok (.ifCond .lt 9, 3) := by decide +kernel
theorem dX11_told_18 : decode cX11_told 18 = .ok (.iload_n 2, 1) := by decide +kernel
theorem dX11_told_19 : decode cX11_told 19 = .ok (.bipush 6, 2) := by decide +kernel
theorem dX11_told_21 : decode cX11_told 21 = .ok (.if_icmp .lt 6, 3) := by decide +kernel
theorem dX11_told_24 : decode cX11_told 24 = .ok (.bipush (-102), 2) := by decide +kernel
theorem dX11_told_26 : decode cX11_told 26 = .ok (.ireturn, 1) := by decide +kernel
theorem dX11_told_27 : decode cX11_told 27 = .ok (.aload_n 0, 1) := by decide +kernel
theorem dX11_told_28 : decode cX11_told 28 = .ok (.getfield 21, 3) := by decide +kernel
theorem dX11_told_31 : decode cX11_told 31 = .ok (.iload_n 1, 1) := by decide +kernel
theorem dX11_told_32 : decode cX11_told 32 = .ok (.iload_n 2, 1) := by decide +kernel
theorem dX11_told_33 : decode cX11_told 33 = .ok (.invokevirtual 175, 3) := by decide +kernel
theorem dX11_told_36 : decode cX11_told 36 = .ok (.ireturn, 1) := by decide +kernel
theorem dX11_lets_0 : decode cX11_lets 0 = .ok (.aload_n 0, 1) := by decide +kernel
theorem dX11_lets_1 : decode cX11_lets 1 = .ok (.invokevirtual 89, 3) := by decide +kernel
theorem dX11_lets_4 : decode cX11_lets 4 = .ok (.ifCond .ne 6, 3) := by decide +kernel
theorem dX11_lets_7 : decode cX11_lets 7 = .ok (.bipush (-103), 2) := by decide +kernel
theorem dX11_lets_9 : decode cX11_lets 9 = .ok (.ireturn, 1) := by decide +kernel
theorem dX11_lets_10 : decode cX11_lets 10 = .ok (.aload_n 0, 1) := by decide +kernel
theorem dX11_lets_11 : decode cX11_lets 11 = .ok (.getfield 12, 3) := by decide +kernel
theorem dX11_lets_14 : decode cX11_lets 14 = .ok (.iload_n 1, 1) := by decide +kernel
theorem dX11_lets_15 : decode cX11_lets 15 = .ok (.invokevirtual 128, 3) := by decide +kernel
theorem dX11_lets_18 : decode cX11_lets 18 = .ok (.ifCond .eq 14, 3) := by decide +kernel
theorem dX11_lets_21 : decode cX11_lets 21 = .ok (.aload_n 0, 1) := by decide +kernel
theorem dX11_lets_22 : decode cX11_lets 22 = .ok (.getfield 12, 3) := by decide +kernel
theorem dX11_lets_25 : decode cX11_lets 25 = .ok (.iload_n 2, 1) := by decide +kernel
theorem dX11_lets_26 : decode cX11_lets 26 = .ok (.invokevirtual 128, 3) := by decide +kernel
theorem dX11_lets_29 : decode cX11_lets 29 = .ok (.ifCond .ne 6, 3) := by decide +kernel
theorem dX11_lets_32 : decode cX11_lets 32 = .ok (.bipush (-102), 2) := by decide +kernel
theorem dX11_lets_34 : decode cX11_lets 34 = .ok (.ireturn, 1) := by decide +kernel
theorem dX11_lets_35 : decode cX11_lets 35 = .ok (.aload_n 0, 1) := by decide +kernel
theorem dX11_lets_36 : decode cX11_lets 36 = .ok (.getfield 21, 3) := by decide +kernel
theorem dX11_lets_39 : decode cX11_lets 39 = .ok (.iload_n 1, 1) := by decide +kernel
theorem dX11_lets_40 : decode cX11_lets 40 = .ok (.iload_n 2, 1) := by decide +kernel
theorem dX11_lets_41 : decode cX11_lets 41 = .ok (.aload_n 0, 1) := by decide +kernel
theorem dX11_lets_42 : decode cX11_lets 42 = .ok (.getfield 66, 3) := by decide +kernel
theorem dX11_lets_45 : decode cX11_lets 45 = .ok (.invokevirtual 178, 3) := by decide +kernel
theorem dX11_lets_48 : decode cX11_lets 48 = .ok (.invokestatic 181, 3) := by decide +kernel
theorem dX11_lets_51 : decode cX11_lets 51 = .ok (.ireturn, 1) := by decide +kernel
theorem dX11_strict_0 : decode cX11_strict 0 = .ok (.aload_n 0, 1) := by decide +kernel
theorem dX11_strict_1 : decode cX11_strict 1 = .ok (.invokevirtual 89, 3) := by decide +kernel
theorem dX11_strict_4 : decode cX11_strict 4 = .ok (.ifCond .eq 10, 3) := by decide +kernel
theorem dX11_strict_7 : decode cX11_strict 7 = .ok (.aload_n 0, 1) := by decide +kernel
theorem dX11_strict_8 : decode cX11_strict 8 = .ok (.invokevirtual 186, 3) := by decide +kernel
theorem dX11_strict_11 : decode cX11_strict 11 = .ok (.goto 5, 3) := by decide +kernel
theorem dX11_strict_14 : decode cX11_strict 14 = .ok (.bipush (-103), 2) := by decide +kernel
theorem dX11_strict_16 : decode cX11_strict 16 = .ok (.ireturn, 1) := by decide +kernel
theorem dX11_slips_0 : decode cX11_slips 0 = .ok (.aload_n 0, 1) := by decide +kernel
theorem dX11_slips_1 : decode cX11_slips 1 = .ok (.invokevirtual 89, 3) := by decide +kernel
theorem dX11_slips_4 : decode cX11_slips 4 = .ok (.ifCond .ne 6, 3) := by decide +kernel
theorem dX11_slips_7 : decode cX11_slips 7 = .ok (.bipush (-103), 2) := by decide +kernel
theorem dX11_slips_9 : decode cX11_slips 9 = .ok (.ireturn, 1) := by decide +kernel
theorem dX11_slips_10 : decode cX11_slips 10 = .ok (.aload_n 0, 1) := by decide +kernel
theorem dX11_slips_11 : decode cX11_slips 11 = .ok (.getfield 12, 3) := by decide +kernel
theorem dX11_slips_14 : decode cX11_slips 14 = .ok (.iload_n 1, 1) := by decide +kernel
theorem dX11_slips_15 : decode cX11_slips 15 = .ok (.invokevirtual 128, 3) := by decide +kernel
theorem dX11_slips_18 : decode cX11_slips 18 = .ok (.ifCond .eq 14, 3) := by decide +kernel
theorem dX11_slips_21 : decode cX11_slips 21 = .ok (.aload_n 0, 1) := by decide +kernel
theorem dX11_slips_22 : decode cX11_slips 22 = .ok (.getfield 12, 3) := by decide +kernel
theorem dX11_slips_25 : decode cX11_slips 25 = .ok (.iload_n 2, 1) := by decide +kernel
theorem dX11_slips_26 : decode cX11_slips 26 = .ok (.invokevirtual 128, 3) := by decide +kernel
theorem dX11_slips_29 : decode cX11_slips 29 = .ok (.ifCond .ne 6, 3) := by decide +kernel
theorem dX11_slips_32 : decode cX11_slips 32 = .ok (.bipush (-102), 2) := by decide +kernel
theorem dX11_slips_34 : decode cX11_slips 34 = .ok (.ireturn, 1) := by decide +kernel
theorem dX11_slips_35 : decode cX11_slips 35 = .ok (.aload_n 0, 1) := by decide +kernel
theorem dX11_slips_36 : decode cX11_slips 36 = .ok (.getfield 37, 3) := by decide +kernel
theorem dX11_slips_39 : decode cX11_slips 39 = .ok (.iload_n 1, 1) := by decide +kernel
theorem dX11_slips_40 : decode cX11_slips 40 = .ok (.iload_n 2, 1) := by decide +kernel
theorem dX11_slips_41 : decode cX11_slips 41 = .ok (.aload_n 0, 1) := by decide +kernel
theorem dX11_slips_42 : decode cX11_slips 42 = .ok (.getfield 66, 3) := by decide +kernel
theorem dX11_slips_45 : decode cX11_slips 45 = .ok (.invokevirtual 189, 3) := by decide +kernel
theorem dX11_slips_48 : decode cX11_slips 48 = .ok (.ireturn, 1) := by decide +kernel
theorem dX11_truth_0 : decode cX11_truth 0 = .ok (.aload_n 0, 1) := by decide +kernel
theorem dX11_truth_1 : decode cX11_truth 1 = .ok (.invokevirtual 89, 3) := by decide +kernel
theorem dX11_truth_4 : decode cX11_truth 4 = .ok (.ifCond .ne 6, 3) := by decide +kernel
theorem dX11_truth_7 : decode cX11_truth 7 = .ok (.bipush (-103), 2) := by decide +kernel
theorem dX11_truth_9 : decode cX11_truth 9 = .ok (.ireturn, 1) := by decide +kernel
theorem dX11_truth_10 : decode cX11_truth 10 = .ok (.iload_n 1, 1) := by decide +kernel
theorem dX11_truth_11 : decode cX11_truth 11 = .ok (.ifCond .eq 11, 3) := by decide +kernel
theorem dX11_truth_14 : decode cX11_truth 14 = .ok (.iload_n 1, 1) := by decide +kernel
theorem dX11_truth_15 : decode cX11_truth 15 = .ok (.iconst 1, 1) := by decide +kernel
theorem dX11_truth_16 : decode cX11_truth 16 = .ok (.if_icmp .eq 6, 3) := by decide +kernel
theorem dX11_truth_19 : decode cX11_truth 19 = .ok (.bipush (-102), 2) := by decide +kernel
theorem dX11_truth_21 : decode cX11_truth 21 = .ok (.ireturn, 1) := by decide +kernel
theorem dX11_truth_22 : decode cX11_truth 22 = .ok (.aload_n 0, 1) := by decide +kernel
theorem dX11_truth_23 : decode cX11_truth 23 = .ok (.getfield 70, 3) := by decide +kernel
theorem dX11_truth_26 : decode cX11_truth 26 = .ok (.bipush 30, 2) := by decide +kernel
theorem dX11_truth_28 : decode cX11_truth 28 = .ok (.if_icmp .lt 6, 3) := by decide +kernel
theorem dX11_truth_31 : decode cX11_truth 31 = .ok (.bipush (-103), 2) := by decide +kernel
theorem dX11_truth_33 : decode cX11_truth 33 = .ok (.ireturn, 1) := by decide +kernel
theorem dX11_truth_34 : decode cX11_truth 34 = .ok (.aload_n 0, 1) := by decide +kernel
theorem dX11_truth_35 : decode cX11_truth 35 = .ok (.dup, 1) := by decide +kernel
theorem dX11_truth_36 : decode cX11_truth 36 = .ok (.getfield 70, 3) := by decide +kernel
theorem dX11_truth_39 : decode cX11_truth 39 = .ok (.iconst 1, 1) := by decide +kernel
theorem dX11_truth_40 : decode cX11_truth 40 = .ok (.iadd, 1) := by decide +kernel
theorem dX11_truth_41 : decode cX11_truth 41 = .ok (.putfield 70, 3) := by decide +kernel
theorem dX11_truth_44 : decode cX11_truth 44 = .ok (.aload_n 0, 1) := by decide +kernel
theorem dX11_truth_45 : decode cX11_truth 45 = .ok (.getfield 37, 3) := by decide +kernel
theorem dX11_truth_48 : decode cX11_truth 48 = .ok (.aload_n 0, 1) := by decide +kernel
theorem dX11_truth_49 : decode cX11_truth 49 = .ok (.getfield 57, 3) := by decide +kernel
theorem dX11_truth_52 : decode cX11_truth 52 = .ok (.invokevirtual 138, 3) := by decide +kernel
theorem dX11_truth_55 : decode cX11_truth 55 = .ok (.aload_n 0, 1) := by decide +kernel
theorem dX11_truth_56 : decode cX11_truth 56 = .ok (.getfield 66, 3) := by decide +kernel
theorem dX11_truth_59 : decode cX11_truth 59 = .ok (.invokevirtual 192, 3) := by decide +kernel
theorem dX11_truth_62 : decode cX11_truth 62 = .ok (.iload_n 1, 1) := by decide +kernel
theorem dX11_truth_63 : decode cX11_truth 63 = .ok (.ifCond .ne 13, 3) := by decide +kernel
theorem dX11_truth_66 : decode cX11_truth 66 = .ok (.aload_n 0, 1) := by decide +kernel
theorem dX11_truth_67 : decode cX11_truth 67 = .ok (.getfield 37, 3) := by decide +kernel
theorem dX11_truth_70 : decode cX11_truth 70 = .ok (.invokevirtual 196, 3) := by decide +kernel
theorem dX11_truth_73 : decode cX11_truth 73 = .ok (.goto 10, 3) := by decide +kernel
theorem dX11_truth_76 : decode cX11_truth 76 = .ok (.aload_n 0, 1) := by decide +kernel
