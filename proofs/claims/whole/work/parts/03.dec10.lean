theorem dX12_nextRow_107 : decode cX12_nextRow 107 = .ok (.iload 5, 2) := by decide +kernel
theorem dX12_nextRow_109 : decode cX12_nextRow 109 = .ok (.iload 4, 2) := by decide +kernel
theorem dX12_nextRow_111 : decode cX12_nextRow 111 = .ok (.if_icmp .ge 42, 3) := by decide +kernel
theorem dX12_nextRow_114 : decode cX12_nextRow 114 = .ok (.aload_n 0, 1) := by decide +kernel
theorem dX12_nextRow_115 : decode cX12_nextRow 115 = .ok (.getfield 43, 3) := by decide +kernel
theorem dX12_nextRow_118 : decode cX12_nextRow 118 = .ok (.iload 5, 2) := by decide +kernel
theorem dX12_nextRow_120 : decode cX12_nextRow 120 = .ok (.iaload, 1) := by decide +kernel
theorem dX12_nextRow_121 : decode cX12_nextRow 121 = .ok (.istore_n 3, 1) := by decide +kernel
theorem dX12_nextRow_122 : decode cX12_nextRow 122 = .ok (.aload_n 0, 1) := by decide +kernel
theorem dX12_nextRow_123 : decode cX12_nextRow 123 = .ok (.getfield 43, 3) := by decide +kernel
theorem dX12_nextRow_126 : decode cX12_nextRow 126 = .ok (.iload 5, 2) := by decide +kernel
theorem dX12_nextRow_128 : decode cX12_nextRow 128 = .ok (.aload_n 0, 1) := by decide +kernel
theorem dX12_nextRow_129 : decode cX12_nextRow 129 = .ok (.getfield 43, 3) := by decide +kernel
theorem dX12_nextRow_132 : decode cX12_nextRow 132 = .ok (.iload 4, 2) := by decide +kernel
theorem dX12_nextRow_134 : decode cX12_nextRow 134 = .ok (.iaload, 1) := by decide +kernel
theorem dX12_nextRow_135 : decode cX12_nextRow 135 = .ok (.iastore, 1) := by decide +kernel
theorem dX12_nextRow_136 : decode cX12_nextRow 136 = .ok (.aload_n 0, 1) := by decide +kernel
theorem dX12_nextRow_137 : decode cX12_nextRow 137 = .ok (.getfield 43, 3) := by decide +kernel
theorem dX12_nextRow_140 : decode cX12_nextRow 140 = .ok (.iload 4, 2) := by decide +kernel
theorem dX12_nextRow_142 : decode cX12_nextRow 142 = .ok (.iload_n 3, 1) := by decide +kernel
theorem dX12_nextRow_143 : decode cX12_nextRow 143 = .ok (.iastore, 1) := by decide +kernel
theorem dX12_nextRow_144 : decode cX12_nextRow 144 = .ok (.iinc 4 (-1), 3) := by decide +kernel
theorem dX12_nextRow_147 : decode cX12_nextRow 147 = .ok (.iinc 5 1, 3) := by decide +kernel
theorem dX12_nextRow_150 : decode cX12_nextRow 150 = .ok (.goto (-43), 3) := by decide +kernel
theorem dX12_nextRow_153 : decode cX12_nextRow 153 = .ok (.iconst 1, 1) := by decide +kernel
theorem dX12_nextRow_154 : decode cX12_nextRow 154 = .ok (.ireturn, 1) := by decide +kernel
theorem dX12_layOrder_0 : decode cX12_layOrder 0 = .ok (.ldc 166, 2) := by decide +kernel
theorem dX12_layOrder_2 : decode cX12_layOrder 2 = .ok (.istore_n 1, 1) := by decide +kernel
theorem dX12_layOrder_3 : decode cX12_layOrder 3 = .ok (.iconst 0, 1) := by decide +kernel
theorem dX12_layOrder_4 : decode cX12_layOrder 4 = .ok (.istore_n 2, 1) := by decide +kernel
theorem dX12_layOrder_5 : decode cX12_layOrder 5 = .ok (.iload_n 2, 1) := by decide +kernel
theorem dX12_layOrder_6 : decode cX12_layOrder 6 = .ok (.bipush 6, 2) := by decide +kernel
theorem dX12_layOrder_8 : decode cX12_layOrder 8 = .ok (.if_icmp .ge 16, 3) := by decide +kernel
theorem dX12_layOrder_11 : decode cX12_layOrder 11 = .ok (.aload_n 0, 1) := by decide +kernel
theorem dX12_layOrder_12 : decode cX12_layOrder 12 = .ok (.getfield 43, 3) := by decide +kernel
theorem dX12_layOrder_15 : decode cX12_layOrder 15 = .ok (.iload_n 2, 1) := by decide +kernel
theorem dX12_layOrder_16 : decode cX12_layOrder 16 = .ok (.iload_n 2, 1) := by decide +kernel
theorem dX12_layOrder_17 : decode cX12_layOrder 17 = .ok (.iastore, 1) := by decide +kernel
theorem dX12_layOrder_18 : decode cX12_layOrder 18 = .ok (.iinc 2 1, 3) := by decide +kernel
theorem dX12_layOrder_21 : decode cX12_layOrder 21 = .ok (.goto (-16), 3) := by decide +kernel
theorem dX12_layOrder_24 : decode cX12_layOrder 24 = .ok (.iconst 1, 1) := by decide +kernel
theorem dX12_layOrder_25 : decode cX12_layOrder 25 = .ok (.istore_n 2, 1) := by decide +kernel
theorem dX12_layOrder_26 : decode cX12_layOrder 26 = .ok (.iload_n 2, 1) := by decide +kernel
theorem dX12_layOrder_27 : decode cX12_layOrder 27 = .ok (.ifCond .eq 101, 3) := by decide +kernel
theorem dX12_layOrder_30 : decode cX12_layOrder 30 = .ok (.iconst 0, 1) := by decide +kernel
theorem dX12_layOrder_31 : decode cX12_layOrder 31 = .ok (.istore_n 3, 1) := by decide +kernel
theorem dX12_layOrder_32 : decode cX12_layOrder 32 = .ok (.iconst 1, 1) := by decide +kernel
theorem dX12_layOrder_33 : decode cX12_layOrder 33 = .ok (.istore 4, 2) := by decide +kernel
theorem dX12_layOrder_35 : decode cX12_layOrder 35 = .ok (.iload 4, 2) := by decide +kernel
theorem dX12_layOrder_37 : decode cX12_layOrder 37 = .ok (.aload_n 0, 1) := by decide +kernel
theorem dX12_layOrder_38 : decode cX12_layOrder 38 = .ok (.getfield 214, 3) := by decide +kernel
theorem dX12_layOrder_41 : decode cX12_layOrder 41 = .ok (.if_icmp .ge 42, 3) := by decide +kernel
theorem dX12_layOrder_44 : decode cX12_layOrder 44 = .ok (.iload_n 3, 1) := by decide +kernel
theorem dX12_layOrder_45 : decode cX12_layOrder 45 = .ok (.aload_n 0, 1) := by decide +kernel
theorem dX12_layOrder_46 : decode cX12_layOrder 46 = .ok (.aload_n 0, 1) := by decide +kernel
theorem dX12_layOrder_47 : decode cX12_layOrder 47 = .ok (.getfield 40, 3) := by decide +kernel
theorem dX12_layOrder_50 : decode cX12_layOrder 50 = .ok (.aload_n 0, 1) := by decide +kernel
theorem dX12_layOrder_51 : decode cX12_layOrder 51 = .ok (.getfield 43, 3) := by decide +kernel
theorem dX12_layOrder_54 : decode cX12_layOrder 54 = .ok (.iload 4, 2) := by decide +kernel
theorem dX12_layOrder_56 : decode cX12_layOrder 56 = .ok (.iconst 1, 1) := by decide +kernel
theorem dX12_layOrder_57 : decode cX12_layOrder 57 = .ok (.isub, 1) := by decide +kernel
theorem dX12_layOrder_58 : decode cX12_layOrder 58 = .ok (.iaload, 1) := by decide +kernel
theorem dX12_layOrder_59 : decode cX12_layOrder 59 = .ok (.iaload, 1) := by decide +kernel
theorem dX12_layOrder_60 : decode cX12_layOrder 60 = .ok (.aload_n 0, 1) := by decide +kernel
theorem dX12_layOrder_61 : decode cX12_layOrder 61 = .ok (.getfield 40, 3) := by decide +kernel
theorem dX12_layOrder_64 : decode cX12_layOrder 64 = .ok (.aload_n 0, 1) := by decide +kernel
theorem dX12_layOrder_65 : decode cX12_layOrder 65 = .ok (.getfield 43, 3) := by decide +kernel
theorem dX12_layOrder_68 : decode cX12_layOrder 68 = .ok (.iload 4, 2) := by decide +kernel
theorem dX12_layOrder_70 : decode cX12_layOrder 70 = .ok (.iaload, 1) := by decide +kernel
theorem dX12_layOrder_71 : decode cX12_layOrder 71 = .ok (.iaload, 1) := by decide +kernel
theorem dX12_layOrder_72 : decode cX12_layOrder 72 = .ok (.invokevirtual 121, 3) := by decide +kernel
theorem dX12_layOrder_75 : decode cX12_layOrder 75 = .ok (.iadd, 1) := by decide +kernel
theorem dX12_layOrder_76 : decode cX12_layOrder 76 = .ok (.istore_n 3, 1) := by decide +kernel
theorem dX12_layOrder_77 : decode cX12_layOrder 77 = .ok (.iinc 4 1, 3) := by decide +kernel
theorem dX12_layOrder_80 : decode cX12_layOrder 80 = .ok (.goto (-45), 3) := by decide +kernel
theorem dX12_layOrder_83 : decode cX12_layOrder 83 = .ok (.iload_n 3, 1) := by decide +kernel
theorem dX12_layOrder_84 : decode cX12_layOrder 84 = .ok (.iload_n 1, 1) := by decide +kernel
theorem dX12_layOrder_85 : decode cX12_layOrder 85 = .ok (.if_icmp .ge 35, 3) := by decide +kernel
theorem dX12_layOrder_88 : decode cX12_layOrder 88 = .ok (.iload_n 3, 1) := by decide +kernel
theorem dX12_layOrder_89 : decode cX12_layOrder 89 = .ok (.istore_n 1, 1) := by decide +kernel
theorem dX12_layOrder_90 : decode cX12_layOrder 90 = .ok (.iconst 0, 1) := by decide +kernel
theorem dX12_layOrder_91 : decode cX12_layOrder 91 = .ok (.istore 4, 2) := by decide +kernel
theorem dX12_layOrder_93 : decode cX12_layOrder 93 = .ok (.iload 4, 2) := by decide +kernel
theorem dX12_layOrder_95 : decode cX12_layOrder 95 = .ok (.bipush 6, 2) := by decide +kernel
theorem dX12_layOrder_97 : decode cX12_layOrder 97 = .ok (.if_icmp .ge 23, 3) := by decide +kernel
theorem dX12_layOrder_100 : decode cX12_layOrder 100 = .ok (.aload_n 0, 1) := by decide +kernel
theorem dX12_layOrder_101 : decode cX12_layOrder 101 = .ok (.getfield 46, 3) := by decide +kernel
theorem dX12_layOrder_104 : decode cX12_layOrder 104 = .ok (.iload 4, 2) := by decide +kernel
theorem dX12_layOrder_106 : decode cX12_layOrder 106 = .ok (.aload_n 0, 1) := by decide +kernel
theorem dX12_layOrder_107 : decode cX12_layOrder 107 = .ok (.getfield 43, 3) := by decide +kernel
theorem dX12_layOrder_110 : decode cX12_layOrder 110 = .ok (.iload 4, 2) := by decide +kernel
theorem dX12_layOrder_112 : decode cX12_layOrder 112 = .ok (.iaload, 1) := by decide +kernel
theorem dX12_layOrder_113 : decode cX12_layOrder 113 = .ok (.iastore, 1) := by decide +kernel
theorem dX12_layOrder_114 : decode cX12_layOrder 114 = .ok (.iinc 4 1, 3) := by decide +kernel
theorem dX12_layOrder_117 : decode cX12_layOrder 117 = .ok (.goto (-24), 3) := by decide +kernel
theorem dX12_layOrder_120 : decode cX12_layOrder 120 = .ok (.aload_n 0, 1) := by decide +kernel
theorem dX12_layOrder_121 : decode cX12_layOrder 121 = .ok (.invokevirtual 217, 3) := by decide +kernel
theorem dX12_layOrder_124 : decode cX12_layOrder 124 = .ok (.istore_n 2, 1) := by decide +kernel
theorem dX12_layOrder_125 : decode cX12_layOrder 125 = .ok (.goto (-99), 3) := by decide +kernel
theorem dX12_layOrder_128 : decode cX12_layOrder 128 = .ok (.iload_n 1, 1) := by decide +kernel
theorem dX12_layOrder_129 : decode cX12_layOrder 129 = .ok (.ireturn, 1) := by decide +kernel
theorem dX12_tellOrder_0 : decode cX12_tellOrder 0 = .ok (.aload_n 0, 1) := by decide +kernel
theorem dX12_tellOrder_1 : decode cX12_tellOrder 1 = .ok (.invokevirtual 220, 3) := by decide +kernel
theorem dX12_tellOrder_4 : decode cX12_tellOrder 4 = .ok (.istore_n 2, 1) := by decide +kernel
theorem dX12_tellOrder_5 : decode cX12_tellOrder 5 = .ok (.iload_n 1, 1) := by decide +kernel
theorem dX12_tellOrder_6 : decode cX12_tellOrder 6 = .ok (.ifCond .ne 7, 3) := by decide +kernel
theorem dX12_tellOrder_9 : decode cX12_tellOrder 9 = .ok (.iload_n 2, 1) := by decide +kernel
theorem dX12_tellOrder_10 : decode cX12_tellOrder 10 = .ok (.goto 27, 3) := by decide +kernel
theorem dX12_tellOrder_13 : decode cX12_tellOrder 13 = .ok (.iload_n 1, 1) := by decide +kernel
theorem dX12_tellOrder_14 : decode cX12_tellOrder 14 = .ok (.bipush 10, 2) := by decide +kernel
theorem dX12_tellOrder_16 : decode cX12_tellOrder 16 = .ok (.isub, 1) := by decide +kernel
theorem dX12_tellOrder_17 : decode cX12_tellOrder 17 = .ok (.aload_n 0, 1) := by decide +kernel
theorem dX12_tellOrder_18 : decode cX12_tellOrder 18 = .ok (.getfield 214, 3) := by decide +kernel
theorem dX12_tellOrder_21 : decode cX12_tellOrder 21 = .ok (.if_icmp .ge 15, 3) := by decide +kernel
theorem dX12_tellOrder_24 : decode cX12_tellOrder 24 = .ok (.aload_n 0, 1) := by decide +kernel
theorem dX12_tellOrder_25 : decode cX12_tellOrder 25 = .ok (.getfield 46, 3) := by decide +kernel
theorem dX12_tellOrder_28 : decode cX12_tellOrder 28 = .ok (.iload_n 1, 1) := by decide +kernel
theorem dX12_tellOrder_29 : decode cX12_tellOrder 29 = .ok (.bipush 10, 2) := by decide +kernel
theorem dX12_tellOrder_31 : decode cX12_tellOrder 31 = .ok (.isub, 1) := by decide +kernel
theorem dX12_tellOrder_32 : decode cX12_tellOrder 32 = .ok (.iaload, 1) := by decide +kernel
theorem dX12_tellOrder_33 : decode cX12_tellOrder 33 = .ok (.goto 4, 3) := by decide +kernel
theorem dX12_tellOrder_36 : decode cX12_tellOrder 36 = .ok (.iconst (-1), 1) := by decide +kernel
theorem dX12_tellOrder_37 : decode cX12_tellOrder 37 = .ok (.ireturn, 1) := by decide +kernel
theorem dX12_order_0 : decode cX12_order 0 = .ok (.aload_n 0, 1) := by decide +kernel
theorem dX12_order_1 : decode cX12_order 1 = .ok (.invokevirtual 79, 3) := by decide +kernel
theorem dX12_order_4 : decode cX12_order 4 = .ok (.ifCond .eq 6, 3) := by decide +kernel
theorem dX12_order_7 : decode cX12_order 7 = .ok (.bipush (-103), 2) := by decide +kernel
theorem dX12_order_9 : decode cX12_order 9 = .ok (.ireturn, 1) := by decide +kernel
theorem dX12_order_10 : decode cX12_order 10 = .ok (.iload_n 1, 1) := by decide +kernel
theorem dX12_order_11 : decode cX12_order 11 = .ok (.ifCond .eq 17, 3) := by decide +kernel
theorem dX12_order_14 : decode cX12_order 14 = .ok (.iload_n 1, 1) := by decide +kernel
theorem dX12_order_15 : decode cX12_order 15 = .ok (.i2l, 1) := by decide +kernel
theorem dX12_order_16 : decode cX12_order 16 = .ok (.ldc2_w 223, 3) := by decide +kernel
theorem dX12_order_19 : decode cX12_order 19 = .ok (.ldc2_w 225, 3) := by decide +kernel
theorem dX12_order_22 : decode cX12_order 22 = .ok (.invokestatic 68, 3) := by decide +kernel
theorem dX12_order_25 : decode cX12_order 25 = .ok (.ifCond .eq 11, 3) := by decide +kernel
theorem dX12_order_28 : decode cX12_order 28 = .ok (.aload_n 0, 1) := by decide +kernel
theorem dX12_order_29 : decode cX12_order 29 = .ok (.iload_n 1, 1) := by decide +kernel
theorem dX12_order_30 : decode cX12_order 30 = .ok (.invokevirtual 227, 3) := by decide +kernel
theorem dX12_order_33 : decode cX12_order 33 = .ok (.goto 5, 3) := by decide +kernel
theorem dX12_order_36 : decode cX12_order 36 = .ok (.bipush (-102), 2) := by decide +kernel
theorem dX12_order_38 : decode cX12_order 38 = .ok (.ireturn, 1) := by decide +kernel
theorem dX12_copy_0 : decode cX12_copy 0 = .ok (.iconst 0, 1) := by decide +kernel
theorem dX12_copy_1 : decode cX12_copy 1 = .ok (.istore_n 2, 1) := by decide +kernel
theorem dX12_copy_2 : decode cX12_copy 2 = .ok (.iload_n 2, 1) := by decide +kernel
theorem dX12_copy_3 : decode cX12_copy 3 = .ok (.aload_n 0, 1) := by decide +kernel
theorem dX12_copy_4 : decode cX12_copy 4 = .ok (.arraylength, 1) := by decide +kernel
theorem dX12_copy_5 : decode cX12_copy 5 = .ok (.if_icmp .ge 15, 3) := by decide +kernel
theorem dX12_copy_8 : decode cX12_copy 8 = .ok (.aload_n 1, 1) := by decide +kernel
theorem dX12_copy_9 : decode cX12_copy 9 = .ok (.iload_n 2, 1) := by decide +kernel
theorem dX12_copy_10 : decode cX12_copy 10 = .ok (.aload_n 0, 1) := by decide +kernel
theorem dX12_copy_11 : decode cX12_copy 11 = .ok (.iload_n 2, 1) := by decide +kernel
theorem dX12_copy_12 : decode cX12_copy 12 = .ok (.iaload, 1) := by decide +kernel
theorem dX12_copy_13 : decode cX12_copy 13 = .ok (.iastore, 1) := by decide +kernel
theorem dX12_copy_14 : decode cX12_copy 14 = .ok (.iinc 2 1, 3) := by decide +kernel
theorem dX12_copy_17 : decode cX12_copy 17 = .ok (.goto (-15), 3) := by decide +kernel
theorem dX12_copy_20 : decode cX12_copy 20 = .ok (.return_, 1) := by decide +kernel
theorem dX12_image_0 : decode cX12_image 0 = .ok (.aload_n 0, 1) := by decide +kernel
theorem dX12_image_1 : decode cX12_image 1 = .ok (.invokevirtual 79, 3) := by decide +kernel
theorem dX12_image_4 : decode cX12_image 4 = .ok (.ifCond .eq 6, 3) := by decide +kernel
theorem dX12_image_7 : decode cX12_image 7 = .ok (.bipush (-103), 2) := by decide +kernel
theorem dX12_image_9 : decode cX12_image 9 = .ok (.ireturn, 1) := by decide +kernel
theorem dX12_image_10 : decode cX12_image 10 = .ok (.aload_n 0, 1) := by decide +kernel
theorem dX12_image_11 : decode cX12_image 11 = .ok (.getfield 13, 3) := by decide +kernel
theorem dX12_image_14 : decode cX12_image 14 = .ok (.aload_n 0, 1) := by decide +kernel
theorem dX12_image_15 : decode cX12_image 15 = .ok (.getfield 49, 3) := by decide +kernel
theorem dX12_image_18 : decode cX12_image 18 = .ok (.invokestatic 230, 3) := by decide +kernel
theorem dX12_image_21 : decode cX12_image 21 = .ok (.aload_n 0, 1) := by decide +kernel
theorem dX12_image_22 : decode cX12_image 22 = .ok (.getfield 16, 3) := by decide +kernel
theorem dX12_image_25 : decode cX12_image 25 = .ok (.aload_n 0, 1) := by decide +kernel
theorem dX12_image_26 : decode cX12_image 26 = .ok (.getfield 52, 3) := by decide +kernel
theorem dX12_image_29 : decode cX12_image 29 = .ok (.invokestatic 230, 3) := by decide +kernel
theorem dX12_image_32 : decode cX12_image 32 = .ok (.aload_n 0, 1) := by decide +kernel
theorem dX12_image_33 : decode cX12_image 33 = .ok (.getfield 37, 3) := by decide +kernel
theorem dX12_image_36 : decode cX12_image 36 = .ok (.aload_n 0, 1) := by decide +kernel
theorem dX12_image_37 : decode cX12_image 37 = .ok (.getfield 55, 3) := by decide +kernel
theorem dX12_image_40 : decode cX12_image 40 = .ok (.invokestatic 230, 3) := by decide +kernel
theorem dX12_image_43 : decode cX12_image 43 = .ok (.aload_n 0, 1) := by decide +kernel
theorem dX12_image_44 : decode cX12_image 44 = .ok (.getfield 40, 3) := by decide +kernel
theorem dX12_image_47 : decode cX12_image 47 = .ok (.aload_n 0, 1) := by decide +kernel
theorem dX12_image_48 : decode cX12_image 48 = .ok (.getfield 58, 3) := by decide +kernel
theorem dX12_image_51 : decode cX12_image 51 = .ok (.invokestatic 230, 3) := by decide +kernel
theorem dX12_image_54 : decode cX12_image 54 = .ok (.aload_n 0, 1) := by decide +kernel
theorem dX12_image_55 : decode cX12_image 55 = .ok (.aload_n 0, 1) := by decide +kernel
theorem dX12_image_56 : decode cX12_image 56 = .ok (.getfield 72, 3) := by decide +kernel
theorem dX12_image_59 : decode cX12_image 59 = .ok (.putfield 61, 3) := by decide +kernel
theorem dX12_image_62 : decode cX12_image 62 = .ok (.aload_n 0, 1) := by decide +kernel
theorem dX12_image_63 : decode cX12_image 63 = .ok (.aload_n 0, 1) := by decide +kernel
theorem dX12_image_64 : decode cX12_image 64 = .ok (.getfield 208, 3) := by decide +kernel
theorem dX12_image_67 : decode cX12_image 67 = .ok (.putfield 234, 3) := by decide +kernel
theorem dX12_image_70 : decode cX12_image 70 = .ok (.aload_n 0, 1) := by decide +kernel
theorem dX12_image_71 : decode cX12_image 71 = .ok (.aload_n 0, 1) := by decide +kernel
theorem dX12_image_72 : decode cX12_image 72 = .ok (.getfield 214, 3) := by decide +kernel
theorem dX12_image_75 : decode cX12_image 75 = .ok (.putfield 237, 3) := by decide +kernel
theorem dX12_image_78 : decode cX12_image 78 = .ok (.aload_n 0, 1) := by decide +kernel
theorem dX12_image_79 : decode cX12_image 79 = .ok (.getfield 72, 3) := by decide +kernel
theorem dX12_image_82 : decode cX12_image 82 = .ok (.ireturn, 1) := by decide +kernel
theorem dX12_restore_0 : decode cX12_restore 0 = .ok (.aload_n 0, 1) := by decide +kernel
theorem dX12_restore_1 : decode cX12_restore 1 = .ok (.getfield 61, 3) := by decide +kernel
theorem dX12_restore_4 : decode cX12_restore 4 = .ok (.iconst (-1), 1) := by decide +kernel
theorem dX12_restore_5 : decode cX12_restore 5 = .ok (.if_icmp .ne 6, 3) := by decide +kernel
theorem dX12_restore_8 : decode cX12_restore 8 = .ok (.bipush (-103), 2) := by decide +kernel
theorem dX12_restore_10 : decode cX12_restore 10 = .ok (.ireturn, 1) := by decide +kernel
theorem dX12_restore_11 : decode cX12_restore 11 = .ok (.aload_n 0, 1) := by decide +kernel
theorem dX12_restore_12 : decode cX12_restore 12 = .ok (.getfield 49, 3) := by decide +kernel
theorem dX12_restore_15 : decode cX12_restore 15 = .ok (.aload_n 0, 1) := by decide +kernel
theorem dX12_restore_16 : decode cX12_restore 16 = .ok (.getfield 13, 3) := by decide +kernel
theorem dX12_restore_19 : decode cX12_restore 19 = .ok (.invokestatic 230, 3) := by decide +kernel
theorem dX12_restore_22 : decode cX12_restore 22 = .ok (.aload_n 0, 1) := by decide +kernel
theorem dX12_restore_23 : decode cX12_restore 23 = .ok (.getfield 52, 3) := by decide +kernel
theorem dX12_restore_26 : decode cX12_restore 26 = .ok (.aload_n 0, 1) := by decide +kernel
theorem dX12_restore_27 : decode cX12_restore 27 = .ok (.getfield 16, 3) := by decide +kernel
theorem dX12_restore_30 : decode cX12_restore 30 = .ok (.invokestatic 230, 3) := by decide +kernel
theorem dX12_restore_33 : decode cX12_restore 33 = .ok (.aload_n 0, 1) := by decide +kernel
theorem dX12_restore_34 : decode cX12_restore 34 = .ok (.getfield 55, 3) := by decide +kernel
theorem dX12_restore_37 : decode cX12_restore 37 = .ok (.aload_n 0, 1) := by decide +kernel
theorem dX12_restore_38 : decode cX12_restore 38 = .ok (.getfield 37, 3) := by decide +kernel
theorem dX12_restore_41 : decode cX12_restore 41 = .ok (.invokestatic 230, 3) := by decide +kernel
theorem dX12_restore_44 : decode cX12_restore 44 = .ok (.aload_n 0, 1) := by decide +kernel
theorem dX12_restore_45 : decode cX12_restore 45 = .ok (.getfield 58, 3) := by decide +kernel
theorem dX12_restore_48 : decode cX12_restore 48 = .ok (.aload_n 0, 1) := by decide +kernel
theorem dX12_restore_49 : decode cX12_restore 49 = .ok (.getfield 40, 3) := by decide +kernel
theorem dX12_restore_52 : decode cX12_restore 52 = .ok (.invokestatic 230, 3) := by decide +kernel
theorem dX12_restore_55 : decode cX12_restore 55 = .ok (.aload_n 0, 1) := by decide +kernel
theorem dX12_restore_56 : decode cX12_restore 56 = .ok (.aload_n 0, 1) := by decide +kernel
theorem dX12_restore_57 : decode cX12_restore 57 = .ok (.getfield 61, 3) := by decide +kernel
theorem dX12_restore_60 : decode cX12_restore 60 = .ok (.putfield 72, 3) := by decide +kernel
theorem dX12_restore_63 : decode cX12_restore 63 = .ok (.aload_n 0, 1) := by decide +kernel
theorem dX12_restore_64 : decode cX12_restore 64 = .ok (.aload_n 0, 1) := by decide +kernel
theorem dX12_restore_65 : decode cX12_restore 65 = .ok (.getfield 234, 3) := by decide +kernel
theorem dX12_restore_68 : decode cX12_restore 68 = .ok (.putfield 208, 3) := by decide +kernel
theorem dX12_restore_71 : decode cX12_restore 71 = .ok (.aload_n 0, 1) := by decide +kernel
theorem dX12_restore_72 : decode cX12_restore 72 = .ok (.aload_n 0, 1) := by decide +kernel
theorem dX12_restore_73 : decode cX12_restore 73 = .ok (.getfield 237, 3) := by decide +kernel
theorem dX12_restore_76 : decode cX12_restore 76 = .ok (.putfield 214, 3) := by decide +kernel
theorem dX12_restore_79 : decode cX12_restore 79 = .ok (.aload_n 0, 1) := by decide +kernel
theorem dX12_restore_80 : decode cX12_restore 80 = .ok (.getfield 72, 3) := by decide +kernel
theorem dX12_restore_83 : decode cX12_restore 83 = .ok (.ireturn, 1) := by decide +kernel
theorem dX12_countOf_0 : decode cX12_countOf 0 = .ok (.iload_n 1, 1) := by decide +kernel
theorem dX12_countOf_1 : decode cX12_countOf 1 = .ok (.tableswitch 106 0 7 #[47, 52, 57, 62, 67, 72, 77, 82], 47) := by decide +kernel
theorem dX12_countOf_48 : decode cX12_countOf 48 = .ok (.aload_n 0, 1) := by decide +kernel
theorem dX12_countOf_49 : decode cX12_countOf 49 = .ok (.getfield 65, 3) := by decide +kernel
theorem dX12_countOf_52 : decode cX12_countOf 52 = .ok (.ireturn, 1) := by decide +kernel
theorem dX12_countOf_53 : decode cX12_countOf 53 = .ok (.aload_n 0, 1) := by decide +kernel
theorem dX12_countOf_54 : decode cX12_countOf 54 = .ok (.getfield 72, 3) := by decide +kernel
theorem dX12_countOf_57 : decode cX12_countOf 57 = .ok (.ireturn, 1) := by decide +kernel
theorem dX12_countOf_58 : decode cX12_countOf 58 = .ok (.aload_n 0, 1) := by decide +kernel
theorem dX12_countOf_59 : decode cX12_countOf 59 = .ok (.getfield 154, 3) := by decide +kernel
theorem dX12_countOf_62 : decode cX12_countOf 62 = .ok (.ireturn, 1) := by decide +kernel
theorem dX12_countOf_63 : decode cX12_countOf 63 = .ok (.aload_n 0, 1) := by decide +kernel
theorem dX12_countOf_64 : decode cX12_countOf 64 = .ok (.getfield 208, 3) := by decide +kernel
theorem dX12_countOf_67 : decode cX12_countOf 67 = .ok (.ireturn, 1) := by decide +kernel
theorem dX12_countOf_68 : decode cX12_countOf 68 = .ok (.aload_n 0, 1) := by decide +kernel
theorem dX12_countOf_69 : decode cX12_countOf 69 = .ok (.getfield 214, 3) := by decide +kernel
theorem dX12_countOf_72 : decode cX12_countOf 72 = .ok (.ireturn, 1) := by decide +kernel
theorem dX12_countOf_73 : decode cX12_countOf 73 = .ok (.aload_n 0, 1) := by decide +kernel
theorem dX12_countOf_74 : decode cX12_countOf 74 = .ok (.getfield 139, 3) := by decide +kernel
theorem dX12_countOf_77 : decode cX12_countOf 77 = .ok (.ireturn, 1) := by decide +kernel
theorem dX12_countOf_78 : decode cX12_countOf 78 = .ok (.aload_n 0, 1) := by decide +kernel
theorem dX12_countOf_79 : decode cX12_countOf 79 = .ok (.getfield 179, 3) := by decide +kernel
theorem dX12_countOf_82 : decode cX12_countOf 82 = .ok (.ireturn, 1) := by decide +kernel
theorem dX12_countOf_83 : decode cX12_countOf 83 = .ok (.aload_n 0, 1) := by decide +kernel
theorem dX12_countOf_84 : decode cX12_countOf 84 = .ok (.invokevirtual 79, 3) := by decide +kernel
theorem dX12_countOf_87 : decode cX12_countOf 87 = .ok (.ifCond .eq 7, 3) := by decide +kernel
theorem dX12_countOf_90 : decode cX12_countOf 90 = .ok (.iconst 0, 1) := by decide +kernel
theorem dX12_countOf_91 : decode cX12_countOf 91 = .ok (.goto 15, 3) := by decide +kernel
theorem dX12_countOf_94 : decode cX12_countOf 94 = .ok (.aload_n 0, 1) := by decide +kernel
theorem dX12_countOf_95 : decode cX12_countOf 95 = .ok (.aload_n 0, 1) := by decide +kernel
theorem dX12_countOf_96 : decode cX12_countOf 96 = .ok (.invokevirtual 105, 3) := by decide +kernel
theorem dX12_countOf_99 : decode cX12_countOf 99 = .ok (.aload_n 0, 1) := by decide +kernel
theorem dX12_countOf_100 : decode cX12_countOf 100 = .ok (.invokevirtual 91, 3) := by decide +kernel
theorem dX12_countOf_103 : decode cX12_countOf 103 = .ok (.invokevirtual 121, 3) := by decide +kernel
theorem dX12_countOf_106 : decode cX12_countOf 106 = .ok (.ireturn, 1) := by decide +kernel
theorem dX12_countOf_107 : decode cX12_countOf 107 = .ok (.bipush (-102), 2) := by decide +kernel
theorem dX12_countOf_109 : decode cX12_countOf 109 = .ok (.ireturn, 1) := by decide +kernel
theorem dX12_count_0 : decode cX12_count 0 = .ok (.aload_n 0, 1) := by decide +kernel
theorem dX12_count_1 : decode cX12_count 1 = .ok (.iload_n 1, 1) := by decide +kernel
theorem dX12_count_2 : decode cX12_count 2 = .ok (.invokevirtual 240, 3) := by decide +kernel
theorem dX12_count_5 : decode cX12_count 5 = .ok (.ireturn, 1) := by decide +kernel
theorem dX12_say_0 : decode cX12_say 0 = .ok (.aload_n 0, 1) := by decide +kernel
theorem dX12_say_1 : decode cX12_say 1 = .ok (.ldc2_w 243, 3) := by decide +kernel
theorem dX12_say_4 : decode cX12_say 4 = .ok (.aload_n 0, 1) := by decide +kernel
theorem dX12_say_5 : decode cX12_say 5 = .ok (.getfield 245, 3) := by decide +kernel
theorem dX12_say_8 : decode cX12_say 8 = .ok (.lmul, 1) := by decide +kernel
theorem dX12_say_9 : decode cX12_say 9 = .ok (.lload_n 1, 1) := by decide +kernel
theorem dX12_say_10 : decode cX12_say 10 = .ok (.ladd, 1) := by decide +kernel
theorem dX12_say_11 : decode cX12_say 11 = .ok (.putfield 245, 3) := by decide +kernel
theorem dX12_say_14 : decode cX12_say 14 = .ok (.return_, 1) := by decide +kernel
theorem dX12_sayLine_0 : decode cX12_sayLine 0 = .ok (.aload_n 0, 1) := by decide +kernel
theorem dX12_sayLine_1 : decode cX12_sayLine 1 = .ok (.aload_n 0, 1) := by decide +kernel
theorem dX12_sayLine_2 : decode cX12_sayLine 2 = .ok (.invokevirtual 167, 3) := by decide +kernel
theorem dX12_sayLine_5 : decode cX12_sayLine 5 = .ok (.i2l, 1) := by decide +kernel
theorem dX12_sayLine_6 : decode cX12_sayLine 6 = .ok (.invokevirtual 249, 3) := by decide +kernel
theorem dX12_sayLine_9 : decode cX12_sayLine 9 = .ok (.aload_n 0, 1) := by decide +kernel
theorem dX12_sayLine_10 : decode cX12_sayLine 10 = .ok (.aload_n 0, 1) := by decide +kernel
theorem dX12_sayLine_11 : decode cX12_sayLine 11 = .ok (.invokevirtual 211, 3) := by decide +kernel
theorem dX12_sayLine_14 : decode cX12_sayLine 14 = .ok (.i2l, 1) := by decide +kernel
theorem dX12_sayLine_15 : decode cX12_sayLine 15 = .ok (.invokevirtual 249, 3) := by decide +kernel
theorem dX12_sayLine_18 : decode cX12_sayLine 18 = .ok (.aload_n 0, 1) := by decide +kernel
theorem dX12_sayLine_19 : decode cX12_sayLine 19 = .ok (.aload_n 0, 1) := by decide +kernel
theorem dX12_sayLine_20 : decode cX12_sayLine 20 = .ok (.iconst 0, 1) := by decide +kernel
theorem dX12_sayLine_21 : decode cX12_sayLine 21 = .ok (.invokevirtual 227, 3) := by decide +kernel
theorem dX12_sayLine_24 : decode cX12_sayLine 24 = .ok (.i2l, 1) := by decide +kernel
theorem dX12_sayLine_25 : decode cX12_sayLine 25 = .ok (.invokevirtual 249, 3) := by decide +kernel
theorem dX12_sayLine_28 : decode cX12_sayLine 28 = .ok (.bipush 10, 2) := by decide +kernel
theorem dX12_sayLine_30 : decode cX12_sayLine 30 = .ok (.istore_n 1, 1) := by decide +kernel
theorem dX12_sayLine_31 : decode cX12_sayLine 31 = .ok (.iload_n 1, 1) := by decide +kernel
theorem dX12_sayLine_32 : decode cX12_sayLine 32 = .ok (.bipush 16, 2) := by decide +kernel
theorem dX12_sayLine_34 : decode cX12_sayLine 34 = .ok (.if_icmp .ge 19, 3) := by decide +kernel
theorem dX12_sayLine_37 : decode cX12_sayLine 37 = .ok (.aload_n 0, 1) := by decide +kernel
theorem dX12_sayLine_38 : decode cX12_sayLine 38 = .ok (.aload_n 0, 1) := by decide +kernel
theorem dX12_sayLine_39 : decode cX12_sayLine 39 = .ok (.iload_n 1, 1) := by decide +kernel
theorem dX12_sayLine_40 : decode cX12_sayLine 40 = .ok (.invokevirtual 227, 3) := by decide +kernel
theorem dX12_sayLine_43 : decode cX12_sayLine 43 = .ok (.i2l, 1) := by decide +kernel
theorem dX12_sayLine_44 : decode cX12_sayLine 44 = .ok (.invokevirtual 249, 3) := by decide +kernel
theorem dX12_sayLine_47 : decode cX12_sayLine 47 = .ok (.iinc 1 1, 3) := by decide +kernel
theorem dX12_sayLine_50 : decode cX12_sayLine 50 = .ok (.goto (-19), 3) := by decide +kernel
theorem dX12_sayLine_53 : decode cX12_sayLine 53 = .ok (.aload_n 0, 1) := by decide +kernel
theorem dX12_sayLine_54 : decode cX12_sayLine 54 = .ok (.aload_n 0, 1) := by decide +kernel
theorem dX12_sayLine_55 : decode cX12_sayLine 55 = .ok (.iconst 2, 1) := by decide +kernel
theorem dX12_sayLine_56 : decode cX12_sayLine 56 = .ok (.invokevirtual 205, 3) := by decide +kernel
theorem dX12_sayLine_59 : decode cX12_sayLine 59 = .ok (.i2l, 1) := by decide +kernel
theorem dX12_sayLine_60 : decode cX12_sayLine 60 = .ok (.invokevirtual 249, 3) := by decide +kernel
theorem dX12_sayLine_63 : decode cX12_sayLine 63 = .ok (.aload_n 0, 1) := by decide +kernel
theorem dX12_sayLine_64 : decode cX12_sayLine 64 = .ok (.aload_n 0, 1) := by decide +kernel
theorem dX12_sayLine_65 : decode cX12_sayLine 65 = .ok (.aload_n 0, 1) := by decide +kernel
theorem dX12_sayLine_66 : decode cX12_sayLine 66 = .ok (.getfield 16, 3) := by decide +kernel
theorem dX12_sayLine_69 : decode cX12_sayLine 69 = .ok (.iconst 0, 1) := by decide +kernel
theorem dX12_sayLine_70 : decode cX12_sayLine 70 = .ok (.iaload, 1) := by decide +kernel
theorem dX12_sayLine_71 : decode cX12_sayLine 71 = .ok (.aload_n 0, 1) := by decide +kernel
theorem dX12_sayLine_72 : decode cX12_sayLine 72 = .ok (.invokevirtual 105, 3) := by decide +kernel
theorem dX12_sayLine_75 : decode cX12_sayLine 75 = .ok (.invokevirtual 173, 3) := by decide +kernel
theorem dX12_sayLine_78 : decode cX12_sayLine 78 = .ok (.i2l, 1) := by decide +kernel
theorem dX12_sayLine_79 : decode cX12_sayLine 79 = .ok (.invokevirtual 249, 3) := by decide +kernel
theorem dX12_sayLine_82 : decode cX12_sayLine 82 = .ok (.return_, 1) := by decide +kernel
theorem dX12_digest_0 : decode cX12_digest 0 = .ok (.aload_n 0, 1) := by decide +kernel
theorem dX12_digest_1 : decode cX12_digest 1 = .ok (.ldc2_w 253, 3) := by decide +kernel
theorem dX12_digest_4 : decode cX12_digest 4 = .ok (.putfield 245, 3) := by decide +kernel
theorem dX12_digest_7 : decode cX12_digest 7 = .ok (.iconst 0, 1) := by decide +kernel
theorem dX12_digest_8 : decode cX12_digest 8 = .ok (.istore_n 1, 1) := by decide +kernel
theorem dX12_digest_9 : decode cX12_digest 9 = .ok (.iload_n 1, 1) := by decide +kernel
theorem dX12_digest_10 : decode cX12_digest 10 = .ok (.aload_n 0, 1) := by decide +kernel
theorem dX12_digest_11 : decode cX12_digest 11 = .ok (.getfield 65, 3) := by decide +kernel
theorem dX12_digest_14 : decode cX12_digest 14 = .ok (.if_icmp .ge 33, 3) := by decide +kernel
theorem dX12_digest_17 : decode cX12_digest 17 = .ok (.iconst 0, 1) := by decide +kernel
theorem dX12_digest_18 : decode cX12_digest 18 = .ok (.istore_n 2, 1) := by decide +kernel
theorem dX12_digest_19 : decode cX12_digest 19 = .ok (.iload_n 2, 1) := by decide +kernel
theorem dX12_digest_20 : decode cX12_digest 20 = .ok (.iconst 3, 1) := by decide +kernel
theorem dX12_digest_21 : decode cX12_digest 21 = .ok (.if_icmp .ge 20, 3) := by decide +kernel
theorem dX12_digest_24 : decode cX12_digest 24 = .ok (.aload_n 0, 1) := by decide +kernel
theorem dX12_digest_25 : decode cX12_digest 25 = .ok (.aload_n 0, 1) := by decide +kernel
theorem dX12_digest_26 : decode cX12_digest 26 = .ok (.iload_n 1, 1) := by decide +kernel
theorem dX12_digest_27 : decode cX12_digest 27 = .ok (.iload_n 2, 1) := by decide +kernel
theorem dX12_digest_28 : decode cX12_digest 28 = .ok (.invokevirtual 102, 3) := by decide +kernel
theorem dX12_digest_31 : decode cX12_digest 31 = .ok (.i2l, 1) := by decide +kernel
theorem dX12_digest_32 : decode cX12_digest 32 = .ok (.invokevirtual 249, 3) := by decide +kernel
theorem dX12_digest_35 : decode cX12_digest 35 = .ok (.iinc 2 1, 3) := by decide +kernel
theorem dX12_digest_38 : decode cX12_digest 38 = .ok (.goto (-19), 3) := by decide +kernel
theorem dX12_digest_41 : decode cX12_digest 41 = .ok (.iinc 1 1, 3) := by decide +kernel
theorem dX12_digest_44 : decode cX12_digest 44 = .ok (.goto (-35), 3) := by decide +kernel
theorem dX12_digest_47 : decode cX12_digest 47 = .ok (.iconst 0, 1) := by decide +kernel
theorem dX12_digest_48 : decode cX12_digest 48 = .ok (.istore_n 1, 1) := by decide +kernel
theorem dX12_digest_49 : decode cX12_digest 49 = .ok (.iload_n 1, 1) := by decide +kernel
theorem dX12_digest_50 : decode cX12_digest 50 = .ok (.aload_n 0, 1) := by decide +kernel
theorem dX12_digest_51 : decode cX12_digest 51 = .ok (.getfield 72, 3) := by decide +kernel
theorem dX12_digest_54 : decode cX12_digest 54 = .ok (.if_icmp .ge 20, 3) := by decide +kernel
theorem dX12_digest_57 : decode cX12_digest 57 = .ok (.aload_n 0, 1) := by decide +kernel
theorem dX12_digest_58 : decode cX12_digest 58 = .ok (.aload_n 0, 1) := by decide +kernel
theorem dX12_digest_59 : decode cX12_digest 59 = .ok (.getfield 16, 3) := by decide +kernel
theorem dX12_digest_62 : decode cX12_digest 62 = .ok (.iload_n 1, 1) := by decide +kernel
theorem dX12_digest_63 : decode cX12_digest 63 = .ok (.iaload, 1) := by decide +kernel
theorem dX12_digest_64 : decode cX12_digest 64 = .ok (.i2l, 1) := by decide +kernel
theorem dX12_digest_65 : decode cX12_digest 65 = .ok (.invokevirtual 249, 3) := by decide +kernel
theorem dX12_digest_68 : decode cX12_digest 68 = .ok (.iinc 1 1, 3) := by decide +kernel
theorem dX12_digest_71 : decode cX12_digest 71 = .ok (.goto (-22), 3) := by decide +kernel
theorem dX12_digest_74 : decode cX12_digest 74 = .ok (.iconst 0, 1) := by decide +kernel
theorem dX12_digest_75 : decode cX12_digest 75 = .ok (.istore_n 1, 1) := by decide +kernel
theorem dX12_digest_76 : decode cX12_digest 76 = .ok (.iload_n 1, 1) := by decide +kernel
theorem dX12_digest_77 : decode cX12_digest 77 = .ok (.bipush 6, 2) := by decide +kernel
theorem dX12_digest_79 : decode cX12_digest 79 = .ok (.aload_n 0, 1) := by decide +kernel
theorem dX12_digest_80 : decode cX12_digest 80 = .ok (.getfield 154, 3) := by decide +kernel
theorem dX12_digest_83 : decode cX12_digest 83 = .ok (.imul, 1) := by decide +kernel
theorem dX12_digest_84 : decode cX12_digest 84 = .ok (.if_icmp .ge 20, 3) := by decide +kernel
theorem dX12_digest_87 : decode cX12_digest 87 = .ok (.aload_n 0, 1) := by decide +kernel
theorem dX12_digest_88 : decode cX12_digest 88 = .ok (.aload_n 0, 1) := by decide +kernel
theorem dX12_digest_89 : decode cX12_digest 89 = .ok (.getfield 28, 3) := by decide +kernel
theorem dX12_digest_92 : decode cX12_digest 92 = .ok (.iload_n 1, 1) := by decide +kernel
theorem dX12_digest_93 : decode cX12_digest 93 = .ok (.iaload, 1) := by decide +kernel
theorem dX12_digest_94 : decode cX12_digest 94 = .ok (.i2l, 1) := by decide +kernel
theorem dX12_digest_95 : decode cX12_digest 95 = .ok (.invokevirtual 249, 3) := by decide +kernel
theorem dX12_digest_98 : decode cX12_digest 98 = .ok (.iinc 1 1, 3) := by decide +kernel
theorem dX12_digest_101 : decode cX12_digest 101 = .ok (.goto (-25), 3) := by decide +kernel
theorem dX12_digest_104 : decode cX12_digest 104 = .ok (.aload_n 0, 1) := by decide +kernel
theorem dX12_digest_105 : decode cX12_digest 105 = .ok (.invokevirtual 79, 3) := by decide +kernel
theorem dX12_digest_108 : decode cX12_digest 108 = .ok (.ifCond .ne 7, 3) := by decide +kernel
theorem dX12_digest_111 : decode cX12_digest 111 = .ok (.aload_n 0, 1) := by decide +kernel
theorem dX12_digest_112 : decode cX12_digest 112 = .ok (.invokevirtual 255, 3) := by decide +kernel
theorem dX12_digest_115 : decode cX12_digest 115 = .ok (.iconst 0, 1) := by decide +kernel
theorem dX12_digest_116 : decode cX12_digest 116 = .ok (.istore_n 1, 1) := by decide +kernel
theorem dX12_digest_117 : decode cX12_digest 117 = .ok (.iload_n 1, 1) := by decide +kernel
theorem dX12_digest_118 : decode cX12_digest 118 = .ok (.aload_n 0, 1) := by decide +kernel
theorem dX12_digest_119 : decode cX12_digest 119 = .ok (.getfield 139, 3) := by decide +kernel
theorem dX12_digest_122 : decode cX12_digest 122 = .ok (.if_icmp .ge 20, 3) := by decide +kernel
theorem dX12_digest_125 : decode cX12_digest 125 = .ok (.aload_n 0, 1) := by decide +kernel
theorem dX12_digest_126 : decode cX12_digest 126 = .ok (.aload_n 0, 1) := by decide +kernel
theorem dX12_digest_127 : decode cX12_digest 127 = .ok (.getfield 22, 3) := by decide +kernel
theorem dX12_digest_130 : decode cX12_digest 130 = .ok (.iload_n 1, 1) := by decide +kernel
theorem dX12_digest_131 : decode cX12_digest 131 = .ok (.iaload, 1) := by decide +kernel
theorem dX12_digest_132 : decode cX12_digest 132 = .ok (.i2l, 1) := by decide +kernel
theorem dX12_digest_133 : decode cX12_digest 133 = .ok (.invokevirtual 249, 3) := by decide +kernel
theorem dX12_digest_136 : decode cX12_digest 136 = .ok (.iinc 1 1, 3) := by decide +kernel
theorem dX12_digest_139 : decode cX12_digest 139 = .ok (.goto (-22), 3) := by decide +kernel
theorem dX12_digest_142 : decode cX12_digest 142 = .ok (.iconst 0, 1) := by decide +kernel
theorem dX12_digest_143 : decode cX12_digest 143 = .ok (.istore_n 1, 1) := by decide +kernel
theorem dX12_digest_144 : decode cX12_digest 144 = .ok (.iload_n 1, 1) := by decide +kernel
theorem dX12_digest_145 : decode cX12_digest 145 = .ok (.bipush 8, 2) := by decide +kernel
theorem dX12_digest_147 : decode cX12_digest 147 = .ok (.if_icmp .ge 19, 3) := by decide +kernel
theorem dX12_digest_150 : decode cX12_digest 150 = .ok (.aload_n 0, 1) := by decide +kernel
theorem dX12_digest_151 : decode cX12_digest 151 = .ok (.aload_n 0, 1) := by decide +kernel
theorem dX12_digest_152 : decode cX12_digest 152 = .ok (.iload_n 1, 1) := by decide +kernel
theorem dX12_digest_153 : decode cX12_digest 153 = .ok (.invokevirtual 240, 3) := by decide +kernel
theorem dX12_digest_156 : decode cX12_digest 156 = .ok (.i2l, 1) := by decide +kernel
theorem dX12_digest_157 : decode cX12_digest 157 = .ok (.invokevirtual 249, 3) := by decide +kernel
theorem dX12_digest_160 : decode cX12_digest 160 = .ok (.iinc 1 1, 3) := by decide +kernel
theorem dX12_digest_163 : decode cX12_digest 163 = .ok (.goto (-19), 3) := by decide +kernel
theorem dX12_digest_166 : decode cX12_digest 166 = .ok (.aload_n 0, 1) := by decide +kernel
theorem dX12_digest_167 : decode cX12_digest 167 = .ok (.getfield 245, 3) := by decide +kernel
theorem dX12_digest_170 : decode cX12_digest 170 = .ok (.lreturn, 1) := by decide +kernel
theorem dJ6_bitCount_0f7a4_0 : decode cJ6_bitCount_0f7a4 0 = .ok (.iload_n 0, 1) := by decide +kernel
theorem dJ6_bitCount_0f7a4_1 : decode cJ6_bitCount_0f7a4 1 = .ok (.iload_n 0, 1) := by decide +kernel
theorem dJ6_bitCount_0f7a4_2 : decode cJ6_bitCount_0f7a4 2 = .ok (.iconst 1, 1) := by decide +kernel
theorem dJ6_bitCount_0f7a4_3 : decode cJ6_bitCount_0f7a4 3 = .ok (.iushr, 1) := by decide +kernel
theorem dJ6_bitCount_0f7a4_4 : decode cJ6_bitCount_0f7a4 4 = .ok (.ldc_w 265, 3) := by decide +kernel
theorem dJ6_bitCount_0f7a4_7 : decode cJ6_bitCount_0f7a4 7 = .ok (.iand, 1) := by decide +kernel
theorem dJ6_bitCount_0f7a4_8 : decode cJ6_bitCount_0f7a4 8 = .ok (.isub, 1) := by decide +kernel
theorem dJ6_bitCount_0f7a4_9 : decode cJ6_bitCount_0f7a4 9 = .ok (.istore_n 0, 1) := by decide +kernel
theorem dJ6_bitCount_0f7a4_10 : decode cJ6_bitCount_0f7a4 10 = .ok (.iload_n 0, 1) := by decide +kernel
theorem dJ6_bitCount_0f7a4_11 : decode cJ6_bitCount_0f7a4 11 = .ok (.ldc_w 266, 3) := by decide +kernel
theorem dJ6_bitCount_0f7a4_14 : decode cJ6_bitCount_0f7a4 14 = .ok (.iand, 1) := by decide +kernel
theorem dJ6_bitCount_0f7a4_15 : decode cJ6_bitCount_0f7a4 15 = .ok (.iload_n 0, 1) := by decide +kernel
theorem dJ6_bitCount_0f7a4_16 : decode cJ6_bitCount_0f7a4 16 = .ok (.iconst 2, 1) := by decide +kernel
theorem dJ6_bitCount_0f7a4_17 : decode cJ6_bitCount_0f7a4 17 = .ok (.iushr, 1) := by decide +kernel
theorem dJ6_bitCount_0f7a4_18 : decode cJ6_bitCount_0f7a4 18 = .ok (.ldc_w 266, 3) := by decide +kernel
theorem dJ6_bitCount_0f7a4_21 : decode cJ6_bitCount_0f7a4 21 = .ok (.iand, 1) := by decide +kernel
theorem dJ6_bitCount_0f7a4_22 : decode cJ6_bitCount_0f7a4 22 = .ok (.iadd, 1) := by decide +kernel
theorem dJ6_bitCount_0f7a4_23 : decode cJ6_bitCount_0f7a4 23 = .ok (.istore_n 0, 1) := by decide +kernel
theorem dJ6_bitCount_0f7a4_24 : decode cJ6_bitCount_0f7a4 24 = .ok (.iload_n 0, 1) := by decide +kernel
theorem dJ6_bitCount_0f7a4_25 : decode cJ6_bitCount_0f7a4 25 = .ok (.iload_n 0, 1) := by decide +kernel
theorem dJ6_bitCount_0f7a4_26 : decode cJ6_bitCount_0f7a4 26 = .ok (.iconst 4, 1) := by decide +kernel
theorem dJ6_bitCount_0f7a4_27 : decode cJ6_bitCount_0f7a4 27 = .ok (.iushr, 1) := by decide +kernel
theorem dJ6_bitCount_0f7a4_28 : decode cJ6_bitCount_0f7a4 28 = .ok (.iadd, 1) := by decide +kernel
theorem dJ6_bitCount_0f7a4_29 : decode cJ6_bitCount_0f7a4 29 = .ok (.ldc_w 267, 3) := by decide +kernel
theorem dJ6_bitCount_0f7a4_32 : decode cJ6_bitCount_0f7a4 32 = .ok (.iand, 1) := by decide +kernel
theorem dJ6_bitCount_0f7a4_33 : decode cJ6_bitCount_0f7a4 33 = .ok (.istore_n 0, 1) := by decide +kernel
theorem dJ6_bitCount_0f7a4_34 : decode cJ6_bitCount_0f7a4 34 = .ok (.iload_n 0, 1) := by decide +kernel
theorem dJ6_bitCount_0f7a4_35 : decode cJ6_bitCount_0f7a4 35 = .ok (.iload_n 0, 1) := by decide +kernel
theorem dJ6_bitCount_0f7a4_36 : decode cJ6_bitCount_0f7a4 36 = .ok (.bipush 8, 2) := by decide +kernel
theorem dJ6_bitCount_0f7a4_38 : decode cJ6_bitCount_0f7a4 38 = .ok (.iushr, 1) := by decide +kernel
theorem dJ6_bitCount_0f7a4_39 : decode cJ6_bitCount_0f7a4 39 = .ok (.iadd, 1) := by decide +kernel
theorem dJ6_bitCount_0f7a4_40 : decode cJ6_bitCount_0f7a4 40 = .ok (.istore_n 0, 1) := by decide +kernel
theorem dJ6_bitCount_0f7a4_41 : decode cJ6_bitCount_0f7a4 41 = .ok (.iload_n 0, 1) := by decide +kernel
theorem dJ6_bitCount_0f7a4_42 : decode cJ6_bitCount_0f7a4 42 = .ok (.iload_n 0, 1) := by decide +kernel
theorem dJ6_bitCount_0f7a4_43 : decode cJ6_bitCount_0f7a4 43 = .ok (.bipush 16, 2) := by decide +kernel
theorem dJ6_bitCount_0f7a4_45 : decode cJ6_bitCount_0f7a4 45 = .ok (.iushr, 1) := by decide +kernel
theorem dJ6_bitCount_0f7a4_46 : decode cJ6_bitCount_0f7a4 46 = .ok (.iadd, 1) := by decide +kernel
theorem dJ6_bitCount_0f7a4_47 : decode cJ6_bitCount_0f7a4 47 = .ok (.istore_n 0, 1) := by decide +kernel
theorem dJ6_bitCount_0f7a4_48 : decode cJ6_bitCount_0f7a4 48 = .ok (.iload_n 0, 1) := by decide +kernel
theorem dJ6_bitCount_0f7a4_49 : decode cJ6_bitCount_0f7a4 49 = .ok (.bipush 63, 2) := by decide +kernel
theorem dJ6_bitCount_0f7a4_51 : decode cJ6_bitCount_0f7a4 51 = .ok (.iand, 1) := by decide +kernel
theorem dJ6_bitCount_0f7a4_52 : decode cJ6_bitCount_0f7a4 52 = .ok (.ireturn, 1) := by decide +kernel
theorem dJ9_floorMod_7cf53_0 : decode cJ9_floorMod_7cf53 0 = .ok (.iload_n 0, 1) := by decide +kernel
theorem dJ9_floorMod_7cf53_1 : decode cJ9_floorMod_7cf53 1 = .ok (.iload_n 1, 1) := by decide +kernel
theorem dJ9_floorMod_7cf53_2 : decode cJ9_floorMod_7cf53 2 = .ok (.irem, 1) := by decide +kernel
theorem dJ9_floorMod_7cf53_3 : decode cJ9_floorMod_7cf53 3 = .ok (.istore_n 2, 1) := by decide +kernel
theorem dJ9_floorMod_7cf53_4 : decode cJ9_floorMod_7cf53 4 = .ok (.iload_n 0, 1) := by decide +kernel
theorem dJ9_floorMod_7cf53_5 : decode cJ9_floorMod_7cf53 5 = .ok (.iload_n 1, 1) := by decide +kernel
theorem dJ9_floorMod_7cf53_6 : decode cJ9_floorMod_7cf53 6 = .ok (.ixor, 1) := by decide +kernel
theorem dJ9_floorMod_7cf53_7 : decode cJ9_floorMod_7cf53 7 = .ok (.ifCond .ge 11, 3) := by decide +kernel
theorem dJ9_floorMod_7cf53_10 : decode cJ9_floorMod_7cf53 10 = .ok (.iload_n 2, 1) := by decide +kernel
theorem dJ9_floorMod_7cf53_11 : decode cJ9_floorMod_7cf53 11 = .ok (.ifCond .eq 7, 3) := by decide +kernel
