theorem dX0_init_0 : decode cX0_init 0 = .ok (.aload_n 0, 1) := by decide +kernel
theorem dX0_init_1 : decode cX0_init 1 = .ok (.invokespecial 3, 3) := by decide +kernel
theorem dX0_init_4 : decode cX0_init 4 = .ok (.return_, 1) := by decide +kernel
theorem dX0_kind_0 : decode cX0_kind 0 = .ok (.iconst 3, 1) := by decide +kernel
theorem dX0_kind_1 : decode cX0_kind 1 = .ok (.ireturn, 1) := by decide +kernel
theorem dX0_aged_0 : decode cX0_aged 0 = .ok (.aload_n 0, 1) := by decide +kernel
theorem dX0_aged_1 : decode cX0_aged 1 = .ok (.iload_n 1, 1) := by decide +kernel
theorem dX0_aged_2 : decode cX0_aged 2 = .ok (.iconst 1, 1) := by decide +kernel
theorem dX0_aged_3 : decode cX0_aged 3 = .ok (.invokevirtual 9, 3) := by decide +kernel
theorem dX0_aged_6 : decode cX0_aged 6 = .ok (.ireturn, 1) := by decide +kernel
theorem dX0_gap_0 : decode cX0_gap 0 = .ok (.iload_n 1, 1) := by decide +kernel
theorem dX0_gap_1 : decode cX0_gap 1 = .ok (.iload_n 2, 1) := by decide +kernel
theorem dX0_gap_2 : decode cX0_gap 2 = .ok (.isub, 1) := by decide +kernel
theorem dX0_gap_3 : decode cX0_gap 3 = .ok (.invokestatic 15, 3) := by decide +kernel
theorem dX0_gap_6 : decode cX0_gap 6 = .ok (.istore_n 3, 1) := by decide +kernel
theorem dX0_gap_7 : decode cX0_gap 7 = .ok (.iload_n 3, 1) := by decide +kernel
theorem dX0_gap_8 : decode cX0_gap 8 = .ok (.bipush 10, 2) := by decide +kernel
theorem dX0_gap_10 : decode cX0_gap 10 = .ok (.iload_n 3, 1) := by decide +kernel
theorem dX0_gap_11 : decode cX0_gap 11 = .ok (.isub, 1) := by decide +kernel
theorem dX0_gap_12 : decode cX0_gap 12 = .ok (.invokestatic 21, 3) := by decide +kernel
theorem dX0_gap_15 : decode cX0_gap 15 = .ok (.ireturn, 1) := by decide +kernel
theorem dX0_steps_0 : decode cX0_steps 0 = .ok (.aload_n 0, 1) := by decide +kernel
theorem dX0_steps_1 : decode cX0_steps 1 = .ok (.iload_n 1, 1) := by decide +kernel
theorem dX0_steps_2 : decode cX0_steps 2 = .ok (.iload_n 2, 1) := by decide +kernel
theorem dX0_steps_3 : decode cX0_steps 3 = .ok (.invokevirtual 24, 3) := by decide +kernel
theorem dX0_steps_6 : decode cX0_steps 6 = .ok (.ireturn, 1) := by decide +kernel
theorem dX0_slipped_0 : decode cX0_slipped 0 = .ok (.iload_n 1, 1) := by decide +kernel
theorem dX0_slipped_1 : decode cX0_slipped 1 = .ok (.iload_n 2, 1) := by decide +kernel
theorem dX0_slipped_2 : decode cX0_slipped 2 = .ok (.iadd, 1) := by decide +kernel
theorem dX0_slipped_3 : decode cX0_slipped 3 = .ok (.bipush 10, 2) := by decide +kernel
theorem dX0_slipped_5 : decode cX0_slipped 5 = .ok (.invokestatic 27, 3) := by decide +kernel
theorem dX0_slipped_8 : decode cX0_slipped 8 = .ok (.ireturn, 1) := by decide +kernel
theorem dX1_init_0 : decode cX1_init 0 = .ok (.aload_n 0, 1) := by decide +kernel
theorem dX1_init_1 : decode cX1_init 1 = .ok (.invokespecial 3, 3) := by decide +kernel
theorem dX1_init_4 : decode cX1_init 4 = .ok (.aload_n 0, 1) := by decide +kernel
theorem dX1_init_5 : decode cX1_init 5 = .ok (.bipush 30, 2) := by decide +kernel
theorem dX1_init_7 : decode cX1_init 7 = .ok (.newarray .int, 2) := by decide +kernel
theorem dX1_init_9 : decode cX1_init 9 = .ok (.putfield 9, 3) := by decide +kernel
theorem dX1_init_12 : decode cX1_init 12 = .ok (.aload_n 0, 1) := by decide +kernel
theorem dX1_init_13 : decode cX1_init 13 = .ok (.bipush 40, 2) := by decide +kernel
theorem dX1_init_15 : decode cX1_init 15 = .ok (.newarray .int, 2) := by decide +kernel
theorem dX1_init_17 : decode cX1_init 17 = .ok (.putfield 15, 3) := by decide +kernel
theorem dX1_init_20 : decode cX1_init 20 = .ok (.aload_n 0, 1) := by decide +kernel
theorem dX1_init_21 : decode cX1_init 21 = .ok (.bipush 37, 2) := by decide +kernel
theorem dX1_init_23 : decode cX1_init 23 = .ok (.newarray .int, 2) := by decide +kernel
theorem dX1_init_25 : decode cX1_init 25 = .ok (.putfield 18, 3) := by decide +kernel
theorem dX1_init_28 : decode cX1_init 28 = .ok (.aload_n 0, 1) := by decide +kernel
theorem dX1_init_29 : decode cX1_init 29 = .ok (.iconst 4, 1) := by decide +kernel
theorem dX1_init_30 : decode cX1_init 30 = .ok (.newarray .int, 2) := by decide +kernel
theorem dX1_init_32 : decode cX1_init 32 = .ok (.putfield 21, 3) := by decide +kernel
theorem dX1_init_35 : decode cX1_init 35 = .ok (.aload_n 0, 1) := by decide +kernel
theorem dX1_init_36 : decode cX1_init 36 = .ok (.iconst 0, 1) := by decide +kernel
theorem dX1_init_37 : decode cX1_init 37 = .ok (.putfield 24, 3) := by decide +kernel
theorem dX1_init_40 : decode cX1_init 40 = .ok (.aload_n 0, 1) := by decide +kernel
theorem dX1_init_41 : decode cX1_init 41 = .ok (.aload_n 1, 1) := by decide +kernel
theorem dX1_init_42 : decode cX1_init 42 = .ok (.putfield 28, 3) := by decide +kernel
theorem dX1_init_45 : decode cX1_init 45 = .ok (.return_, 1) := by decide +kernel
theorem dX1_size_0 : decode cX1_size 0 = .ok (.aload_n 0, 1) := by decide +kernel
theorem dX1_size_1 : decode cX1_size 1 = .ok (.getfield 24, 3) := by decide +kernel
theorem dX1_size_4 : decode cX1_size 4 = .ok (.ireturn, 1) := by decide +kernel
theorem dX1_isFull_0 : decode cX1_isFull 0 = .ok (.aload_n 0, 1) := by decide +kernel
theorem dX1_isFull_1 : decode cX1_isFull 1 = .ok (.getfield 24, 3) := by decide +kernel
theorem dX1_isFull_4 : decode cX1_isFull 4 = .ok (.iconst 5, 1) := by decide +kernel
theorem dX1_isFull_5 : decode cX1_isFull 5 = .ok (.if_icmp .lt 7, 3) := by decide +kernel
theorem dX1_isFull_8 : decode cX1_isFull 8 = .ok (.iconst 1, 1) := by decide +kernel
theorem dX1_isFull_9 : decode cX1_isFull 9 = .ok (.goto 4, 3) := by decide +kernel
theorem dX1_isFull_12 : decode cX1_isFull 12 = .ok (.iconst 0, 1) := by decide +kernel
theorem dX1_isFull_13 : decode cX1_isFull 13 = .ok (.ireturn, 1) := by decide +kernel
theorem dX1_has_0 : decode cX1_has 0 = .ok (.iload_n 1, 1) := by decide +kernel
theorem dX1_has_1 : decode cX1_has 1 = .ok (.ifCond .lt 15, 3) := by decide +kernel
theorem dX1_has_4 : decode cX1_has 4 = .ok (.iload_n 1, 1) := by decide +kernel
theorem dX1_has_5 : decode cX1_has 5 = .ok (.aload_n 0, 1) := by decide +kernel
theorem dX1_has_6 : decode cX1_has 6 = .ok (.getfield 24, 3) := by decide +kernel
theorem dX1_has_9 : decode cX1_has 9 = .ok (.if_icmp .ge 7, 3) := by decide +kernel
theorem dX1_has_12 : decode cX1_has 12 = .ok (.iconst 1, 1) := by decide +kernel
theorem dX1_has_13 : decode cX1_has 13 = .ok (.goto 4, 3) := by decide +kernel
theorem dX1_has_16 : decode cX1_has 16 = .ok (.iconst 0, 1) := by decide +kernel
theorem dX1_has_17 : decode cX1_has 17 = .ok (.ireturn, 1) := by decide +kernel
theorem dX1_mark_0 : decode cX1_mark 0 = .ok (.aload_n 0, 1) := by decide +kernel
theorem dX1_mark_1 : decode cX1_mark 1 = .ok (.iload_n 1, 1) := by decide +kernel
theorem dX1_mark_2 : decode cX1_mark 2 = .ok (.invokevirtual 32, 3) := by decide +kernel
theorem dX1_mark_5 : decode cX1_mark 5 = .ok (.ifCond .eq 27, 3) := by decide +kernel
theorem dX1_mark_8 : decode cX1_mark 8 = .ok (.iload_n 2, 1) := by decide +kernel
theorem dX1_mark_9 : decode cX1_mark 9 = .ok (.ifCond .lt 23, 3) := by decide +kernel
theorem dX1_mark_12 : decode cX1_mark 12 = .ok (.iload_n 2, 1) := by decide +kernel
theorem dX1_mark_13 : decode cX1_mark 13 = .ok (.bipush 6, 2) := by decide +kernel
theorem dX1_mark_15 : decode cX1_mark 15 = .ok (.if_icmp .ge 17, 3) := by decide +kernel
theorem dX1_mark_18 : decode cX1_mark 18 = .ok (.aload_n 0, 1) := by decide +kernel
theorem dX1_mark_19 : decode cX1_mark 19 = .ok (.getfield 9, 3) := by decide +kernel
theorem dX1_mark_22 : decode cX1_mark 22 = .ok (.iload_n 1, 1) := by decide +kernel
theorem dX1_mark_23 : decode cX1_mark 23 = .ok (.bipush 6, 2) := by decide +kernel
theorem dX1_mark_25 : decode cX1_mark 25 = .ok (.imul, 1) := by decide +kernel
theorem dX1_mark_26 : decode cX1_mark 26 = .ok (.iload_n 2, 1) := by decide +kernel
theorem dX1_mark_27 : decode cX1_mark 27 = .ok (.iadd, 1) := by decide +kernel
theorem dX1_mark_28 : decode cX1_mark 28 = .ok (.iaload, 1) := by decide +kernel
theorem dX1_mark_29 : decode cX1_mark 29 = .ok (.goto 4, 3) := by decide +kernel
theorem dX1_mark_32 : decode cX1_mark 32 = .ok (.iconst (-1), 1) := by decide +kernel
theorem dX1_mark_33 : decode cX1_mark 33 = .ok (.ireturn, 1) := by decide +kernel
theorem dX1_allows_0 : decode cX1_allows 0 = .ok (.iload_n 3, 1) := by decide +kernel
theorem dX1_allows_1 : decode cX1_allows 1 = .ok (.aload_n 0, 1) := by decide +kernel
theorem dX1_allows_2 : decode cX1_allows 2 = .ok (.iload_n 1, 1) := by decide +kernel
theorem dX1_allows_3 : decode cX1_allows 3 = .ok (.iload_n 2, 1) := by decide +kernel
theorem dX1_allows_4 : decode cX1_allows 4 = .ok (.invokevirtual 36, 3) := by decide +kernel
theorem dX1_allows_7 : decode cX1_allows 7 = .ok (.if_icmp .gt 7, 3) := by decide +kernel
theorem dX1_allows_10 : decode cX1_allows 10 = .ok (.iconst 1, 1) := by decide +kernel
theorem dX1_allows_11 : decode cX1_allows 11 = .ok (.goto 4, 3) := by decide +kernel
theorem dX1_allows_14 : decode cX1_allows 14 = .ok (.iconst 0, 1) := by decide +kernel
theorem dX1_allows_15 : decode cX1_allows 15 = .ok (.ireturn, 1) := by decide +kernel
theorem dX1_binds_0 : decode cX1_binds 0 = .ok (.aload_n 0, 1) := by decide +kernel
theorem dX1_binds_1 : decode cX1_binds 1 = .ok (.iload_n 1, 1) := by decide +kernel
theorem dX1_binds_2 : decode cX1_binds 2 = .ok (.iconst 5, 1) := by decide +kernel
theorem dX1_binds_3 : decode cX1_binds 3 = .ok (.invokevirtual 36, 3) := by decide +kernel
theorem dX1_binds_6 : decode cX1_binds 6 = .ok (.iconst 1, 1) := by decide +kernel
theorem dX1_binds_7 : decode cX1_binds 7 = .ok (.if_icmp .ne 16, 3) := by decide +kernel
theorem dX1_binds_10 : decode cX1_binds 10 = .ok (.aload_n 0, 1) := by decide +kernel
theorem dX1_binds_11 : decode cX1_binds 11 = .ok (.iload_n 1, 1) := by decide +kernel
theorem dX1_binds_12 : decode cX1_binds 12 = .ok (.iload_n 2, 1) := by decide +kernel
theorem dX1_binds_13 : decode cX1_binds 13 = .ok (.invokevirtual 36, 3) := by decide +kernel
theorem dX1_binds_16 : decode cX1_binds 16 = .ok (.ifCond .ne 7, 3) := by decide +kernel
theorem dX1_binds_19 : decode cX1_binds 19 = .ok (.iconst 1, 1) := by decide +kernel
theorem dX1_binds_20 : decode cX1_binds 20 = .ok (.goto 4, 3) := by decide +kernel
theorem dX1_binds_23 : decode cX1_binds 23 = .ok (.iconst 0, 1) := by decide +kernel
theorem dX1_binds_24 : decode cX1_binds 24 = .ok (.ireturn, 1) := by decide +kernel
theorem dX1_farthest_0 : decode cX1_farthest 0 = .ok (.aload_n 0, 1) := by decide +kernel
theorem dX1_farthest_1 : decode cX1_farthest 1 = .ok (.iload_n 1, 1) := by decide +kernel
theorem dX1_farthest_2 : decode cX1_farthest 2 = .ok (.iconst 4, 1) := by decide +kernel
theorem dX1_farthest_3 : decode cX1_farthest 3 = .ok (.invokevirtual 36, 3) := by decide +kernel
theorem dX1_farthest_6 : decode cX1_farthest 6 = .ok (.istore_n 2, 1) := by decide +kernel
theorem dX1_farthest_7 : decode cX1_farthest 7 = .ok (.iload_n 2, 1) := by decide +kernel
theorem dX1_farthest_8 : decode cX1_farthest 8 = .ok (.iconst (-1), 1) := by decide +kernel
theorem dX1_farthest_9 : decode cX1_farthest 9 = .ok (.if_icmp .ne 8, 3) := by decide +kernel
theorem dX1_farthest_12 : decode cX1_farthest 12 = .ok (.bipush 36, 2) := by decide +kernel
theorem dX1_farthest_14 : decode cX1_farthest 14 = .ok (.goto 6, 3) := by decide +kernel
theorem dX1_farthest_17 : decode cX1_farthest 17 = .ok (.iconst 3, 1) := by decide +kernel
theorem dX1_farthest_18 : decode cX1_farthest 18 = .ok (.iload_n 2, 1) := by decide +kernel
theorem dX1_farthest_19 : decode cX1_farthest 19 = .ok (.imul, 1) := by decide +kernel
theorem dX1_farthest_20 : decode cX1_farthest 20 = .ok (.ireturn, 1) := by decide +kernel
theorem dX1_add_0 : decode cX1_add 0 = .ok (.aload_n 0, 1) := by decide +kernel
theorem dX1_add_1 : decode cX1_add 1 = .ok (.invokevirtual 40, 3) := by decide +kernel
theorem dX1_add_4 : decode cX1_add 4 = .ok (.ifCond .eq 5, 3) := by decide +kernel
theorem dX1_add_7 : decode cX1_add 7 = .ok (.iconst (-1), 1) := by decide +kernel
theorem dX1_add_8 : decode cX1_add 8 = .ok (.ireturn, 1) := by decide +kernel
theorem dX1_add_9 : decode cX1_add 9 = .ok (.aload_n 0, 1) := by decide +kernel
theorem dX1_add_10 : decode cX1_add 10 = .ok (.getfield 28, 3) := by decide +kernel
theorem dX1_add_13 : decode cX1_add 13 = .ok (.invokevirtual 44, 3) := by decide +kernel
theorem dX1_add_16 : decode cX1_add 16 = .ok (.istore_n 2, 1) := by decide +kernel
theorem dX1_add_17 : decode cX1_add 17 = .ok (.aload_n 0, 1) := by decide +kernel
theorem dX1_add_18 : decode cX1_add 18 = .ok (.getfield 24, 3) := by decide +kernel
theorem dX1_add_21 : decode cX1_add 21 = .ok (.bipush 6, 2) := by decide +kernel
theorem dX1_add_23 : decode cX1_add 23 = .ok (.imul, 1) := by decide +kernel
theorem dX1_add_24 : decode cX1_add 24 = .ok (.istore_n 3, 1) := by decide +kernel
theorem dX1_add_25 : decode cX1_add 25 = .ok (.iconst 0, 1) := by decide +kernel
theorem dX1_add_26 : decode cX1_add 26 = .ok (.istore 4, 2) := by decide +kernel
theorem dX1_add_28 : decode cX1_add 28 = .ok (.iload 4, 2) := by decide +kernel
theorem dX1_add_30 : decode cX1_add 30 = .ok (.iconst 4, 1) := by decide +kernel
theorem dX1_add_31 : decode cX1_add 31 = .ok (.if_icmp .ge 37, 3) := by decide +kernel
theorem dX1_add_34 : decode cX1_add 34 = .ok (.aload_n 0, 1) := by decide +kernel
theorem dX1_add_35 : decode cX1_add 35 = .ok (.getfield 9, 3) := by decide +kernel
theorem dX1_add_38 : decode cX1_add 38 = .ok (.iload_n 3, 1) := by decide +kernel
theorem dX1_add_39 : decode cX1_add 39 = .ok (.iload 4, 2) := by decide +kernel
theorem dX1_add_41 : decode cX1_add 41 = .ok (.iadd, 1) := by decide +kernel
theorem dX1_add_42 : decode cX1_add 42 = .ok (.iload 4, 2) := by decide +kernel
theorem dX1_add_44 : decode cX1_add 44 = .ok (.iload_n 2, 1) := by decide +kernel
theorem dX1_add_45 : decode cX1_add 45 = .ok (.if_icmp .ge 15, 3) := by decide +kernel
theorem dX1_add_48 : decode cX1_add 48 = .ok (.aload_n 1, 1) := by decide +kernel
theorem dX1_add_49 : decode cX1_add 49 = .ok (.iload 4, 2) := by decide +kernel
theorem dX1_add_51 : decode cX1_add 51 = .ok (.invokevirtual 49, 3) := by decide +kernel
theorem dX1_add_54 : decode cX1_add 54 = .ok (.bipush 48, 2) := by decide +kernel
theorem dX1_add_56 : decode cX1_add 56 = .ok (.isub, 1) := by decide +kernel
theorem dX1_add_57 : decode cX1_add 57 = .ok (.goto 4, 3) := by decide +kernel
theorem dX1_add_60 : decode cX1_add 60 = .ok (.iconst (-1), 1) := by decide +kernel
theorem dX1_add_61 : decode cX1_add 61 = .ok (.iastore, 1) := by decide +kernel
theorem dX1_add_62 : decode cX1_add 62 = .ok (.iinc 4 1, 3) := by decide +kernel
theorem dX1_add_65 : decode cX1_add 65 = .ok (.goto (-37), 3) := by decide +kernel
theorem dX1_add_68 : decode cX1_add 68 = .ok (.aload_n 0, 1) := by decide +kernel
theorem dX1_add_69 : decode cX1_add 69 = .ok (.getfield 9, 3) := by decide +kernel
theorem dX1_add_72 : decode cX1_add 72 = .ok (.iload_n 3, 1) := by decide +kernel
theorem dX1_add_73 : decode cX1_add 73 = .ok (.iconst 4, 1) := by decide +kernel
theorem dX1_add_74 : decode cX1_add 74 = .ok (.iadd, 1) := by decide +kernel
theorem dX1_add_75 : decode cX1_add 75 = .ok (.aload_n 1, 1) := by decide +kernel
theorem dX1_add_76 : decode cX1_add 76 = .ok (.iload_n 2, 1) := by decide +kernel
theorem dX1_add_77 : decode cX1_add 77 = .ok (.invokevirtual 49, 3) := by decide +kernel
theorem dX1_add_80 : decode cX1_add 80 = .ok (.bipush 43, 2) := by decide +kernel
theorem dX1_add_82 : decode cX1_add 82 = .ok (.if_icmp .ne 16, 3) := by decide +kernel
theorem dX1_add_85 : decode cX1_add 85 = .ok (.aload_n 1, 1) := by decide +kernel
theorem dX1_add_86 : decode cX1_add 86 = .ok (.iload_n 2, 1) := by decide +kernel
theorem dX1_add_87 : decode cX1_add 87 = .ok (.iconst 1, 1) := by decide +kernel
theorem dX1_add_88 : decode cX1_add 88 = .ok (.iadd, 1) := by decide +kernel
theorem dX1_add_89 : decode cX1_add 89 = .ok (.invokevirtual 49, 3) := by decide +kernel
theorem dX1_add_92 : decode cX1_add 92 = .ok (.bipush 48, 2) := by decide +kernel
theorem dX1_add_94 : decode cX1_add 94 = .ok (.isub, 1) := by decide +kernel
theorem dX1_add_95 : decode cX1_add 95 = .ok (.goto 4, 3) := by decide +kernel
theorem dX1_add_98 : decode cX1_add 98 = .ok (.iconst (-1), 1) := by decide +kernel
theorem dX1_add_99 : decode cX1_add 99 = .ok (.iastore, 1) := by decide +kernel
theorem dX1_add_100 : decode cX1_add 100 = .ok (.aload_n 0, 1) := by decide +kernel
theorem dX1_add_101 : decode cX1_add 101 = .ok (.getfield 9, 3) := by decide +kernel
theorem dX1_add_104 : decode cX1_add 104 = .ok (.iload_n 3, 1) := by decide +kernel
theorem dX1_add_105 : decode cX1_add 105 = .ok (.iconst 5, 1) := by decide +kernel
theorem dX1_add_106 : decode cX1_add 106 = .ok (.iadd, 1) := by decide +kernel
theorem dX1_add_107 : decode cX1_add 107 = .ok (.aload_n 1, 1) := by decide +kernel
theorem dX1_add_108 : decode cX1_add 108 = .ok (.invokevirtual 55, 3) := by decide +kernel
theorem dX1_add_111 : decode cX1_add 111 = .ok (.bipush 33, 2) := by decide +kernel
theorem dX1_add_113 : decode cX1_add 113 = .ok (.if_icmp .ne 7, 3) := by decide +kernel
theorem dX1_add_116 : decode cX1_add 116 = .ok (.iconst 1, 1) := by decide +kernel
theorem dX1_add_117 : decode cX1_add 117 = .ok (.goto 4, 3) := by decide +kernel
theorem dX1_add_120 : decode cX1_add 120 = .ok (.iconst 0, 1) := by decide +kernel
theorem dX1_add_121 : decode cX1_add 121 = .ok (.iastore, 1) := by decide +kernel
theorem dX1_add_122 : decode cX1_add 122 = .ok (.aload_n 0, 1) := by decide +kernel
theorem dX1_add_123 : decode cX1_add 123 = .ok (.dup, 1) := by decide +kernel
theorem dX1_add_124 : decode cX1_add 124 = .ok (.getfield 24, 3) := by decide +kernel
theorem dX1_add_127 : decode cX1_add 127 = .ok (.iconst 1, 1) := by decide +kernel
theorem dX1_add_128 : decode cX1_add 128 = .ok (.iadd, 1) := by decide +kernel
theorem dX1_add_129 : decode cX1_add 129 = .ok (.putfield 24, 3) := by decide +kernel
theorem dX1_add_132 : decode cX1_add 132 = .ok (.aload_n 0, 1) := by decide +kernel
theorem dX1_add_133 : decode cX1_add 133 = .ok (.aload_n 0, 1) := by decide +kernel
theorem dX1_add_134 : decode cX1_add 134 = .ok (.getfield 24, 3) := by decide +kernel
theorem dX1_add_137 : decode cX1_add 137 = .ok (.iconst 1, 1) := by decide +kernel
theorem dX1_add_138 : decode cX1_add 138 = .ok (.isub, 1) := by decide +kernel
theorem dX1_add_139 : decode cX1_add 139 = .ok (.invokevirtual 58, 3) := by decide +kernel
theorem dX1_add_142 : decode cX1_add 142 = .ok (.aload_n 0, 1) := by decide +kernel
theorem dX1_add_143 : decode cX1_add 143 = .ok (.getfield 24, 3) := by decide +kernel
theorem dX1_add_146 : decode cX1_add 146 = .ok (.iconst 1, 1) := by decide +kernel
theorem dX1_add_147 : decode cX1_add 147 = .ok (.isub, 1) := by decide +kernel
theorem dX1_add_148 : decode cX1_add 148 = .ok (.ireturn, 1) := by decide +kernel
theorem dX1_noteBits_0 : decode cX1_noteBits 0 = .ok (.iconst 1, 1) := by decide +kernel
theorem dX1_noteBits_1 : decode cX1_noteBits 1 = .ok (.iload_n 1, 1) := by decide +kernel
theorem dX1_noteBits_2 : decode cX1_noteBits 2 = .ok (.ishl, 1) := by decide +kernel
theorem dX1_noteBits_3 : decode cX1_noteBits 3 = .ok (.istore_n 2, 1) := by decide +kernel
theorem dX1_noteBits_4 : decode cX1_noteBits 4 = .ok (.iconst 0, 1) := by decide +kernel
theorem dX1_noteBits_5 : decode cX1_noteBits 5 = .ok (.istore_n 3, 1) := by decide +kernel
theorem dX1_noteBits_6 : decode cX1_noteBits 6 = .ok (.iload_n 3, 1) := by decide +kernel
theorem dX1_noteBits_7 : decode cX1_noteBits 7 = .ok (.aload_n 0, 1) := by decide +kernel
theorem dX1_noteBits_8 : decode cX1_noteBits 8 = .ok (.getfield 28, 3) := by decide +kernel
theorem dX1_noteBits_11 : decode cX1_noteBits 11 = .ok (.invokevirtual 44, 3) := by decide +kernel
theorem dX1_noteBits_14 : decode cX1_noteBits 14 = .ok (.if_icmp .ge 76, 3) := by decide +kernel
theorem dX1_noteBits_17 : decode cX1_noteBits 17 = .ok (.iload_n 3, 1) := by decide +kernel
theorem dX1_noteBits_18 : decode cX1_noteBits 18 = .ok (.iconst 4, 1) := by decide +kernel
theorem dX1_noteBits_19 : decode cX1_noteBits 19 = .ok (.if_icmp .ge 71, 3) := by decide +kernel
theorem dX1_noteBits_22 : decode cX1_noteBits 22 = .ok (.iconst 0, 1) := by decide +kernel
theorem dX1_noteBits_23 : decode cX1_noteBits 23 = .ok (.istore 4, 2) := by decide +kernel
theorem dX1_noteBits_25 : decode cX1_noteBits 25 = .ok (.iload 4, 2) := by decide +kernel
theorem dX1_noteBits_27 : decode cX1_noteBits 27 = .ok (.bipush 10, 2) := by decide +kernel
theorem dX1_noteBits_29 : decode cX1_noteBits 29 = .ok (.if_icmp .ge 36, 3) := by decide +kernel
theorem dX1_noteBits_32 : decode cX1_noteBits 32 = .ok (.aload_n 0, 1) := by decide +kernel
theorem dX1_noteBits_33 : decode cX1_noteBits 33 = .ok (.iload_n 1, 1) := by decide +kernel
theorem dX1_noteBits_34 : decode cX1_noteBits 34 = .ok (.iload_n 3, 1) := by decide +kernel
theorem dX1_noteBits_35 : decode cX1_noteBits 35 = .ok (.iload 4, 2) := by decide +kernel
theorem dX1_noteBits_37 : decode cX1_noteBits 37 = .ok (.invokevirtual 62, 3) := by decide +kernel
theorem dX1_noteBits_40 : decode cX1_noteBits 40 = .ok (.ifCond .eq 19, 3) := by decide +kernel
theorem dX1_noteBits_43 : decode cX1_noteBits 43 = .ok (.aload_n 0, 1) := by decide +kernel
theorem dX1_noteBits_44 : decode cX1_noteBits 44 = .ok (.getfield 15, 3) := by decide +kernel
theorem dX1_noteBits_47 : decode cX1_noteBits 47 = .ok (.iload_n 3, 1) := by decide +kernel
theorem dX1_noteBits_48 : decode cX1_noteBits 48 = .ok (.bipush 10, 2) := by decide +kernel
theorem dX1_noteBits_50 : decode cX1_noteBits 50 = .ok (.imul, 1) := by decide +kernel
theorem dX1_noteBits_51 : decode cX1_noteBits 51 = .ok (.iload 4, 2) := by decide +kernel
theorem dX1_noteBits_53 : decode cX1_noteBits 53 = .ok (.iadd, 1) := by decide +kernel
theorem dX1_noteBits_54 : decode cX1_noteBits 54 = .ok (.dup2, 1) := by decide +kernel
theorem dX1_noteBits_55 : decode cX1_noteBits 55 = .ok (.iaload, 1) := by decide +kernel
theorem dX1_noteBits_56 : decode cX1_noteBits 56 = .ok (.iload_n 2, 1) := by decide +kernel
theorem dX1_noteBits_57 : decode cX1_noteBits 57 = .ok (.ior, 1) := by decide +kernel
theorem dX1_noteBits_58 : decode cX1_noteBits 58 = .ok (.iastore, 1) := by decide +kernel
theorem dX1_noteBits_59 : decode cX1_noteBits 59 = .ok (.iinc 4 1, 3) := by decide +kernel
theorem dX1_noteBits_62 : decode cX1_noteBits 62 = .ok (.goto (-37), 3) := by decide +kernel
theorem dX1_noteBits_65 : decode cX1_noteBits 65 = .ok (.aload_n 0, 1) := by decide +kernel
theorem dX1_noteBits_66 : decode cX1_noteBits 66 = .ok (.iload_n 1, 1) := by decide +kernel
theorem dX1_noteBits_67 : decode cX1_noteBits 67 = .ok (.iload_n 3, 1) := by decide +kernel
theorem dX1_noteBits_68 : decode cX1_noteBits 68 = .ok (.invokevirtual 66, 3) := by decide +kernel
theorem dX1_noteBits_71 : decode cX1_noteBits 71 = .ok (.ifCond .eq 13, 3) := by decide +kernel
theorem dX1_noteBits_74 : decode cX1_noteBits 74 = .ok (.aload_n 0, 1) := by decide +kernel
theorem dX1_noteBits_75 : decode cX1_noteBits 75 = .ok (.getfield 21, 3) := by decide +kernel
theorem dX1_noteBits_78 : decode cX1_noteBits 78 = .ok (.iload_n 3, 1) := by decide +kernel
theorem dX1_noteBits_79 : decode cX1_noteBits 79 = .ok (.dup2, 1) := by decide +kernel
theorem dX1_noteBits_80 : decode cX1_noteBits 80 = .ok (.iaload, 1) := by decide +kernel
theorem dX1_noteBits_81 : decode cX1_noteBits 81 = .ok (.iload_n 2, 1) := by decide +kernel
theorem dX1_noteBits_82 : decode cX1_noteBits 82 = .ok (.ior, 1) := by decide +kernel
theorem dX1_noteBits_83 : decode cX1_noteBits 83 = .ok (.iastore, 1) := by decide +kernel
theorem dX1_noteBits_84 : decode cX1_noteBits 84 = .ok (.iinc 3 1, 3) := by decide +kernel
theorem dX1_noteBits_87 : decode cX1_noteBits 87 = .ok (.goto (-81), 3) := by decide +kernel
theorem dX1_noteBits_90 : decode cX1_noteBits 90 = .ok (.iconst 0, 1) := by decide +kernel
theorem dX1_noteBits_91 : decode cX1_noteBits 91 = .ok (.istore_n 3, 1) := by decide +kernel
theorem dX1_noteBits_92 : decode cX1_noteBits 92 = .ok (.iload_n 3, 1) := by decide +kernel
theorem dX1_noteBits_93 : decode cX1_noteBits 93 = .ok (.aload_n 0, 1) := by decide +kernel
theorem dX1_noteBits_94 : decode cX1_noteBits 94 = .ok (.iload_n 1, 1) := by decide +kernel
theorem dX1_noteBits_95 : decode cX1_noteBits 95 = .ok (.invokevirtual 70, 3) := by decide +kernel
theorem dX1_noteBits_98 : decode cX1_noteBits 98 = .ok (.if_icmp .gt 25, 3) := by decide +kernel
theorem dX1_noteBits_101 : decode cX1_noteBits 101 = .ok (.iload_n 3, 1) := by decide +kernel
theorem dX1_noteBits_102 : decode cX1_noteBits 102 = .ok (.bipush 36, 2) := by decide +kernel
theorem dX1_noteBits_104 : decode cX1_noteBits 104 = .ok (.if_icmp .gt 19, 3) := by decide +kernel
theorem dX1_noteBits_107 : decode cX1_noteBits 107 = .ok (.aload_n 0, 1) := by decide +kernel
theorem dX1_noteBits_108 : decode cX1_noteBits 108 = .ok (.getfield 18, 3) := by decide +kernel
theorem dX1_noteBits_111 : decode cX1_noteBits 111 = .ok (.iload_n 3, 1) := by decide +kernel
theorem dX1_noteBits_112 : decode cX1_noteBits 112 = .ok (.dup2, 1) := by decide +kernel
theorem dX1_noteBits_113 : decode cX1_noteBits 113 = .ok (.iaload, 1) := by decide +kernel
theorem dX1_noteBits_114 : decode cX1_noteBits 114 = .ok (.iload_n 2, 1) := by decide +kernel
theorem dX1_noteBits_115 : decode cX1_noteBits 115 = .ok (.ior, 1) := by decide +kernel
theorem dX1_noteBits_116 : decode cX1_noteBits 116 = .ok (.iastore, 1) := by decide +kernel
theorem dX1_noteBits_117 : decode cX1_noteBits 117 = .ok (.iinc 3 1, 3) := by decide +kernel
theorem dX1_noteBits_120 : decode cX1_noteBits 120 = .ok (.goto (-28), 3) := by decide +kernel
theorem dX1_noteBits_123 : decode cX1_noteBits 123 = .ok (.return_, 1) := by decide +kernel
theorem dX1_willing_0 : decode cX1_willing 0 = .ok (.iconst 1, 1) := by decide +kernel
theorem dX1_willing_1 : decode cX1_willing 1 = .ok (.aload_n 0, 1) := by decide +kernel
theorem dX1_willing_2 : decode cX1_willing 2 = .ok (.getfield 24, 3) := by decide +kernel
theorem dX1_willing_5 : decode cX1_willing 5 = .ok (.ishl, 1) := by decide +kernel
theorem dX1_willing_6 : decode cX1_willing 6 = .ok (.iconst 1, 1) := by decide +kernel
theorem dX1_willing_7 : decode cX1_willing 7 = .ok (.isub, 1) := by decide +kernel
theorem dX1_willing_8 : decode cX1_willing 8 = .ok (.istore 4, 2) := by decide +kernel
theorem dX1_willing_10 : decode cX1_willing 10 = .ok (.iconst 0, 1) := by decide +kernel
theorem dX1_willing_11 : decode cX1_willing 11 = .ok (.istore 5, 2) := by decide +kernel
theorem dX1_willing_13 : decode cX1_willing 13 = .ok (.iload_n 1, 1) := by decide +kernel
theorem dX1_willing_14 : decode cX1_willing 14 = .ok (.istore 6, 2) := by decide +kernel
theorem dX1_willing_16 : decode cX1_willing 16 = .ok (.iload_n 2, 1) := by decide +kernel
theorem dX1_willing_17 : decode cX1_willing 17 = .ok (.istore 7, 2) := by decide +kernel
theorem dX1_willing_19 : decode cX1_willing 19 = .ok (.iload_n 3, 1) := by decide +kernel
theorem dX1_willing_20 : decode cX1_willing 20 = .ok (.istore 8, 2) := by decide +kernel
theorem dX1_willing_22 : decode cX1_willing 22 = .ok (.aload_n 0, 1) := by decide +kernel
theorem dX1_willing_23 : decode cX1_willing 23 = .ok (.getfield 28, 3) := by decide +kernel
theorem dX1_willing_26 : decode cX1_willing 26 = .ok (.invokevirtual 44, 3) := by decide +kernel
theorem dX1_willing_29 : decode cX1_willing 29 = .ok (.istore 9, 2) := by decide +kernel
theorem dX1_willing_31 : decode cX1_willing 31 = .ok (.iconst 0, 1) := by decide +kernel
theorem dX1_willing_32 : decode cX1_willing 32 = .ok (.istore 10, 2) := by decide +kernel
theorem dX1_willing_34 : decode cX1_willing 34 = .ok (.iload 10, 2) := by decide +kernel
theorem dX1_willing_36 : decode cX1_willing 36 = .ok (.iload 9, 2) := by decide +kernel
theorem dX1_willing_38 : decode cX1_willing 38 = .ok (.if_icmp .ge 139, 3) := by decide +kernel
theorem dX1_willing_41 : decode cX1_willing 41 = .ok (.iload 10, 2) := by decide +kernel
theorem dX1_willing_43 : decode cX1_willing 43 = .ok (.iconst 4, 1) := by decide +kernel
theorem dX1_willing_44 : decode cX1_willing 44 = .ok (.if_icmp .ge 133, 3) := by decide +kernel
theorem dX1_willing_47 : decode cX1_willing 47 = .ok (.iload 7, 2) := by decide +kernel
theorem dX1_willing_49 : decode cX1_willing 49 = .ok (.bipush 10, 2) := by decide +kernel
theorem dX1_willing_51 : decode cX1_willing 51 = .ok (.irem, 1) := by decide +kernel
theorem dX1_willing_52 : decode cX1_willing 52 = .ok (.istore 11, 2) := by decide +kernel
theorem dX1_willing_54 : decode cX1_willing 54 = .ok (.iload 11, 2) := by decide +kernel
theorem dX1_willing_56 : decode cX1_willing 56 = .ok (.iload 6, 2) := by decide +kernel
theorem dX1_willing_58 : decode cX1_willing 58 = .ok (.bipush 10, 2) := by decide +kernel
theorem dX1_willing_60 : decode cX1_willing 60 = .ok (.irem, 1) := by decide +kernel
theorem dX1_willing_61 : decode cX1_willing 61 = .ok (.if_icmp .eq 65, 3) := by decide +kernel
theorem dX1_willing_64 : decode cX1_willing 64 = .ok (.aload_n 0, 1) := by decide +kernel
theorem dX1_willing_65 : decode cX1_willing 65 = .ok (.getfield 28, 3) := by decide +kernel
theorem dX1_willing_68 : decode cX1_willing 68 = .ok (.iload 10, 2) := by decide +kernel
theorem dX1_willing_70 : decode cX1_willing 70 = .ok (.invokevirtual 73, 3) := by decide +kernel
theorem dX1_willing_73 : decode cX1_willing 73 = .ok (.iload 6, 2) := by decide +kernel
theorem dX1_willing_75 : decode cX1_willing 75 = .ok (.bipush 10, 2) := by decide +kernel
theorem dX1_willing_77 : decode cX1_willing 77 = .ok (.irem, 1) := by decide +kernel
theorem dX1_willing_78 : decode cX1_willing 78 = .ok (.iload 11, 2) := by decide +kernel
theorem dX1_willing_80 : decode cX1_willing 80 = .ok (.invokevirtual 77, 3) := by decide +kernel
theorem dX1_willing_83 : decode cX1_willing 83 = .ok (.istore 12, 2) := by decide +kernel
theorem dX1_willing_85 : decode cX1_willing 85 = .ok (.iload 5, 2) := by decide +kernel
theorem dX1_willing_87 : decode cX1_willing 87 = .ok (.iload 12, 2) := by decide +kernel
theorem dX1_willing_89 : decode cX1_willing 89 = .ok (.iadd, 1) := by decide +kernel
theorem dX1_willing_90 : decode cX1_willing 90 = .ok (.istore 5, 2) := by decide +kernel
theorem dX1_willing_92 : decode cX1_willing 92 = .ok (.iload 4, 2) := by decide +kernel
theorem dX1_willing_94 : decode cX1_willing 94 = .ok (.iload 12, 2) := by decide +kernel
theorem dX1_willing_96 : decode cX1_willing 96 = .ok (.ifCond .lt 26, 3) := by decide +kernel
theorem dX1_willing_99 : decode cX1_willing 99 = .ok (.iload 12, 2) := by decide +kernel
theorem dX1_willing_101 : decode cX1_willing 101 = .ok (.bipush 10, 2) := by decide +kernel
theorem dX1_willing_103 : decode cX1_willing 103 = .ok (.if_icmp .ge 19, 3) := by decide +kernel
theorem dX1_willing_106 : decode cX1_willing 106 = .ok (.aload_n 0, 1) := by decide +kernel
theorem dX1_willing_107 : decode cX1_willing 107 = .ok (.getfield 15, 3) := by decide +kernel
theorem dX1_willing_110 : decode cX1_willing 110 = .ok (.iload 10, 2) := by decide +kernel
theorem dX1_willing_112 : decode cX1_willing 112 = .ok (.bipush 10, 2) := by decide +kernel
theorem dX1_willing_114 : decode cX1_willing 114 = .ok (.imul, 1) := by decide +kernel
theorem dX1_willing_115 : decode cX1_willing 115 = .ok (.iload 12, 2) := by decide +kernel
theorem dX1_willing_117 : decode cX1_willing 117 = .ok (.iadd, 1) := by decide +kernel
theorem dX1_willing_118 : decode cX1_willing 118 = .ok (.iaload, 1) := by decide +kernel
theorem dX1_willing_119 : decode cX1_willing 119 = .ok (.goto 4, 3) := by decide +kernel
theorem dX1_willing_122 : decode cX1_willing 122 = .ok (.iconst 0, 1) := by decide +kernel
theorem dX1_willing_123 : decode cX1_willing 123 = .ok (.iand, 1) := by decide +kernel
theorem dX1_willing_124 : decode cX1_willing 124 = .ok (.istore 4, 2) := by decide +kernel
theorem dX1_willing_126 : decode cX1_willing 126 = .ok (.iload 11, 2) := by decide +kernel
theorem dX1_willing_128 : decode cX1_willing 128 = .ok (.iload 8, 2) := by decide +kernel
theorem dX1_willing_130 : decode cX1_willing 130 = .ok (.bipush 10, 2) := by decide +kernel
theorem dX1_willing_132 : decode cX1_willing 132 = .ok (.irem, 1) := by decide +kernel
theorem dX1_willing_133 : decode cX1_willing 133 = .ok (.if_icmp .eq 17, 3) := by decide +kernel
theorem dX1_willing_136 : decode cX1_willing 136 = .ok (.iload 4, 2) := by decide +kernel
theorem dX1_willing_138 : decode cX1_willing 138 = .ok (.aload_n 0, 1) := by decide +kernel
theorem dX1_willing_139 : decode cX1_willing 139 = .ok (.getfield 21, 3) := by decide +kernel
theorem dX1_willing_142 : decode cX1_willing 142 = .ok (.iload 10, 2) := by decide +kernel
theorem dX1_willing_144 : decode cX1_willing 144 = .ok (.iaload, 1) := by decide +kernel
theorem dX1_willing_145 : decode cX1_willing 145 = .ok (.iconst (-1), 1) := by decide +kernel
theorem dX1_willing_146 : decode cX1_willing 146 = .ok (.ixor, 1) := by decide +kernel
theorem dX1_willing_147 : decode cX1_willing 147 = .ok (.iand, 1) := by decide +kernel
theorem dX1_willing_148 : decode cX1_willing 148 = .ok (.istore 4, 2) := by decide +kernel
theorem dX1_willing_150 : decode cX1_willing 150 = .ok (.iload 6, 2) := by decide +kernel
theorem dX1_willing_152 : decode cX1_willing 152 = .ok (.bipush 10, 2) := by decide +kernel
theorem dX1_willing_154 : decode cX1_willing 154 = .ok (.idiv, 1) := by decide +kernel
theorem dX1_willing_155 : decode cX1_willing 155 = .ok (.istore 6, 2) := by decide +kernel
theorem dX1_willing_157 : decode cX1_willing 157 = .ok (.iload 7, 2) := by decide +kernel
theorem dX1_willing_159 : decode cX1_willing 159 = .ok (.bipush 10, 2) := by decide +kernel
theorem dX1_willing_161 : decode cX1_willing 161 = .ok (.idiv, 1) := by decide +kernel
theorem dX1_willing_162 : decode cX1_willing 162 = .ok (.istore 7, 2) := by decide +kernel
theorem dX1_willing_164 : decode cX1_willing 164 = .ok (.iload 8, 2) := by decide +kernel
theorem dX1_willing_166 : decode cX1_willing 166 = .ok (.bipush 10, 2) := by decide +kernel
theorem dX1_willing_168 : decode cX1_willing 168 = .ok (.idiv, 1) := by decide +kernel
theorem dX1_willing_169 : decode cX1_willing 169 = .ok (.istore 8, 2) := by decide +kernel
theorem dX1_willing_171 : decode cX1_willing 171 = .ok (.iinc 10 1, 3) := by decide +kernel
theorem dX1_willing_174 : decode cX1_willing 174 = .ok (.goto (-140), 3) := by decide +kernel
theorem dX1_willing_177 : decode cX1_willing 177 = .ok (.iload 5, 2) := by decide +kernel
theorem dX1_willing_179 : decode cX1_willing 179 = .ok (.ifCond .lt 23, 3) := by decide +kernel
theorem dX1_willing_182 : decode cX1_willing 182 = .ok (.iload 5, 2) := by decide +kernel
theorem dX1_willing_184 : decode cX1_willing 184 = .ok (.bipush 36, 2) := by decide +kernel
theorem dX1_willing_186 : decode cX1_willing 186 = .ok (.if_icmp .gt 16, 3) := by decide +kernel
theorem dX1_willing_189 : decode cX1_willing 189 = .ok (.iload 4, 2) := by decide +kernel
theorem dX1_willing_191 : decode cX1_willing 191 = .ok (.aload_n 0, 1) := by decide +kernel
theorem dX1_willing_192 : decode cX1_willing 192 = .ok (.getfield 18, 3) := by decide +kernel
theorem dX1_willing_195 : decode cX1_willing 195 = .ok (.iload 5, 2) := by decide +kernel
theorem dX1_willing_197 : decode cX1_willing 197 = .ok (.iaload, 1) := by decide +kernel
theorem dX1_willing_198 : decode cX1_willing 198 = .ok (.iand, 1) := by decide +kernel
theorem dX1_willing_199 : decode cX1_willing 199 = .ok (.goto 4, 3) := by decide +kernel
theorem dX1_willing_202 : decode cX1_willing 202 = .ok (.iconst 0, 1) := by decide +kernel
theorem dX1_willing_203 : decode cX1_willing 203 = .ok (.ireturn, 1) := by decide +kernel
theorem dX1_agrees_0 : decode cX1_agrees 0 = .ok (.aload_n 0, 1) := by decide +kernel
theorem dX1_agrees_1 : decode cX1_agrees 1 = .ok (.getfield 24, 3) := by decide +kernel
theorem dX1_agrees_4 : decode cX1_agrees 4 = .ok (.ifCond .eq 22, 3) := by decide +kernel
theorem dX1_agrees_7 : decode cX1_agrees 7 = .ok (.iconst 2, 1) := by decide +kernel
theorem dX1_agrees_8 : decode cX1_agrees 8 = .ok (.aload_n 0, 1) := by decide +kernel
theorem dX1_agrees_9 : decode cX1_agrees 9 = .ok (.iload_n 1, 1) := by decide +kernel
theorem dX1_agrees_10 : decode cX1_agrees 10 = .ok (.iload_n 2, 1) := by decide +kernel
theorem dX1_agrees_11 : decode cX1_agrees 11 = .ok (.iload_n 3, 1) := by decide +kernel
theorem dX1_agrees_12 : decode cX1_agrees 12 = .ok (.invokevirtual 82, 3) := by decide +kernel
theorem dX1_agrees_15 : decode cX1_agrees 15 = .ok (.invokestatic 86, 3) := by decide +kernel
theorem dX1_agrees_18 : decode cX1_agrees 18 = .ok (.imul, 1) := by decide +kernel
theorem dX1_agrees_19 : decode cX1_agrees 19 = .ok (.aload_n 0, 1) := by decide +kernel
theorem dX1_agrees_20 : decode cX1_agrees 20 = .ok (.getfield 24, 3) := by decide +kernel
theorem dX1_agrees_23 : decode cX1_agrees 23 = .ok (.if_icmp .le 7, 3) := by decide +kernel
theorem dX1_agrees_26 : decode cX1_agrees 26 = .ok (.iconst 1, 1) := by decide +kernel
theorem dX1_agrees_27 : decode cX1_agrees 27 = .ok (.goto 4, 3) := by decide +kernel
theorem dX1_agrees_30 : decode cX1_agrees 30 = .ok (.iconst 0, 1) := by decide +kernel
theorem dX1_agrees_31 : decode cX1_agrees 31 = .ok (.ireturn, 1) := by decide +kernel
theorem dX2_init_0 : decode cX2_init 0 = .ok (.aload_n 0, 1) := by decide +kernel
theorem dX2_init_1 : decode cX2_init 1 = .ok (.invokespecial 3, 3) := by decide +kernel
theorem dX2_init_4 : decode cX2_init 4 = .ok (.aload_n 0, 1) := by decide +kernel
theorem dX2_init_5 : decode cX2_init 5 = .ok (.bipush 10, 2) := by decide +kernel
theorem dX2_init_7 : decode cX2_init 7 = .ok (.newarray .int, 2) := by decide +kernel
theorem dX2_init_9 : decode cX2_init 9 = .ok (.putfield 9, 3) := by decide +kernel
theorem dX2_init_12 : decode cX2_init 12 = .ok (.aload_n 0, 1) := by decide +kernel
theorem dX2_init_13 : decode cX2_init 13 = .ok (.bipush 37, 2) := by decide +kernel
theorem dX2_init_15 : decode cX2_init 15 = .ok (.newarray .int, 2) := by decide +kernel
theorem dX2_init_17 : decode cX2_init 17 = .ok (.putfield 15, 3) := by decide +kernel
theorem dX2_init_20 : decode cX2_init 20 = .ok (.aload_n 0, 1) := by decide +kernel
theorem dX2_init_21 : decode cX2_init 21 = .ok (.bipush 37, 2) := by decide +kernel
theorem dX2_init_23 : decode cX2_init 23 = .ok (.newarray .int, 2) := by decide +kernel
theorem dX2_init_25 : decode cX2_init 25 = .ok (.putfield 18, 3) := by decide +kernel
theorem dX2_init_28 : decode cX2_init 28 = .ok (.return_, 1) := by decide +kernel
theorem dX2_open_0 : decode cX2_open 0 = .ok (.iconst 0, 1) := by decide +kernel
theorem dX2_open_1 : decode cX2_open 1 = .ok (.istore_n 1, 1) := by decide +kernel
theorem dX2_open_2 : decode cX2_open 2 = .ok (.iload_n 1, 1) := by decide +kernel
theorem dX2_open_3 : decode cX2_open 3 = .ok (.bipush 36, 2) := by decide +kernel
theorem dX2_open_5 : decode cX2_open 5 = .ok (.if_icmp .gt 16, 3) := by decide +kernel
theorem dX2_open_8 : decode cX2_open 8 = .ok (.aload_n 0, 1) := by decide +kernel
theorem dX2_open_9 : decode cX2_open 9 = .ok (.getfield 15, 3) := by decide +kernel
theorem dX2_open_12 : decode cX2_open 12 = .ok (.iload_n 1, 1) := by decide +kernel
theorem dX2_open_13 : decode cX2_open 13 = .ok (.iconst 0, 1) := by decide +kernel
theorem dX2_open_14 : decode cX2_open 14 = .ok (.iastore, 1) := by decide +kernel
theorem dX2_open_15 : decode cX2_open 15 = .ok (.iinc 1 1, 3) := by decide +kernel
theorem dX2_open_18 : decode cX2_open 18 = .ok (.goto (-16), 3) := by decide +kernel
theorem dX2_open_21 : decode cX2_open 21 = .ok (.aload_n 0, 1) := by decide +kernel
theorem dX2_open_22 : decode cX2_open 22 = .ok (.getfield 15, 3) := by decide +kernel
theorem dX2_open_25 : decode cX2_open 25 = .ok (.iconst 0, 1) := by decide +kernel
theorem dX2_open_26 : decode cX2_open 26 = .ok (.iconst 1, 1) := by decide +kernel
theorem dX2_open_27 : decode cX2_open 27 = .ok (.iastore, 1) := by decide +kernel
theorem dX2_open_28 : decode cX2_open 28 = .ok (.return_, 1) := by decide +kernel
theorem dX2_meet_0 : decode cX2_meet 0 = .ok (.iload_n 1, 1) := by decide +kernel
theorem dX2_meet_1 : decode cX2_meet 1 = .ok (.ifCond .lt 19, 3) := by decide +kernel
theorem dX2_meet_4 : decode cX2_meet 4 = .ok (.iload_n 1, 1) := by decide +kernel
theorem dX2_meet_5 : decode cX2_meet 5 = .ok (.bipush 10, 2) := by decide +kernel
theorem dX2_meet_7 : decode cX2_meet 7 = .ok (.if_icmp .ge 13, 3) := by decide +kernel
theorem dX2_meet_10 : decode cX2_meet 10 = .ok (.aload_n 0, 1) := by decide +kernel
theorem dX2_meet_11 : decode cX2_meet 11 = .ok (.getfield 9, 3) := by decide +kernel
theorem dX2_meet_14 : decode cX2_meet 14 = .ok (.iload_n 1, 1) := by decide +kernel
theorem dX2_meet_15 : decode cX2_meet 15 = .ok (.dup2, 1) := by decide +kernel
theorem dX2_meet_16 : decode cX2_meet 16 = .ok (.iaload, 1) := by decide +kernel
theorem dX2_meet_17 : decode cX2_meet 17 = .ok (.iconst 1, 1) := by decide +kernel
theorem dX2_meet_18 : decode cX2_meet 18 = .ok (.iadd, 1) := by decide +kernel
theorem dX2_meet_19 : decode cX2_meet 19 = .ok (.iastore, 1) := by decide +kernel
theorem dX2_meet_20 : decode cX2_meet 20 = .ok (.return_, 1) := by decide +kernel
theorem dX2_close_0 : decode cX2_close 0 = .ok (.iconst 0, 1) := by decide +kernel
theorem dX2_close_1 : decode cX2_close 1 = .ok (.istore_n 1, 1) := by decide +kernel
theorem dX2_close_2 : decode cX2_close 2 = .ok (.iload_n 1, 1) := by decide +kernel
theorem dX2_close_3 : decode cX2_close 3 = .ok (.bipush 36, 2) := by decide +kernel
theorem dX2_close_5 : decode cX2_close 5 = .ok (.if_icmp .gt 59, 3) := by decide +kernel
theorem dX2_close_8 : decode cX2_close 8 = .ok (.aload_n 0, 1) := by decide +kernel
