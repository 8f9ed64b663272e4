theorem dX2_close_9 : decode cX2_close 9 = .ok (.getfield 18, 3) := by decide +kernel
theorem dX2_close_12 : decode cX2_close 12 = .ok (.iload_n 1, 1) := by decide +kernel
theorem dX2_close_13 : decode cX2_close 13 = .ok (.iconst 0, 1) := by decide +kernel
theorem dX2_close_14 : decode cX2_close 14 = .ok (.iastore, 1) := by decide +kernel
theorem dX2_close_15 : decode cX2_close 15 = .ok (.iconst 0, 1) := by decide +kernel
theorem dX2_close_16 : decode cX2_close 16 = .ok (.istore_n 2, 1) := by decide +kernel
theorem dX2_close_17 : decode cX2_close 17 = .ok (.iload_n 2, 1) := by decide +kernel
theorem dX2_close_18 : decode cX2_close 18 = .ok (.bipush 10, 2) := by decide +kernel
theorem dX2_close_20 : decode cX2_close 20 = .ok (.if_icmp .ge 38, 3) := by decide +kernel
theorem dX2_close_23 : decode cX2_close 23 = .ok (.iload_n 2, 1) := by decide +kernel
theorem dX2_close_24 : decode cX2_close 24 = .ok (.iload_n 1, 1) := by decide +kernel
theorem dX2_close_25 : decode cX2_close 25 = .ok (.if_icmp .gt 33, 3) := by decide +kernel
theorem dX2_close_28 : decode cX2_close 28 = .ok (.aload_n 0, 1) := by decide +kernel
theorem dX2_close_29 : decode cX2_close 29 = .ok (.getfield 18, 3) := by decide +kernel
theorem dX2_close_32 : decode cX2_close 32 = .ok (.iload_n 1, 1) := by decide +kernel
theorem dX2_close_33 : decode cX2_close 33 = .ok (.dup2, 1) := by decide +kernel
theorem dX2_close_34 : decode cX2_close 34 = .ok (.iaload, 1) := by decide +kernel
theorem dX2_close_35 : decode cX2_close 35 = .ok (.aload_n 0, 1) := by decide +kernel
theorem dX2_close_36 : decode cX2_close 36 = .ok (.getfield 9, 3) := by decide +kernel
theorem dX2_close_39 : decode cX2_close 39 = .ok (.iload_n 2, 1) := by decide +kernel
theorem dX2_close_40 : decode cX2_close 40 = .ok (.iaload, 1) := by decide +kernel
theorem dX2_close_41 : decode cX2_close 41 = .ok (.aload_n 0, 1) := by decide +kernel
theorem dX2_close_42 : decode cX2_close 42 = .ok (.getfield 15, 3) := by decide +kernel
theorem dX2_close_45 : decode cX2_close 45 = .ok (.iload_n 1, 1) := by decide +kernel
theorem dX2_close_46 : decode cX2_close 46 = .ok (.iload_n 2, 1) := by decide +kernel
theorem dX2_close_47 : decode cX2_close 47 = .ok (.isub, 1) := by decide +kernel
theorem dX2_close_48 : decode cX2_close 48 = .ok (.iaload, 1) := by decide +kernel
theorem dX2_close_49 : decode cX2_close 49 = .ok (.imul, 1) := by decide +kernel
theorem dX2_close_50 : decode cX2_close 50 = .ok (.iadd, 1) := by decide +kernel
theorem dX2_close_51 : decode cX2_close 51 = .ok (.iastore, 1) := by decide +kernel
theorem dX2_close_52 : decode cX2_close 52 = .ok (.iinc 2 1, 3) := by decide +kernel
theorem dX2_close_55 : decode cX2_close 55 = .ok (.goto (-38), 3) := by decide +kernel
theorem dX2_close_58 : decode cX2_close 58 = .ok (.iinc 1 1, 3) := by decide +kernel
theorem dX2_close_61 : decode cX2_close 61 = .ok (.goto (-59), 3) := by decide +kernel
theorem dX2_close_64 : decode cX2_close 64 = .ok (.aload_n 0, 1) := by decide +kernel
theorem dX2_close_65 : decode cX2_close 65 = .ok (.getfield 18, 3) := by decide +kernel
theorem dX2_close_68 : decode cX2_close 68 = .ok (.astore_n 1, 1) := by decide +kernel
theorem dX2_close_69 : decode cX2_close 69 = .ok (.aload_n 0, 1) := by decide +kernel
theorem dX2_close_70 : decode cX2_close 70 = .ok (.aload_n 0, 1) := by decide +kernel
theorem dX2_close_71 : decode cX2_close 71 = .ok (.getfield 15, 3) := by decide +kernel
theorem dX2_close_74 : decode cX2_close 74 = .ok (.putfield 18, 3) := by decide +kernel
theorem dX2_close_77 : decode cX2_close 77 = .ok (.aload_n 0, 1) := by decide +kernel
theorem dX2_close_78 : decode cX2_close 78 = .ok (.aload_n 1, 1) := by decide +kernel
theorem dX2_close_79 : decode cX2_close 79 = .ok (.putfield 15, 3) := by decide +kernel
theorem dX2_close_82 : decode cX2_close 82 = .ok (.iconst 0, 1) := by decide +kernel
theorem dX2_close_83 : decode cX2_close 83 = .ok (.istore_n 2, 1) := by decide +kernel
theorem dX2_close_84 : decode cX2_close 84 = .ok (.iload_n 2, 1) := by decide +kernel
theorem dX2_close_85 : decode cX2_close 85 = .ok (.bipush 10, 2) := by decide +kernel
theorem dX2_close_87 : decode cX2_close 87 = .ok (.if_icmp .ge 16, 3) := by decide +kernel
theorem dX2_close_90 : decode cX2_close 90 = .ok (.aload_n 0, 1) := by decide +kernel
theorem dX2_close_91 : decode cX2_close 91 = .ok (.getfield 9, 3) := by decide +kernel
theorem dX2_close_94 : decode cX2_close 94 = .ok (.iload_n 2, 1) := by decide +kernel
theorem dX2_close_95 : decode cX2_close 95 = .ok (.iconst 0, 1) := by decide +kernel
theorem dX2_close_96 : decode cX2_close 96 = .ok (.iastore, 1) := by decide +kernel
theorem dX2_close_97 : decode cX2_close 97 = .ok (.iinc 2 1, 3) := by decide +kernel
theorem dX2_close_100 : decode cX2_close 100 = .ok (.goto (-16), 3) := by decide +kernel
theorem dX2_close_103 : decode cX2_close 103 = .ok (.return_, 1) := by decide +kernel
theorem dX2_upTo_0 : decode cX2_upTo 0 = .ok (.iconst 0, 1) := by decide +kernel
theorem dX2_upTo_1 : decode cX2_upTo 1 = .ok (.istore_n 2, 1) := by decide +kernel
theorem dX2_upTo_2 : decode cX2_upTo 2 = .ok (.iconst 0, 1) := by decide +kernel
theorem dX2_upTo_3 : decode cX2_upTo 3 = .ok (.istore_n 3, 1) := by decide +kernel
theorem dX2_upTo_4 : decode cX2_upTo 4 = .ok (.iload_n 3, 1) := by decide +kernel
theorem dX2_upTo_5 : decode cX2_upTo 5 = .ok (.iload_n 1, 1) := by decide +kernel
theorem dX2_upTo_6 : decode cX2_upTo 6 = .ok (.if_icmp .gt 24, 3) := by decide +kernel
theorem dX2_upTo_9 : decode cX2_upTo 9 = .ok (.iload_n 3, 1) := by decide +kernel
theorem dX2_upTo_10 : decode cX2_upTo 10 = .ok (.bipush 36, 2) := by decide +kernel
theorem dX2_upTo_12 : decode cX2_upTo 12 = .ok (.if_icmp .gt 18, 3) := by decide +kernel
theorem dX2_upTo_15 : decode cX2_upTo 15 = .ok (.iload_n 2, 1) := by decide +kernel
theorem dX2_upTo_16 : decode cX2_upTo 16 = .ok (.aload_n 0, 1) := by decide +kernel
theorem dX2_upTo_17 : decode cX2_upTo 17 = .ok (.getfield 15, 3) := by decide +kernel
theorem dX2_upTo_20 : decode cX2_upTo 20 = .ok (.iload_n 3, 1) := by decide +kernel
theorem dX2_upTo_21 : decode cX2_upTo 21 = .ok (.iaload, 1) := by decide +kernel
theorem dX2_upTo_22 : decode cX2_upTo 22 = .ok (.iadd, 1) := by decide +kernel
theorem dX2_upTo_23 : decode cX2_upTo 23 = .ok (.istore_n 2, 1) := by decide +kernel
theorem dX2_upTo_24 : decode cX2_upTo 24 = .ok (.iinc 3 1, 3) := by decide +kernel
theorem dX2_upTo_27 : decode cX2_upTo 27 = .ok (.goto (-23), 3) := by decide +kernel
theorem dX2_upTo_30 : decode cX2_upTo 30 = .ok (.iload_n 2, 1) := by decide +kernel
theorem dX2_upTo_31 : decode cX2_upTo 31 = .ok (.ireturn, 1) := by decide +kernel
theorem dX3_init_0 : decode cX3_init 0 = .ok (.aload_n 0, 1) := by decide +kernel
theorem dX3_init_1 : decode cX3_init 1 = .ok (.invokespecial 3, 3) := by decide +kernel
theorem dX3_init_4 : decode cX3_init 4 = .ok (.return_, 1) := by decide +kernel
theorem dX3_kind_0 : decode cX3_kind 0 = .ok (.iconst 4, 1) := by decide +kernel
theorem dX3_kind_1 : decode cX3_kind 1 = .ok (.ireturn, 1) := by decide +kernel
theorem dX4_init_0 : decode cX4_init 0 = .ok (.aload_n 0, 1) := by decide +kernel
theorem dX4_init_1 : decode cX4_init 1 = .ok (.invokespecial 3, 3) := by decide +kernel
theorem dX4_init_4 : decode cX4_init 4 = .ok (.return_, 1) := by decide +kernel
theorem dX4_kind_0 : decode cX4_kind 0 = .ok (.iconst 0, 1) := by decide +kernel
theorem dX4_kind_1 : decode cX4_kind 1 = .ok (.ireturn, 1) := by decide +kernel
theorem dX4_aged_0 : decode cX4_aged 0 = .ok (.iload_n 1, 1) := by decide +kernel
theorem dX4_aged_1 : decode cX4_aged 1 = .ok (.ireturn, 1) := by decide +kernel
theorem dX4_gap_0 : decode cX4_gap 0 = .ok (.iload_n 1, 1) := by decide +kernel
theorem dX4_gap_1 : decode cX4_gap 1 = .ok (.iload_n 2, 1) := by decide +kernel
theorem dX4_gap_2 : decode cX4_gap 2 = .ok (.isub, 1) := by decide +kernel
theorem dX4_gap_3 : decode cX4_gap 3 = .ok (.invokestatic 9, 3) := by decide +kernel
theorem dX4_gap_6 : decode cX4_gap 6 = .ok (.ireturn, 1) := by decide +kernel
theorem dX4_steps_0 : decode cX4_steps 0 = .ok (.iload_n 1, 1) := by decide +kernel
theorem dX4_steps_1 : decode cX4_steps 1 = .ok (.iload_n 2, 1) := by decide +kernel
theorem dX4_steps_2 : decode cX4_steps 2 = .ok (.isub, 1) := by decide +kernel
theorem dX4_steps_3 : decode cX4_steps 3 = .ok (.invokestatic 9, 3) := by decide +kernel
theorem dX4_steps_6 : decode cX4_steps 6 = .ok (.ireturn, 1) := by decide +kernel
theorem dX4_slipped_0 : decode cX4_slipped 0 = .ok (.iload_n 1, 1) := by decide +kernel
theorem dX4_slipped_1 : decode cX4_slipped 1 = .ok (.iload_n 2, 1) := by decide +kernel
theorem dX4_slipped_2 : decode cX4_slipped 2 = .ok (.iadd, 1) := by decide +kernel
theorem dX4_slipped_3 : decode cX4_slipped 3 = .ok (.istore_n 3, 1) := by decide +kernel
theorem dX4_slipped_4 : decode cX4_slipped 4 = .ok (.iload_n 3, 1) := by decide +kernel
theorem dX4_slipped_5 : decode cX4_slipped 5 = .ok (.ifCond .lt 9, 3) := by decide +kernel
theorem dX4_slipped_8 : decode cX4_slipped 8 = .ok (.iload_n 3, 1) := by decide +kernel
theorem dX4_slipped_9 : decode cX4_slipped 9 = .ok (.bipush 9, 2) := by decide +kernel
theorem dX4_slipped_11 : decode cX4_slipped 11 = .ok (.if_icmp .le 7, 3) := by decide +kernel
theorem dX4_slipped_14 : decode cX4_slipped 14 = .ok (.iconst (-1), 1) := by decide +kernel
theorem dX4_slipped_15 : decode cX4_slipped 15 = .ok (.goto 4, 3) := by decide +kernel
theorem dX4_slipped_18 : decode cX4_slipped 18 = .ok (.iload_n 3, 1) := by decide +kernel
theorem dX4_slipped_19 : decode cX4_slipped 19 = .ok (.ireturn, 1) := by decide +kernel
theorem dX5_init_0 : decode cX5_init 0 = .ok (.aload_n 0, 1) := by decide +kernel
theorem dX5_init_1 : decode cX5_init 1 = .ok (.invokespecial 3, 3) := by decide +kernel
theorem dX5_init_4 : decode cX5_init 4 = .ok (.return_, 1) := by decide +kernel
theorem dX5_kind_0 : decode cX5_kind 0 = .ok (.iconst 1, 1) := by decide +kernel
theorem dX5_kind_1 : decode cX5_kind 1 = .ok (.ireturn, 1) := by decide +kernel
theorem dX5_aged_0 : decode cX5_aged 0 = .ok (.iconst 0, 1) := by decide +kernel
theorem dX5_aged_1 : decode cX5_aged 1 = .ok (.iload_n 1, 1) := by decide +kernel
theorem dX5_aged_2 : decode cX5_aged 2 = .ok (.iconst 1, 1) := by decide +kernel
theorem dX5_aged_3 : decode cX5_aged 3 = .ok (.isub, 1) := by decide +kernel
theorem dX5_aged_4 : decode cX5_aged 4 = .ok (.invokestatic 9, 3) := by decide +kernel
theorem dX5_aged_7 : decode cX5_aged 7 = .ok (.ireturn, 1) := by decide +kernel
theorem dX6_init_0 : decode cX6_init 0 = .ok (.aload_n 0, 1) := by decide +kernel
theorem dX6_init_1 : decode cX6_init 1 = .ok (.invokespecial 3, 3) := by decide +kernel
theorem dX6_init_4 : decode cX6_init 4 = .ok (.aload_n 0, 1) := by decide +kernel
theorem dX6_init_5 : decode cX6_init 5 = .ok (.iconst 4, 1) := by decide +kernel
theorem dX6_init_6 : decode cX6_init 6 = .ok (.anewarray 9, 3) := by decide +kernel
theorem dX6_init_9 : decode cX6_init 9 = .ok (.putfield 11, 3) := by decide +kernel
theorem dX6_init_12 : decode cX6_init 12 = .ok (.aload_n 0, 1) := by decide +kernel
theorem dX6_init_13 : decode cX6_init 13 = .ok (.iconst 0, 1) := by decide +kernel
theorem dX6_init_14 : decode cX6_init 14 = .ok (.putfield 17, 3) := by decide +kernel
theorem dX6_init_17 : decode cX6_init 17 = .ok (.new 9, 3) := by decide +kernel
theorem dX6_init_20 : decode cX6_init 20 = .ok (.dup, 1) := by decide +kernel
theorem dX6_init_21 : decode cX6_init 21 = .ok (.invokespecial 21, 3) := by decide +kernel
theorem dX6_init_24 : decode cX6_init 24 = .ok (.astore_n 1, 1) := by decide +kernel
theorem dX6_init_25 : decode cX6_init 25 = .ok (.iconst 0, 1) := by decide +kernel
theorem dX6_init_26 : decode cX6_init 26 = .ok (.istore_n 2, 1) := by decide +kernel
theorem dX6_init_27 : decode cX6_init 27 = .ok (.iload_n 2, 1) := by decide +kernel
theorem dX6_init_28 : decode cX6_init 28 = .ok (.iconst 4, 1) := by decide +kernel
theorem dX6_init_29 : decode cX6_init 29 = .ok (.if_icmp .ge 16, 3) := by decide +kernel
theorem dX6_init_32 : decode cX6_init 32 = .ok (.aload_n 0, 1) := by decide +kernel
theorem dX6_init_33 : decode cX6_init 33 = .ok (.getfield 11, 3) := by decide +kernel
theorem dX6_init_36 : decode cX6_init 36 = .ok (.iload_n 2, 1) := by decide +kernel
theorem dX6_init_37 : decode cX6_init 37 = .ok (.aload_n 1, 1) := by decide +kernel
theorem dX6_init_38 : decode cX6_init 38 = .ok (.aastore, 1) := by decide +kernel
theorem dX6_init_39 : decode cX6_init 39 = .ok (.iinc 2 1, 3) := by decide +kernel
theorem dX6_init_42 : decode cX6_init 42 = .ok (.goto (-15), 3) := by decide +kernel
theorem dX6_init_45 : decode cX6_init 45 = .ok (.return_, 1) := by decide +kernel
theorem dX6_size_0 : decode cX6_size 0 = .ok (.aload_n 0, 1) := by decide +kernel
theorem dX6_size_1 : decode cX6_size 1 = .ok (.getfield 17, 3) := by decide +kernel
theorem dX6_size_4 : decode cX6_size 4 = .ok (.ireturn, 1) := by decide +kernel
theorem dX6_isFull_0 : decode cX6_isFull 0 = .ok (.aload_n 0, 1) := by decide +kernel
theorem dX6_isFull_1 : decode cX6_isFull 1 = .ok (.getfield 17, 3) := by decide +kernel
theorem dX6_isFull_4 : decode cX6_isFull 4 = .ok (.iconst 4, 1) := by decide +kernel
theorem dX6_isFull_5 : decode cX6_isFull 5 = .ok (.if_icmp .lt 7, 3) := by decide +kernel
theorem dX6_isFull_8 : decode cX6_isFull 8 = .ok (.iconst 1, 1) := by decide +kernel
theorem dX6_isFull_9 : decode cX6_isFull 9 = .ok (.goto 4, 3) := by decide +kernel
theorem dX6_isFull_12 : decode cX6_isFull 12 = .ok (.iconst 0, 1) := by decide +kernel
theorem dX6_isFull_13 : decode cX6_isFull 13 = .ok (.ireturn, 1) := by decide +kernel
theorem dX6_has_0 : decode cX6_has 0 = .ok (.iload_n 1, 1) := by decide +kernel
theorem dX6_has_1 : decode cX6_has 1 = .ok (.ifCond .lt 15, 3) := by decide +kernel
theorem dX6_has_4 : decode cX6_has 4 = .ok (.iload_n 1, 1) := by decide +kernel
theorem dX6_has_5 : decode cX6_has 5 = .ok (.aload_n 0, 1) := by decide +kernel
theorem dX6_has_6 : decode cX6_has 6 = .ok (.getfield 17, 3) := by decide +kernel
theorem dX6_has_9 : decode cX6_has 9 = .ok (.if_icmp .ge 7, 3) := by decide +kernel
theorem dX6_has_12 : decode cX6_has 12 = .ok (.iconst 1, 1) := by decide +kernel
theorem dX6_has_13 : decode cX6_has 13 = .ok (.goto 4, 3) := by decide +kernel
theorem dX6_has_16 : decode cX6_has 16 = .ok (.iconst 0, 1) := by decide +kernel
theorem dX6_has_17 : decode cX6_has 17 = .ok (.ireturn, 1) := by decide +kernel
theorem dX6_add_0 : decode cX6_add 0 = .ok (.aload_n 0, 1) := by decide +kernel
theorem dX6_add_1 : decode cX6_add 1 = .ok (.invokevirtual 22, 3) := by decide +kernel
theorem dX6_add_4 : decode cX6_add 4 = .ok (.ifCond .ne 23, 3) := by decide +kernel
theorem dX6_add_7 : decode cX6_add 7 = .ok (.aload_n 0, 1) := by decide +kernel
theorem dX6_add_8 : decode cX6_add 8 = .ok (.getfield 11, 3) := by decide +kernel
theorem dX6_add_11 : decode cX6_add 11 = .ok (.aload_n 0, 1) := by decide +kernel
theorem dX6_add_12 : decode cX6_add 12 = .ok (.getfield 17, 3) := by decide +kernel
theorem dX6_add_15 : decode cX6_add 15 = .ok (.aload_n 1, 1) := by decide +kernel
theorem dX6_add_16 : decode cX6_add 16 = .ok (.aastore, 1) := by decide +kernel
theorem dX6_add_17 : decode cX6_add 17 = .ok (.aload_n 0, 1) := by decide +kernel
theorem dX6_add_18 : decode cX6_add 18 = .ok (.dup, 1) := by decide +kernel
theorem dX6_add_19 : decode cX6_add 19 = .ok (.getfield 17, 3) := by decide +kernel
theorem dX6_add_22 : decode cX6_add 22 = .ok (.iconst 1, 1) := by decide +kernel
theorem dX6_add_23 : decode cX6_add 23 = .ok (.iadd, 1) := by decide +kernel
theorem dX6_add_24 : decode cX6_add 24 = .ok (.putfield 17, 3) := by decide +kernel
theorem dX6_add_27 : decode cX6_add 27 = .ok (.aload_n 0, 1) := by decide +kernel
theorem dX6_add_28 : decode cX6_add 28 = .ok (.getfield 17, 3) := by decide +kernel
theorem dX6_add_31 : decode cX6_add 31 = .ok (.iconst 1, 1) := by decide +kernel
theorem dX6_add_32 : decode cX6_add 32 = .ok (.isub, 1) := by decide +kernel
theorem dX6_add_33 : decode cX6_add 33 = .ok (.ireturn, 1) := by decide +kernel
theorem dX6_at_0 : decode cX6_at 0 = .ok (.aload_n 0, 1) := by decide +kernel
theorem dX6_at_1 : decode cX6_at 1 = .ok (.getfield 11, 3) := by decide +kernel
theorem dX6_at_4 : decode cX6_at 4 = .ok (.iload_n 1, 1) := by decide +kernel
theorem dX6_at_5 : decode cX6_at 5 = .ok (.ifCond .lt 12, 3) := by decide +kernel
theorem dX6_at_8 : decode cX6_at 8 = .ok (.iload_n 1, 1) := by decide +kernel
theorem dX6_at_9 : decode cX6_at 9 = .ok (.iconst 4, 1) := by decide +kernel
theorem dX6_at_10 : decode cX6_at 10 = .ok (.if_icmp .ge 7, 3) := by decide +kernel
theorem dX6_at_13 : decode cX6_at 13 = .ok (.iload_n 1, 1) := by decide +kernel
theorem dX6_at_14 : decode cX6_at 14 = .ok (.goto 4, 3) := by decide +kernel
theorem dX6_at_17 : decode cX6_at 17 = .ok (.iconst 0, 1) := by decide +kernel
theorem dX6_at_18 : decode cX6_at 18 = .ok (.aaload, 1) := by decide +kernel
theorem dX6_at_19 : decode cX6_at 19 = .ok (.areturn, 1) := by decide +kernel
theorem dX6_isPortrait_0 : decode cX6_isPortrait 0 = .ok (.iload_n 1, 1) := by decide +kernel
theorem dX6_isPortrait_1 : decode cX6_isPortrait 1 = .ok (.ifCond .lt 30, 3) := by decide +kernel
theorem dX6_isPortrait_4 : decode cX6_isPortrait 4 = .ok (.aload_n 0, 1) := by decide +kernel
theorem dX6_isPortrait_5 : decode cX6_isPortrait 5 = .ok (.getfield 17, 3) := by decide +kernel
theorem dX6_isPortrait_8 : decode cX6_isPortrait 8 = .ok (.getstatic 26, 3) := by decide +kernel
theorem dX6_isPortrait_11 : decode cX6_isPortrait 11 = .ok (.arraylength, 1) := by decide +kernel
theorem dX6_isPortrait_12 : decode cX6_isPortrait 12 = .ok (.if_icmp .ge 19, 3) := by decide +kernel
theorem dX6_isPortrait_15 : decode cX6_isPortrait 15 = .ok (.iload_n 1, 1) := by decide +kernel
theorem dX6_isPortrait_16 : decode cX6_isPortrait 16 = .ok (.getstatic 26, 3) := by decide +kernel
theorem dX6_isPortrait_19 : decode cX6_isPortrait 19 = .ok (.aload_n 0, 1) := by decide +kernel
theorem dX6_isPortrait_20 : decode cX6_isPortrait 20 = .ok (.getfield 17, 3) := by decide +kernel
theorem dX6_isPortrait_23 : decode cX6_isPortrait 23 = .ok (.iaload, 1) := by decide +kernel
theorem dX6_isPortrait_24 : decode cX6_isPortrait 24 = .ok (.if_icmp .ge 7, 3) := by decide +kernel
theorem dX6_isPortrait_27 : decode cX6_isPortrait 27 = .ok (.iconst 1, 1) := by decide +kernel
theorem dX6_isPortrait_28 : decode cX6_isPortrait 28 = .ok (.goto 4, 3) := by decide +kernel
theorem dX6_isPortrait_31 : decode cX6_isPortrait 31 = .ok (.iconst 0, 1) := by decide +kernel
theorem dX6_isPortrait_32 : decode cX6_isPortrait 32 = .ok (.ireturn, 1) := by decide +kernel
theorem dX6_sizeIn_0 : decode cX6_sizeIn 0 = .ok (.iload_n 1, 1) := by decide +kernel
theorem dX6_sizeIn_1 : decode cX6_sizeIn 1 = .ok (.ifCond .lt 21, 3) := by decide +kernel
theorem dX6_sizeIn_4 : decode cX6_sizeIn 4 = .ok (.iload_n 1, 1) := by decide +kernel
theorem dX6_sizeIn_5 : decode cX6_sizeIn 5 = .ok (.iconst 4, 1) := by decide +kernel
theorem dX6_sizeIn_6 : decode cX6_sizeIn 6 = .ok (.if_icmp .ge 16, 3) := by decide +kernel
theorem dX6_sizeIn_9 : decode cX6_sizeIn 9 = .ok (.iload_n 0, 1) := by decide +kernel
theorem dX6_sizeIn_10 : decode cX6_sizeIn 10 = .ok (.getstatic 26, 3) := by decide +kernel
theorem dX6_sizeIn_13 : decode cX6_sizeIn 13 = .ok (.iload_n 1, 1) := by decide +kernel
theorem dX6_sizeIn_14 : decode cX6_sizeIn 14 = .ok (.iaload, 1) := by decide +kernel
theorem dX6_sizeIn_15 : decode cX6_sizeIn 15 = .ok (.idiv, 1) := by decide +kernel
theorem dX6_sizeIn_16 : decode cX6_sizeIn 16 = .ok (.bipush 10, 2) := by decide +kernel
theorem dX6_sizeIn_18 : decode cX6_sizeIn 18 = .ok (.irem, 1) := by decide +kernel
theorem dX6_sizeIn_19 : decode cX6_sizeIn 19 = .ok (.goto 4, 3) := by decide +kernel
theorem dX6_sizeIn_22 : decode cX6_sizeIn 22 = .ok (.iconst 0, 1) := by decide +kernel
theorem dX6_sizeIn_23 : decode cX6_sizeIn 23 = .ok (.ireturn, 1) := by decide +kernel
theorem dX6_with_0 : decode cX6_with 0 = .ok (.iload_n 2, 1) := by decide +kernel
theorem dX6_with_1 : decode cX6_with 1 = .ok (.ifCond .lt 8, 3) := by decide +kernel
theorem dX6_with_4 : decode cX6_with 4 = .ok (.iload_n 2, 1) := by decide +kernel
theorem dX6_with_5 : decode cX6_with 5 = .ok (.iconst 4, 1) := by decide +kernel
theorem dX6_with_6 : decode cX6_with 6 = .ok (.if_icmp .lt 5, 3) := by decide +kernel
theorem dX6_with_9 : decode cX6_with 9 = .ok (.iload_n 1, 1) := by decide +kernel
theorem dX6_with_10 : decode cX6_with 10 = .ok (.ireturn, 1) := by decide +kernel
theorem dX6_with_11 : decode cX6_with 11 = .ok (.getstatic 26, 3) := by decide +kernel
theorem dX6_with_14 : decode cX6_with 14 = .ok (.iload_n 2, 1) := by decide +kernel
theorem dX6_with_15 : decode cX6_with 15 = .ok (.iaload, 1) := by decide +kernel
theorem dX6_with_16 : decode cX6_with 16 = .ok (.istore 4, 2) := by decide +kernel
theorem dX6_with_18 : decode cX6_with 18 = .ok (.iload_n 1, 1) := by decide +kernel
theorem dX6_with_19 : decode cX6_with 19 = .ok (.iload_n 3, 1) := by decide +kernel
theorem dX6_with_20 : decode cX6_with 20 = .ok (.iload_n 1, 1) := by decide +kernel
theorem dX6_with_21 : decode cX6_with 21 = .ok (.iload 4, 2) := by decide +kernel
theorem dX6_with_23 : decode cX6_with 23 = .ok (.idiv, 1) := by decide +kernel
theorem dX6_with_24 : decode cX6_with 24 = .ok (.bipush 10, 2) := by decide +kernel
theorem dX6_with_26 : decode cX6_with 26 = .ok (.irem, 1) := by decide +kernel
theorem dX6_with_27 : decode cX6_with 27 = .ok (.isub, 1) := by decide +kernel
theorem dX6_with_28 : decode cX6_with 28 = .ok (.iload 4, 2) := by decide +kernel
theorem dX6_with_30 : decode cX6_with 30 = .ok (.imul, 1) := by decide +kernel
theorem dX6_with_31 : decode cX6_with 31 = .ok (.iadd, 1) := by decide +kernel
theorem dX6_with_32 : decode cX6_with 32 = .ok (.ireturn, 1) := by decide +kernel
theorem dX6_slip_0 : decode cX6_slip 0 = .ok (.aload_n 0, 1) := by decide +kernel
theorem dX6_slip_1 : decode cX6_slip 1 = .ok (.iload_n 2, 1) := by decide +kernel
theorem dX6_slip_2 : decode cX6_slip 2 = .ok (.invokevirtual 30, 3) := by decide +kernel
theorem dX6_slip_5 : decode cX6_slip 5 = .ok (.ifCond .ne 5, 3) := by decide +kernel
theorem dX6_slip_8 : decode cX6_slip 8 = .ok (.iconst (-1), 1) := by decide +kernel
theorem dX6_slip_9 : decode cX6_slip 9 = .ok (.ireturn, 1) := by decide +kernel
theorem dX6_slip_10 : decode cX6_slip 10 = .ok (.getstatic 26, 3) := by decide +kernel
theorem dX6_slip_13 : decode cX6_slip 13 = .ok (.iload_n 2, 1) := by decide +kernel
theorem dX6_slip_14 : decode cX6_slip 14 = .ok (.iaload, 1) := by decide +kernel
theorem dX6_slip_15 : decode cX6_slip 15 = .ok (.istore 4, 2) := by decide +kernel
theorem dX6_slip_17 : decode cX6_slip 17 = .ok (.iload_n 1, 1) := by decide +kernel
theorem dX6_slip_18 : decode cX6_slip 18 = .ok (.iload 4, 2) := by decide +kernel
theorem dX6_slip_20 : decode cX6_slip 20 = .ok (.idiv, 1) := by decide +kernel
theorem dX6_slip_21 : decode cX6_slip 21 = .ok (.bipush 10, 2) := by decide +kernel
theorem dX6_slip_23 : decode cX6_slip 23 = .ok (.irem, 1) := by decide +kernel
theorem dX6_slip_24 : decode cX6_slip 24 = .ok (.istore 5, 2) := by decide +kernel
theorem dX6_slip_26 : decode cX6_slip 26 = .ok (.aload_n 0, 1) := by decide +kernel
theorem dX6_slip_27 : decode cX6_slip 27 = .ok (.getfield 11, 3) := by decide +kernel
theorem dX6_slip_30 : decode cX6_slip 30 = .ok (.iload_n 2, 1) := by decide +kernel
theorem dX6_slip_31 : decode cX6_slip 31 = .ok (.aaload, 1) := by decide +kernel
theorem dX6_slip_32 : decode cX6_slip 32 = .ok (.iload 5, 2) := by decide +kernel
theorem dX6_slip_34 : decode cX6_slip 34 = .ok (.iload_n 3, 1) := by decide +kernel
theorem dX6_slip_35 : decode cX6_slip 35 = .ok (.invokevirtual 34, 3) := by decide +kernel
theorem dX6_slip_38 : decode cX6_slip 38 = .ok (.istore 6, 2) := by decide +kernel
theorem dX6_slip_40 : decode cX6_slip 40 = .ok (.iload 6, 2) := by decide +kernel
theorem dX6_slip_42 : decode cX6_slip 42 = .ok (.iconst (-1), 1) := by decide +kernel
theorem dX6_slip_43 : decode cX6_slip 43 = .ok (.if_icmp .ne 7, 3) := by decide +kernel
theorem dX6_slip_46 : decode cX6_slip 46 = .ok (.iconst (-1), 1) := by decide +kernel
theorem dX6_slip_47 : decode cX6_slip 47 = .ok (.goto 13, 3) := by decide +kernel
theorem dX6_slip_50 : decode cX6_slip 50 = .ok (.iload_n 1, 1) := by decide +kernel
theorem dX6_slip_51 : decode cX6_slip 51 = .ok (.iload 6, 2) := by decide +kernel
theorem dX6_slip_53 : decode cX6_slip 53 = .ok (.iload 5, 2) := by decide +kernel
theorem dX6_slip_55 : decode cX6_slip 55 = .ok (.isub, 1) := by decide +kernel
theorem dX6_slip_56 : decode cX6_slip 56 = .ok (.iload 4, 2) := by decide +kernel
theorem dX6_slip_58 : decode cX6_slip 58 = .ok (.imul, 1) := by decide +kernel
theorem dX6_slip_59 : decode cX6_slip 59 = .ok (.iadd, 1) := by decide +kernel
theorem dX6_slip_60 : decode cX6_slip 60 = .ok (.ireturn, 1) := by decide +kernel
theorem dX6_gap_0 : decode cX6_gap 0 = .ok (.iconst 0, 1) := by decide +kernel
theorem dX6_gap_1 : decode cX6_gap 1 = .ok (.istore_n 3, 1) := by decide +kernel
theorem dX6_gap_2 : decode cX6_gap 2 = .ok (.iconst 0, 1) := by decide +kernel
theorem dX6_gap_3 : decode cX6_gap 3 = .ok (.istore 4, 2) := by decide +kernel
theorem dX6_gap_5 : decode cX6_gap 5 = .ok (.iload 4, 2) := by decide +kernel
theorem dX6_gap_7 : decode cX6_gap 7 = .ok (.aload_n 0, 1) := by decide +kernel
theorem dX6_gap_8 : decode cX6_gap 8 = .ok (.getfield 17, 3) := by decide +kernel
theorem dX6_gap_11 : decode cX6_gap 11 = .ok (.if_icmp .ge 33, 3) := by decide +kernel
theorem dX6_gap_14 : decode cX6_gap 14 = .ok (.iload_n 3, 1) := by decide +kernel
theorem dX6_gap_15 : decode cX6_gap 15 = .ok (.aload_n 0, 1) := by decide +kernel
theorem dX6_gap_16 : decode cX6_gap 16 = .ok (.iload 4, 2) := by decide +kernel
theorem dX6_gap_18 : decode cX6_gap 18 = .ok (.invokevirtual 38, 3) := by decide +kernel
theorem dX6_gap_21 : decode cX6_gap 21 = .ok (.iload_n 1, 1) := by decide +kernel
theorem dX6_gap_22 : decode cX6_gap 22 = .ok (.iload 4, 2) := by decide +kernel
theorem dX6_gap_24 : decode cX6_gap 24 = .ok (.invokestatic 42, 3) := by decide +kernel
theorem dX6_gap_27 : decode cX6_gap 27 = .ok (.iload_n 2, 1) := by decide +kernel
theorem dX6_gap_28 : decode cX6_gap 28 = .ok (.iload 4, 2) := by decide +kernel
theorem dX6_gap_30 : decode cX6_gap 30 = .ok (.invokestatic 42, 3) := by decide +kernel
theorem dX6_gap_33 : decode cX6_gap 33 = .ok (.invokevirtual 45, 3) := by decide +kernel
theorem dX6_gap_36 : decode cX6_gap 36 = .ok (.iadd, 1) := by decide +kernel
theorem dX6_gap_37 : decode cX6_gap 37 = .ok (.istore_n 3, 1) := by decide +kernel
theorem dX6_gap_38 : decode cX6_gap 38 = .ok (.iinc 4 1, 3) := by decide +kernel
theorem dX6_gap_41 : decode cX6_gap 41 = .ok (.goto (-36), 3) := by decide +kernel
theorem dX6_gap_44 : decode cX6_gap 44 = .ok (.iload_n 3, 1) := by decide +kernel
theorem dX6_gap_45 : decode cX6_gap 45 = .ok (.ireturn, 1) := by decide +kernel
theorem dX6_steps_0 : decode cX6_steps 0 = .ok (.iconst 0, 1) := by decide +kernel
theorem dX6_steps_1 : decode cX6_steps 1 = .ok (.istore_n 3, 1) := by decide +kernel
theorem dX6_steps_2 : decode cX6_steps 2 = .ok (.iconst 0, 1) := by decide +kernel
theorem dX6_steps_3 : decode cX6_steps 3 = .ok (.istore 4, 2) := by decide +kernel
theorem dX6_steps_5 : decode cX6_steps 5 = .ok (.iload 4, 2) := by decide +kernel
theorem dX6_steps_7 : decode cX6_steps 7 = .ok (.aload_n 0, 1) := by decide +kernel
theorem dX6_steps_8 : decode cX6_steps 8 = .ok (.getfield 17, 3) := by decide +kernel
theorem dX6_steps_11 : decode cX6_steps 11 = .ok (.if_icmp .ge 33, 3) := by decide +kernel
theorem dX6_steps_14 : decode cX6_steps 14 = .ok (.iload_n 3, 1) := by decide +kernel
theorem dX6_steps_15 : decode cX6_steps 15 = .ok (.aload_n 0, 1) := by decide +kernel
theorem dX6_steps_16 : decode cX6_steps 16 = .ok (.iload 4, 2) := by decide +kernel
theorem dX6_steps_18 : decode cX6_steps 18 = .ok (.invokevirtual 38, 3) := by decide +kernel
theorem dX6_steps_21 : decode cX6_steps 21 = .ok (.iload_n 1, 1) := by decide +kernel
theorem dX6_steps_22 : decode cX6_steps 22 = .ok (.iload 4, 2) := by decide +kernel
theorem dX6_steps_24 : decode cX6_steps 24 = .ok (.invokestatic 42, 3) := by decide +kernel
theorem dX6_steps_27 : decode cX6_steps 27 = .ok (.iload_n 2, 1) := by decide +kernel
theorem dX6_steps_28 : decode cX6_steps 28 = .ok (.iload 4, 2) := by decide +kernel
theorem dX6_steps_30 : decode cX6_steps 30 = .ok (.invokestatic 42, 3) := by decide +kernel
theorem dX6_steps_33 : decode cX6_steps 33 = .ok (.invokevirtual 48, 3) := by decide +kernel
theorem dX6_steps_36 : decode cX6_steps 36 = .ok (.iadd, 1) := by decide +kernel
theorem dX6_steps_37 : decode cX6_steps 37 = .ok (.istore_n 3, 1) := by decide +kernel
theorem dX6_steps_38 : decode cX6_steps 38 = .ok (.iinc 4 1, 3) := by decide +kernel
theorem dX6_steps_41 : decode cX6_steps 41 = .ok (.goto (-36), 3) := by decide +kernel
theorem dX6_steps_44 : decode cX6_steps 44 = .ok (.iload_n 3, 1) := by decide +kernel
theorem dX6_steps_45 : decode cX6_steps 45 = .ok (.ireturn, 1) := by decide +kernel
theorem dX6_aged_0 : decode cX6_aged 0 = .ok (.iload_n 1, 1) := by decide +kernel
theorem dX6_aged_1 : decode cX6_aged 1 = .ok (.istore_n 2, 1) := by decide +kernel
theorem dX6_aged_2 : decode cX6_aged 2 = .ok (.iconst 0, 1) := by decide +kernel
theorem dX6_aged_3 : decode cX6_aged 3 = .ok (.istore_n 3, 1) := by decide +kernel
theorem dX6_aged_4 : decode cX6_aged 4 = .ok (.iload_n 3, 1) := by decide +kernel
theorem dX6_aged_5 : decode cX6_aged 5 = .ok (.aload_n 0, 1) := by decide +kernel
theorem dX6_aged_6 : decode cX6_aged 6 = .ok (.getfield 17, 3) := by decide +kernel
theorem dX6_aged_9 : decode cX6_aged 9 = .ok (.if_icmp .ge 29, 3) := by decide +kernel
theorem dX6_aged_12 : decode cX6_aged 12 = .ok (.aload_n 0, 1) := by decide +kernel
theorem dX6_aged_13 : decode cX6_aged 13 = .ok (.iload_n 2, 1) := by decide +kernel
theorem dX6_aged_14 : decode cX6_aged 14 = .ok (.iload_n 3, 1) := by decide +kernel
theorem dX6_aged_15 : decode cX6_aged 15 = .ok (.aload_n 0, 1) := by decide +kernel
theorem dX6_aged_16 : decode cX6_aged 16 = .ok (.iload_n 3, 1) := by decide +kernel
theorem dX6_aged_17 : decode cX6_aged 17 = .ok (.invokevirtual 38, 3) := by decide +kernel
theorem dX6_aged_20 : decode cX6_aged 20 = .ok (.iload_n 1, 1) := by decide +kernel
theorem dX6_aged_21 : decode cX6_aged 21 = .ok (.iload_n 3, 1) := by decide +kernel
theorem dX6_aged_22 : decode cX6_aged 22 = .ok (.invokestatic 42, 3) := by decide +kernel
theorem dX6_aged_25 : decode cX6_aged 25 = .ok (.invokevirtual 51, 3) := by decide +kernel
theorem dX6_aged_28 : decode cX6_aged 28 = .ok (.invokevirtual 55, 3) := by decide +kernel
theorem dX6_aged_31 : decode cX6_aged 31 = .ok (.istore_n 2, 1) := by decide +kernel
theorem dX6_aged_32 : decode cX6_aged 32 = .ok (.iinc 3 1, 3) := by decide +kernel
theorem dX6_aged_35 : decode cX6_aged 35 = .ok (.goto (-31), 3) := by decide +kernel
theorem dX6_aged_38 : decode cX6_aged 38 = .ok (.iload_n 2, 1) := by decide +kernel
theorem dX6_aged_39 : decode cX6_aged 39 = .ok (.ireturn, 1) := by decide +kernel
theorem dX7_init_0 : decode cX7_init 0 = .ok (.aload_n 0, 1) := by decide +kernel
theorem dX7_init_1 : decode cX7_init 1 = .ok (.invokespecial 3, 3) := by decide +kernel
theorem dX7_init_4 : decode cX7_init 4 = .ok (.aload_n 0, 1) := by decide +kernel
theorem dX7_init_5 : decode cX7_init 5 = .ok (.iconst 0, 1) := by decide +kernel
theorem dX7_init_6 : decode cX7_init 6 = .ok (.putfield 9, 3) := by decide +kernel
theorem dX7_init_9 : decode cX7_init 9 = .ok (.aload_n 0, 1) := by decide +kernel
theorem dX7_init_10 : decode cX7_init 10 = .ok (.iconst 0, 1) := by decide +kernel
theorem dX7_init_11 : decode cX7_init 11 = .ok (.iload_n 1, 1) := by decide +kernel
theorem dX7_init_12 : decode cX7_init 12 = .ok (.invokestatic 15, 3) := by decide +kernel
theorem dX7_init_15 : decode cX7_init 15 = .ok (.newarray .int, 2) := by decide +kernel
theorem dX7_init_17 : decode cX7_init 17 = .ok (.putfield 21, 3) := by decide +kernel
theorem dX7_init_20 : decode cX7_init 20 = .ok (.return_, 1) := by decide +kernel
theorem dX7_size_0 : decode cX7_size 0 = .ok (.aload_n 0, 1) := by decide +kernel
theorem dX7_size_1 : decode cX7_size 1 = .ok (.getfield 9, 3) := by decide +kernel
theorem dX7_size_4 : decode cX7_size 4 = .ok (.ireturn, 1) := by decide +kernel
theorem dX7_isFull_0 : decode cX7_isFull 0 = .ok (.aload_n 0, 1) := by decide +kernel
theorem dX7_isFull_1 : decode cX7_isFull 1 = .ok (.getfield 9, 3) := by decide +kernel
theorem dX7_isFull_4 : decode cX7_isFull 4 = .ok (.aload_n 0, 1) := by decide +kernel
theorem dX7_isFull_5 : decode cX7_isFull 5 = .ok (.getfield 21, 3) := by decide +kernel
theorem dX7_isFull_8 : decode cX7_isFull 8 = .ok (.arraylength, 1) := by decide +kernel
theorem dX7_isFull_9 : decode cX7_isFull 9 = .ok (.if_icmp .lt 7, 3) := by decide +kernel
theorem dX7_isFull_12 : decode cX7_isFull 12 = .ok (.iconst 1, 1) := by decide +kernel
theorem dX7_isFull_13 : decode cX7_isFull 13 = .ok (.goto 4, 3) := by decide +kernel
theorem dX7_isFull_16 : decode cX7_isFull 16 = .ok (.iconst 0, 1) := by decide +kernel
theorem dX7_isFull_17 : decode cX7_isFull 17 = .ok (.ireturn, 1) := by decide +kernel
theorem dX7_has_0 : decode cX7_has 0 = .ok (.iload_n 1, 1) := by decide +kernel
theorem dX7_has_1 : decode cX7_has 1 = .ok (.ifCond .lt 15, 3) := by decide +kernel
theorem dX7_has_4 : decode cX7_has 4 = .ok (.iload_n 1, 1) := by decide +kernel
theorem dX7_has_5 : decode cX7_has 5 = .ok (.aload_n 0, 1) := by decide +kernel
theorem dX7_has_6 : decode cX7_has 6 = .ok (.getfield 9, 3) := by decide +kernel
theorem dX7_has_9 : decode cX7_has 9 = .ok (.if_icmp .ge 7, 3) := by decide +kernel
theorem dX7_has_12 : decode cX7_has 12 = .ok (.iconst 1, 1) := by decide +kernel
theorem dX7_has_13 : decode cX7_has 13 = .ok (.goto 4, 3) := by decide +kernel
theorem dX7_has_16 : decode cX7_has 16 = .ok (.iconst 0, 1) := by decide +kernel
theorem dX7_has_17 : decode cX7_has 17 = .ok (.ireturn, 1) := by decide +kernel
theorem dX7_get_0 : decode cX7_get 0 = .ok (.aload_n 0, 1) := by decide +kernel
theorem dX7_get_1 : decode cX7_get 1 = .ok (.iload_n 1, 1) := by decide +kernel
theorem dX7_get_2 : decode cX7_get 2 = .ok (.invokevirtual 25, 3) := by decide +kernel
theorem dX7_get_5 : decode cX7_get 5 = .ok (.ifCond .eq 12, 3) := by decide +kernel
theorem dX7_get_8 : decode cX7_get 8 = .ok (.aload_n 0, 1) := by decide +kernel
theorem dX7_get_9 : decode cX7_get 9 = .ok (.getfield 21, 3) := by decide +kernel
theorem dX7_get_12 : decode cX7_get 12 = .ok (.iload_n 1, 1) := by decide +kernel
theorem dX7_get_13 : decode cX7_get 13 = .ok (.iaload, 1) := by decide +kernel
theorem dX7_get_14 : decode cX7_get 14 = .ok (.goto 4, 3) := by decide +kernel
theorem dX7_get_17 : decode cX7_get 17 = .ok (.iconst (-1), 1) := by decide +kernel
theorem dX7_get_18 : decode cX7_get 18 = .ok (.ireturn, 1) := by decide +kernel
theorem dX7_last_0 : decode cX7_last 0 = .ok (.aload_n 0, 1) := by decide +kernel
theorem dX7_last_1 : decode cX7_last 1 = .ok (.aload_n 0, 1) := by decide +kernel
theorem dX7_last_2 : decode cX7_last 2 = .ok (.getfield 9, 3) := by decide +kernel
theorem dX7_last_5 : decode cX7_last 5 = .ok (.iconst 1, 1) := by decide +kernel
theorem dX7_last_6 : decode cX7_last 6 = .ok (.isub, 1) := by decide +kernel
theorem dX7_last_7 : decode cX7_last 7 = .ok (.invokevirtual 29, 3) := by decide +kernel
theorem dX7_last_10 : decode cX7_last 10 = .ok (.ireturn, 1) := by decide +kernel
theorem dX7_add_0 : decode cX7_add 0 = .ok (.aload_n 0, 1) := by decide +kernel
theorem dX7_add_1 : decode cX7_add 1 = .ok (.invokevirtual 33, 3) := by decide +kernel
theorem dX7_add_4 : decode cX7_add 4 = .ok (.ifCond .ne 23, 3) := by decide +kernel
theorem dX7_add_7 : decode cX7_add 7 = .ok (.aload_n 0, 1) := by decide +kernel
theorem dX7_add_8 : decode cX7_add 8 = .ok (.getfield 21, 3) := by decide +kernel
theorem dX7_add_11 : decode cX7_add 11 = .ok (.aload_n 0, 1) := by decide +kernel
theorem dX7_add_12 : decode cX7_add 12 = .ok (.getfield 9, 3) := by decide +kernel
theorem dX7_add_15 : decode cX7_add 15 = .ok (.iload_n 1, 1) := by decide +kernel
theorem dX7_add_16 : decode cX7_add 16 = .ok (.iastore, 1) := by decide +kernel
theorem dX7_add_17 : decode cX7_add 17 = .ok (.aload_n 0, 1) := by decide +kernel
theorem dX7_add_18 : decode cX7_add 18 = .ok (.dup, 1) := by decide +kernel
theorem dX7_add_19 : decode cX7_add 19 = .ok (.getfield 9, 3) := by decide +kernel
theorem dX7_add_22 : decode cX7_add 22 = .ok (.iconst 1, 1) := by decide +kernel
theorem dX7_add_23 : decode cX7_add 23 = .ok (.iadd, 1) := by decide +kernel
theorem dX7_add_24 : decode cX7_add 24 = .ok (.putfield 9, 3) := by decide +kernel
theorem dX7_add_27 : decode cX7_add 27 = .ok (.return_, 1) := by decide +kernel
theorem dX7_cut_0 : decode cX7_cut 0 = .ok (.iload_n 1, 1) := by decide +kernel
theorem dX7_cut_1 : decode cX7_cut 1 = .ok (.ifCond .lt 16, 3) := by decide +kernel
theorem dX7_cut_4 : decode cX7_cut 4 = .ok (.iload_n 1, 1) := by decide +kernel
theorem dX7_cut_5 : decode cX7_cut 5 = .ok (.aload_n 0, 1) := by decide +kernel
theorem dX7_cut_6 : decode cX7_cut 6 = .ok (.getfield 9, 3) := by decide +kernel
theorem dX7_cut_9 : decode cX7_cut 9 = .ok (.if_icmp .ge 8, 3) := by decide +kernel
theorem dX7_cut_12 : decode cX7_cut 12 = .ok (.aload_n 0, 1) := by decide +kernel
theorem dX7_cut_13 : decode cX7_cut 13 = .ok (.iload_n 1, 1) := by decide +kernel
theorem dX7_cut_14 : decode cX7_cut 14 = .ok (.putfield 9, 3) := by decide +kernel
theorem dX7_cut_17 : decode cX7_cut 17 = .ok (.return_, 1) := by decide +kernel
theorem dX8_init_0 : decode cX8_init 0 = .ok (.aload_n 0, 1) := by decide +kernel
theorem dX8_init_1 : decode cX8_init 1 = .ok (.invokespecial 3, 3) := by decide +kernel
theorem dX8_init_4 : decode cX8_init 4 = .ok (.return_, 1) := by decide +kernel
theorem dX8_kind_0 : decode cX8_kind 0 = .ok (.iconst 2, 1) := by decide +kernel
theorem dX8_kind_1 : decode cX8_kind 1 = .ok (.ireturn, 1) := by decide +kernel
theorem dX8_gap_0 : decode cX8_gap 0 = .ok (.iload_n 1, 1) := by decide +kernel
theorem dX8_gap_1 : decode cX8_gap 1 = .ok (.iload_n 2, 1) := by decide +kernel
theorem dX8_gap_2 : decode cX8_gap 2 = .ok (.if_icmp .ne 7, 3) := by decide +kernel
theorem dX8_gap_5 : decode cX8_gap 5 = .ok (.iconst 0, 1) := by decide +kernel
theorem dX8_gap_6 : decode cX8_gap 6 = .ok (.goto 5, 3) := by decide +kernel
theorem dX8_gap_9 : decode cX8_gap 9 = .ok (.bipush 9, 2) := by decide +kernel
theorem dX8_gap_11 : decode cX8_gap 11 = .ok (.ireturn, 1) := by decide +kernel
theorem dX9_init_0 : decode cX9_init 0 = .ok (.aload_n 0, 1) := by decide +kernel
theorem dX9_init_1 : decode cX9_init 1 = .ok (.invokespecial 3, 3) := by decide +kernel
theorem dX9_init_4 : decode cX9_init 4 = .ok (.aload_n 0, 1) := by decide +kernel
theorem dX9_init_5 : decode cX9_init 5 = .ok (.sipush 10000, 3) := by decide +kernel
theorem dX9_init_8 : decode cX9_init 8 = .ok (.newarray .int, 2) := by decide +kernel
theorem dX9_init_10 : decode cX9_init 10 = .ok (.putfield 9, 3) := by decide +kernel
theorem dX9_init_13 : decode cX9_init 13 = .ok (.aload_n 0, 1) := by decide +kernel
theorem dX9_init_14 : decode cX9_init 14 = .ok (.iconst 0, 1) := by decide +kernel
theorem dX9_init_15 : decode cX9_init 15 = .ok (.putfield 15, 3) := by decide +kernel
theorem dX9_init_18 : decode cX9_init 18 = .ok (.aload_n 0, 1) := by decide +kernel
theorem dX9_init_19 : decode cX9_init 19 = .ok (.sipush 10000, 3) := by decide +kernel
theorem dX9_init_22 : decode cX9_init 22 = .ok (.newarray .int, 2) := by decide +kernel
theorem dX9_init_24 : decode cX9_init 24 = .ok (.putfield 19, 3) := by decide +kernel
theorem dX9_init_27 : decode cX9_init 27 = .ok (.aload_n 0, 1) := by decide +kernel
theorem dX9_init_28 : decode cX9_init 28 = .ok (.sipush 10000, 3) := by decide +kernel
theorem dX9_init_31 : decode cX9_init 31 = .ok (.newarray .int, 2) := by decide +kernel
theorem dX9_init_33 : decode cX9_init 33 = .ok (.putfield 22, 3) := by decide +kernel
theorem dX9_init_36 : decode cX9_init 36 = .ok (.aload_n 0, 1) := by decide +kernel
theorem dX9_init_37 : decode cX9_init 37 = .ok (.iconst 0, 1) := by decide +kernel
theorem dX9_init_38 : decode cX9_init 38 = .ok (.putfield 25, 3) := by decide +kernel
