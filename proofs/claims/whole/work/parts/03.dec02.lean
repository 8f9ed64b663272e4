theorem dX9_init_41 : decode cX9_init 41 = .ok (.aload_n 0, 1) := by decide +kernel
theorem dX9_init_42 : decode cX9_init 42 = .ok (.iconst (-1), 1) := by decide +kernel
theorem dX9_init_43 : decode cX9_init 43 = .ok (.putfield 28, 3) := by decide +kernel
theorem dX9_init_46 : decode cX9_init 46 = .ok (.aload_n 0, 1) := by decide +kernel
theorem dX9_init_47 : decode cX9_init 47 = .ok (.iconst (-1), 1) := by decide +kernel
theorem dX9_init_48 : decode cX9_init 48 = .ok (.putfield 31, 3) := by decide +kernel
theorem dX9_init_51 : decode cX9_init 51 = .ok (.aload_n 0, 1) := by decide +kernel
theorem dX9_init_52 : decode cX9_init 52 = .ok (.aload_n 1, 1) := by decide +kernel
theorem dX9_init_53 : decode cX9_init 53 = .ok (.putfield 34, 3) := by decide +kernel
theorem dX9_init_56 : decode cX9_init 56 = .ok (.aload_n 0, 1) := by decide +kernel
theorem dX9_init_57 : decode cX9_init 57 = .ok (.aload_n 2, 1) := by decide +kernel
theorem dX9_init_58 : decode cX9_init 58 = .ok (.putfield 38, 3) := by decide +kernel
theorem dX9_init_61 : decode cX9_init 61 = .ok (.return_, 1) := by decide +kernel
theorem dX9_trueYears_0 : decode cX9_trueYears 0 = .ok (.aload_n 0, 1) := by decide +kernel
theorem dX9_trueYears_1 : decode cX9_trueYears 1 = .ok (.getfield 28, 3) := by decide +kernel
theorem dX9_trueYears_4 : decode cX9_trueYears 4 = .ok (.ireturn, 1) := by decide +kernel
theorem dX9_firstTrue_0 : decode cX9_firstTrue 0 = .ok (.aload_n 0, 1) := by decide +kernel
theorem dX9_firstTrue_1 : decode cX9_firstTrue 1 = .ok (.getfield 31, 3) := by decide +kernel
theorem dX9_firstTrue_4 : decode cX9_firstTrue 4 = .ok (.ireturn, 1) := by decide +kernel
theorem dX9_fewestSlips_0 : decode cX9_fewestSlips 0 = .ok (.iload_n 1, 1) := by decide +kernel
theorem dX9_fewestSlips_1 : decode cX9_fewestSlips 1 = .ok (.iload_n 2, 1) := by decide +kernel
theorem dX9_fewestSlips_2 : decode cX9_fewestSlips 2 = .ok (.if_icmp .ne 5, 3) := by decide +kernel
theorem dX9_fewestSlips_5 : decode cX9_fewestSlips 5 = .ok (.iconst 0, 1) := by decide +kernel
theorem dX9_fewestSlips_6 : decode cX9_fewestSlips 6 = .ok (.ireturn, 1) := by decide +kernel
theorem dX9_fewestSlips_7 : decode cX9_fewestSlips 7 = .ok (.aload_n 0, 1) := by decide +kernel
theorem dX9_fewestSlips_8 : decode cX9_fewestSlips 8 = .ok (.invokevirtual 42, 3) := by decide +kernel
theorem dX9_fewestSlips_11 : decode cX9_fewestSlips 11 = .ok (.aload_n 0, 1) := by decide +kernel
theorem dX9_fewestSlips_12 : decode cX9_fewestSlips 12 = .ok (.iload_n 1, 1) := by decide +kernel
theorem dX9_fewestSlips_13 : decode cX9_fewestSlips 13 = .ok (.iconst 0, 1) := by decide +kernel
theorem dX9_fewestSlips_14 : decode cX9_fewestSlips 14 = .ok (.invokevirtual 45, 3) := by decide +kernel
theorem dX9_fewestSlips_17 : decode cX9_fewestSlips 17 = .ok (.iconst 0, 1) := by decide +kernel
theorem dX9_fewestSlips_18 : decode cX9_fewestSlips 18 = .ok (.istore 4, 2) := by decide +kernel
theorem dX9_fewestSlips_20 : decode cX9_fewestSlips 20 = .ok (.iconst 1, 1) := by decide +kernel
theorem dX9_fewestSlips_21 : decode cX9_fewestSlips 21 = .ok (.istore 5, 2) := by decide +kernel
theorem dX9_fewestSlips_23 : decode cX9_fewestSlips 23 = .ok (.iload 5, 2) := by decide +kernel
theorem dX9_fewestSlips_25 : decode cX9_fewestSlips 25 = .ok (.bipush 20, 2) := by decide +kernel
theorem dX9_fewestSlips_27 : decode cX9_fewestSlips 27 = .ok (.if_icmp .gt 51, 3) := by decide +kernel
theorem dX9_fewestSlips_30 : decode cX9_fewestSlips 30 = .ok (.aload_n 0, 1) := by decide +kernel
theorem dX9_fewestSlips_31 : decode cX9_fewestSlips 31 = .ok (.getfield 25, 3) := by decide +kernel
theorem dX9_fewestSlips_34 : decode cX9_fewestSlips 34 = .ok (.istore 6, 2) := by decide +kernel
theorem dX9_fewestSlips_36 : decode cX9_fewestSlips 36 = .ok (.iload 4, 2) := by decide +kernel
theorem dX9_fewestSlips_38 : decode cX9_fewestSlips 38 = .ok (.iload 6, 2) := by decide +kernel
theorem dX9_fewestSlips_40 : decode cX9_fewestSlips 40 = .ok (.if_icmp .ge 21, 3) := by decide +kernel
theorem dX9_fewestSlips_43 : decode cX9_fewestSlips 43 = .ok (.aload_n 0, 1) := by decide +kernel
theorem dX9_fewestSlips_44 : decode cX9_fewestSlips 44 = .ok (.aload_n 0, 1) := by decide +kernel
theorem dX9_fewestSlips_45 : decode cX9_fewestSlips 45 = .ok (.getfield 19, 3) := by decide +kernel
theorem dX9_fewestSlips_48 : decode cX9_fewestSlips 48 = .ok (.iload 4, 2) := by decide +kernel
theorem dX9_fewestSlips_50 : decode cX9_fewestSlips 50 = .ok (.iaload, 1) := by decide +kernel
theorem dX9_fewestSlips_51 : decode cX9_fewestSlips 51 = .ok (.iload_n 3, 1) := by decide +kernel
theorem dX9_fewestSlips_52 : decode cX9_fewestSlips 52 = .ok (.invokevirtual 49, 3) := by decide +kernel
theorem dX9_fewestSlips_55 : decode cX9_fewestSlips 55 = .ok (.iinc 4 1, 3) := by decide +kernel
theorem dX9_fewestSlips_58 : decode cX9_fewestSlips 58 = .ok (.goto (-22), 3) := by decide +kernel
theorem dX9_fewestSlips_61 : decode cX9_fewestSlips 61 = .ok (.aload_n 0, 1) := by decide +kernel
theorem dX9_fewestSlips_62 : decode cX9_fewestSlips 62 = .ok (.iload_n 2, 1) := by decide +kernel
theorem dX9_fewestSlips_63 : decode cX9_fewestSlips 63 = .ok (.invokevirtual 52, 3) := by decide +kernel
theorem dX9_fewestSlips_66 : decode cX9_fewestSlips 66 = .ok (.ifCond .eq 6, 3) := by decide +kernel
theorem dX9_fewestSlips_69 : decode cX9_fewestSlips 69 = .ok (.iload 5, 2) := by decide +kernel
theorem dX9_fewestSlips_71 : decode cX9_fewestSlips 71 = .ok (.ireturn, 1) := by decide +kernel
theorem dX9_fewestSlips_72 : decode cX9_fewestSlips 72 = .ok (.iinc 5 1, 3) := by decide +kernel
theorem dX9_fewestSlips_75 : decode cX9_fewestSlips 75 = .ok (.goto (-52), 3) := by decide +kernel
theorem dX9_fewestSlips_78 : decode cX9_fewestSlips 78 = .ok (.iconst (-1), 1) := by decide +kernel
theorem dX9_fewestSlips_79 : decode cX9_fewestSlips 79 = .ok (.ireturn, 1) := by decide +kernel
theorem dX9_slipFrom_0 : decode cX9_slipFrom 0 = .ok (.iconst 0, 1) := by decide +kernel
theorem dX9_slipFrom_1 : decode cX9_slipFrom 1 = .ok (.istore_n 3, 1) := by decide +kernel
theorem dX9_slipFrom_2 : decode cX9_slipFrom 2 = .ok (.iload_n 3, 1) := by decide +kernel
theorem dX9_slipFrom_3 : decode cX9_slipFrom 3 = .ok (.aload_n 0, 1) := by decide +kernel
theorem dX9_slipFrom_4 : decode cX9_slipFrom 4 = .ok (.getfield 34, 3) := by decide +kernel
theorem dX9_slipFrom_7 : decode cX9_slipFrom 7 = .ok (.invokevirtual 56, 3) := by decide +kernel
theorem dX9_slipFrom_10 : decode cX9_slipFrom 10 = .ok (.if_icmp .ge 85, 3) := by decide +kernel
theorem dX9_slipFrom_13 : decode cX9_slipFrom 13 = .ok (.iconst (-1), 1) := by decide +kernel
theorem dX9_slipFrom_14 : decode cX9_slipFrom 14 = .ok (.istore 4, 2) := by decide +kernel
theorem dX9_slipFrom_16 : decode cX9_slipFrom 16 = .ok (.iload 4, 2) := by decide +kernel
theorem dX9_slipFrom_18 : decode cX9_slipFrom 18 = .ok (.iconst 1, 1) := by decide +kernel
theorem dX9_slipFrom_19 : decode cX9_slipFrom 19 = .ok (.if_icmp .gt 70, 3) := by decide +kernel
theorem dX9_slipFrom_22 : decode cX9_slipFrom 22 = .ok (.aload_n 0, 1) := by decide +kernel
theorem dX9_slipFrom_23 : decode cX9_slipFrom 23 = .ok (.getfield 34, 3) := by decide +kernel
theorem dX9_slipFrom_26 : decode cX9_slipFrom 26 = .ok (.iload_n 1, 1) := by decide +kernel
theorem dX9_slipFrom_27 : decode cX9_slipFrom 27 = .ok (.iload_n 3, 1) := by decide +kernel
theorem dX9_slipFrom_28 : decode cX9_slipFrom 28 = .ok (.iload 4, 2) := by decide +kernel
theorem dX9_slipFrom_30 : decode cX9_slipFrom 30 = .ok (.invokevirtual 61, 3) := by decide +kernel
theorem dX9_slipFrom_33 : decode cX9_slipFrom 33 = .ok (.istore 5, 2) := by decide +kernel
theorem dX9_slipFrom_35 : decode cX9_slipFrom 35 = .ok (.iload 5, 2) := by decide +kernel
theorem dX9_slipFrom_37 : decode cX9_slipFrom 37 = .ok (.ifCond .lt 46, 3) := by decide +kernel
theorem dX9_slipFrom_40 : decode cX9_slipFrom 40 = .ok (.iload 5, 2) := by decide +kernel
theorem dX9_slipFrom_42 : decode cX9_slipFrom 42 = .ok (.sipush 10000, 3) := by decide +kernel
theorem dX9_slipFrom_45 : decode cX9_slipFrom 45 = .ok (.if_icmp .ge 38, 3) := by decide +kernel
theorem dX9_slipFrom_48 : decode cX9_slipFrom 48 = .ok (.aload_n 0, 1) := by decide +kernel
theorem dX9_slipFrom_49 : decode cX9_slipFrom 49 = .ok (.getfield 9, 3) := by decide +kernel
theorem dX9_slipFrom_52 : decode cX9_slipFrom 52 = .ok (.iload 5, 2) := by decide +kernel
theorem dX9_slipFrom_54 : decode cX9_slipFrom 54 = .ok (.iaload, 1) := by decide +kernel
theorem dX9_slipFrom_55 : decode cX9_slipFrom 55 = .ok (.aload_n 0, 1) := by decide +kernel
theorem dX9_slipFrom_56 : decode cX9_slipFrom 56 = .ok (.getfield 15, 3) := by decide +kernel
theorem dX9_slipFrom_59 : decode cX9_slipFrom 59 = .ok (.if_icmp .eq 24, 3) := by decide +kernel
theorem dX9_slipFrom_62 : decode cX9_slipFrom 62 = .ok (.aload_n 0, 1) := by decide +kernel
theorem dX9_slipFrom_63 : decode cX9_slipFrom 63 = .ok (.getfield 38, 3) := by decide +kernel
theorem dX9_slipFrom_66 : decode cX9_slipFrom 66 = .ok (.iload_n 1, 1) := by decide +kernel
theorem dX9_slipFrom_67 : decode cX9_slipFrom 67 = .ok (.iload 5, 2) := by decide +kernel
theorem dX9_slipFrom_69 : decode cX9_slipFrom 69 = .ok (.iload_n 2, 1) := by decide +kernel
theorem dX9_slipFrom_70 : decode cX9_slipFrom 70 = .ok (.invokevirtual 65, 3) := by decide +kernel
theorem dX9_slipFrom_73 : decode cX9_slipFrom 73 = .ok (.ifCond .eq 10, 3) := by decide +kernel
theorem dX9_slipFrom_76 : decode cX9_slipFrom 76 = .ok (.aload_n 0, 1) := by decide +kernel
theorem dX9_slipFrom_77 : decode cX9_slipFrom 77 = .ok (.iload 5, 2) := by decide +kernel
theorem dX9_slipFrom_79 : decode cX9_slipFrom 79 = .ok (.iconst 0, 1) := by decide +kernel
theorem dX9_slipFrom_80 : decode cX9_slipFrom 80 = .ok (.invokevirtual 45, 3) := by decide +kernel
theorem dX9_slipFrom_83 : decode cX9_slipFrom 83 = .ok (.iinc 4 2, 3) := by decide +kernel
theorem dX9_slipFrom_86 : decode cX9_slipFrom 86 = .ok (.goto (-70), 3) := by decide +kernel
theorem dX9_slipFrom_89 : decode cX9_slipFrom 89 = .ok (.iinc 3 1, 3) := by decide +kernel
theorem dX9_slipFrom_92 : decode cX9_slipFrom 92 = .ok (.goto (-90), 3) := by decide +kernel
theorem dX9_slipFrom_95 : decode cX9_slipFrom 95 = .ok (.return_, 1) := by decide +kernel
theorem dX9_seekTruth_0 : decode cX9_seekTruth 0 = .ok (.aload_n 0, 1) := by decide +kernel
theorem dX9_seekTruth_1 : decode cX9_seekTruth 1 = .ok (.iload_n 1, 1) := by decide +kernel
theorem dX9_seekTruth_2 : decode cX9_seekTruth 2 = .ok (.iload_n 2, 1) := by decide +kernel
theorem dX9_seekTruth_3 : decode cX9_seekTruth 3 = .ok (.if_icmp .ne 7, 3) := by decide +kernel
theorem dX9_seekTruth_6 : decode cX9_seekTruth 6 = .ok (.iconst 0, 1) := by decide +kernel
theorem dX9_seekTruth_7 : decode cX9_seekTruth 7 = .ok (.goto 4, 3) := by decide +kernel
theorem dX9_seekTruth_10 : decode cX9_seekTruth 10 = .ok (.iconst (-1), 1) := by decide +kernel
theorem dX9_seekTruth_11 : decode cX9_seekTruth 11 = .ok (.putfield 28, 3) := by decide +kernel
theorem dX9_seekTruth_14 : decode cX9_seekTruth 14 = .ok (.aload_n 0, 1) := by decide +kernel
theorem dX9_seekTruth_15 : decode cX9_seekTruth 15 = .ok (.iconst (-1), 1) := by decide +kernel
theorem dX9_seekTruth_16 : decode cX9_seekTruth 16 = .ok (.putfield 31, 3) := by decide +kernel
theorem dX9_seekTruth_19 : decode cX9_seekTruth 19 = .ok (.aload_n 0, 1) := by decide +kernel
theorem dX9_seekTruth_20 : decode cX9_seekTruth 20 = .ok (.invokevirtual 42, 3) := by decide +kernel
theorem dX9_seekTruth_23 : decode cX9_seekTruth 23 = .ok (.aload_n 0, 1) := by decide +kernel
theorem dX9_seekTruth_24 : decode cX9_seekTruth 24 = .ok (.iload_n 1, 1) := by decide +kernel
theorem dX9_seekTruth_25 : decode cX9_seekTruth 25 = .ok (.iconst 0, 1) := by decide +kernel
theorem dX9_seekTruth_26 : decode cX9_seekTruth 26 = .ok (.invokevirtual 45, 3) := by decide +kernel
theorem dX9_seekTruth_29 : decode cX9_seekTruth 29 = .ok (.iload_n 2, 1) := by decide +kernel
theorem dX9_seekTruth_30 : decode cX9_seekTruth 30 = .ok (.istore_n 3, 1) := by decide +kernel
theorem dX9_seekTruth_31 : decode cX9_seekTruth 31 = .ok (.iconst 1, 1) := by decide +kernel
theorem dX9_seekTruth_32 : decode cX9_seekTruth 32 = .ok (.istore 4, 2) := by decide +kernel
theorem dX9_seekTruth_34 : decode cX9_seekTruth 34 = .ok (.iload 4, 2) := by decide +kernel
theorem dX9_seekTruth_36 : decode cX9_seekTruth 36 = .ok (.bipush 12, 2) := by decide +kernel
theorem dX9_seekTruth_38 : decode cX9_seekTruth 38 = .ok (.if_icmp .gt 65, 3) := by decide +kernel
theorem dX9_seekTruth_41 : decode cX9_seekTruth 41 = .ok (.aload_n 0, 1) := by decide +kernel
theorem dX9_seekTruth_42 : decode cX9_seekTruth 42 = .ok (.getfield 28, 3) := by decide +kernel
theorem dX9_seekTruth_45 : decode cX9_seekTruth 45 = .ok (.iconst (-1), 1) := by decide +kernel
theorem dX9_seekTruth_46 : decode cX9_seekTruth 46 = .ok (.if_icmp .ne 57, 3) := by decide +kernel
theorem dX9_seekTruth_49 : decode cX9_seekTruth 49 = .ok (.aload_n 0, 1) := by decide +kernel
theorem dX9_seekTruth_50 : decode cX9_seekTruth 50 = .ok (.getfield 34, 3) := by decide +kernel
theorem dX9_seekTruth_53 : decode cX9_seekTruth 53 = .ok (.iload_n 3, 1) := by decide +kernel
theorem dX9_seekTruth_54 : decode cX9_seekTruth 54 = .ok (.invokevirtual 71, 3) := by decide +kernel
theorem dX9_seekTruth_57 : decode cX9_seekTruth 57 = .ok (.istore_n 3, 1) := by decide +kernel
theorem dX9_seekTruth_58 : decode cX9_seekTruth 58 = .ok (.aload_n 0, 1) := by decide +kernel
theorem dX9_seekTruth_59 : decode cX9_seekTruth 59 = .ok (.iload_n 3, 1) := by decide +kernel
theorem dX9_seekTruth_60 : decode cX9_seekTruth 60 = .ok (.iload 4, 2) := by decide +kernel
theorem dX9_seekTruth_62 : decode cX9_seekTruth 62 = .ok (.iconst 1, 1) := by decide +kernel
theorem dX9_seekTruth_63 : decode cX9_seekTruth 63 = .ok (.if_icmp .ne 7, 3) := by decide +kernel
theorem dX9_seekTruth_66 : decode cX9_seekTruth 66 = .ok (.iconst 1, 1) := by decide +kernel
theorem dX9_seekTruth_67 : decode cX9_seekTruth 67 = .ok (.goto 4, 3) := by decide +kernel
theorem dX9_seekTruth_70 : decode cX9_seekTruth 70 = .ok (.iconst 0, 1) := by decide +kernel
theorem dX9_seekTruth_71 : decode cX9_seekTruth 71 = .ok (.invokevirtual 75, 3) := by decide +kernel
theorem dX9_seekTruth_74 : decode cX9_seekTruth 74 = .ok (.aload_n 0, 1) := by decide +kernel
theorem dX9_seekTruth_75 : decode cX9_seekTruth 75 = .ok (.iload_n 3, 1) := by decide +kernel
theorem dX9_seekTruth_76 : decode cX9_seekTruth 76 = .ok (.invokevirtual 52, 3) := by decide +kernel
theorem dX9_seekTruth_79 : decode cX9_seekTruth 79 = .ok (.ifCond .eq 18, 3) := by decide +kernel
theorem dX9_seekTruth_82 : decode cX9_seekTruth 82 = .ok (.aload_n 0, 1) := by decide +kernel
theorem dX9_seekTruth_83 : decode cX9_seekTruth 83 = .ok (.iload 4, 2) := by decide +kernel
theorem dX9_seekTruth_85 : decode cX9_seekTruth 85 = .ok (.putfield 28, 3) := by decide +kernel
theorem dX9_seekTruth_88 : decode cX9_seekTruth 88 = .ok (.aload_n 0, 1) := by decide +kernel
theorem dX9_seekTruth_89 : decode cX9_seekTruth 89 = .ok (.aload_n 0, 1) := by decide +kernel
theorem dX9_seekTruth_90 : decode cX9_seekTruth 90 = .ok (.iload_n 3, 1) := by decide +kernel
theorem dX9_seekTruth_91 : decode cX9_seekTruth 91 = .ok (.invokevirtual 79, 3) := by decide +kernel
theorem dX9_seekTruth_94 : decode cX9_seekTruth 94 = .ok (.putfield 31, 3) := by decide +kernel
theorem dX9_seekTruth_97 : decode cX9_seekTruth 97 = .ok (.iinc 4 1, 3) := by decide +kernel
theorem dX9_seekTruth_100 : decode cX9_seekTruth 100 = .ok (.goto (-66), 3) := by decide +kernel
theorem dX9_seekTruth_103 : decode cX9_seekTruth 103 = .ok (.return_, 1) := by decide +kernel
theorem dX9_passYear_0 : decode cX9_passYear 0 = .ok (.aload_n 0, 1) := by decide +kernel
theorem dX9_passYear_1 : decode cX9_passYear 1 = .ok (.getfield 19, 3) := by decide +kernel
theorem dX9_passYear_4 : decode cX9_passYear 4 = .ok (.astore_n 3, 1) := by decide +kernel
theorem dX9_passYear_5 : decode cX9_passYear 5 = .ok (.aload_n 0, 1) := by decide +kernel
theorem dX9_passYear_6 : decode cX9_passYear 6 = .ok (.getfield 25, 3) := by decide +kernel
theorem dX9_passYear_9 : decode cX9_passYear 9 = .ok (.istore 4, 2) := by decide +kernel
theorem dX9_passYear_11 : decode cX9_passYear 11 = .ok (.aload_n 0, 1) := by decide +kernel
theorem dX9_passYear_12 : decode cX9_passYear 12 = .ok (.aload_n 0, 1) := by decide +kernel
theorem dX9_passYear_13 : decode cX9_passYear 13 = .ok (.getfield 22, 3) := by decide +kernel
theorem dX9_passYear_16 : decode cX9_passYear 16 = .ok (.putfield 19, 3) := by decide +kernel
theorem dX9_passYear_19 : decode cX9_passYear 19 = .ok (.aload_n 0, 1) := by decide +kernel
theorem dX9_passYear_20 : decode cX9_passYear 20 = .ok (.aload_n 3, 1) := by decide +kernel
theorem dX9_passYear_21 : decode cX9_passYear 21 = .ok (.putfield 22, 3) := by decide +kernel
theorem dX9_passYear_24 : decode cX9_passYear 24 = .ok (.aload_n 0, 1) := by decide +kernel
theorem dX9_passYear_25 : decode cX9_passYear 25 = .ok (.invokevirtual 42, 3) := by decide +kernel
theorem dX9_passYear_28 : decode cX9_passYear 28 = .ok (.iconst 0, 1) := by decide +kernel
theorem dX9_passYear_29 : decode cX9_passYear 29 = .ok (.istore 5, 2) := by decide +kernel
theorem dX9_passYear_31 : decode cX9_passYear 31 = .ok (.iload 5, 2) := by decide +kernel
theorem dX9_passYear_33 : decode cX9_passYear 33 = .ok (.iload 4, 2) := by decide +kernel
theorem dX9_passYear_35 : decode cX9_passYear 35 = .ok (.if_icmp .ge 135, 3) := by decide +kernel
theorem dX9_passYear_38 : decode cX9_passYear 38 = .ok (.aload_n 3, 1) := by decide +kernel
theorem dX9_passYear_39 : decode cX9_passYear 39 = .ok (.iload 5, 2) := by decide +kernel
theorem dX9_passYear_41 : decode cX9_passYear 41 = .ok (.iaload, 1) := by decide +kernel
theorem dX9_passYear_42 : decode cX9_passYear 42 = .ok (.sipush 10000, 3) := by decide +kernel
theorem dX9_passYear_45 : decode cX9_passYear 45 = .ok (.irem, 1) := by decide +kernel
theorem dX9_passYear_46 : decode cX9_passYear 46 = .ok (.istore 6, 2) := by decide +kernel
theorem dX9_passYear_48 : decode cX9_passYear 48 = .ok (.aload_n 3, 1) := by decide +kernel
theorem dX9_passYear_49 : decode cX9_passYear 49 = .ok (.iload 5, 2) := by decide +kernel
theorem dX9_passYear_51 : decode cX9_passYear 51 = .ok (.iaload, 1) := by decide +kernel
theorem dX9_passYear_52 : decode cX9_passYear 52 = .ok (.sipush 10000, 3) := by decide +kernel
theorem dX9_passYear_55 : decode cX9_passYear 55 = .ok (.idiv, 1) := by decide +kernel
theorem dX9_passYear_56 : decode cX9_passYear 56 = .ok (.istore 7, 2) := by decide +kernel
theorem dX9_passYear_58 : decode cX9_passYear 58 = .ok (.iconst 0, 1) := by decide +kernel
theorem dX9_passYear_59 : decode cX9_passYear 59 = .ok (.istore 8, 2) := by decide +kernel
theorem dX9_passYear_61 : decode cX9_passYear 61 = .ok (.iload 8, 2) := by decide +kernel
theorem dX9_passYear_63 : decode cX9_passYear 63 = .ok (.aload_n 0, 1) := by decide +kernel
theorem dX9_passYear_64 : decode cX9_passYear 64 = .ok (.getfield 34, 3) := by decide +kernel
theorem dX9_passYear_67 : decode cX9_passYear 67 = .ok (.invokevirtual 56, 3) := by decide +kernel
theorem dX9_passYear_70 : decode cX9_passYear 70 = .ok (.if_icmp .ge 69, 3) := by decide +kernel
theorem dX9_passYear_73 : decode cX9_passYear 73 = .ok (.aload_n 0, 1) := by decide +kernel
theorem dX9_passYear_74 : decode cX9_passYear 74 = .ok (.getfield 34, 3) := by decide +kernel
theorem dX9_passYear_77 : decode cX9_passYear 77 = .ok (.iload 6, 2) := by decide +kernel
theorem dX9_passYear_79 : decode cX9_passYear 79 = .ok (.iload 8, 2) := by decide +kernel
theorem dX9_passYear_81 : decode cX9_passYear 81 = .ok (.iload_n 1, 1) := by decide +kernel
theorem dX9_passYear_82 : decode cX9_passYear 82 = .ok (.iload 8, 2) := by decide +kernel
theorem dX9_passYear_84 : decode cX9_passYear 84 = .ok (.invokestatic 82, 3) := by decide +kernel
theorem dX9_passYear_87 : decode cX9_passYear 87 = .ok (.invokevirtual 86, 3) := by decide +kernel
theorem dX9_passYear_90 : decode cX9_passYear 90 = .ok (.istore 9, 2) := by decide +kernel
theorem dX9_passYear_92 : decode cX9_passYear 92 = .ok (.aload_n 0, 1) := by decide +kernel
theorem dX9_passYear_93 : decode cX9_passYear 93 = .ok (.iload 9, 2) := by decide +kernel
theorem dX9_passYear_95 : decode cX9_passYear 95 = .ok (.invokevirtual 52, 3) := by decide +kernel
theorem dX9_passYear_98 : decode cX9_passYear 98 = .ok (.ifCond .ne 35, 3) := by decide +kernel
theorem dX9_passYear_101 : decode cX9_passYear 101 = .ok (.aload_n 0, 1) := by decide +kernel
theorem dX9_passYear_102 : decode cX9_passYear 102 = .ok (.getfield 38, 3) := by decide +kernel
theorem dX9_passYear_105 : decode cX9_passYear 105 = .ok (.iload 6, 2) := by decide +kernel
theorem dX9_passYear_107 : decode cX9_passYear 107 = .ok (.iload 9, 2) := by decide +kernel
theorem dX9_passYear_109 : decode cX9_passYear 109 = .ok (.iload_n 1, 1) := by decide +kernel
theorem dX9_passYear_110 : decode cX9_passYear 110 = .ok (.invokevirtual 65, 3) := by decide +kernel
theorem dX9_passYear_113 : decode cX9_passYear 113 = .ok (.ifCond .eq 20, 3) := by decide +kernel
theorem dX9_passYear_116 : decode cX9_passYear 116 = .ok (.aload_n 0, 1) := by decide +kernel
theorem dX9_passYear_117 : decode cX9_passYear 117 = .ok (.iload 9, 2) := by decide +kernel
theorem dX9_passYear_119 : decode cX9_passYear 119 = .ok (.iload_n 2, 1) := by decide +kernel
theorem dX9_passYear_120 : decode cX9_passYear 120 = .ok (.ifCond .eq 8, 3) := by decide +kernel
theorem dX9_passYear_123 : decode cX9_passYear 123 = .ok (.iload 8, 2) := by decide +kernel
theorem dX9_passYear_125 : decode cX9_passYear 125 = .ok (.goto 5, 3) := by decide +kernel
theorem dX9_passYear_128 : decode cX9_passYear 128 = .ok (.iload 7, 2) := by decide +kernel
theorem dX9_passYear_130 : decode cX9_passYear 130 = .ok (.invokevirtual 45, 3) := by decide +kernel
theorem dX9_passYear_133 : decode cX9_passYear 133 = .ok (.iinc 8 1, 3) := by decide +kernel
theorem dX9_passYear_136 : decode cX9_passYear 136 = .ok (.goto (-75), 3) := by decide +kernel
theorem dX9_passYear_139 : decode cX9_passYear 139 = .ok (.aload_n 0, 1) := by decide +kernel
theorem dX9_passYear_140 : decode cX9_passYear 140 = .ok (.iload 6, 2) := by decide +kernel
theorem dX9_passYear_142 : decode cX9_passYear 142 = .ok (.invokevirtual 52, 3) := by decide +kernel
theorem dX9_passYear_145 : decode cX9_passYear 145 = .ok (.ifCond .ne 19, 3) := by decide +kernel
theorem dX9_passYear_148 : decode cX9_passYear 148 = .ok (.aload_n 0, 1) := by decide +kernel
theorem dX9_passYear_149 : decode cX9_passYear 149 = .ok (.iload 6, 2) := by decide +kernel
theorem dX9_passYear_151 : decode cX9_passYear 151 = .ok (.iload_n 2, 1) := by decide +kernel
theorem dX9_passYear_152 : decode cX9_passYear 152 = .ok (.ifCond .eq 7, 3) := by decide +kernel
theorem dX9_passYear_155 : decode cX9_passYear 155 = .ok (.iconst 4, 1) := by decide +kernel
theorem dX9_passYear_156 : decode cX9_passYear 156 = .ok (.goto 5, 3) := by decide +kernel
theorem dX9_passYear_159 : decode cX9_passYear 159 = .ok (.iload 7, 2) := by decide +kernel
theorem dX9_passYear_161 : decode cX9_passYear 161 = .ok (.invokevirtual 45, 3) := by decide +kernel
theorem dX9_passYear_164 : decode cX9_passYear 164 = .ok (.iinc 5 1, 3) := by decide +kernel
theorem dX9_passYear_167 : decode cX9_passYear 167 = .ok (.goto (-136), 3) := by decide +kernel
theorem dX9_passYear_170 : decode cX9_passYear 170 = .ok (.return_, 1) := by decide +kernel
theorem dX9_firstOf_0 : decode cX9_firstOf 0 = .ok (.iconst 0, 1) := by decide +kernel
theorem dX9_firstOf_1 : decode cX9_firstOf 1 = .ok (.istore_n 2, 1) := by decide +kernel
theorem dX9_firstOf_2 : decode cX9_firstOf 2 = .ok (.iload_n 2, 1) := by decide +kernel
theorem dX9_firstOf_3 : decode cX9_firstOf 3 = .ok (.aload_n 0, 1) := by decide +kernel
theorem dX9_firstOf_4 : decode cX9_firstOf 4 = .ok (.getfield 25, 3) := by decide +kernel
theorem dX9_firstOf_7 : decode cX9_firstOf 7 = .ok (.if_icmp .ge 45, 3) := by decide +kernel
theorem dX9_firstOf_10 : decode cX9_firstOf 10 = .ok (.aload_n 0, 1) := by decide +kernel
theorem dX9_firstOf_11 : decode cX9_firstOf 11 = .ok (.getfield 19, 3) := by decide +kernel
theorem dX9_firstOf_14 : decode cX9_firstOf 14 = .ok (.iload_n 2, 1) := by decide +kernel
theorem dX9_firstOf_15 : decode cX9_firstOf 15 = .ok (.iaload, 1) := by decide +kernel
theorem dX9_firstOf_16 : decode cX9_firstOf 16 = .ok (.sipush 10000, 3) := by decide +kernel
theorem dX9_firstOf_19 : decode cX9_firstOf 19 = .ok (.irem, 1) := by decide +kernel
theorem dX9_firstOf_20 : decode cX9_firstOf 20 = .ok (.iload_n 1, 1) := by decide +kernel
theorem dX9_firstOf_21 : decode cX9_firstOf 21 = .ok (.if_icmp .ne 25, 3) := by decide +kernel
theorem dX9_firstOf_24 : decode cX9_firstOf 24 = .ok (.aload_n 0, 1) := by decide +kernel
theorem dX9_firstOf_25 : decode cX9_firstOf 25 = .ok (.getfield 19, 3) := by decide +kernel
theorem dX9_firstOf_28 : decode cX9_firstOf 28 = .ok (.iload_n 2, 1) := by decide +kernel
theorem dX9_firstOf_29 : decode cX9_firstOf 29 = .ok (.iaload, 1) := by decide +kernel
theorem dX9_firstOf_30 : decode cX9_firstOf 30 = .ok (.sipush 10000, 3) := by decide +kernel
theorem dX9_firstOf_33 : decode cX9_firstOf 33 = .ok (.idiv, 1) := by decide +kernel
theorem dX9_firstOf_34 : decode cX9_firstOf 34 = .ok (.istore_n 3, 1) := by decide +kernel
theorem dX9_firstOf_35 : decode cX9_firstOf 35 = .ok (.iload_n 3, 1) := by decide +kernel
theorem dX9_firstOf_36 : decode cX9_firstOf 36 = .ok (.iconst 4, 1) := by decide +kernel
theorem dX9_firstOf_37 : decode cX9_firstOf 37 = .ok (.if_icmp .ne 7, 3) := by decide +kernel
theorem dX9_firstOf_40 : decode cX9_firstOf 40 = .ok (.iconst (-1), 1) := by decide +kernel
theorem dX9_firstOf_41 : decode cX9_firstOf 41 = .ok (.goto 4, 3) := by decide +kernel
theorem dX9_firstOf_44 : decode cX9_firstOf 44 = .ok (.iload_n 3, 1) := by decide +kernel
theorem dX9_firstOf_45 : decode cX9_firstOf 45 = .ok (.ireturn, 1) := by decide +kernel
theorem dX9_firstOf_46 : decode cX9_firstOf 46 = .ok (.iinc 2 1, 3) := by decide +kernel
theorem dX9_firstOf_49 : decode cX9_firstOf 49 = .ok (.goto (-47), 3) := by decide +kernel
theorem dX9_firstOf_52 : decode cX9_firstOf 52 = .ok (.iconst (-1), 1) := by decide +kernel
theorem dX9_firstOf_53 : decode cX9_firstOf 53 = .ok (.ireturn, 1) := by decide +kernel
theorem dX9_startRound_0 : decode cX9_startRound 0 = .ok (.aload_n 0, 1) := by decide +kernel
theorem dX9_startRound_1 : decode cX9_startRound 1 = .ok (.dup, 1) := by decide +kernel
theorem dX9_startRound_2 : decode cX9_startRound 2 = .ok (.getfield 15, 3) := by decide +kernel
theorem dX9_startRound_5 : decode cX9_startRound 5 = .ok (.iconst 1, 1) := by decide +kernel
theorem dX9_startRound_6 : decode cX9_startRound 6 = .ok (.iadd, 1) := by decide +kernel
theorem dX9_startRound_7 : decode cX9_startRound 7 = .ok (.putfield 15, 3) := by decide +kernel
theorem dX9_startRound_10 : decode cX9_startRound 10 = .ok (.aload_n 0, 1) := by decide +kernel
theorem dX9_startRound_11 : decode cX9_startRound 11 = .ok (.iconst 0, 1) := by decide +kernel
theorem dX9_startRound_12 : decode cX9_startRound 12 = .ok (.putfield 25, 3) := by decide +kernel
theorem dX9_startRound_15 : decode cX9_startRound 15 = .ok (.return_, 1) := by decide +kernel
theorem dX9_isReached_0 : decode cX9_isReached 0 = .ok (.iload_n 1, 1) := by decide +kernel
theorem dX9_isReached_1 : decode cX9_isReached 1 = .ok (.ifCond .lt 27, 3) := by decide +kernel
theorem dX9_isReached_4 : decode cX9_isReached 4 = .ok (.iload_n 1, 1) := by decide +kernel
theorem dX9_isReached_5 : decode cX9_isReached 5 = .ok (.sipush 10000, 3) := by decide +kernel
theorem dX9_isReached_8 : decode cX9_isReached 8 = .ok (.if_icmp .ge 20, 3) := by decide +kernel
theorem dX9_isReached_11 : decode cX9_isReached 11 = .ok (.aload_n 0, 1) := by decide +kernel
theorem dX9_isReached_12 : decode cX9_isReached 12 = .ok (.getfield 9, 3) := by decide +kernel
theorem dX9_isReached_15 : decode cX9_isReached 15 = .ok (.iload_n 1, 1) := by decide +kernel
theorem dX9_isReached_16 : decode cX9_isReached 16 = .ok (.iaload, 1) := by decide +kernel
theorem dX9_isReached_17 : decode cX9_isReached 17 = .ok (.aload_n 0, 1) := by decide +kernel
theorem dX9_isReached_18 : decode cX9_isReached 18 = .ok (.getfield 15, 3) := by decide +kernel
theorem dX9_isReached_21 : decode cX9_isReached 21 = .ok (.if_icmp .ne 7, 3) := by decide +kernel
theorem dX9_isReached_24 : decode cX9_isReached 24 = .ok (.iconst 1, 1) := by decide +kernel
theorem dX9_isReached_25 : decode cX9_isReached 25 = .ok (.goto 4, 3) := by decide +kernel
theorem dX9_isReached_28 : decode cX9_isReached 28 = .ok (.iconst 0, 1) := by decide +kernel
theorem dX9_isReached_29 : decode cX9_isReached 29 = .ok (.ireturn, 1) := by decide +kernel
theorem dX9_reach_0 : decode cX9_reach 0 = .ok (.aload_n 0, 1) := by decide +kernel
theorem dX9_reach_1 : decode cX9_reach 1 = .ok (.getfield 25, 3) := by decide +kernel
theorem dX9_reach_4 : decode cX9_reach 4 = .ok (.sipush 10000, 3) := by decide +kernel
theorem dX9_reach_7 : decode cX9_reach 7 = .ok (.if_icmp .ge 50, 3) := by decide +kernel
theorem dX9_reach_10 : decode cX9_reach 10 = .ok (.iload_n 1, 1) := by decide +kernel
theorem dX9_reach_11 : decode cX9_reach 11 = .ok (.ifCond .lt 46, 3) := by decide +kernel
theorem dX9_reach_14 : decode cX9_reach 14 = .ok (.iload_n 1, 1) := by decide +kernel
theorem dX9_reach_15 : decode cX9_reach 15 = .ok (.sipush 10000, 3) := by decide +kernel
theorem dX9_reach_18 : decode cX9_reach 18 = .ok (.if_icmp .ge 39, 3) := by decide +kernel
theorem dX9_reach_21 : decode cX9_reach 21 = .ok (.aload_n 0, 1) := by decide +kernel
theorem dX9_reach_22 : decode cX9_reach 22 = .ok (.getfield 9, 3) := by decide +kernel
theorem dX9_reach_25 : decode cX9_reach 25 = .ok (.iload_n 1, 1) := by decide +kernel
theorem dX9_reach_26 : decode cX9_reach 26 = .ok (.aload_n 0, 1) := by decide +kernel
theorem dX9_reach_27 : decode cX9_reach 27 = .ok (.getfield 15, 3) := by decide +kernel
theorem dX9_reach_30 : decode cX9_reach 30 = .ok (.iastore, 1) := by decide +kernel
theorem dX9_reach_31 : decode cX9_reach 31 = .ok (.aload_n 0, 1) := by decide +kernel
theorem dX9_reach_32 : decode cX9_reach 32 = .ok (.getfield 19, 3) := by decide +kernel
theorem dX9_reach_35 : decode cX9_reach 35 = .ok (.aload_n 0, 1) := by decide +kernel
theorem dX9_reach_36 : decode cX9_reach 36 = .ok (.getfield 25, 3) := by decide +kernel
theorem dX9_reach_39 : decode cX9_reach 39 = .ok (.iload_n 2, 1) := by decide +kernel
theorem dX9_reach_40 : decode cX9_reach 40 = .ok (.sipush 10000, 3) := by decide +kernel
theorem dX9_reach_43 : decode cX9_reach 43 = .ok (.imul, 1) := by decide +kernel
theorem dX9_reach_44 : decode cX9_reach 44 = .ok (.iload_n 1, 1) := by decide +kernel
theorem dX9_reach_45 : decode cX9_reach 45 = .ok (.iadd, 1) := by decide +kernel
theorem dX9_reach_46 : decode cX9_reach 46 = .ok (.iastore, 1) := by decide +kernel
theorem dX9_reach_47 : decode cX9_reach 47 = .ok (.aload_n 0, 1) := by decide +kernel
theorem dX9_reach_48 : decode cX9_reach 48 = .ok (.dup, 1) := by decide +kernel
theorem dX9_reach_49 : decode cX9_reach 49 = .ok (.getfield 25, 3) := by decide +kernel
theorem dX9_reach_52 : decode cX9_reach 52 = .ok (.iconst 1, 1) := by decide +kernel
theorem dX9_reach_53 : decode cX9_reach 53 = .ok (.iadd, 1) := by decide +kernel
theorem dX9_reach_54 : decode cX9_reach 54 = .ok (.putfield 25, 3) := by decide +kernel
theorem dX9_reach_57 : decode cX9_reach 57 = .ok (.return_, 1) := by decide +kernel
theorem dX10_init_0 : decode cX10_init 0 = .ok (.aload_n 0, 1) := by decide +kernel
theorem dX10_init_1 : decode cX10_init 1 = .ok (.invokespecial 3, 3) := by decide +kernel
theorem dX10_init_4 : decode cX10_init 4 = .ok (.aload_n 0, 1) := by decide +kernel
theorem dX10_init_5 : decode cX10_init 5 = .ok (.bipush 36, 2) := by decide +kernel
theorem dX10_init_7 : decode cX10_init 7 = .ok (.newarray .int, 2) := by decide +kernel
theorem dX10_init_9 : decode cX10_init 9 = .ok (.putfield 9, 3) := by decide +kernel
theorem dX10_init_12 : decode cX10_init 12 = .ok (.aload_n 0, 1) := by decide +kernel
theorem dX10_init_13 : decode cX10_init 13 = .ok (.bipush 6, 2) := by decide +kernel
theorem dX10_init_15 : decode cX10_init 15 = .ok (.newarray .int, 2) := by decide +kernel
theorem dX10_init_17 : decode cX10_init 17 = .ok (.putfield 15, 3) := by decide +kernel
theorem dX10_init_20 : decode cX10_init 20 = .ok (.aload_n 0, 1) := by decide +kernel
theorem dX10_init_21 : decode cX10_init 21 = .ok (.bipush 6, 2) := by decide +kernel
theorem dX10_init_23 : decode cX10_init 23 = .ok (.newarray .int, 2) := by decide +kernel
theorem dX10_init_25 : decode cX10_init 25 = .ok (.putfield 18, 3) := by decide +kernel
theorem dX10_init_28 : decode cX10_init 28 = .ok (.aload_n 0, 1) := by decide +kernel
theorem dX10_init_29 : decode cX10_init 29 = .ok (.iconst 0, 1) := by decide +kernel
theorem dX10_init_30 : decode cX10_init 30 = .ok (.putfield 21, 3) := by decide +kernel
theorem dX10_init_33 : decode cX10_init 33 = .ok (.aload_n 0, 1) := by decide +kernel
theorem dX10_init_34 : decode cX10_init 34 = .ok (.iconst 0, 1) := by decide +kernel
theorem dX10_init_35 : decode cX10_init 35 = .ok (.putfield 25, 3) := by decide +kernel
theorem dX10_init_38 : decode cX10_init 38 = .ok (.aload_n 0, 1) := by decide +kernel
theorem dX10_init_39 : decode cX10_init 39 = .ok (.aload_n 1, 1) := by decide +kernel
theorem dX10_init_40 : decode cX10_init 40 = .ok (.putfield 28, 3) := by decide +kernel
theorem dX10_init_43 : decode cX10_init 43 = .ok (.return_, 1) := by decide +kernel
theorem dX10_cost_0 : decode cX10_cost 0 = .ok (.aload_n 0, 1) := by decide +kernel
theorem dX10_cost_1 : decode cX10_cost 1 = .ok (.getfield 25, 3) := by decide +kernel
theorem dX10_cost_4 : decode cX10_cost 4 = .ok (.ireturn, 1) := by decide +kernel
theorem dX10_place_0 : decode cX10_place 0 = .ok (.iload_n 1, 1) := by decide +kernel
theorem dX10_place_1 : decode cX10_place 1 = .ok (.ifCond .lt 20, 3) := by decide +kernel
theorem dX10_place_4 : decode cX10_place 4 = .ok (.iload_n 1, 1) := by decide +kernel
theorem dX10_place_5 : decode cX10_place 5 = .ok (.aload_n 0, 1) := by decide +kernel
theorem dX10_place_6 : decode cX10_place 6 = .ok (.getfield 21, 3) := by decide +kernel
theorem dX10_place_9 : decode cX10_place 9 = .ok (.if_icmp .ge 12, 3) := by decide +kernel
theorem dX10_place_12 : decode cX10_place 12 = .ok (.aload_n 0, 1) := by decide +kernel
theorem dX10_place_13 : decode cX10_place 13 = .ok (.getfield 18, 3) := by decide +kernel
theorem dX10_place_16 : decode cX10_place 16 = .ok (.iload_n 1, 1) := by decide +kernel
theorem dX10_place_17 : decode cX10_place 17 = .ok (.iaload, 1) := by decide +kernel
theorem dX10_place_18 : decode cX10_place 18 = .ok (.goto 4, 3) := by decide +kernel
theorem dX10_place_21 : decode cX10_place 21 = .ok (.iconst (-1), 1) := by decide +kernel
theorem dX10_place_22 : decode cX10_place 22 = .ok (.ireturn, 1) := by decide +kernel
theorem dX10_sort_0 : decode cX10_sort 0 = .ok (.aload_n 0, 1) := by decide +kernel
theorem dX10_sort_1 : decode cX10_sort 1 = .ok (.aload_n 1, 1) := by decide +kernel
theorem dX10_sort_2 : decode cX10_sort 2 = .ok (.invokevirtual 32, 3) := by decide +kernel
theorem dX10_sort_5 : decode cX10_sort 5 = .ok (.bipush 6, 2) := by decide +kernel
theorem dX10_sort_7 : decode cX10_sort 7 = .ok (.invokestatic 37, 3) := by decide +kernel
theorem dX10_sort_10 : decode cX10_sort 10 = .ok (.putfield 21, 3) := by decide +kernel
theorem dX10_sort_13 : decode cX10_sort 13 = .ok (.iconst 0, 1) := by decide +kernel
theorem dX10_sort_14 : decode cX10_sort 14 = .ok (.istore_n 2, 1) := by decide +kernel
theorem dX10_sort_15 : decode cX10_sort 15 = .ok (.iload_n 2, 1) := by decide +kernel
theorem dX10_sort_16 : decode cX10_sort 16 = .ok (.aload_n 0, 1) := by decide +kernel
theorem dX10_sort_17 : decode cX10_sort 17 = .ok (.getfield 21, 3) := by decide +kernel
theorem dX10_sort_20 : decode cX10_sort 20 = .ok (.if_icmp .ge 53, 3) := by decide +kernel
theorem dX10_sort_23 : decode cX10_sort 23 = .ok (.iconst 0, 1) := by decide +kernel
theorem dX10_sort_24 : decode cX10_sort 24 = .ok (.istore_n 3, 1) := by decide +kernel
theorem dX10_sort_25 : decode cX10_sort 25 = .ok (.iload_n 3, 1) := by decide +kernel
theorem dX10_sort_26 : decode cX10_sort 26 = .ok (.aload_n 0, 1) := by decide +kernel
theorem dX10_sort_27 : decode cX10_sort 27 = .ok (.getfield 21, 3) := by decide +kernel
theorem dX10_sort_30 : decode cX10_sort 30 = .ok (.if_icmp .ge 37, 3) := by decide +kernel
theorem dX10_sort_33 : decode cX10_sort 33 = .ok (.aload_n 0, 1) := by decide +kernel
theorem dX10_sort_34 : decode cX10_sort 34 = .ok (.getfield 9, 3) := by decide +kernel
theorem dX10_sort_37 : decode cX10_sort 37 = .ok (.iload_n 2, 1) := by decide +kernel
theorem dX10_sort_38 : decode cX10_sort 38 = .ok (.bipush 6, 2) := by decide +kernel
theorem dX10_sort_40 : decode cX10_sort 40 = .ok (.imul, 1) := by decide +kernel
theorem dX10_sort_41 : decode cX10_sort 41 = .ok (.iload_n 3, 1) := by decide +kernel
theorem dX10_sort_42 : decode cX10_sort 42 = .ok (.iadd, 1) := by decide +kernel
theorem dX10_sort_43 : decode cX10_sort 43 = .ok (.aload_n 0, 1) := by decide +kernel
theorem dX10_sort_44 : decode cX10_sort 44 = .ok (.getfield 28, 3) := by decide +kernel
theorem dX10_sort_47 : decode cX10_sort 47 = .ok (.aload_n 1, 1) := by decide +kernel
theorem dX10_sort_48 : decode cX10_sort 48 = .ok (.iload_n 2, 1) := by decide +kernel
theorem dX10_sort_49 : decode cX10_sort 49 = .ok (.invokevirtual 43, 3) := by decide +kernel
theorem dX10_sort_52 : decode cX10_sort 52 = .ok (.aload_n 1, 1) := by decide +kernel
theorem dX10_sort_53 : decode cX10_sort 53 = .ok (.iload_n 3, 1) := by decide +kernel
theorem dX10_sort_54 : decode cX10_sort 54 = .ok (.invokevirtual 43, 3) := by decide +kernel
theorem dX10_sort_57 : decode cX10_sort 57 = .ok (.invokevirtual 47, 3) := by decide +kernel
theorem dX10_sort_60 : decode cX10_sort 60 = .ok (.iastore, 1) := by decide +kernel
theorem dX10_sort_61 : decode cX10_sort 61 = .ok (.iinc 3 1, 3) := by decide +kernel
theorem dX10_sort_64 : decode cX10_sort 64 = .ok (.goto (-39), 3) := by decide +kernel
theorem dX10_sort_67 : decode cX10_sort 67 = .ok (.iinc 2 1, 3) := by decide +kernel
theorem dX10_sort_70 : decode cX10_sort 70 = .ok (.goto (-55), 3) := by decide +kernel
theorem dX10_sort_73 : decode cX10_sort 73 = .ok (.aload_n 0, 1) := by decide +kernel
theorem dX10_sort_74 : decode cX10_sort 74 = .ok (.sipush 217, 3) := by decide +kernel
theorem dX10_sort_77 : decode cX10_sort 77 = .ok (.putfield 25, 3) := by decide +kernel
theorem dX10_sort_80 : decode cX10_sort 80 = .ok (.aload_n 0, 1) := by decide +kernel
theorem dX10_sort_81 : decode cX10_sort 81 = .ok (.iconst 0, 1) := by decide +kernel
theorem dX10_sort_82 : decode cX10_sort 82 = .ok (.iconst 0, 1) := by decide +kernel
theorem dX10_sort_83 : decode cX10_sort 83 = .ok (.iconst 0, 1) := by decide +kernel
theorem dX10_sort_84 : decode cX10_sort 84 = .ok (.invokevirtual 52, 3) := by decide +kernel
theorem dX10_sort_87 : decode cX10_sort 87 = .ok (.return_, 1) := by decide +kernel
theorem dX10_tryPlaces_0 : decode cX10_tryPlaces 0 = .ok (.iload_n 3, 1) := by decide +kernel
theorem dX10_tryPlaces_1 : decode cX10_tryPlaces 1 = .ok (.aload_n 0, 1) := by decide +kernel
theorem dX10_tryPlaces_2 : decode cX10_tryPlaces 2 = .ok (.getfield 25, 3) := by decide +kernel
theorem dX10_tryPlaces_5 : decode cX10_tryPlaces 5 = .ok (.if_icmp .lt 4, 3) := by decide +kernel
theorem dX10_tryPlaces_8 : decode cX10_tryPlaces 8 = .ok (.return_, 1) := by decide +kernel
theorem dX10_tryPlaces_9 : decode cX10_tryPlaces 9 = .ok (.iload_n 1, 1) := by decide +kernel
theorem dX10_tryPlaces_10 : decode cX10_tryPlaces 10 = .ok (.aload_n 0, 1) := by decide +kernel
theorem dX10_tryPlaces_11 : decode cX10_tryPlaces 11 = .ok (.getfield 21, 3) := by decide +kernel
theorem dX10_tryPlaces_14 : decode cX10_tryPlaces 14 = .ok (.if_icmp .lt 26, 3) := by decide +kernel
theorem dX10_tryPlaces_17 : decode cX10_tryPlaces 17 = .ok (.aload_n 0, 1) := by decide +kernel
theorem dX10_tryPlaces_18 : decode cX10_tryPlaces 18 = .ok (.iload_n 3, 1) := by decide +kernel
theorem dX10_tryPlaces_19 : decode cX10_tryPlaces 19 = .ok (.putfield 25, 3) := by decide +kernel
theorem dX10_tryPlaces_22 : decode cX10_tryPlaces 22 = .ok (.aload_n 0, 1) := by decide +kernel
theorem dX10_tryPlaces_23 : decode cX10_tryPlaces 23 = .ok (.getfield 15, 3) := by decide +kernel
theorem dX10_tryPlaces_26 : decode cX10_tryPlaces 26 = .ok (.iconst 0, 1) := by decide +kernel
theorem dX10_tryPlaces_27 : decode cX10_tryPlaces 27 = .ok (.aload_n 0, 1) := by decide +kernel
theorem dX10_tryPlaces_28 : decode cX10_tryPlaces 28 = .ok (.getfield 18, 3) := by decide +kernel
theorem dX10_tryPlaces_31 : decode cX10_tryPlaces 31 = .ok (.iconst 0, 1) := by decide +kernel
theorem dX10_tryPlaces_32 : decode cX10_tryPlaces 32 = .ok (.aload_n 0, 1) := by decide +kernel
theorem dX10_tryPlaces_33 : decode cX10_tryPlaces 33 = .ok (.getfield 21, 3) := by decide +kernel
theorem dX10_tryPlaces_36 : decode cX10_tryPlaces 36 = .ok (.invokestatic 56, 3) := by decide +kernel
theorem dX10_tryPlaces_39 : decode cX10_tryPlaces 39 = .ok (.return_, 1) := by decide +kernel
theorem dX10_tryPlaces_40 : decode cX10_tryPlaces 40 = .ok (.iconst 0, 1) := by decide +kernel
theorem dX10_tryPlaces_41 : decode cX10_tryPlaces 41 = .ok (.istore 4, 2) := by decide +kernel
theorem dX10_tryPlaces_43 : decode cX10_tryPlaces 43 = .ok (.iload 4, 2) := by decide +kernel
theorem dX10_tryPlaces_45 : decode cX10_tryPlaces 45 = .ok (.aload_n 0, 1) := by decide +kernel
theorem dX10_tryPlaces_46 : decode cX10_tryPlaces 46 = .ok (.getfield 21, 3) := by decide +kernel
theorem dX10_tryPlaces_49 : decode cX10_tryPlaces 49 = .ok (.if_icmp .ge 72, 3) := by decide +kernel
theorem dX10_tryPlaces_52 : decode cX10_tryPlaces 52 = .ok (.iload_n 2, 1) := by decide +kernel
theorem dX10_tryPlaces_53 : decode cX10_tryPlaces 53 = .ok (.iload 4, 2) := by decide +kernel
theorem dX10_tryPlaces_55 : decode cX10_tryPlaces 55 = .ok (.ishr, 1) := by decide +kernel
theorem dX10_tryPlaces_56 : decode cX10_tryPlaces 56 = .ok (.iconst 1, 1) := by decide +kernel
theorem dX10_tryPlaces_57 : decode cX10_tryPlaces 57 = .ok (.iand, 1) := by decide +kernel
theorem dX10_tryPlaces_58 : decode cX10_tryPlaces 58 = .ok (.ifCond .ne 57, 3) := by decide +kernel
theorem dX10_tryPlaces_61 : decode cX10_tryPlaces 61 = .ok (.iload_n 1, 1) := by decide +kernel
theorem dX10_tryPlaces_62 : decode cX10_tryPlaces 62 = .ok (.ifCond .ne 7, 3) := by decide +kernel
theorem dX10_tryPlaces_65 : decode cX10_tryPlaces 65 = .ok (.iconst 0, 1) := by decide +kernel
theorem dX10_tryPlaces_66 : decode cX10_tryPlaces 66 = .ok (.goto 22, 3) := by decide +kernel
theorem dX10_tryPlaces_69 : decode cX10_tryPlaces 69 = .ok (.aload_n 0, 1) := by decide +kernel
theorem dX10_tryPlaces_70 : decode cX10_tryPlaces 70 = .ok (.getfield 9, 3) := by decide +kernel
theorem dX10_tryPlaces_73 : decode cX10_tryPlaces 73 = .ok (.aload_n 0, 1) := by decide +kernel
theorem dX10_tryPlaces_74 : decode cX10_tryPlaces 74 = .ok (.getfield 15, 3) := by decide +kernel
theorem dX10_tryPlaces_77 : decode cX10_tryPlaces 77 = .ok (.iload_n 1, 1) := by decide +kernel
theorem dX10_tryPlaces_78 : decode cX10_tryPlaces 78 = .ok (.iconst 1, 1) := by decide +kernel
theorem dX10_tryPlaces_79 : decode cX10_tryPlaces 79 = .ok (.isub, 1) := by decide +kernel
theorem dX10_tryPlaces_80 : decode cX10_tryPlaces 80 = .ok (.iaload, 1) := by decide +kernel
theorem dX10_tryPlaces_81 : decode cX10_tryPlaces 81 = .ok (.bipush 6, 2) := by decide +kernel
theorem dX10_tryPlaces_83 : decode cX10_tryPlaces 83 = .ok (.imul, 1) := by decide +kernel
theorem dX10_tryPlaces_84 : decode cX10_tryPlaces 84 = .ok (.iload 4, 2) := by decide +kernel
theorem dX10_tryPlaces_86 : decode cX10_tryPlaces 86 = .ok (.iadd, 1) := by decide +kernel
theorem dX10_tryPlaces_87 : decode cX10_tryPlaces 87 = .ok (.iaload, 1) := by decide +kernel
theorem dX10_tryPlaces_88 : decode cX10_tryPlaces 88 = .ok (.istore 5, 2) := by decide +kernel
