theorem d_W_init_0 : decode b_W_init 0 = .ok (.aload_n 0, 1) := by decide +kernel
theorem d_W_init_1 : decode b_W_init 1 = .ok (.invokespecial 3, 3) := by decide +kernel
theorem d_W_init_4 : decode b_W_init 4 = .ok (.aload_n 0, 1) := by decide +kernel
theorem d_W_init_5 : decode b_W_init 5 = .ok (.sipush 400, 3) := by decide +kernel
theorem d_W_init_8 : decode b_W_init 8 = .ok (.newarray .long, 2) := by decide +kernel
theorem d_W_init_10 : decode b_W_init 10 = .ok (.putfield 9, 3) := by decide +kernel
theorem d_W_init_13 : decode b_W_init 13 = .ok (.aload_n 0, 1) := by decide +kernel
theorem d_W_init_14 : decode b_W_init 14 = .ok (.bipush 20, 2) := by decide +kernel
theorem d_W_init_16 : decode b_W_init 16 = .ok (.newarray .int, 2) := by decide +kernel
theorem d_W_init_18 : decode b_W_init 18 = .ok (.putfield 15, 3) := by decide +kernel
theorem d_W_init_21 : decode b_W_init 21 = .ok (.aload_n 0, 1) := by decide +kernel
theorem d_W_init_22 : decode b_W_init 22 = .ok (.iconst (-1), 1) := by decide +kernel
theorem d_W_init_23 : decode b_W_init 23 = .ok (.putfield 19, 3) := by decide +kernel
theorem d_W_init_26 : decode b_W_init 26 = .ok (.aload_n 0, 1) := by decide +kernel
theorem d_W_init_27 : decode b_W_init 27 = .ok (.iconst 0, 1) := by decide +kernel
theorem d_W_init_28 : decode b_W_init 28 = .ok (.putfield 23, 3) := by decide +kernel
theorem d_W_init_31 : decode b_W_init 31 = .ok (.aload_n 0, 1) := by decide +kernel
theorem d_W_init_32 : decode b_W_init 32 = .ok (.aload_n 1, 1) := by decide +kernel
theorem d_W_init_33 : decode b_W_init 33 = .ok (.putfield 26, 3) := by decide +kernel
theorem d_W_init_36 : decode b_W_init 36 = .ok (.return_, 1) := by decide +kernel
theorem d_W_measure_0 : decode b_W_measure 0 = .ok (.aload_n 0, 1) := by decide +kernel
theorem d_W_measure_1 : decode b_W_measure 1 = .ok (.getfield 19, 3) := by decide +kernel
theorem d_W_measure_4 : decode b_W_measure 4 = .ok (.aload_n 0, 1) := by decide +kernel
theorem d_W_measure_5 : decode b_W_measure 5 = .ok (.getfield 26, 3) := by decide +kernel
theorem d_W_measure_8 : decode b_W_measure 8 = .ok (.getfield 30, 3) := by decide +kernel
theorem d_W_measure_11 : decode b_W_measure 11 = .ok (.if_icmp .ne 4, 3) := by decide +kernel
theorem d_W_measure_14 : decode b_W_measure 14 = .ok (.return_, 1) := by decide +kernel
theorem d_W_measure_15 : decode b_W_measure 15 = .ok (.aload_n 0, 1) := by decide +kernel
theorem d_W_measure_16 : decode b_W_measure 16 = .ok (.invokevirtual 35, 3) := by decide +kernel
theorem d_W_measure_19 : decode b_W_measure 19 = .ok (.iconst 0, 1) := by decide +kernel
theorem d_W_measure_20 : decode b_W_measure 20 = .ok (.istore_n 1, 1) := by decide +kernel
theorem d_W_measure_21 : decode b_W_measure 21 = .ok (.iload_n 1, 1) := by decide +kernel
theorem d_W_measure_22 : decode b_W_measure 22 = .ok (.aload_n 0, 1) := by decide +kernel
theorem d_W_measure_23 : decode b_W_measure 23 = .ok (.getfield 26, 3) := by decide +kernel
theorem d_W_measure_26 : decode b_W_measure 26 = .ok (.getfield 38, 3) := by decide +kernel
theorem d_W_measure_29 : decode b_W_measure 29 = .ok (.if_icmp .ge 51, 3) := by decide +kernel
theorem d_W_measure_32 : decode b_W_measure 32 = .ok (.aload_n 0, 1) := by decide +kernel
theorem d_W_measure_33 : decode b_W_measure 33 = .ok (.getfield 26, 3) := by decide +kernel
theorem d_W_measure_36 : decode b_W_measure 36 = .ok (.getfield 41, 3) := by decide +kernel
theorem d_W_measure_39 : decode b_W_measure 39 = .ok (.iload_n 1, 1) := by decide +kernel
theorem d_W_measure_40 : decode b_W_measure 40 = .ok (.iaload, 1) := by decide +kernel
theorem d_W_measure_41 : decode b_W_measure 41 = .ok (.istore_n 2, 1) := by decide +kernel
theorem d_W_measure_42 : decode b_W_measure 42 = .ok (.aload_n 0, 1) := by decide +kernel
theorem d_W_measure_43 : decode b_W_measure 43 = .ok (.getfield 26, 3) := by decide +kernel
theorem d_W_measure_46 : decode b_W_measure 46 = .ok (.getfield 44, 3) := by decide +kernel
theorem d_W_measure_49 : decode b_W_measure 49 = .ok (.iload_n 1, 1) := by decide +kernel
theorem d_W_measure_50 : decode b_W_measure 50 = .ok (.iaload, 1) := by decide +kernel
theorem d_W_measure_51 : decode b_W_measure 51 = .ok (.istore_n 3, 1) := by decide +kernel
theorem d_W_measure_52 : decode b_W_measure 52 = .ok (.aload_n 0, 1) := by decide +kernel
theorem d_W_measure_53 : decode b_W_measure 53 = .ok (.iload_n 2, 1) := by decide +kernel
theorem d_W_measure_54 : decode b_W_measure 54 = .ok (.iload_n 3, 1) := by decide +kernel
theorem d_W_measure_55 : decode b_W_measure 55 = .ok (.aload_n 0, 1) := by decide +kernel
theorem d_W_measure_56 : decode b_W_measure 56 = .ok (.iload_n 1, 1) := by decide +kernel
theorem d_W_measure_57 : decode b_W_measure 57 = .ok (.invokevirtual 47, 3) := by decide +kernel
theorem d_W_measure_60 : decode b_W_measure 60 = .ok (.invokevirtual 51, 3) := by decide +kernel
theorem d_W_measure_63 : decode b_W_measure 63 = .ok (.aload_n 0, 1) := by decide +kernel
theorem d_W_measure_64 : decode b_W_measure 64 = .ok (.iload_n 3, 1) := by decide +kernel
theorem d_W_measure_65 : decode b_W_measure 65 = .ok (.iload_n 2, 1) := by decide +kernel
theorem d_W_measure_66 : decode b_W_measure 66 = .ok (.aload_n 0, 1) := by decide +kernel
theorem d_W_measure_67 : decode b_W_measure 67 = .ok (.iload_n 1, 1) := by decide +kernel
theorem d_W_measure_68 : decode b_W_measure 68 = .ok (.invokevirtual 47, 3) := by decide +kernel
theorem d_W_measure_71 : decode b_W_measure 71 = .ok (.invokevirtual 51, 3) := by decide +kernel
theorem d_W_measure_74 : decode b_W_measure 74 = .ok (.iinc 1 1, 3) := by decide +kernel
theorem d_W_measure_77 : decode b_W_measure 77 = .ok (.goto (-56), 3) := by decide +kernel
theorem d_W_measure_80 : decode b_W_measure 80 = .ok (.iconst 0, 1) := by decide +kernel
theorem d_W_measure_81 : decode b_W_measure 81 = .ok (.istore_n 1, 1) := by decide +kernel
theorem d_W_measure_82 : decode b_W_measure 82 = .ok (.iload_n 1, 1) := by decide +kernel
theorem d_W_measure_83 : decode b_W_measure 83 = .ok (.aload_n 0, 1) := by decide +kernel
theorem d_W_measure_84 : decode b_W_measure 84 = .ok (.getfield 26, 3) := by decide +kernel
theorem d_W_measure_87 : decode b_W_measure 87 = .ok (.getfield 55, 3) := by decide +kernel
theorem d_W_measure_90 : decode b_W_measure 90 = .ok (.if_icmp .ge 25, 3) := by decide +kernel
theorem d_W_measure_93 : decode b_W_measure 93 = .ok (.aload_n 0, 1) := by decide +kernel
theorem d_W_measure_94 : decode b_W_measure 94 = .ok (.getfield 26, 3) := by decide +kernel
theorem d_W_measure_97 : decode b_W_measure 97 = .ok (.iload_n 1, 1) := by decide +kernel
theorem d_W_measure_98 : decode b_W_measure 98 = .ok (.invokevirtual 58, 3) := by decide +kernel
theorem d_W_measure_101 : decode b_W_measure 101 = .ok (.ifCond .ne 8, 3) := by decide +kernel
theorem d_W_measure_104 : decode b_W_measure 104 = .ok (.aload_n 0, 1) := by decide +kernel
theorem d_W_measure_105 : decode b_W_measure 105 = .ok (.iload_n 1, 1) := by decide +kernel
theorem d_W_measure_106 : decode b_W_measure 106 = .ok (.invokevirtual 62, 3) := by decide +kernel
theorem d_W_measure_109 : decode b_W_measure 109 = .ok (.iinc 1 1, 3) := by decide +kernel
theorem d_W_measure_112 : decode b_W_measure 112 = .ok (.goto (-30), 3) := by decide +kernel
theorem d_W_measure_115 : decode b_W_measure 115 = .ok (.aload_n 0, 1) := by decide +kernel
theorem d_W_measure_116 : decode b_W_measure 116 = .ok (.aload_n 0, 1) := by decide +kernel
theorem d_W_measure_117 : decode b_W_measure 117 = .ok (.getfield 26, 3) := by decide +kernel
theorem d_W_measure_120 : decode b_W_measure 120 = .ok (.getfield 30, 3) := by decide +kernel
theorem d_W_measure_123 : decode b_W_measure 123 = .ok (.putfield 19, 3) := by decide +kernel
theorem d_W_measure_126 : decode b_W_measure 126 = .ok (.return_, 1) := by decide +kernel
theorem d_W_clearCosts_0 : decode b_W_clearCosts 0 = .ok (.iconst 0, 1) := by decide +kernel
theorem d_W_clearCosts_1 : decode b_W_clearCosts 1 = .ok (.istore_n 1, 1) := by decide +kernel
theorem d_W_clearCosts_2 : decode b_W_clearCosts 2 = .ok (.iload_n 1, 1) := by decide +kernel
theorem d_W_clearCosts_3 : decode b_W_clearCosts 3 = .ok (.aload_n 0, 1) := by decide +kernel
theorem d_W_clearCosts_4 : decode b_W_clearCosts 4 = .ok (.getfield 26, 3) := by decide +kernel
theorem d_W_clearCosts_7 : decode b_W_clearCosts 7 = .ok (.getfield 55, 3) := by decide +kernel
theorem d_W_clearCosts_10 : decode b_W_clearCosts 10 = .ok (.if_icmp .ge 50, 3) := by decide +kernel
theorem d_W_clearCosts_13 : decode b_W_clearCosts 13 = .ok (.iconst 0, 1) := by decide +kernel
theorem d_W_clearCosts_14 : decode b_W_clearCosts 14 = .ok (.istore_n 2, 1) := by decide +kernel
theorem d_W_clearCosts_15 : decode b_W_clearCosts 15 = .ok (.iload_n 2, 1) := by decide +kernel
theorem d_W_clearCosts_16 : decode b_W_clearCosts 16 = .ok (.aload_n 0, 1) := by decide +kernel
theorem d_W_clearCosts_17 : decode b_W_clearCosts 17 = .ok (.getfield 26, 3) := by decide +kernel
theorem d_W_clearCosts_20 : decode b_W_clearCosts 20 = .ok (.getfield 55, 3) := by decide +kernel
theorem d_W_clearCosts_23 : decode b_W_clearCosts 23 = .ok (.if_icmp .ge 31, 3) := by decide +kernel
theorem d_W_clearCosts_26 : decode b_W_clearCosts 26 = .ok (.aload_n 0, 1) := by decide +kernel
theorem d_W_clearCosts_27 : decode b_W_clearCosts 27 = .ok (.getfield 9, 3) := by decide +kernel
theorem d_W_clearCosts_30 : decode b_W_clearCosts 30 = .ok (.iload_n 1, 1) := by decide +kernel
theorem d_W_clearCosts_31 : decode b_W_clearCosts 31 = .ok (.iload_n 2, 1) := by decide +kernel
theorem d_W_clearCosts_32 : decode b_W_clearCosts 32 = .ok (.invokestatic 66, 3) := by decide +kernel
theorem d_W_clearCosts_35 : decode b_W_clearCosts 35 = .ok (.iload_n 1, 1) := by decide +kernel
theorem d_W_clearCosts_36 : decode b_W_clearCosts 36 = .ok (.iload_n 2, 1) := by decide +kernel
theorem d_W_clearCosts_37 : decode b_W_clearCosts 37 = .ok (.if_icmp .ne 7, 3) := by decide +kernel
theorem d_W_clearCosts_40 : decode b_W_clearCosts 40 = .ok (.lconst 0, 1) := by decide +kernel
theorem d_W_clearCosts_41 : decode b_W_clearCosts 41 = .ok (.goto 6, 3) := by decide +kernel
theorem d_W_clearCosts_44 : decode b_W_clearCosts 44 = .ok (.ldc2_w 70, 3) := by decide +kernel
theorem d_W_clearCosts_47 : decode b_W_clearCosts 47 = .ok (.lastore, 1) := by decide +kernel
theorem d_W_clearCosts_48 : decode b_W_clearCosts 48 = .ok (.iinc 2 1, 3) := by decide +kernel
theorem d_W_clearCosts_51 : decode b_W_clearCosts 51 = .ok (.goto (-36), 3) := by decide +kernel
theorem d_W_clearCosts_54 : decode b_W_clearCosts 54 = .ok (.iinc 1 1, 3) := by decide +kernel
theorem d_W_clearCosts_57 : decode b_W_clearCosts 57 = .ok (.goto (-55), 3) := by decide +kernel
theorem d_W_clearCosts_60 : decode b_W_clearCosts 60 = .ok (.return_, 1) := by decide +kernel
theorem d_W_at_0 : decode b_W_at 0 = .ok (.iload_n 0, 1) := by decide +kernel
theorem d_W_at_1 : decode b_W_at 1 = .ok (.bipush 20, 2) := by decide +kernel
theorem d_W_at_3 : decode b_W_at 3 = .ok (.imul, 1) := by decide +kernel
theorem d_W_at_4 : decode b_W_at 4 = .ok (.iload_n 1, 1) := by decide +kernel
theorem d_W_at_5 : decode b_W_at 5 = .ok (.iadd, 1) := by decide +kernel
theorem d_W_at_6 : decode b_W_at 6 = .ok (.ireturn, 1) := by decide +kernel
theorem d_W_edgeCost_0 : decode b_W_edgeCost 0 = .ok (.aload_n 0, 1) := by decide +kernel
theorem d_W_edgeCost_1 : decode b_W_edgeCost 1 = .ok (.getfield 26, 3) := by decide +kernel
theorem d_W_edgeCost_4 : decode b_W_edgeCost 4 = .ok (.iload_n 1, 1) := by decide +kernel
theorem d_W_edgeCost_5 : decode b_W_edgeCost 5 = .ok (.invokevirtual 88, 3) := by decide +kernel
theorem d_W_edgeCost_8 : decode b_W_edgeCost 8 = .ok (.i2l, 1) := by decide +kernel
theorem d_W_edgeCost_9 : decode b_W_edgeCost 9 = .ok (.ldc2_w 72, 3) := by decide +kernel
theorem d_W_edgeCost_12 : decode b_W_edgeCost 12 = .ok (.lmul, 1) := by decide +kernel
theorem d_W_edgeCost_13 : decode b_W_edgeCost 13 = .ok (.lconst 1, 1) := by decide +kernel
theorem d_W_edgeCost_14 : decode b_W_edgeCost 14 = .ok (.ladd, 1) := by decide +kernel
theorem d_W_edgeCost_15 : decode b_W_edgeCost 15 = .ok (.lreturn, 1) := by decide +kernel
theorem d_W_lower_0 : decode b_W_lower 0 = .ok (.lload_n 3, 1) := by decide +kernel
theorem d_W_lower_1 : decode b_W_lower 1 = .ok (.aload_n 0, 1) := by decide +kernel
theorem d_W_lower_2 : decode b_W_lower 2 = .ok (.getfield 9, 3) := by decide +kernel
theorem d_W_lower_5 : decode b_W_lower 5 = .ok (.iload_n 1, 1) := by decide +kernel
theorem d_W_lower_6 : decode b_W_lower 6 = .ok (.iload_n 2, 1) := by decide +kernel
theorem d_W_lower_7 : decode b_W_lower 7 = .ok (.invokestatic 66, 3) := by decide +kernel
theorem d_W_lower_10 : decode b_W_lower 10 = .ok (.laload, 1) := by decide +kernel
theorem d_W_lower_11 : decode b_W_lower 11 = .ok (.lcmp, 1) := by decide +kernel
theorem d_W_lower_12 : decode b_W_lower 12 = .ok (.ifCond .ge 14, 3) := by decide +kernel
theorem d_W_lower_15 : decode b_W_lower 15 = .ok (.aload_n 0, 1) := by decide +kernel
theorem d_W_lower_16 : decode b_W_lower 16 = .ok (.getfield 9, 3) := by decide +kernel
theorem d_W_lower_19 : decode b_W_lower 19 = .ok (.iload_n 1, 1) := by decide +kernel
theorem d_W_lower_20 : decode b_W_lower 20 = .ok (.iload_n 2, 1) := by decide +kernel
theorem d_W_lower_21 : decode b_W_lower 21 = .ok (.invokestatic 66, 3) := by decide +kernel
theorem d_W_lower_24 : decode b_W_lower 24 = .ok (.lload_n 3, 1) := by decide +kernel
theorem d_W_lower_25 : decode b_W_lower 25 = .ok (.lastore, 1) := by decide +kernel
theorem d_W_lower_26 : decode b_W_lower 26 = .ok (.return_, 1) := by decide +kernel
theorem d_W_joinWaysAt_0 : decode b_W_joinWaysAt 0 = .ok (.iconst 0, 1) := by decide +kernel
theorem d_W_joinWaysAt_1 : decode b_W_joinWaysAt 1 = .ok (.istore_n 2, 1) := by decide +kernel
theorem d_W_joinWaysAt_2 : decode b_W_joinWaysAt 2 = .ok (.iload_n 2, 1) := by decide +kernel
theorem d_W_joinWaysAt_3 : decode b_W_joinWaysAt 3 = .ok (.aload_n 0, 1) := by decide +kernel
theorem d_W_joinWaysAt_4 : decode b_W_joinWaysAt 4 = .ok (.getfield 26, 3) := by decide +kernel
theorem d_W_joinWaysAt_7 : decode b_W_joinWaysAt 7 = .ok (.getfield 55, 3) := by decide +kernel
theorem d_W_joinWaysAt_10 : decode b_W_joinWaysAt 10 = .ok (.if_icmp .ge 85, 3) := by decide +kernel
theorem d_W_joinWaysAt_13 : decode b_W_joinWaysAt 13 = .ok (.aload_n 0, 1) := by decide +kernel
theorem d_W_joinWaysAt_14 : decode b_W_joinWaysAt 14 = .ok (.getfield 9, 3) := by decide +kernel
theorem d_W_joinWaysAt_17 : decode b_W_joinWaysAt 17 = .ok (.iload_n 2, 1) := by decide +kernel
theorem d_W_joinWaysAt_18 : decode b_W_joinWaysAt 18 = .ok (.iload_n 1, 1) := by decide +kernel
theorem d_W_joinWaysAt_19 : decode b_W_joinWaysAt 19 = .ok (.invokestatic 66, 3) := by decide +kernel
theorem d_W_joinWaysAt_22 : decode b_W_joinWaysAt 22 = .ok (.laload, 1) := by decide +kernel
theorem d_W_joinWaysAt_23 : decode b_W_joinWaysAt 23 = .ok (.lstore_n 3, 1) := by decide +kernel
theorem d_W_joinWaysAt_24 : decode b_W_joinWaysAt 24 = .ok (.lload_n 3, 1) := by decide +kernel
theorem d_W_joinWaysAt_25 : decode b_W_joinWaysAt 25 = .ok (.ldc2_w 70, 3) := by decide +kernel
theorem d_W_joinWaysAt_28 : decode b_W_joinWaysAt 28 = .ok (.lcmp, 1) := by decide +kernel
theorem d_W_joinWaysAt_29 : decode b_W_joinWaysAt 29 = .ok (.ifCond .ne 6, 3) := by decide +kernel
theorem d_W_joinWaysAt_32 : decode b_W_joinWaysAt 32 = .ok (.goto 57, 3) := by decide +kernel
theorem d_W_joinWaysAt_35 : decode b_W_joinWaysAt 35 = .ok (.iconst 0, 1) := by decide +kernel
theorem d_W_joinWaysAt_36 : decode b_W_joinWaysAt 36 = .ok (.istore 5, 2) := by decide +kernel
theorem d_W_joinWaysAt_38 : decode b_W_joinWaysAt 38 = .ok (.iload 5, 2) := by decide +kernel
theorem d_W_joinWaysAt_40 : decode b_W_joinWaysAt 40 = .ok (.aload_n 0, 1) := by decide +kernel
theorem d_W_joinWaysAt_41 : decode b_W_joinWaysAt 41 = .ok (.getfield 26, 3) := by decide +kernel
theorem d_W_joinWaysAt_44 : decode b_W_joinWaysAt 44 = .ok (.getfield 55, 3) := by decide +kernel
theorem d_W_joinWaysAt_47 : decode b_W_joinWaysAt 47 = .ok (.if_icmp .ge 42, 3) := by decide +kernel
theorem d_W_joinWaysAt_50 : decode b_W_joinWaysAt 50 = .ok (.aload_n 0, 1) := by decide +kernel
theorem d_W_joinWaysAt_51 : decode b_W_joinWaysAt 51 = .ok (.getfield 9, 3) := by decide +kernel
theorem d_W_joinWaysAt_54 : decode b_W_joinWaysAt 54 = .ok (.iload_n 1, 1) := by decide +kernel
theorem d_W_joinWaysAt_55 : decode b_W_joinWaysAt 55 = .ok (.iload 5, 2) := by decide +kernel
theorem d_W_joinWaysAt_57 : decode b_W_joinWaysAt 57 = .ok (.invokestatic 66, 3) := by decide +kernel
theorem d_W_joinWaysAt_60 : decode b_W_joinWaysAt 60 = .ok (.laload, 1) := by decide +kernel
theorem d_W_joinWaysAt_61 : decode b_W_joinWaysAt 61 = .ok (.lstore 6, 2) := by decide +kernel
theorem d_W_joinWaysAt_63 : decode b_W_joinWaysAt 63 = .ok (.lload 6, 2) := by decide +kernel
theorem d_W_joinWaysAt_65 : decode b_W_joinWaysAt 65 = .ok (.ldc2_w 70, 3) := by decide +kernel
theorem d_W_joinWaysAt_68 : decode b_W_joinWaysAt 68 = .ok (.lcmp, 1) := by decide +kernel
theorem d_W_joinWaysAt_69 : decode b_W_joinWaysAt 69 = .ok (.ifCond .eq 14, 3) := by decide +kernel
theorem d_W_joinWaysAt_72 : decode b_W_joinWaysAt 72 = .ok (.aload_n 0, 1) := by decide +kernel
theorem d_W_joinWaysAt_73 : decode b_W_joinWaysAt 73 = .ok (.iload_n 2, 1) := by decide +kernel
theorem d_W_joinWaysAt_74 : decode b_W_joinWaysAt 74 = .ok (.iload 5, 2) := by decide +kernel
theorem d_W_joinWaysAt_76 : decode b_W_joinWaysAt 76 = .ok (.lload_n 3, 1) := by decide +kernel
theorem d_W_joinWaysAt_77 : decode b_W_joinWaysAt 77 = .ok (.lload 6, 2) := by decide +kernel
theorem d_W_joinWaysAt_79 : decode b_W_joinWaysAt 79 = .ok (.ladd, 1) := by decide +kernel
theorem d_W_joinWaysAt_80 : decode b_W_joinWaysAt 80 = .ok (.invokevirtual 51, 3) := by decide +kernel
theorem d_W_joinWaysAt_83 : decode b_W_joinWaysAt 83 = .ok (.iinc 5 1, 3) := by decide +kernel
theorem d_W_joinWaysAt_86 : decode b_W_joinWaysAt 86 = .ok (.goto (-48), 3) := by decide +kernel
theorem d_W_joinWaysAt_89 : decode b_W_joinWaysAt 89 = .ok (.iinc 2 1, 3) := by decide +kernel
theorem d_W_joinWaysAt_92 : decode b_W_joinWaysAt 92 = .ok (.goto (-90), 3) := by decide +kernel
theorem d_W_joinWaysAt_95 : decode b_W_joinWaysAt 95 = .ok (.return_, 1) := by decide +kernel
theorem d_W_isThere_0 : decode b_W_isThere 0 = .ok (.aload_n 0, 1) := by decide +kernel
theorem d_W_isThere_1 : decode b_W_isThere 1 = .ok (.getfield 9, 3) := by decide +kernel
theorem d_W_isThere_4 : decode b_W_isThere 4 = .ok (.iload_n 1, 1) := by decide +kernel
theorem d_W_isThere_5 : decode b_W_isThere 5 = .ok (.iload_n 2, 1) := by decide +kernel
theorem d_W_isThere_6 : decode b_W_isThere 6 = .ok (.invokestatic 66, 3) := by decide +kernel
theorem d_W_isThere_9 : decode b_W_isThere 9 = .ok (.laload, 1) := by decide +kernel
theorem d_W_isThere_10 : decode b_W_isThere 10 = .ok (.ldc2_w 70, 3) := by decide +kernel
theorem d_W_isThere_13 : decode b_W_isThere 13 = .ok (.lcmp, 1) := by decide +kernel
theorem d_W_isThere_14 : decode b_W_isThere 14 = .ok (.ifCond .eq 7, 3) := by decide +kernel
theorem d_W_isThere_17 : decode b_W_isThere 17 = .ok (.iconst 1, 1) := by decide +kernel
theorem d_W_isThere_18 : decode b_W_isThere 18 = .ok (.goto 4, 3) := by decide +kernel
theorem d_W_isThere_21 : decode b_W_isThere 21 = .ok (.iconst 0, 1) := by decide +kernel
theorem d_W_isThere_22 : decode b_W_isThere 22 = .ok (.ireturn, 1) := by decide +kernel
theorem d_W_weightBetween_0 : decode b_W_weightBetween 0 = .ok (.aload_n 0, 1) := by decide +kernel
theorem d_W_weightBetween_1 : decode b_W_weightBetween 1 = .ok (.getfield 9, 3) := by decide +kernel
theorem d_W_weightBetween_4 : decode b_W_weightBetween 4 = .ok (.iload_n 1, 1) := by decide +kernel
theorem d_W_weightBetween_5 : decode b_W_weightBetween 5 = .ok (.iload_n 2, 1) := by decide +kernel
theorem d_W_weightBetween_6 : decode b_W_weightBetween 6 = .ok (.invokestatic 66, 3) := by decide +kernel
theorem d_W_weightBetween_9 : decode b_W_weightBetween 9 = .ok (.laload, 1) := by decide +kernel
theorem d_W_weightBetween_10 : decode b_W_weightBetween 10 = .ok (.ldc2_w 72, 3) := by decide +kernel
theorem d_W_weightBetween_13 : decode b_W_weightBetween 13 = .ok (.ldiv, 1) := by decide +kernel
theorem d_W_weightBetween_14 : decode b_W_weightBetween 14 = .ok (.l2i, 1) := by decide +kernel
theorem d_W_weightBetween_15 : decode b_W_weightBetween 15 = .ok (.ireturn, 1) := by decide +kernel
theorem d_W_trace_0 : decode b_W_trace 0 = .ok (.iload_n 1, 1) := by decide +kernel
theorem d_W_trace_1 : decode b_W_trace 1 = .ok (.iload_n 2, 1) := by decide +kernel
theorem d_W_trace_2 : decode b_W_trace 2 = .ok (.invokestatic 74, 3) := by decide +kernel
theorem d_W_trace_5 : decode b_W_trace 5 = .ok (.istore_n 3, 1) := by decide +kernel
theorem d_W_trace_6 : decode b_W_trace 6 = .ok (.iload_n 1, 1) := by decide +kernel
theorem d_W_trace_7 : decode b_W_trace 7 = .ok (.iload_n 2, 1) := by decide +kernel
theorem d_W_trace_8 : decode b_W_trace 8 = .ok (.invokestatic 79, 3) := by decide +kernel
theorem d_W_trace_11 : decode b_W_trace 11 = .ok (.istore 4, 2) := by decide +kernel
theorem d_W_trace_13 : decode b_W_trace 13 = .ok (.aload_n 0, 1) := by decide +kernel
theorem d_W_trace_14 : decode b_W_trace 14 = .ok (.iconst 0, 1) := by decide +kernel
theorem d_W_trace_15 : decode b_W_trace 15 = .ok (.putfield 23, 3) := by decide +kernel
theorem d_W_trace_18 : decode b_W_trace 18 = .ok (.iload_n 3, 1) := by decide +kernel
theorem d_W_trace_19 : decode b_W_trace 19 = .ok (.iload 4, 2) := by decide +kernel
theorem d_W_trace_21 : decode b_W_trace 21 = .ok (.if_icmp .eq 63, 3) := by decide +kernel
theorem d_W_trace_24 : decode b_W_trace 24 = .ok (.aload_n 0, 1) := by decide +kernel
theorem d_W_trace_25 : decode b_W_trace 25 = .ok (.getfield 23, 3) := by decide +kernel
theorem d_W_trace_28 : decode b_W_trace 28 = .ok (.bipush 20, 2) := by decide +kernel
theorem d_W_trace_30 : decode b_W_trace 30 = .ok (.if_icmp .ge 54, 3) := by decide +kernel
theorem d_W_trace_33 : decode b_W_trace 33 = .ok (.aload_n 0, 1) := by decide +kernel
theorem d_W_trace_34 : decode b_W_trace 34 = .ok (.iload_n 3, 1) := by decide +kernel
theorem d_W_trace_35 : decode b_W_trace 35 = .ok (.iload 4, 2) := by decide +kernel
theorem d_W_trace_37 : decode b_W_trace 37 = .ok (.invokevirtual 82, 3) := by decide +kernel
theorem d_W_trace_40 : decode b_W_trace 40 = .ok (.istore 5, 2) := by decide +kernel
theorem d_W_trace_42 : decode b_W_trace 42 = .ok (.iload 5, 2) := by decide +kernel
theorem d_W_trace_44 : decode b_W_trace 44 = .ok (.iconst (-1), 1) := by decide +kernel
theorem d_W_trace_45 : decode b_W_trace 45 = .ok (.if_icmp .ne 4, 3) := by decide +kernel
theorem d_W_trace_48 : decode b_W_trace 48 = .ok (.return_, 1) := by decide +kernel
theorem d_W_trace_49 : decode b_W_trace 49 = .ok (.aload_n 0, 1) := by decide +kernel
theorem d_W_trace_50 : decode b_W_trace 50 = .ok (.getfield 15, 3) := by decide +kernel
theorem d_W_trace_53 : decode b_W_trace 53 = .ok (.aload_n 0, 1) := by decide +kernel
theorem d_W_trace_54 : decode b_W_trace 54 = .ok (.getfield 23, 3) := by decide +kernel
theorem d_W_trace_57 : decode b_W_trace 57 = .ok (.iload 5, 2) := by decide +kernel
theorem d_W_trace_59 : decode b_W_trace 59 = .ok (.iastore, 1) := by decide +kernel
theorem d_W_trace_60 : decode b_W_trace 60 = .ok (.aload_n 0, 1) := by decide +kernel
theorem d_W_trace_61 : decode b_W_trace 61 = .ok (.dup, 1) := by decide +kernel
theorem d_W_trace_62 : decode b_W_trace 62 = .ok (.getfield 23, 3) := by decide +kernel
theorem d_W_trace_65 : decode b_W_trace 65 = .ok (.iconst 1, 1) := by decide +kernel
theorem d_W_trace_66 : decode b_W_trace 66 = .ok (.iadd, 1) := by decide +kernel
theorem d_W_trace_67 : decode b_W_trace 67 = .ok (.putfield 23, 3) := by decide +kernel
theorem d_W_trace_70 : decode b_W_trace 70 = .ok (.aload_n 0, 1) := by decide +kernel
theorem d_W_trace_71 : decode b_W_trace 71 = .ok (.getfield 26, 3) := by decide +kernel
theorem d_W_trace_74 : decode b_W_trace 74 = .ok (.iload 5, 2) := by decide +kernel
theorem d_W_trace_76 : decode b_W_trace 76 = .ok (.iload_n 3, 1) := by decide +kernel
theorem d_W_trace_77 : decode b_W_trace 77 = .ok (.invokevirtual 85, 3) := by decide +kernel
theorem d_W_trace_80 : decode b_W_trace 80 = .ok (.istore_n 3, 1) := by decide +kernel
theorem d_W_trace_81 : decode b_W_trace 81 = .ok (.goto (-63), 3) := by decide +kernel
theorem d_W_trace_84 : decode b_W_trace 84 = .ok (.return_, 1) := by decide +kernel
theorem d_W_firstEdgeTowards_0 : decode b_W_firstEdgeTowards 0 = .ok (.iconst 0, 1) := by decide +kernel
theorem d_W_firstEdgeTowards_1 : decode b_W_firstEdgeTowards 1 = .ok (.istore_n 3, 1) := by decide +kernel
theorem d_W_firstEdgeTowards_2 : decode b_W_firstEdgeTowards 2 = .ok (.iload_n 3, 1) := by decide +kernel
theorem d_W_firstEdgeTowards_3 : decode b_W_firstEdgeTowards 3 = .ok (.aload_n 0, 1) := by decide +kernel
theorem d_W_firstEdgeTowards_4 : decode b_W_firstEdgeTowards 4 = .ok (.getfield 26, 3) := by decide +kernel
theorem d_W_firstEdgeTowards_7 : decode b_W_firstEdgeTowards 7 = .ok (.getfield 38, 3) := by decide +kernel
theorem d_W_firstEdgeTowards_10 : decode b_W_firstEdgeTowards 10 = .ok (.if_icmp .ge 77, 3) := by decide +kernel
theorem d_W_firstEdgeTowards_13 : decode b_W_firstEdgeTowards 13 = .ok (.aload_n 0, 1) := by decide +kernel
theorem d_W_firstEdgeTowards_14 : decode b_W_firstEdgeTowards 14 = .ok (.getfield 26, 3) := by decide +kernel
theorem d_W_firstEdgeTowards_17 : decode b_W_firstEdgeTowards 17 = .ok (.iload_n 3, 1) := by decide +kernel
theorem d_W_firstEdgeTowards_18 : decode b_W_firstEdgeTowards 18 = .ok (.iload_n 1, 1) := by decide +kernel
theorem d_W_firstEdgeTowards_19 : decode b_W_firstEdgeTowards 19 = .ok (.invokevirtual 85, 3) := by decide +kernel
theorem d_W_firstEdgeTowards_22 : decode b_W_firstEdgeTowards 22 = .ok (.istore 4, 2) := by decide +kernel
theorem d_W_firstEdgeTowards_24 : decode b_W_firstEdgeTowards 24 = .ok (.iload 4, 2) := by decide +kernel
theorem d_W_firstEdgeTowards_26 : decode b_W_firstEdgeTowards 26 = .ok (.iconst (-1), 1) := by decide +kernel
theorem d_W_firstEdgeTowards_27 : decode b_W_firstEdgeTowards 27 = .ok (.if_icmp .eq 54, 3) := by decide +kernel
theorem d_W_firstEdgeTowards_30 : decode b_W_firstEdgeTowards 30 = .ok (.iload 4, 2) := by decide +kernel
theorem d_W_firstEdgeTowards_32 : decode b_W_firstEdgeTowards 32 = .ok (.iload_n 2, 1) := by decide +kernel
theorem d_W_firstEdgeTowards_33 : decode b_W_firstEdgeTowards 33 = .ok (.if_icmp .eq 15, 3) := by decide +kernel
theorem d_W_firstEdgeTowards_36 : decode b_W_firstEdgeTowards 36 = .ok (.aload_n 0, 1) := by decide +kernel
theorem d_W_firstEdgeTowards_37 : decode b_W_firstEdgeTowards 37 = .ok (.getfield 26, 3) := by decide +kernel
theorem d_W_firstEdgeTowards_40 : decode b_W_firstEdgeTowards 40 = .ok (.iload 4, 2) := by decide +kernel
theorem d_W_firstEdgeTowards_42 : decode b_W_firstEdgeTowards 42 = .ok (.invokevirtual 58, 3) := by decide +kernel
theorem d_W_firstEdgeTowards_45 : decode b_W_firstEdgeTowards 45 = .ok (.ifCond .ne 36, 3) := by decide +kernel
theorem d_W_firstEdgeTowards_48 : decode b_W_firstEdgeTowards 48 = .ok (.aload_n 0, 1) := by decide +kernel
theorem d_W_firstEdgeTowards_49 : decode b_W_firstEdgeTowards 49 = .ok (.getfield 9, 3) := by decide +kernel
theorem d_W_firstEdgeTowards_52 : decode b_W_firstEdgeTowards 52 = .ok (.iload 4, 2) := by decide +kernel
theorem d_W_firstEdgeTowards_54 : decode b_W_firstEdgeTowards 54 = .ok (.iload_n 2, 1) := by decide +kernel
theorem d_W_firstEdgeTowards_55 : decode b_W_firstEdgeTowards 55 = .ok (.invokestatic 66, 3) := by decide +kernel
theorem d_W_firstEdgeTowards_58 : decode b_W_firstEdgeTowards 58 = .ok (.laload, 1) := by decide +kernel
theorem d_W_firstEdgeTowards_59 : decode b_W_firstEdgeTowards 59 = .ok (.aload_n 0, 1) := by decide +kernel
theorem d_W_firstEdgeTowards_60 : decode b_W_firstEdgeTowards 60 = .ok (.getfield 9, 3) := by decide +kernel
theorem d_W_firstEdgeTowards_63 : decode b_W_firstEdgeTowards 63 = .ok (.iload_n 1, 1) := by decide +kernel
theorem d_W_firstEdgeTowards_64 : decode b_W_firstEdgeTowards 64 = .ok (.iload_n 2, 1) := by decide +kernel
theorem d_W_firstEdgeTowards_65 : decode b_W_firstEdgeTowards 65 = .ok (.invokestatic 66, 3) := by decide +kernel
theorem d_W_firstEdgeTowards_68 : decode b_W_firstEdgeTowards 68 = .ok (.laload, 1) := by decide +kernel
theorem d_W_firstEdgeTowards_69 : decode b_W_firstEdgeTowards 69 = .ok (.aload_n 0, 1) := by decide +kernel
theorem d_W_firstEdgeTowards_70 : decode b_W_firstEdgeTowards 70 = .ok (.iload_n 3, 1) := by decide +kernel
theorem d_W_firstEdgeTowards_71 : decode b_W_firstEdgeTowards 71 = .ok (.invokevirtual 47, 3) := by decide +kernel
theorem d_W_firstEdgeTowards_74 : decode b_W_firstEdgeTowards 74 = .ok (.lsub, 1) := by decide +kernel
theorem d_W_firstEdgeTowards_75 : decode b_W_firstEdgeTowards 75 = .ok (.lcmp, 1) := by decide +kernel
theorem d_W_firstEdgeTowards_76 : decode b_W_firstEdgeTowards 76 = .ok (.ifCond .ne 5, 3) := by decide +kernel
theorem d_W_firstEdgeTowards_79 : decode b_W_firstEdgeTowards 79 = .ok (.iload_n 3, 1) := by decide +kernel
theorem d_W_firstEdgeTowards_80 : decode b_W_firstEdgeTowards 80 = .ok (.ireturn, 1) := by decide +kernel
theorem d_W_firstEdgeTowards_81 : decode b_W_firstEdgeTowards 81 = .ok (.iinc 3 1, 3) := by decide +kernel
theorem d_W_firstEdgeTowards_84 : decode b_W_firstEdgeTowards 84 = .ok (.goto (-82), 3) := by decide +kernel
theorem d_W_firstEdgeTowards_87 : decode b_W_firstEdgeTowards 87 = .ok (.iconst (-1), 1) := by decide +kernel
theorem d_W_firstEdgeTowards_88 : decode b_W_firstEdgeTowards 88 = .ok (.ireturn, 1) := by decide +kernel
theorem d_W_trailEdge_0 : decode b_W_trailEdge 0 = .ok (.iload_n 1, 1) := by decide +kernel
theorem d_W_trailEdge_1 : decode b_W_trailEdge 1 = .ok (.ifCond .lt 11, 3) := by decide +kernel
theorem d_W_trailEdge_4 : decode b_W_trailEdge 4 = .ok (.iload_n 1, 1) := by decide +kernel
theorem d_W_trailEdge_5 : decode b_W_trailEdge 5 = .ok (.aload_n 0, 1) := by decide +kernel
theorem d_W_trailEdge_6 : decode b_W_trailEdge 6 = .ok (.getfield 23, 3) := by decide +kernel
theorem d_W_trailEdge_9 : decode b_W_trailEdge 9 = .ok (.if_icmp .lt 5, 3) := by decide +kernel
theorem d_W_trailEdge_12 : decode b_W_trailEdge 12 = .ok (.iconst (-1), 1) := by decide +kernel
theorem d_W_trailEdge_13 : decode b_W_trailEdge 13 = .ok (.ireturn, 1) := by decide +kernel
theorem d_W_trailEdge_14 : decode b_W_trailEdge 14 = .ok (.iload_n 2, 1) := by decide +kernel
theorem d_W_trailEdge_15 : decode b_W_trailEdge 15 = .ok (.ifCond .eq 19, 3) := by decide +kernel
theorem d_W_trailEdge_18 : decode b_W_trailEdge 18 = .ok (.aload_n 0, 1) := by decide +kernel
theorem d_W_trailEdge_19 : decode b_W_trailEdge 19 = .ok (.getfield 15, 3) := by decide +kernel
theorem d_W_trailEdge_22 : decode b_W_trailEdge 22 = .ok (.aload_n 0, 1) := by decide +kernel
theorem d_W_trailEdge_23 : decode b_W_trailEdge 23 = .ok (.getfield 23, 3) := by decide +kernel
theorem d_W_trailEdge_26 : decode b_W_trailEdge 26 = .ok (.iconst 1, 1) := by decide +kernel
theorem d_W_trailEdge_27 : decode b_W_trailEdge 27 = .ok (.isub, 1) := by decide +kernel
theorem d_W_trailEdge_28 : decode b_W_trailEdge 28 = .ok (.iload_n 1, 1) := by decide +kernel
theorem d_W_trailEdge_29 : decode b_W_trailEdge 29 = .ok (.isub, 1) := by decide +kernel
theorem d_W_trailEdge_30 : decode b_W_trailEdge 30 = .ok (.iaload, 1) := by decide +kernel
theorem d_W_trailEdge_31 : decode b_W_trailEdge 31 = .ok (.goto 9, 3) := by decide +kernel
theorem d_W_trailEdge_34 : decode b_W_trailEdge 34 = .ok (.aload_n 0, 1) := by decide +kernel
theorem d_W_trailEdge_35 : decode b_W_trailEdge 35 = .ok (.getfield 15, 3) := by decide +kernel
theorem d_W_trailEdge_38 : decode b_W_trailEdge 38 = .ok (.iload_n 1, 1) := by decide +kernel
theorem d_W_trailEdge_39 : decode b_W_trailEdge 39 = .ok (.iaload, 1) := by decide +kernel
theorem d_W_trailEdge_40 : decode b_W_trailEdge 40 = .ok (.ireturn, 1) := by decide +kernel
theorem d_W_trailAsSet_0 : decode b_W_trailAsSet 0 = .ok (.lconst 0, 1) := by decide +kernel
theorem d_W_trailAsSet_1 : decode b_W_trailAsSet 1 = .ok (.lstore_n 1, 1) := by decide +kernel
theorem d_W_trailAsSet_2 : decode b_W_trailAsSet 2 = .ok (.iconst 0, 1) := by decide +kernel
theorem d_W_trailAsSet_3 : decode b_W_trailAsSet 3 = .ok (.istore_n 3, 1) := by decide +kernel
theorem d_W_trailAsSet_4 : decode b_W_trailAsSet 4 = .ok (.iload_n 3, 1) := by decide +kernel
theorem d_W_trailAsSet_5 : decode b_W_trailAsSet 5 = .ok (.aload_n 0, 1) := by decide +kernel
theorem d_W_trailAsSet_6 : decode b_W_trailAsSet 6 = .ok (.getfield 23, 3) := by decide +kernel
theorem d_W_trailAsSet_9 : decode b_W_trailAsSet 9 = .ok (.if_icmp .ge 20, 3) := by decide +kernel
theorem d_W_trailAsSet_12 : decode b_W_trailAsSet 12 = .ok (.lload_n 1, 1) := by decide +kernel
theorem d_W_trailAsSet_13 : decode b_W_trailAsSet 13 = .ok (.lconst 1, 1) := by decide +kernel
theorem d_W_trailAsSet_14 : decode b_W_trailAsSet 14 = .ok (.aload_n 0, 1) := by decide +kernel
theorem d_W_trailAsSet_15 : decode b_W_trailAsSet 15 = .ok (.getfield 15, 3) := by decide +kernel
theorem d_W_trailAsSet_18 : decode b_W_trailAsSet 18 = .ok (.iload_n 3, 1) := by decide +kernel
theorem d_W_trailAsSet_19 : decode b_W_trailAsSet 19 = .ok (.iaload, 1) := by decide +kernel
theorem d_W_trailAsSet_20 : decode b_W_trailAsSet 20 = .ok (.lshl, 1) := by decide +kernel
theorem d_W_trailAsSet_21 : decode b_W_trailAsSet 21 = .ok (.lor, 1) := by decide +kernel
theorem d_W_trailAsSet_22 : decode b_W_trailAsSet 22 = .ok (.lstore_n 1, 1) := by decide +kernel
theorem d_W_trailAsSet_23 : decode b_W_trailAsSet 23 = .ok (.iinc 3 1, 3) := by decide +kernel
theorem d_W_trailAsSet_26 : decode b_W_trailAsSet 26 = .ok (.goto (-22), 3) := by decide +kernel
theorem d_W_trailAsSet_29 : decode b_W_trailAsSet 29 = .ok (.lload_n 1, 1) := by decide +kernel
theorem d_W_trailAsSet_30 : decode b_W_trailAsSet 30 = .ok (.lreturn, 1) := by decide +kernel
