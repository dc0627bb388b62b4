theorem d_D_init_0 : decode b_D_init 0 = .ok (.aload_n 0, 1) := by decide +kernel
theorem d_D_init_1 : decode b_D_init 1 = .ok (.invokespecial 1, 3) := by decide +kernel
theorem d_D_init_4 : decode b_D_init 4 = .ok (.aload_n 0, 1) := by decide +kernel
theorem d_D_init_5 : decode b_D_init 5 = .ok (.bipush 20, 2) := by decide +kernel
theorem d_D_init_7 : decode b_D_init 7 = .ok (.newarray .boolean, 2) := by decide +kernel
theorem d_D_init_9 : decode b_D_init 9 = .ok (.putfield 7, 3) := by decide +kernel
theorem d_D_init_12 : decode b_D_init 12 = .ok (.aload_n 0, 1) := by decide +kernel
theorem d_D_init_13 : decode b_D_init 13 = .ok (.bipush 20, 2) := by decide +kernel
theorem d_D_init_15 : decode b_D_init 15 = .ok (.newarray .int, 2) := by decide +kernel
theorem d_D_init_17 : decode b_D_init 17 = .ok (.putfield 13, 3) := by decide +kernel
theorem d_D_init_20 : decode b_D_init 20 = .ok (.aload_n 0, 1) := by decide +kernel
theorem d_D_init_21 : decode b_D_init 21 = .ok (.bipush 60, 2) := by decide +kernel
theorem d_D_init_23 : decode b_D_init 23 = .ok (.newarray .int, 2) := by decide +kernel
theorem d_D_init_25 : decode b_D_init 25 = .ok (.putfield 17, 3) := by decide +kernel
theorem d_D_init_28 : decode b_D_init 28 = .ok (.aload_n 0, 1) := by decide +kernel
theorem d_D_init_29 : decode b_D_init 29 = .ok (.bipush 60, 2) := by decide +kernel
theorem d_D_init_31 : decode b_D_init 31 = .ok (.newarray .int, 2) := by decide +kernel
theorem d_D_init_33 : decode b_D_init 33 = .ok (.putfield 20, 3) := by decide +kernel
theorem d_D_init_36 : decode b_D_init 36 = .ok (.aload_n 0, 1) := by decide +kernel
theorem d_D_init_37 : decode b_D_init 37 = .ok (.bipush 60, 2) := by decide +kernel
theorem d_D_init_39 : decode b_D_init 39 = .ok (.newarray .int, 2) := by decide +kernel
theorem d_D_init_41 : decode b_D_init 41 = .ok (.putfield 23, 3) := by decide +kernel
theorem d_D_init_44 : decode b_D_init 44 = .ok (.aload_n 0, 1) := by decide +kernel
theorem d_D_init_45 : decode b_D_init 45 = .ok (.bipush 60, 2) := by decide +kernel
theorem d_D_init_47 : decode b_D_init 47 = .ok (.newarray .int, 2) := by decide +kernel
theorem d_D_init_49 : decode b_D_init 49 = .ok (.putfield 26, 3) := by decide +kernel
theorem d_D_init_52 : decode b_D_init 52 = .ok (.aload_n 0, 1) := by decide +kernel
theorem d_D_init_53 : decode b_D_init 53 = .ok (.bipush 60, 2) := by decide +kernel
theorem d_D_init_55 : decode b_D_init 55 = .ok (.newarray .boolean, 2) := by decide +kernel
theorem d_D_init_57 : decode b_D_init 57 = .ok (.putfield 29, 3) := by decide +kernel
theorem d_D_init_60 : decode b_D_init 60 = .ok (.aload_n 0, 1) := by decide +kernel
theorem d_D_init_61 : decode b_D_init 61 = .ok (.bipush 20, 2) := by decide +kernel
theorem d_D_init_63 : decode b_D_init 63 = .ok (.newarray .int, 2) := by decide +kernel
theorem d_D_init_65 : decode b_D_init 65 = .ok (.putfield 32, 3) := by decide +kernel
theorem d_D_init_68 : decode b_D_init 68 = .ok (.aload_n 0, 1) := by decide +kernel
theorem d_D_init_69 : decode b_D_init 69 = .ok (.bipush 20, 2) := by decide +kernel
theorem d_D_init_71 : decode b_D_init 71 = .ok (.newarray .int, 2) := by decide +kernel
theorem d_D_init_73 : decode b_D_init 73 = .ok (.putfield 35, 3) := by decide +kernel
theorem d_D_init_76 : decode b_D_init 76 = .ok (.aload_n 0, 1) := by decide +kernel
theorem d_D_init_77 : decode b_D_init 77 = .ok (.bipush 60, 2) := by decide +kernel
theorem d_D_init_79 : decode b_D_init 79 = .ok (.newarray .int, 2) := by decide +kernel
theorem d_D_init_81 : decode b_D_init 81 = .ok (.putfield 38, 3) := by decide +kernel
theorem d_D_init_84 : decode b_D_init 84 = .ok (.aload_n 0, 1) := by decide +kernel
theorem d_D_init_85 : decode b_D_init 85 = .ok (.bipush 10, 2) := by decide +kernel
theorem d_D_init_87 : decode b_D_init 87 = .ok (.newarray .int, 2) := by decide +kernel
theorem d_D_init_89 : decode b_D_init 89 = .ok (.putfield 41, 3) := by decide +kernel
theorem d_D_init_92 : decode b_D_init 92 = .ok (.aload_n 0, 1) := by decide +kernel
theorem d_D_init_93 : decode b_D_init 93 = .ok (.bipush 110, 2) := by decide +kernel
theorem d_D_init_95 : decode b_D_init 95 = .ok (.newarray .int, 2) := by decide +kernel
theorem d_D_init_97 : decode b_D_init 97 = .ok (.putfield 44, 3) := by decide +kernel
theorem d_D_init_100 : decode b_D_init 100 = .ok (.aload_n 0, 1) := by decide +kernel
theorem d_D_init_101 : decode b_D_init 101 = .ok (.bipush 10, 2) := by decide +kernel
theorem d_D_init_103 : decode b_D_init 103 = .ok (.newarray .int, 2) := by decide +kernel
theorem d_D_init_105 : decode b_D_init 105 = .ok (.putfield 47, 3) := by decide +kernel
theorem d_D_init_108 : decode b_D_init 108 = .ok (.aload_n 0, 1) := by decide +kernel
theorem d_D_init_109 : decode b_D_init 109 = .ok (.bipush 10, 2) := by decide +kernel
theorem d_D_init_111 : decode b_D_init 111 = .ok (.newarray .int, 2) := by decide +kernel
theorem d_D_init_113 : decode b_D_init 113 = .ok (.putfield 50, 3) := by decide +kernel
theorem d_D_init_116 : decode b_D_init 116 = .ok (.aload_n 0, 1) := by decide +kernel
theorem d_D_init_117 : decode b_D_init 117 = .ok (.bipush 10, 2) := by decide +kernel
theorem d_D_init_119 : decode b_D_init 119 = .ok (.newarray .int, 2) := by decide +kernel
theorem d_D_init_121 : decode b_D_init 121 = .ok (.putfield 53, 3) := by decide +kernel
theorem d_D_init_124 : decode b_D_init 124 = .ok (.aload_n 0, 1) := by decide +kernel
theorem d_D_init_125 : decode b_D_init 125 = .ok (.bipush 11, 2) := by decide +kernel
theorem d_D_init_127 : decode b_D_init 127 = .ok (.newarray .int, 2) := by decide +kernel
theorem d_D_init_129 : decode b_D_init 129 = .ok (.putfield 56, 3) := by decide +kernel
theorem d_D_init_132 : decode b_D_init 132 = .ok (.aload_n 0, 1) := by decide +kernel
theorem d_D_init_133 : decode b_D_init 133 = .ok (.bipush 11, 2) := by decide +kernel
theorem d_D_init_135 : decode b_D_init 135 = .ok (.newarray .int, 2) := by decide +kernel
theorem d_D_init_137 : decode b_D_init 137 = .ok (.putfield 59, 3) := by decide +kernel
theorem d_D_init_140 : decode b_D_init 140 = .ok (.aload_n 0, 1) := by decide +kernel
theorem d_D_init_141 : decode b_D_init 141 = .ok (.bipush 10, 2) := by decide +kernel
theorem d_D_init_143 : decode b_D_init 143 = .ok (.newarray .int, 2) := by decide +kernel
theorem d_D_init_145 : decode b_D_init 145 = .ok (.putfield 62, 3) := by decide +kernel
theorem d_D_init_148 : decode b_D_init 148 = .ok (.aload_n 0, 1) := by decide +kernel
theorem d_D_init_149 : decode b_D_init 149 = .ok (.bipush 10, 2) := by decide +kernel
theorem d_D_init_151 : decode b_D_init 151 = .ok (.newarray .int, 2) := by decide +kernel
theorem d_D_init_153 : decode b_D_init 153 = .ok (.putfield 65, 3) := by decide +kernel
theorem d_D_init_156 : decode b_D_init 156 = .ok (.aload_n 0, 1) := by decide +kernel
theorem d_D_init_157 : decode b_D_init 157 = .ok (.bipush 10, 2) := by decide +kernel
theorem d_D_init_159 : decode b_D_init 159 = .ok (.newarray .boolean, 2) := by decide +kernel
theorem d_D_init_161 : decode b_D_init 161 = .ok (.putfield 68, 3) := by decide +kernel
theorem d_D_init_164 : decode b_D_init 164 = .ok (.aload_n 0, 1) := by decide +kernel
theorem d_D_init_165 : decode b_D_init 165 = .ok (.bipush 10, 2) := by decide +kernel
theorem d_D_init_167 : decode b_D_init 167 = .ok (.newarray .long, 2) := by decide +kernel
theorem d_D_init_169 : decode b_D_init 169 = .ok (.putfield 71, 3) := by decide +kernel
theorem d_D_init_172 : decode b_D_init 172 = .ok (.return_, 1) := by decide +kernel
theorem d_D_thrown_0 : decode b_D_thrown 0 = .ok (.aload_n 0, 1) := by decide +kernel
theorem d_D_thrown_1 : decode b_D_thrown 1 = .ok (.getfield 75, 3) := by decide +kernel
theorem d_D_thrown_4 : decode b_D_thrown 4 = .ok (.ireturn, 1) := by decide +kernel
theorem d_D_point_0 : decode b_D_point 0 = .ok (.aload_n 0, 1) := by decide +kernel
theorem d_D_point_1 : decode b_D_point 1 = .ok (.iconst 0, 1) := by decide +kernel
theorem d_D_point_2 : decode b_D_point 2 = .ok (.putfield 75, 3) := by decide +kernel
theorem d_D_point_5 : decode b_D_point 5 = .ok (.iload_n 2, 1) := by decide +kernel
theorem d_D_point_6 : decode b_D_point 6 = .ok (.ifCond .lt 18, 3) := by decide +kernel
theorem d_D_point_9 : decode b_D_point 9 = .ok (.iload_n 2, 1) := by decide +kernel
theorem d_D_point_10 : decode b_D_point 10 = .ok (.bipush 9, 2) := by decide +kernel
theorem d_D_point_12 : decode b_D_point 12 = .ok (.if_icmp .gt 12, 3) := by decide +kernel
theorem d_D_point_15 : decode b_D_point 15 = .ok (.aload_n 0, 1) := by decide +kernel
theorem d_D_point_16 : decode b_D_point 16 = .ok (.getfield 79, 3) := by decide +kernel
theorem d_D_point_19 : decode b_D_point 19 = .ok (.bipush 20, 2) := by decide +kernel
theorem d_D_point_21 : decode b_D_point 21 = .ok (.if_icmp .ne 5, 3) := by decide +kernel
theorem d_D_point_24 : decode b_D_point 24 = .ok (.iconst (-1), 1) := by decide +kernel
theorem d_D_point_25 : decode b_D_point 25 = .ok (.ireturn, 1) := by decide +kernel
theorem d_D_point_26 : decode b_D_point 26 = .ok (.aload_n 0, 1) := by decide +kernel
theorem d_D_point_27 : decode b_D_point 27 = .ok (.getfield 7, 3) := by decide +kernel
theorem d_D_point_30 : decode b_D_point 30 = .ok (.aload_n 0, 1) := by decide +kernel
theorem d_D_point_31 : decode b_D_point 31 = .ok (.getfield 79, 3) := by decide +kernel
theorem d_D_point_34 : decode b_D_point 34 = .ok (.iload_n 1, 1) := by decide +kernel
theorem d_D_point_35 : decode b_D_point 35 = .ok (.bastore, 1) := by decide +kernel
theorem d_D_point_36 : decode b_D_point 36 = .ok (.aload_n 0, 1) := by decide +kernel
theorem d_D_point_37 : decode b_D_point 37 = .ok (.getfield 13, 3) := by decide +kernel
theorem d_D_point_40 : decode b_D_point 40 = .ok (.aload_n 0, 1) := by decide +kernel
theorem d_D_point_41 : decode b_D_point 41 = .ok (.getfield 79, 3) := by decide +kernel
theorem d_D_point_44 : decode b_D_point 44 = .ok (.iload_n 2, 1) := by decide +kernel
theorem d_D_point_45 : decode b_D_point 45 = .ok (.iastore, 1) := by decide +kernel
theorem d_D_point_46 : decode b_D_point 46 = .ok (.aload_n 0, 1) := by decide +kernel
theorem d_D_point_47 : decode b_D_point 47 = .ok (.dup, 1) := by decide +kernel
theorem d_D_point_48 : decode b_D_point 48 = .ok (.getfield 79, 3) := by decide +kernel
theorem d_D_point_51 : decode b_D_point 51 = .ok (.iconst 1, 1) := by decide +kernel
theorem d_D_point_52 : decode b_D_point 52 = .ok (.iadd, 1) := by decide +kernel
theorem d_D_point_53 : decode b_D_point 53 = .ok (.putfield 79, 3) := by decide +kernel
theorem d_D_point_56 : decode b_D_point 56 = .ok (.aload_n 0, 1) := by decide +kernel
theorem d_D_point_57 : decode b_D_point 57 = .ok (.getfield 79, 3) := by decide +kernel
theorem d_D_point_60 : decode b_D_point 60 = .ok (.iconst 1, 1) := by decide +kernel
theorem d_D_point_61 : decode b_D_point 61 = .ok (.isub, 1) := by decide +kernel
theorem d_D_point_62 : decode b_D_point 62 = .ok (.ireturn, 1) := by decide +kernel
theorem d_D_edge_0 : decode b_D_edge 0 = .ok (.aload_n 0, 1) := by decide +kernel
theorem d_D_edge_1 : decode b_D_edge 1 = .ok (.iconst 0, 1) := by decide +kernel
theorem d_D_edge_2 : decode b_D_edge 2 = .ok (.putfield 75, 3) := by decide +kernel
theorem d_D_edge_5 : decode b_D_edge 5 = .ok (.aload_n 0, 1) := by decide +kernel
theorem d_D_edge_6 : decode b_D_edge 6 = .ok (.iload_n 1, 1) := by decide +kernel
theorem d_D_edge_7 : decode b_D_edge 7 = .ok (.iload_n 2, 1) := by decide +kernel
theorem d_D_edge_8 : decode b_D_edge 8 = .ok (.iload_n 3, 1) := by decide +kernel
theorem d_D_edge_9 : decode b_D_edge 9 = .ok (.iload 4, 2) := by decide +kernel
theorem d_D_edge_11 : decode b_D_edge 11 = .ok (.invokevirtual 90, 3) := by decide +kernel
theorem d_D_edge_14 : decode b_D_edge 14 = .ok (.ifCond .eq 12, 3) := by decide +kernel
theorem d_D_edge_17 : decode b_D_edge 17 = .ok (.aload_n 0, 1) := by decide +kernel
theorem d_D_edge_18 : decode b_D_edge 18 = .ok (.getfield 87, 3) := by decide +kernel
theorem d_D_edge_21 : decode b_D_edge 21 = .ok (.bipush 60, 2) := by decide +kernel
theorem d_D_edge_23 : decode b_D_edge 23 = .ok (.if_icmp .ne 5, 3) := by decide +kernel
theorem d_D_edge_26 : decode b_D_edge 26 = .ok (.iconst (-1), 1) := by decide +kernel
theorem d_D_edge_27 : decode b_D_edge 27 = .ok (.ireturn, 1) := by decide +kernel
theorem d_D_edge_28 : decode b_D_edge 28 = .ok (.aload_n 0, 1) := by decide +kernel
theorem d_D_edge_29 : decode b_D_edge 29 = .ok (.iload_n 1, 1) := by decide +kernel
theorem d_D_edge_30 : decode b_D_edge 30 = .ok (.iload_n 2, 1) := by decide +kernel
theorem d_D_edge_31 : decode b_D_edge 31 = .ok (.iload_n 3, 1) := by decide +kernel
theorem d_D_edge_32 : decode b_D_edge 32 = .ok (.iload 4, 2) := by decide +kernel
theorem d_D_edge_34 : decode b_D_edge 34 = .ok (.invokevirtual 94, 3) := by decide +kernel
theorem d_D_edge_37 : decode b_D_edge 37 = .ok (.aload_n 0, 1) := by decide +kernel
theorem d_D_edge_38 : decode b_D_edge 38 = .ok (.getfield 87, 3) := by decide +kernel
theorem d_D_edge_41 : decode b_D_edge 41 = .ok (.iconst 1, 1) := by decide +kernel
theorem d_D_edge_42 : decode b_D_edge 42 = .ok (.isub, 1) := by decide +kernel
theorem d_D_edge_43 : decode b_D_edge 43 = .ok (.ireturn, 1) := by decide +kernel
theorem d_D_canBe_0 : decode b_D_canBe 0 = .ok (.aload_n 0, 1) := by decide +kernel
theorem d_D_canBe_1 : decode b_D_canBe 1 = .ok (.iload_n 1, 1) := by decide +kernel
theorem d_D_canBe_2 : decode b_D_canBe 2 = .ok (.invokevirtual 82, 3) := by decide +kernel
theorem d_D_canBe_5 : decode b_D_canBe 5 = .ok (.ifCond .eq 61, 3) := by decide +kernel
theorem d_D_canBe_8 : decode b_D_canBe 8 = .ok (.aload_n 0, 1) := by decide +kernel
theorem d_D_canBe_9 : decode b_D_canBe 9 = .ok (.iload_n 2, 1) := by decide +kernel
theorem d_D_canBe_10 : decode b_D_canBe 10 = .ok (.invokevirtual 82, 3) := by decide +kernel
theorem d_D_canBe_13 : decode b_D_canBe 13 = .ok (.ifCond .eq 53, 3) := by decide +kernel
theorem d_D_canBe_16 : decode b_D_canBe 16 = .ok (.iload_n 1, 1) := by decide +kernel
theorem d_D_canBe_17 : decode b_D_canBe 17 = .ok (.iload_n 2, 1) := by decide +kernel
theorem d_D_canBe_18 : decode b_D_canBe 18 = .ok (.if_icmp .eq 48, 3) := by decide +kernel
theorem d_D_canBe_21 : decode b_D_canBe 21 = .ok (.aload_n 0, 1) := by decide +kernel
theorem d_D_canBe_22 : decode b_D_canBe 22 = .ok (.getfield 7, 3) := by decide +kernel
theorem d_D_canBe_25 : decode b_D_canBe 25 = .ok (.iload_n 1, 1) := by decide +kernel
theorem d_D_canBe_26 : decode b_D_canBe 26 = .ok (.baload, 1) := by decide +kernel
theorem d_D_canBe_27 : decode b_D_canBe 27 = .ok (.ifCond .eq 12, 3) := by decide +kernel
theorem d_D_canBe_30 : decode b_D_canBe 30 = .ok (.aload_n 0, 1) := by decide +kernel
theorem d_D_canBe_31 : decode b_D_canBe 31 = .ok (.getfield 7, 3) := by decide +kernel
theorem d_D_canBe_34 : decode b_D_canBe 34 = .ok (.iload_n 2, 1) := by decide +kernel
theorem d_D_canBe_35 : decode b_D_canBe 35 = .ok (.baload, 1) := by decide +kernel
theorem d_D_canBe_36 : decode b_D_canBe 36 = .ok (.ifCond .ne 30, 3) := by decide +kernel
theorem d_D_canBe_39 : decode b_D_canBe 39 = .ok (.iload_n 3, 1) := by decide +kernel
theorem d_D_canBe_40 : decode b_D_canBe 40 = .ok (.ifCond .lt 26, 3) := by decide +kernel
theorem d_D_canBe_43 : decode b_D_canBe 43 = .ok (.iload_n 3, 1) := by decide +kernel
theorem d_D_canBe_44 : decode b_D_canBe 44 = .ok (.ldc 86, 2) := by decide +kernel
theorem d_D_canBe_46 : decode b_D_canBe 46 = .ok (.if_icmp .gt 20, 3) := by decide +kernel
theorem d_D_canBe_49 : decode b_D_canBe 49 = .ok (.iload 4, 2) := by decide +kernel
theorem d_D_canBe_51 : decode b_D_canBe 51 = .ok (.ifCond .lt 15, 3) := by decide +kernel
theorem d_D_canBe_54 : decode b_D_canBe 54 = .ok (.iload 4, 2) := by decide +kernel
theorem d_D_canBe_56 : decode b_D_canBe 56 = .ok (.sipush 255, 3) := by decide +kernel
theorem d_D_canBe_59 : decode b_D_canBe 59 = .ok (.if_icmp .gt 7, 3) := by decide +kernel
theorem d_D_canBe_62 : decode b_D_canBe 62 = .ok (.iconst 1, 1) := by decide +kernel
theorem d_D_canBe_63 : decode b_D_canBe 63 = .ok (.goto 4, 3) := by decide +kernel
theorem d_D_canBe_66 : decode b_D_canBe 66 = .ok (.iconst 0, 1) := by decide +kernel
theorem d_D_canBe_67 : decode b_D_canBe 67 = .ok (.ireturn, 1) := by decide +kernel
theorem d_D_isPoint_0 : decode b_D_isPoint 0 = .ok (.iload_n 1, 1) := by decide +kernel
theorem d_D_isPoint_1 : decode b_D_isPoint 1 = .ok (.ifCond .lt 15, 3) := by decide +kernel
theorem d_D_isPoint_4 : decode b_D_isPoint 4 = .ok (.iload_n 1, 1) := by decide +kernel
theorem d_D_isPoint_5 : decode b_D_isPoint 5 = .ok (.aload_n 0, 1) := by decide +kernel
theorem d_D_isPoint_6 : decode b_D_isPoint 6 = .ok (.getfield 79, 3) := by decide +kernel
theorem d_D_isPoint_9 : decode b_D_isPoint 9 = .ok (.if_icmp .ge 7, 3) := by decide +kernel
theorem d_D_isPoint_12 : decode b_D_isPoint 12 = .ok (.iconst 1, 1) := by decide +kernel
theorem d_D_isPoint_13 : decode b_D_isPoint 13 = .ok (.goto 4, 3) := by decide +kernel
theorem d_D_isPoint_16 : decode b_D_isPoint 16 = .ok (.iconst 0, 1) := by decide +kernel
theorem d_D_isPoint_17 : decode b_D_isPoint 17 = .ok (.ireturn, 1) := by decide +kernel
theorem d_D_add_0 : decode b_D_add 0 = .ok (.aload_n 0, 1) := by decide +kernel
theorem d_D_add_1 : decode b_D_add 1 = .ok (.getfield 17, 3) := by decide +kernel
theorem d_D_add_4 : decode b_D_add 4 = .ok (.aload_n 0, 1) := by decide +kernel
theorem d_D_add_5 : decode b_D_add 5 = .ok (.getfield 87, 3) := by decide +kernel
theorem d_D_add_8 : decode b_D_add 8 = .ok (.iload_n 1, 1) := by decide +kernel
theorem d_D_add_9 : decode b_D_add 9 = .ok (.iastore, 1) := by decide +kernel
theorem d_D_add_10 : decode b_D_add 10 = .ok (.aload_n 0, 1) := by decide +kernel
theorem d_D_add_11 : decode b_D_add 11 = .ok (.getfield 20, 3) := by decide +kernel
theorem d_D_add_14 : decode b_D_add 14 = .ok (.aload_n 0, 1) := by decide +kernel
theorem d_D_add_15 : decode b_D_add 15 = .ok (.getfield 87, 3) := by decide +kernel
theorem d_D_add_18 : decode b_D_add 18 = .ok (.iload_n 2, 1) := by decide +kernel
theorem d_D_add_19 : decode b_D_add 19 = .ok (.iastore, 1) := by decide +kernel
theorem d_D_add_20 : decode b_D_add 20 = .ok (.aload_n 0, 1) := by decide +kernel
theorem d_D_add_21 : decode b_D_add 21 = .ok (.getfield 23, 3) := by decide +kernel
theorem d_D_add_24 : decode b_D_add 24 = .ok (.aload_n 0, 1) := by decide +kernel
theorem d_D_add_25 : decode b_D_add 25 = .ok (.getfield 87, 3) := by decide +kernel
theorem d_D_add_28 : decode b_D_add 28 = .ok (.iload_n 3, 1) := by decide +kernel
theorem d_D_add_29 : decode b_D_add 29 = .ok (.iastore, 1) := by decide +kernel
theorem d_D_add_30 : decode b_D_add 30 = .ok (.aload_n 0, 1) := by decide +kernel
theorem d_D_add_31 : decode b_D_add 31 = .ok (.getfield 26, 3) := by decide +kernel
theorem d_D_add_34 : decode b_D_add 34 = .ok (.aload_n 0, 1) := by decide +kernel
theorem d_D_add_35 : decode b_D_add 35 = .ok (.getfield 87, 3) := by decide +kernel
theorem d_D_add_38 : decode b_D_add 38 = .ok (.iload 4, 2) := by decide +kernel
theorem d_D_add_40 : decode b_D_add 40 = .ok (.iastore, 1) := by decide +kernel
theorem d_D_add_41 : decode b_D_add 41 = .ok (.aload_n 0, 1) := by decide +kernel
theorem d_D_add_42 : decode b_D_add 42 = .ok (.getfield 29, 3) := by decide +kernel
theorem d_D_add_45 : decode b_D_add 45 = .ok (.aload_n 0, 1) := by decide +kernel
theorem d_D_add_46 : decode b_D_add 46 = .ok (.getfield 87, 3) := by decide +kernel
theorem d_D_add_49 : decode b_D_add 49 = .ok (.iconst 0, 1) := by decide +kernel
theorem d_D_add_50 : decode b_D_add 50 = .ok (.bastore, 1) := by decide +kernel
theorem d_D_add_51 : decode b_D_add 51 = .ok (.aload_n 0, 1) := by decide +kernel
theorem d_D_add_52 : decode b_D_add 52 = .ok (.dup, 1) := by decide +kernel
theorem d_D_add_53 : decode b_D_add 53 = .ok (.getfield 87, 3) := by decide +kernel
theorem d_D_add_56 : decode b_D_add 56 = .ok (.iconst 1, 1) := by decide +kernel
theorem d_D_add_57 : decode b_D_add 57 = .ok (.iadd, 1) := by decide +kernel
theorem d_D_add_58 : decode b_D_add 58 = .ok (.putfield 87, 3) := by decide +kernel
theorem d_D_add_61 : decode b_D_add 61 = .ok (.return_, 1) := by decide +kernel
theorem d_D_fault_0 : decode b_D_fault 0 = .ok (.aload_n 0, 1) := by decide +kernel
theorem d_D_fault_1 : decode b_D_fault 1 = .ok (.iconst 0, 1) := by decide +kernel
theorem d_D_fault_2 : decode b_D_fault 2 = .ok (.putfield 75, 3) := by decide +kernel
theorem d_D_fault_5 : decode b_D_fault 5 = .ok (.iload_n 1, 1) := by decide +kernel
theorem d_D_fault_6 : decode b_D_fault 6 = .ok (.ifCond .lt 23, 3) := by decide +kernel
theorem d_D_fault_9 : decode b_D_fault 9 = .ok (.iload_n 1, 1) := by decide +kernel
theorem d_D_fault_10 : decode b_D_fault 10 = .ok (.aload_n 0, 1) := by decide +kernel
theorem d_D_fault_11 : decode b_D_fault 11 = .ok (.getfield 79, 3) := by decide +kernel
theorem d_D_fault_14 : decode b_D_fault 14 = .ok (.iushr, 1) := by decide +kernel
theorem d_D_fault_15 : decode b_D_fault 15 = .ok (.ifCond .ne 14, 3) := by decide +kernel
theorem d_D_fault_18 : decode b_D_fault 18 = .ok (.aload_n 0, 1) := by decide +kernel
theorem d_D_fault_19 : decode b_D_fault 19 = .ok (.getfield 87, 3) := by decide +kernel
theorem d_D_fault_22 : decode b_D_fault 22 = .ok (.iconst 2, 1) := by decide +kernel
theorem d_D_fault_23 : decode b_D_fault 23 = .ok (.iadd, 1) := by decide +kernel
theorem d_D_fault_24 : decode b_D_fault 24 = .ok (.bipush 60, 2) := by decide +kernel
theorem d_D_fault_26 : decode b_D_fault 26 = .ok (.if_icmp .le 5, 3) := by decide +kernel
theorem d_D_fault_29 : decode b_D_fault 29 = .ok (.iconst (-1), 1) := by decide +kernel
theorem d_D_fault_30 : decode b_D_fault 30 = .ok (.ireturn, 1) := by decide +kernel
theorem d_D_fault_31 : decode b_D_fault 31 = .ok (.iload_n 1, 1) := by decide +kernel
theorem d_D_fault_32 : decode b_D_fault 32 = .ok (.invokestatic 98, 3) := by decide +kernel
theorem d_D_fault_35 : decode b_D_fault 35 = .ok (.istore 4, 2) := by decide +kernel
theorem d_D_fault_37 : decode b_D_fault 37 = .ok (.iload 4, 2) := by decide +kernel
theorem d_D_fault_39 : decode b_D_fault 39 = .ok (.iconst 3, 1) := by decide +kernel
theorem d_D_fault_40 : decode b_D_fault 40 = .ok (.if_icmp .eq 11, 3) := by decide +kernel
theorem d_D_fault_43 : decode b_D_fault 43 = .ok (.iload 4, 2) := by decide +kernel
theorem d_D_fault_45 : decode b_D_fault 45 = .ok (.iconst 4, 1) := by decide +kernel
theorem d_D_fault_46 : decode b_D_fault 46 = .ok (.if_icmp .eq 5, 3) := by decide +kernel
theorem d_D_fault_49 : decode b_D_fault 49 = .ok (.iconst (-1), 1) := by decide +kernel
theorem d_D_fault_50 : decode b_D_fault 50 = .ok (.ireturn, 1) := by decide +kernel
theorem d_D_fault_51 : decode b_D_fault 51 = .ok (.iload 4, 2) := by decide +kernel
theorem d_D_fault_53 : decode b_D_fault 53 = .ok (.iconst 4, 1) := by decide +kernel
theorem d_D_fault_54 : decode b_D_fault 54 = .ok (.if_icmp .ne 11, 3) := by decide +kernel
theorem d_D_fault_57 : decode b_D_fault 57 = .ok (.iload_n 1, 1) := by decide +kernel
theorem d_D_fault_58 : decode b_D_fault 58 = .ok (.iconst 3, 1) := by decide +kernel
theorem d_D_fault_59 : decode b_D_fault 59 = .ok (.invokestatic 102, 3) := by decide +kernel
theorem d_D_fault_62 : decode b_D_fault 62 = .ok (.goto 7, 3) := by decide +kernel
theorem d_D_fault_65 : decode b_D_fault 65 = .ok (.aload_n 0, 1) := by decide +kernel
theorem d_D_fault_66 : decode b_D_fault 66 = .ok (.invokevirtual 106, 3) := by decide +kernel
theorem d_D_fault_69 : decode b_D_fault 69 = .ok (.istore 5, 2) := by decide +kernel
theorem d_D_fault_71 : decode b_D_fault 71 = .ok (.aload_n 0, 1) := by decide +kernel
theorem d_D_fault_72 : decode b_D_fault 72 = .ok (.iload_n 1, 1) := by decide +kernel
theorem d_D_fault_73 : decode b_D_fault 73 = .ok (.iconst 0, 1) := by decide +kernel
theorem d_D_fault_74 : decode b_D_fault 74 = .ok (.invokestatic 102, 3) := by decide +kernel
theorem d_D_fault_77 : decode b_D_fault 77 = .ok (.iload_n 1, 1) := by decide +kernel
theorem d_D_fault_78 : decode b_D_fault 78 = .ok (.iconst 1, 1) := by decide +kernel
theorem d_D_fault_79 : decode b_D_fault 79 = .ok (.invokestatic 102, 3) := by decide +kernel
theorem d_D_fault_82 : decode b_D_fault 82 = .ok (.iload_n 2, 1) := by decide +kernel
theorem d_D_fault_83 : decode b_D_fault 83 = .ok (.iload_n 3, 1) := by decide +kernel
theorem d_D_fault_84 : decode b_D_fault 84 = .ok (.invokevirtual 90, 3) := by decide +kernel
theorem d_D_fault_87 : decode b_D_fault 87 = .ok (.ifCond .eq 19, 3) := by decide +kernel
theorem d_D_fault_90 : decode b_D_fault 90 = .ok (.aload_n 0, 1) := by decide +kernel
theorem d_D_fault_91 : decode b_D_fault 91 = .ok (.iload_n 1, 1) := by decide +kernel
theorem d_D_fault_92 : decode b_D_fault 92 = .ok (.iconst 2, 1) := by decide +kernel
theorem d_D_fault_93 : decode b_D_fault 93 = .ok (.invokestatic 102, 3) := by decide +kernel
theorem d_D_fault_96 : decode b_D_fault 96 = .ok (.iload 5, 2) := by decide +kernel
theorem d_D_fault_98 : decode b_D_fault 98 = .ok (.iconst 0, 1) := by decide +kernel
theorem d_D_fault_99 : decode b_D_fault 99 = .ok (.iconst 0, 1) := by decide +kernel
theorem d_D_fault_100 : decode b_D_fault 100 = .ok (.invokevirtual 90, 3) := by decide +kernel
theorem d_D_fault_103 : decode b_D_fault 103 = .ok (.ifCond .ne 5, 3) := by decide +kernel
theorem d_D_fault_106 : decode b_D_fault 106 = .ok (.iconst (-1), 1) := by decide +kernel
theorem d_D_fault_107 : decode b_D_fault 107 = .ok (.ireturn, 1) := by decide +kernel
theorem d_D_fault_108 : decode b_D_fault 108 = .ok (.aload_n 0, 1) := by decide +kernel
theorem d_D_fault_109 : decode b_D_fault 109 = .ok (.iload_n 1, 1) := by decide +kernel
theorem d_D_fault_110 : decode b_D_fault 110 = .ok (.iconst 0, 1) := by decide +kernel
theorem d_D_fault_111 : decode b_D_fault 111 = .ok (.invokestatic 102, 3) := by decide +kernel
theorem d_D_fault_114 : decode b_D_fault 114 = .ok (.iload_n 1, 1) := by decide +kernel
theorem d_D_fault_115 : decode b_D_fault 115 = .ok (.iconst 1, 1) := by decide +kernel
theorem d_D_fault_116 : decode b_D_fault 116 = .ok (.invokestatic 102, 3) := by decide +kernel
theorem d_D_fault_119 : decode b_D_fault 119 = .ok (.iload_n 2, 1) := by decide +kernel
theorem d_D_fault_120 : decode b_D_fault 120 = .ok (.iload_n 3, 1) := by decide +kernel
theorem d_D_fault_121 : decode b_D_fault 121 = .ok (.invokevirtual 94, 3) := by decide +kernel
theorem d_D_fault_124 : decode b_D_fault 124 = .ok (.aload_n 0, 1) := by decide +kernel
theorem d_D_fault_125 : decode b_D_fault 125 = .ok (.iload_n 1, 1) := by decide +kernel
theorem d_D_fault_126 : decode b_D_fault 126 = .ok (.iconst 2, 1) := by decide +kernel
theorem d_D_fault_127 : decode b_D_fault 127 = .ok (.invokestatic 102, 3) := by decide +kernel
theorem d_D_fault_130 : decode b_D_fault 130 = .ok (.iload 5, 2) := by decide +kernel
theorem d_D_fault_132 : decode b_D_fault 132 = .ok (.iconst 0, 1) := by decide +kernel
theorem d_D_fault_133 : decode b_D_fault 133 = .ok (.iconst 0, 1) := by decide +kernel
theorem d_D_fault_134 : decode b_D_fault 134 = .ok (.invokevirtual 94, 3) := by decide +kernel
theorem d_D_fault_137 : decode b_D_fault 137 = .ok (.aload_n 0, 1) := by decide +kernel
theorem d_D_fault_138 : decode b_D_fault 138 = .ok (.getfield 87, 3) := by decide +kernel
theorem d_D_fault_141 : decode b_D_fault 141 = .ok (.iconst 2, 1) := by decide +kernel
theorem d_D_fault_142 : decode b_D_fault 142 = .ok (.isub, 1) := by decide +kernel
theorem d_D_fault_143 : decode b_D_fault 143 = .ok (.ireturn, 1) := by decide +kernel
theorem d_D_count_0 : decode b_D_count 0 = .ok (.iconst 0, 1) := by decide +kernel
theorem d_D_count_1 : decode b_D_count 1 = .ok (.istore_n 1, 1) := by decide +kernel
theorem d_D_count_2 : decode b_D_count 2 = .ok (.iconst 0, 1) := by decide +kernel
theorem d_D_count_3 : decode b_D_count 3 = .ok (.istore_n 2, 1) := by decide +kernel
theorem d_D_count_4 : decode b_D_count 4 = .ok (.iload_n 2, 1) := by decide +kernel
theorem d_D_count_5 : decode b_D_count 5 = .ok (.bipush 20, 2) := by decide +kernel
theorem d_D_count_7 : decode b_D_count 7 = .ok (.if_icmp .ge 17, 3) := by decide +kernel
theorem d_D_count_10 : decode b_D_count 10 = .ok (.iload_n 1, 1) := by decide +kernel
theorem d_D_count_11 : decode b_D_count 11 = .ok (.iload_n 0, 1) := by decide +kernel
theorem d_D_count_12 : decode b_D_count 12 = .ok (.iload_n 2, 1) := by decide +kernel
theorem d_D_count_13 : decode b_D_count 13 = .ok (.ishr, 1) := by decide +kernel
theorem d_D_count_14 : decode b_D_count 14 = .ok (.iconst 1, 1) := by decide +kernel
theorem d_D_count_15 : decode b_D_count 15 = .ok (.iand, 1) := by decide +kernel
theorem d_D_count_16 : decode b_D_count 16 = .ok (.iadd, 1) := by decide +kernel
theorem d_D_count_17 : decode b_D_count 17 = .ok (.istore_n 1, 1) := by decide +kernel
theorem d_D_count_18 : decode b_D_count 18 = .ok (.iinc 2 1, 3) := by decide +kernel
theorem d_D_count_21 : decode b_D_count 21 = .ok (.goto (-17), 3) := by decide +kernel
theorem d_D_count_24 : decode b_D_count 24 = .ok (.iload_n 1, 1) := by decide +kernel
theorem d_D_count_25 : decode b_D_count 25 = .ok (.ireturn, 1) := by decide +kernel
theorem d_D_of_0 : decode b_D_of 0 = .ok (.iload_n 1, 1) := by decide +kernel
theorem d_D_of_1 : decode b_D_of 1 = .ok (.istore_n 2, 1) := by decide +kernel
theorem d_D_of_2 : decode b_D_of 2 = .ok (.iconst 0, 1) := by decide +kernel
theorem d_D_of_3 : decode b_D_of 3 = .ok (.istore_n 3, 1) := by decide +kernel
theorem d_D_of_4 : decode b_D_of 4 = .ok (.iload_n 3, 1) := by decide +kernel
theorem d_D_of_5 : decode b_D_of 5 = .ok (.bipush 20, 2) := by decide +kernel
theorem d_D_of_7 : decode b_D_of 7 = .ok (.if_icmp .ge 29, 3) := by decide +kernel
theorem d_D_of_10 : decode b_D_of 10 = .ok (.iload_n 0, 1) := by decide +kernel
theorem d_D_of_11 : decode b_D_of 11 = .ok (.iload_n 3, 1) := by decide +kernel
theorem d_D_of_12 : decode b_D_of 12 = .ok (.ishr, 1) := by decide +kernel
theorem d_D_of_13 : decode b_D_of 13 = .ok (.iconst 1, 1) := by decide +kernel
theorem d_D_of_14 : decode b_D_of 14 = .ok (.iand, 1) := by decide +kernel
theorem d_D_of_15 : decode b_D_of 15 = .ok (.ifCond .ne 6, 3) := by decide +kernel
theorem d_D_of_18 : decode b_D_of 18 = .ok (.goto 12, 3) := by decide +kernel
theorem d_D_of_21 : decode b_D_of 21 = .ok (.iload_n 2, 1) := by decide +kernel
theorem d_D_of_22 : decode b_D_of 22 = .ok (.ifCond .ne 5, 3) := by decide +kernel
theorem d_D_of_25 : decode b_D_of 25 = .ok (.iload_n 3, 1) := by decide +kernel
theorem d_D_of_26 : decode b_D_of 26 = .ok (.ireturn, 1) := by decide +kernel
theorem d_D_of_27 : decode b_D_of 27 = .ok (.iinc 2 (-1), 3) := by decide +kernel
theorem d_D_of_30 : decode b_D_of 30 = .ok (.iinc 3 1, 3) := by decide +kernel
theorem d_D_of_33 : decode b_D_of 33 = .ok (.goto (-29), 3) := by decide +kernel
theorem d_D_of_36 : decode b_D_of 36 = .ok (.iconst (-1), 1) := by decide +kernel
theorem d_D_of_37 : decode b_D_of 37 = .ok (.ireturn, 1) := by decide +kernel
theorem d_D_firstBoundary_0 : decode b_D_firstBoundary 0 = .ok (.iconst 0, 1) := by decide +kernel
theorem d_D_firstBoundary_1 : decode b_D_firstBoundary 1 = .ok (.istore_n 1, 1) := by decide +kernel
theorem d_D_firstBoundary_2 : decode b_D_firstBoundary 2 = .ok (.iload_n 1, 1) := by decide +kernel
theorem d_D_firstBoundary_3 : decode b_D_firstBoundary 3 = .ok (.aload_n 0, 1) := by decide +kernel
theorem d_D_firstBoundary_4 : decode b_D_firstBoundary 4 = .ok (.getfield 79, 3) := by decide +kernel
theorem d_D_firstBoundary_7 : decode b_D_firstBoundary 7 = .ok (.if_icmp .ge 20, 3) := by decide +kernel
theorem d_D_firstBoundary_10 : decode b_D_firstBoundary 10 = .ok (.aload_n 0, 1) := by decide +kernel
theorem d_D_firstBoundary_11 : decode b_D_firstBoundary 11 = .ok (.getfield 7, 3) := by decide +kernel
theorem d_D_firstBoundary_14 : decode b_D_firstBoundary 14 = .ok (.iload_n 1, 1) := by decide +kernel
theorem d_D_firstBoundary_15 : decode b_D_firstBoundary 15 = .ok (.baload, 1) := by decide +kernel
theorem d_D_firstBoundary_16 : decode b_D_firstBoundary 16 = .ok (.ifCond .eq 5, 3) := by decide +kernel
theorem d_D_firstBoundary_19 : decode b_D_firstBoundary 19 = .ok (.iload_n 1, 1) := by decide +kernel
theorem d_D_firstBoundary_20 : decode b_D_firstBoundary 20 = .ok (.ireturn, 1) := by decide +kernel
theorem d_D_firstBoundary_21 : decode b_D_firstBoundary 21 = .ok (.iinc 1 1, 3) := by decide +kernel
theorem d_D_firstBoundary_24 : decode b_D_firstBoundary 24 = .ok (.goto (-22), 3) := by decide +kernel
theorem d_D_firstBoundary_27 : decode b_D_firstBoundary 27 = .ok (.iconst (-1), 1) := by decide +kernel
theorem d_D_firstBoundary_28 : decode b_D_firstBoundary 28 = .ok (.ireturn, 1) := by decide +kernel
theorem d_D_fire_0 : decode b_D_fire 0 = .ok (.aload_n 0, 1) := by decide +kernel
theorem d_D_fire_1 : decode b_D_fire 1 = .ok (.iconst 0, 1) := by decide +kernel
theorem d_D_fire_2 : decode b_D_fire 2 = .ok (.putfield 75, 3) := by decide +kernel
theorem d_D_fire_5 : decode b_D_fire 5 = .ok (.aload_n 0, 1) := by decide +kernel
theorem d_D_fire_6 : decode b_D_fire 6 = .ok (.iload_n 1, 1) := by decide +kernel
theorem d_D_fire_7 : decode b_D_fire 7 = .ok (.invokevirtual 82, 3) := by decide +kernel
theorem d_D_fire_10 : decode b_D_fire 10 = .ok (.ifCond .eq 48, 3) := by decide +kernel
theorem d_D_fire_13 : decode b_D_fire 13 = .ok (.aload_n 0, 1) := by decide +kernel
theorem d_D_fire_14 : decode b_D_fire 14 = .ok (.getfield 7, 3) := by decide +kernel
theorem d_D_fire_17 : decode b_D_fire 17 = .ok (.iload_n 1, 1) := by decide +kernel
theorem d_D_fire_18 : decode b_D_fire 18 = .ok (.baload, 1) := by decide +kernel
theorem d_D_fire_19 : decode b_D_fire 19 = .ok (.ifCond .ne 39, 3) := by decide +kernel
theorem d_D_fire_22 : decode b_D_fire 22 = .ok (.aload_n 0, 1) := by decide +kernel
theorem d_D_fire_23 : decode b_D_fire 23 = .ok (.getfield 110, 3) := by decide +kernel
theorem d_D_fire_26 : decode b_D_fire 26 = .ok (.iload_n 1, 1) := by decide +kernel
theorem d_D_fire_27 : decode b_D_fire 27 = .ok (.ishr, 1) := by decide +kernel
theorem d_D_fire_28 : decode b_D_fire 28 = .ok (.iconst 1, 1) := by decide +kernel
theorem d_D_fire_29 : decode b_D_fire 29 = .ok (.iand, 1) := by decide +kernel
theorem d_D_fire_30 : decode b_D_fire 30 = .ok (.iload_n 2, 1) := by decide +kernel
theorem d_D_fire_31 : decode b_D_fire 31 = .ok (.ifCond .eq 7, 3) := by decide +kernel
theorem d_D_fire_34 : decode b_D_fire 34 = .ok (.iconst 1, 1) := by decide +kernel
theorem d_D_fire_35 : decode b_D_fire 35 = .ok (.goto 4, 3) := by decide +kernel
theorem d_D_fire_38 : decode b_D_fire 38 = .ok (.iconst 0, 1) := by decide +kernel
theorem d_D_fire_39 : decode b_D_fire 39 = .ok (.if_icmp .eq 19, 3) := by decide +kernel
theorem d_D_fire_42 : decode b_D_fire 42 = .ok (.iload_n 2, 1) := by decide +kernel
theorem d_D_fire_43 : decode b_D_fire 43 = .ok (.ifCond .eq 17, 3) := by decide +kernel
theorem d_D_fire_46 : decode b_D_fire 46 = .ok (.aload_n 0, 1) := by decide +kernel
theorem d_D_fire_47 : decode b_D_fire 47 = .ok (.getfield 110, 3) := by decide +kernel
theorem d_D_fire_50 : decode b_D_fire 50 = .ok (.invokestatic 98, 3) := by decide +kernel
theorem d_D_fire_53 : decode b_D_fire 53 = .ok (.bipush 10, 2) := by decide +kernel
theorem d_D_fire_55 : decode b_D_fire 55 = .ok (.if_icmp .ne 5, 3) := by decide +kernel
theorem d_D_fire_58 : decode b_D_fire 58 = .ok (.iconst 0, 1) := by decide +kernel
theorem d_D_fire_59 : decode b_D_fire 59 = .ok (.ireturn, 1) := by decide +kernel
theorem d_D_fire_60 : decode b_D_fire 60 = .ok (.aload_n 0, 1) := by decide +kernel
theorem d_D_fire_61 : decode b_D_fire 61 = .ok (.dup, 1) := by decide +kernel
theorem d_D_fire_62 : decode b_D_fire 62 = .ok (.getfield 110, 3) := by decide +kernel
theorem d_D_fire_65 : decode b_D_fire 65 = .ok (.iconst 1, 1) := by decide +kernel
theorem d_D_fire_66 : decode b_D_fire 66 = .ok (.iload_n 1, 1) := by decide +kernel
theorem d_D_fire_67 : decode b_D_fire 67 = .ok (.ishl, 1) := by decide +kernel
theorem d_D_fire_68 : decode b_D_fire 68 = .ok (.ixor, 1) := by decide +kernel
theorem d_D_fire_69 : decode b_D_fire 69 = .ok (.putfield 110, 3) := by decide +kernel
theorem d_D_fire_72 : decode b_D_fire 72 = .ok (.iconst 1, 1) := by decide +kernel
theorem d_D_fire_73 : decode b_D_fire 73 = .ok (.ireturn, 1) := by decide +kernel
theorem d_D_erase_0 : decode b_D_erase 0 = .ok (.aload_n 0, 1) := by decide +kernel
theorem d_D_erase_1 : decode b_D_erase 1 = .ok (.iconst 0, 1) := by decide +kernel
theorem d_D_erase_2 : decode b_D_erase 2 = .ok (.putfield 75, 3) := by decide +kernel
theorem d_D_erase_5 : decode b_D_erase 5 = .ok (.iload_n 1, 1) := by decide +kernel
theorem d_D_erase_6 : decode b_D_erase 6 = .ok (.ifCond .lt 21, 3) := by decide +kernel
theorem d_D_erase_9 : decode b_D_erase 9 = .ok (.iload_n 1, 1) := by decide +kernel
theorem d_D_erase_10 : decode b_D_erase 10 = .ok (.aload_n 0, 1) := by decide +kernel
theorem d_D_erase_11 : decode b_D_erase 11 = .ok (.getfield 87, 3) := by decide +kernel
theorem d_D_erase_14 : decode b_D_erase 14 = .ok (.if_icmp .ge 13, 3) := by decide +kernel
theorem d_D_erase_17 : decode b_D_erase 17 = .ok (.aload_n 0, 1) := by decide +kernel
theorem d_D_erase_18 : decode b_D_erase 18 = .ok (.getfield 29, 3) := by decide +kernel
theorem d_D_erase_21 : decode b_D_erase 21 = .ok (.iload_n 1, 1) := by decide +kernel
theorem d_D_erase_22 : decode b_D_erase 22 = .ok (.baload, 1) := by decide +kernel
theorem d_D_erase_23 : decode b_D_erase 23 = .ok (.iload_n 2, 1) := by decide +kernel
theorem d_D_erase_24 : decode b_D_erase 24 = .ok (.if_icmp .ne 5, 3) := by decide +kernel
theorem d_D_erase_27 : decode b_D_erase 27 = .ok (.iconst 0, 1) := by decide +kernel
theorem d_D_erase_28 : decode b_D_erase 28 = .ok (.ireturn, 1) := by decide +kernel
theorem d_D_erase_29 : decode b_D_erase 29 = .ok (.aload_n 0, 1) := by decide +kernel
theorem d_D_erase_30 : decode b_D_erase 30 = .ok (.getfield 29, 3) := by decide +kernel
theorem d_D_erase_33 : decode b_D_erase 33 = .ok (.iload_n 1, 1) := by decide +kernel
theorem d_D_erase_34 : decode b_D_erase 34 = .ok (.iload_n 2, 1) := by decide +kernel
theorem d_D_erase_35 : decode b_D_erase 35 = .ok (.bastore, 1) := by decide +kernel
theorem d_D_erase_36 : decode b_D_erase 36 = .ok (.iconst 1, 1) := by decide +kernel
theorem d_D_erase_37 : decode b_D_erase 37 = .ok (.ireturn, 1) := by decide +kernel
theorem d_D_way_0 : decode b_D_way 0 = .ok (.aload_n 0, 1) := by decide +kernel
theorem d_D_way_1 : decode b_D_way 1 = .ok (.iconst 0, 1) := by decide +kernel
theorem d_D_way_2 : decode b_D_way 2 = .ok (.putfield 75, 3) := by decide +kernel
theorem d_D_way_5 : decode b_D_way 5 = .ok (.aload_n 0, 1) := by decide +kernel
theorem d_D_way_6 : decode b_D_way 6 = .ok (.iload_n 1, 1) := by decide +kernel
theorem d_D_way_7 : decode b_D_way 7 = .ok (.invokevirtual 82, 3) := by decide +kernel
theorem d_D_way_10 : decode b_D_way 10 = .ok (.ifCond .eq 29, 3) := by decide +kernel
theorem d_D_way_13 : decode b_D_way 13 = .ok (.aload_n 0, 1) := by decide +kernel
theorem d_D_way_14 : decode b_D_way 14 = .ok (.iload_n 2, 1) := by decide +kernel
theorem d_D_way_15 : decode b_D_way 15 = .ok (.invokevirtual 82, 3) := by decide +kernel
theorem d_D_way_18 : decode b_D_way 18 = .ok (.ifCond .eq 21, 3) := by decide +kernel
theorem d_D_way_21 : decode b_D_way 21 = .ok (.iload_n 1, 1) := by decide +kernel
theorem d_D_way_22 : decode b_D_way 22 = .ok (.iload_n 2, 1) := by decide +kernel
theorem d_D_way_23 : decode b_D_way 23 = .ok (.if_icmp .eq 16, 3) := by decide +kernel
theorem d_D_way_26 : decode b_D_way 26 = .ok (.iload_n 3, 1) := by decide +kernel
theorem d_D_way_27 : decode b_D_way 27 = .ok (.ifCond .lt 12, 3) := by decide +kernel
theorem d_D_way_30 : decode b_D_way 30 = .ok (.aload_n 0, 1) := by decide +kernel
theorem d_D_way_31 : decode b_D_way 31 = .ok (.iload_n 1, 1) := by decide +kernel
theorem d_D_way_32 : decode b_D_way 32 = .ok (.iload_n 2, 1) := by decide +kernel
theorem d_D_way_33 : decode b_D_way 33 = .ok (.invokevirtual 133, 3) := by decide +kernel
theorem d_D_way_36 : decode b_D_way 36 = .ok (.ifCond .ne 5, 3) := by decide +kernel
theorem d_D_way_39 : decode b_D_way 39 = .ok (.iconst (-1), 1) := by decide +kernel
theorem d_D_way_40 : decode b_D_way 40 = .ok (.ireturn, 1) := by decide +kernel
theorem d_D_way_41 : decode b_D_way 41 = .ok (.iload_n 3, 1) := by decide +kernel
theorem d_D_way_42 : decode b_D_way 42 = .ok (.ifCond .ne 19, 3) := by decide +kernel
theorem d_D_way_45 : decode b_D_way 45 = .ok (.aload_n 0, 1) := by decide +kernel
theorem d_D_way_46 : decode b_D_way 46 = .ok (.getfield 32, 3) := by decide +kernel
theorem d_D_way_49 : decode b_D_way 49 = .ok (.iload_n 1, 1) := by decide +kernel
theorem d_D_way_50 : decode b_D_way 50 = .ok (.iload_n 2, 1) := by decide +kernel
theorem d_D_way_51 : decode b_D_way 51 = .ok (.if_icmp .ge 7, 3) := by decide +kernel
theorem d_D_way_54 : decode b_D_way 54 = .ok (.iload_n 1, 1) := by decide +kernel
theorem d_D_way_55 : decode b_D_way 55 = .ok (.goto 4, 3) := by decide +kernel
theorem d_D_way_58 : decode b_D_way 58 = .ok (.iload_n 2, 1) := by decide +kernel
theorem d_D_way_59 : decode b_D_way 59 = .ok (.iaload, 1) := by decide +kernel
theorem d_D_way_60 : decode b_D_way 60 = .ok (.ireturn, 1) := by decide +kernel
theorem d_D_way_61 : decode b_D_way 61 = .ok (.iload_n 3, 1) := by decide +kernel
theorem d_D_way_62 : decode b_D_way 62 = .ok (.iconst 1, 1) := by decide +kernel
theorem d_D_way_63 : decode b_D_way 63 = .ok (.if_icmp .ne 8, 3) := by decide +kernel
theorem d_D_way_66 : decode b_D_way 66 = .ok (.aload_n 0, 1) := by decide +kernel
theorem d_D_way_67 : decode b_D_way 67 = .ok (.getfield 127, 3) := by decide +kernel
theorem d_D_way_70 : decode b_D_way 70 = .ok (.ireturn, 1) := by decide +kernel
theorem d_D_way_71 : decode b_D_way 71 = .ok (.iload_n 3, 1) := by decide +kernel
theorem d_D_way_72 : decode b_D_way 72 = .ok (.iconst 2, 1) := by decide +kernel
theorem d_D_way_73 : decode b_D_way 73 = .ok (.isub, 1) := by decide +kernel
theorem d_D_way_74 : decode b_D_way 74 = .ok (.istore 4, 2) := by decide +kernel
theorem d_D_way_76 : decode b_D_way 76 = .ok (.iload 4, 2) := by decide +kernel
theorem d_D_way_78 : decode b_D_way 78 = .ok (.aload_n 0, 1) := by decide +kernel
theorem d_D_way_79 : decode b_D_way 79 = .ok (.getfield 127, 3) := by decide +kernel
theorem d_D_way_82 : decode b_D_way 82 = .ok (.if_icmp .lt 5, 3) := by decide +kernel
theorem d_D_way_85 : decode b_D_way 85 = .ok (.iconst (-1), 1) := by decide +kernel
theorem d_D_way_86 : decode b_D_way 86 = .ok (.ireturn, 1) := by decide +kernel
theorem d_D_way_87 : decode b_D_way 87 = .ok (.aload_n 0, 1) := by decide +kernel
theorem d_D_way_88 : decode b_D_way 88 = .ok (.getfield 38, 3) := by decide +kernel
theorem d_D_way_91 : decode b_D_way 91 = .ok (.iload_n 1, 1) := by decide +kernel
theorem d_D_way_92 : decode b_D_way 92 = .ok (.iload_n 2, 1) := by decide +kernel
theorem d_D_way_93 : decode b_D_way 93 = .ok (.if_icmp .ge 8, 3) := by decide +kernel
theorem d_D_way_96 : decode b_D_way 96 = .ok (.iload 4, 2) := by decide +kernel
theorem d_D_way_98 : decode b_D_way 98 = .ok (.goto 12, 3) := by decide +kernel
theorem d_D_way_101 : decode b_D_way 101 = .ok (.aload_n 0, 1) := by decide +kernel
theorem d_D_way_102 : decode b_D_way 102 = .ok (.getfield 127, 3) := by decide +kernel
theorem d_D_way_105 : decode b_D_way 105 = .ok (.iconst 1, 1) := by decide +kernel
theorem d_D_way_106 : decode b_D_way 106 = .ok (.isub, 1) := by decide +kernel
theorem d_D_way_107 : decode b_D_way 107 = .ok (.iload 4, 2) := by decide +kernel
theorem d_D_way_109 : decode b_D_way 109 = .ok (.isub, 1) := by decide +kernel
theorem d_D_way_110 : decode b_D_way 110 = .ok (.iaload, 1) := by decide +kernel
theorem d_D_way_111 : decode b_D_way 111 = .ok (.ireturn, 1) := by decide +kernel
theorem d_D_lay_0 : decode b_D_lay 0 = .ok (.iload_n 1, 1) := by decide +kernel
theorem d_D_lay_1 : decode b_D_lay 1 = .ok (.iload_n 2, 1) := by decide +kernel
theorem d_D_lay_2 : decode b_D_lay 2 = .ok (.if_icmp .ge 7, 3) := by decide +kernel
theorem d_D_lay_5 : decode b_D_lay 5 = .ok (.iload_n 1, 1) := by decide +kernel
theorem d_D_lay_6 : decode b_D_lay 6 = .ok (.goto 4, 3) := by decide +kernel
theorem d_D_lay_9 : decode b_D_lay 9 = .ok (.iload_n 2, 1) := by decide +kernel
theorem d_D_lay_10 : decode b_D_lay 10 = .ok (.istore_n 3, 1) := by decide +kernel
theorem d_D_lay_11 : decode b_D_lay 11 = .ok (.iload_n 1, 1) := by decide +kernel
theorem d_D_lay_12 : decode b_D_lay 12 = .ok (.iload_n 2, 1) := by decide +kernel
theorem d_D_lay_13 : decode b_D_lay 13 = .ok (.if_icmp .ge 7, 3) := by decide +kernel
theorem d_D_lay_16 : decode b_D_lay 16 = .ok (.iload_n 2, 1) := by decide +kernel
theorem d_D_lay_17 : decode b_D_lay 17 = .ok (.goto 4, 3) := by decide +kernel
theorem d_D_lay_20 : decode b_D_lay 20 = .ok (.iload_n 1, 1) := by decide +kernel
theorem d_D_lay_21 : decode b_D_lay 21 = .ok (.istore 4, 2) := by decide +kernel
theorem d_D_lay_23 : decode b_D_lay 23 = .ok (.aload_n 0, 1) := by decide +kernel
theorem d_D_lay_24 : decode b_D_lay 24 = .ok (.iload 4, 2) := by decide +kernel
theorem d_D_lay_26 : decode b_D_lay 26 = .ok (.invokevirtual 123, 3) := by decide +kernel
theorem d_D_lay_29 : decode b_D_lay 29 = .ok (.aload_n 0, 1) := by decide +kernel
theorem d_D_lay_30 : decode b_D_lay 30 = .ok (.iconst 0, 1) := by decide +kernel
theorem d_D_lay_31 : decode b_D_lay 31 = .ok (.putfield 127, 3) := by decide +kernel
theorem d_D_lay_34 : decode b_D_lay 34 = .ok (.aload_n 0, 1) := by decide +kernel
theorem d_D_lay_35 : decode b_D_lay 35 = .ok (.getfield 32, 3) := by decide +kernel
theorem d_D_lay_38 : decode b_D_lay 38 = .ok (.iload_n 3, 1) := by decide +kernel
theorem d_D_lay_39 : decode b_D_lay 39 = .ok (.iaload, 1) := by decide +kernel
theorem d_D_lay_40 : decode b_D_lay 40 = .ok (.ifCond .ge 5, 3) := by decide +kernel
theorem d_D_lay_43 : decode b_D_lay 43 = .ok (.iconst 0, 1) := by decide +kernel
theorem d_D_lay_44 : decode b_D_lay 44 = .ok (.ireturn, 1) := by decide +kernel
theorem d_D_lay_45 : decode b_D_lay 45 = .ok (.iload_n 3, 1) := by decide +kernel
theorem d_D_lay_46 : decode b_D_lay 46 = .ok (.iload 4, 2) := by decide +kernel
theorem d_D_lay_48 : decode b_D_lay 48 = .ok (.if_icmp .eq 54, 3) := by decide +kernel
theorem d_D_lay_51 : decode b_D_lay 51 = .ok (.aload_n 0, 1) := by decide +kernel
theorem d_D_lay_52 : decode b_D_lay 52 = .ok (.iload_n 3, 1) := by decide +kernel
theorem d_D_lay_53 : decode b_D_lay 53 = .ok (.iload 4, 2) := by decide +kernel
theorem d_D_lay_55 : decode b_D_lay 55 = .ok (.invokevirtual 130, 3) := by decide +kernel
theorem d_D_lay_58 : decode b_D_lay 58 = .ok (.istore 5, 2) := by decide +kernel
theorem d_D_lay_60 : decode b_D_lay 60 = .ok (.aload_n 0, 1) := by decide +kernel
theorem d_D_lay_61 : decode b_D_lay 61 = .ok (.getfield 38, 3) := by decide +kernel
theorem d_D_lay_64 : decode b_D_lay 64 = .ok (.aload_n 0, 1) := by decide +kernel
theorem d_D_lay_65 : decode b_D_lay 65 = .ok (.getfield 127, 3) := by decide +kernel
theorem d_D_lay_68 : decode b_D_lay 68 = .ok (.iload 5, 2) := by decide +kernel
theorem d_D_lay_70 : decode b_D_lay 70 = .ok (.iastore, 1) := by decide +kernel
theorem d_D_lay_71 : decode b_D_lay 71 = .ok (.aload_n 0, 1) := by decide +kernel
theorem d_D_lay_72 : decode b_D_lay 72 = .ok (.dup, 1) := by decide +kernel
theorem d_D_lay_73 : decode b_D_lay 73 = .ok (.getfield 127, 3) := by decide +kernel
theorem d_D_lay_76 : decode b_D_lay 76 = .ok (.iconst 1, 1) := by decide +kernel
theorem d_D_lay_77 : decode b_D_lay 77 = .ok (.iadd, 1) := by decide +kernel
theorem d_D_lay_78 : decode b_D_lay 78 = .ok (.putfield 127, 3) := by decide +kernel
theorem d_D_lay_81 : decode b_D_lay 81 = .ok (.aload_n 0, 1) := by decide +kernel
theorem d_D_lay_82 : decode b_D_lay 82 = .ok (.getfield 17, 3) := by decide +kernel
theorem d_D_lay_85 : decode b_D_lay 85 = .ok (.iload 5, 2) := by decide +kernel
theorem d_D_lay_87 : decode b_D_lay 87 = .ok (.iaload, 1) := by decide +kernel
theorem d_D_lay_88 : decode b_D_lay 88 = .ok (.aload_n 0, 1) := by decide +kernel
theorem d_D_lay_89 : decode b_D_lay 89 = .ok (.getfield 20, 3) := by decide +kernel
theorem d_D_lay_92 : decode b_D_lay 92 = .ok (.iload 5, 2) := by decide +kernel
theorem d_D_lay_94 : decode b_D_lay 94 = .ok (.iaload, 1) := by decide +kernel
theorem d_D_lay_95 : decode b_D_lay 95 = .ok (.iadd, 1) := by decide +kernel
theorem d_D_lay_96 : decode b_D_lay 96 = .ok (.iload_n 3, 1) := by decide +kernel
theorem d_D_lay_97 : decode b_D_lay 97 = .ok (.isub, 1) := by decide +kernel
theorem d_D_lay_98 : decode b_D_lay 98 = .ok (.istore_n 3, 1) := by decide +kernel
theorem d_D_lay_99 : decode b_D_lay 99 = .ok (.goto (-54), 3) := by decide +kernel
theorem d_D_lay_102 : decode b_D_lay 102 = .ok (.iconst 1, 1) := by decide +kernel
theorem d_D_lay_103 : decode b_D_lay 103 = .ok (.ireturn, 1) := by decide +kernel
theorem d_D_findTo_0 : decode b_D_findTo 0 = .ok (.iconst 0, 1) := by decide +kernel
theorem d_D_findTo_1 : decode b_D_findTo 1 = .ok (.istore_n 2, 1) := by decide +kernel
theorem d_D_findTo_2 : decode b_D_findTo 2 = .ok (.iload_n 2, 1) := by decide +kernel
theorem d_D_findTo_3 : decode b_D_findTo 3 = .ok (.bipush 20, 2) := by decide +kernel
theorem d_D_findTo_5 : decode b_D_findTo 5 = .ok (.if_icmp .ge 23, 3) := by decide +kernel
theorem d_D_findTo_8 : decode b_D_findTo 8 = .ok (.aload_n 0, 1) := by decide +kernel
theorem d_D_findTo_9 : decode b_D_findTo 9 = .ok (.getfield 32, 3) := by decide +kernel
theorem d_D_findTo_12 : decode b_D_findTo 12 = .ok (.iload_n 2, 1) := by decide +kernel
theorem d_D_findTo_13 : decode b_D_findTo 13 = .ok (.iconst (-1), 1) := by decide +kernel
theorem d_D_findTo_14 : decode b_D_findTo 14 = .ok (.iastore, 1) := by decide +kernel
theorem d_D_findTo_15 : decode b_D_findTo 15 = .ok (.aload_n 0, 1) := by decide +kernel
theorem d_D_findTo_16 : decode b_D_findTo 16 = .ok (.getfield 35, 3) := by decide +kernel
theorem d_D_findTo_19 : decode b_D_findTo 19 = .ok (.iload_n 2, 1) := by decide +kernel
theorem d_D_findTo_20 : decode b_D_findTo 20 = .ok (.iconst (-1), 1) := by decide +kernel
theorem d_D_findTo_21 : decode b_D_findTo 21 = .ok (.iastore, 1) := by decide +kernel
theorem d_D_findTo_22 : decode b_D_findTo 22 = .ok (.iinc 2 1, 3) := by decide +kernel
theorem d_D_findTo_25 : decode b_D_findTo 25 = .ok (.goto (-23), 3) := by decide +kernel
theorem d_D_findTo_28 : decode b_D_findTo 28 = .ok (.aload_n 0, 1) := by decide +kernel
theorem d_D_findTo_29 : decode b_D_findTo 29 = .ok (.getfield 32, 3) := by decide +kernel
theorem d_D_findTo_32 : decode b_D_findTo 32 = .ok (.iload_n 1, 1) := by decide +kernel
theorem d_D_findTo_33 : decode b_D_findTo 33 = .ok (.iconst 0, 1) := by decide +kernel
theorem d_D_findTo_34 : decode b_D_findTo 34 = .ok (.iastore, 1) := by decide +kernel
theorem d_D_findTo_35 : decode b_D_findTo 35 = .ok (.aload_n 0, 1) := by decide +kernel
theorem d_D_findTo_36 : decode b_D_findTo 36 = .ok (.getfield 35, 3) := by decide +kernel
theorem d_D_findTo_39 : decode b_D_findTo 39 = .ok (.iload_n 1, 1) := by decide +kernel
theorem d_D_findTo_40 : decode b_D_findTo 40 = .ok (.iconst 0, 1) := by decide +kernel
theorem d_D_findTo_41 : decode b_D_findTo 41 = .ok (.iastore, 1) := by decide +kernel
theorem d_D_findTo_42 : decode b_D_findTo 42 = .ok (.iconst 1, 1) := by decide +kernel
theorem d_D_findTo_43 : decode b_D_findTo 43 = .ok (.istore_n 2, 1) := by decide +kernel
theorem d_D_findTo_44 : decode b_D_findTo 44 = .ok (.iload_n 2, 1) := by decide +kernel
theorem d_D_findTo_45 : decode b_D_findTo 45 = .ok (.ifCond .eq 84, 3) := by decide +kernel
theorem d_D_findTo_48 : decode b_D_findTo 48 = .ok (.iconst 0, 1) := by decide +kernel
theorem d_D_findTo_49 : decode b_D_findTo 49 = .ok (.istore_n 2, 1) := by decide +kernel
theorem d_D_findTo_50 : decode b_D_findTo 50 = .ok (.iconst 0, 1) := by decide +kernel
theorem d_D_findTo_51 : decode b_D_findTo 51 = .ok (.istore_n 3, 1) := by decide +kernel
theorem d_D_findTo_52 : decode b_D_findTo 52 = .ok (.iload_n 3, 1) := by decide +kernel
theorem d_D_findTo_53 : decode b_D_findTo 53 = .ok (.aload_n 0, 1) := by decide +kernel
theorem d_D_findTo_54 : decode b_D_findTo 54 = .ok (.getfield 87, 3) := by decide +kernel
theorem d_D_findTo_57 : decode b_D_findTo 57 = .ok (.if_icmp .ge 69, 3) := by decide +kernel
theorem d_D_findTo_60 : decode b_D_findTo 60 = .ok (.aload_n 0, 1) := by decide +kernel
theorem d_D_findTo_61 : decode b_D_findTo 61 = .ok (.iload_n 3, 1) := by decide +kernel
theorem d_D_findTo_62 : decode b_D_findTo 62 = .ok (.aload_n 0, 1) := by decide +kernel
theorem d_D_findTo_63 : decode b_D_findTo 63 = .ok (.getfield 17, 3) := by decide +kernel
theorem d_D_findTo_66 : decode b_D_findTo 66 = .ok (.iload_n 3, 1) := by decide +kernel
theorem d_D_findTo_67 : decode b_D_findTo 67 = .ok (.iaload, 1) := by decide +kernel
theorem d_D_findTo_68 : decode b_D_findTo 68 = .ok (.aload_n 0, 1) := by decide +kernel
theorem d_D_findTo_69 : decode b_D_findTo 69 = .ok (.getfield 20, 3) := by decide +kernel
theorem d_D_findTo_72 : decode b_D_findTo 72 = .ok (.iload_n 3, 1) := by decide +kernel
theorem d_D_findTo_73 : decode b_D_findTo 73 = .ok (.iaload, 1) := by decide +kernel
theorem d_D_findTo_74 : decode b_D_findTo 74 = .ok (.iload_n 1, 1) := by decide +kernel
theorem d_D_findTo_75 : decode b_D_findTo 75 = .ok (.invokevirtual 120, 3) := by decide +kernel
theorem d_D_findTo_78 : decode b_D_findTo 78 = .ok (.istore 4, 2) := by decide +kernel
theorem d_D_findTo_80 : decode b_D_findTo 80 = .ok (.aload_n 0, 1) := by decide +kernel
theorem d_D_findTo_81 : decode b_D_findTo 81 = .ok (.iload_n 3, 1) := by decide +kernel
theorem d_D_findTo_82 : decode b_D_findTo 82 = .ok (.aload_n 0, 1) := by decide +kernel
theorem d_D_findTo_83 : decode b_D_findTo 83 = .ok (.getfield 20, 3) := by decide +kernel
theorem d_D_findTo_86 : decode b_D_findTo 86 = .ok (.iload_n 3, 1) := by decide +kernel
theorem d_D_findTo_87 : decode b_D_findTo 87 = .ok (.iaload, 1) := by decide +kernel
theorem d_D_findTo_88 : decode b_D_findTo 88 = .ok (.aload_n 0, 1) := by decide +kernel
theorem d_D_findTo_89 : decode b_D_findTo 89 = .ok (.getfield 17, 3) := by decide +kernel
theorem d_D_findTo_92 : decode b_D_findTo 92 = .ok (.iload_n 3, 1) := by decide +kernel
theorem d_D_findTo_93 : decode b_D_findTo 93 = .ok (.iaload, 1) := by decide +kernel
theorem d_D_findTo_94 : decode b_D_findTo 94 = .ok (.iload_n 1, 1) := by decide +kernel
theorem d_D_findTo_95 : decode b_D_findTo 95 = .ok (.invokevirtual 120, 3) := by decide +kernel
theorem d_D_findTo_98 : decode b_D_findTo 98 = .ok (.istore 5, 2) := by decide +kernel
theorem d_D_findTo_100 : decode b_D_findTo 100 = .ok (.iload_n 2, 1) := by decide +kernel
theorem d_D_findTo_101 : decode b_D_findTo 101 = .ok (.ifCond .ne 13, 3) := by decide +kernel
theorem d_D_findTo_104 : decode b_D_findTo 104 = .ok (.iload 4, 2) := by decide +kernel
theorem d_D_findTo_106 : decode b_D_findTo 106 = .ok (.ifCond .ne 8, 3) := by decide +kernel
theorem d_D_findTo_109 : decode b_D_findTo 109 = .ok (.iload 5, 2) := by decide +kernel
theorem d_D_findTo_111 : decode b_D_findTo 111 = .ok (.ifCond .eq 7, 3) := by decide +kernel
theorem d_D_findTo_114 : decode b_D_findTo 114 = .ok (.iconst 1, 1) := by decide +kernel
theorem d_D_findTo_115 : decode b_D_findTo 115 = .ok (.goto 4, 3) := by decide +kernel
theorem d_D_findTo_118 : decode b_D_findTo 118 = .ok (.iconst 0, 1) := by decide +kernel
theorem d_D_findTo_119 : decode b_D_findTo 119 = .ok (.istore_n 2, 1) := by decide +kernel
theorem d_D_findTo_120 : decode b_D_findTo 120 = .ok (.iinc 3 1, 3) := by decide +kernel
theorem d_D_findTo_123 : decode b_D_findTo 123 = .ok (.goto (-71), 3) := by decide +kernel
theorem d_D_findTo_126 : decode b_D_findTo 126 = .ok (.goto (-82), 3) := by decide +kernel
theorem d_D_findTo_129 : decode b_D_findTo 129 = .ok (.return_, 1) := by decide +kernel
theorem d_D_relax_0 : decode b_D_relax 0 = .ok (.iload_n 2, 1) := by decide +kernel
theorem d_D_relax_1 : decode b_D_relax 1 = .ok (.iload 4, 2) := by decide +kernel
theorem d_D_relax_3 : decode b_D_relax 3 = .ok (.if_icmp .eq 13, 3) := by decide +kernel
theorem d_D_relax_6 : decode b_D_relax 6 = .ok (.aload_n 0, 1) := by decide +kernel
theorem d_D_relax_7 : decode b_D_relax 7 = .ok (.iload_n 3, 1) := by decide +kernel
theorem d_D_relax_8 : decode b_D_relax 8 = .ok (.iload 4, 2) := by decide +kernel
theorem d_D_relax_10 : decode b_D_relax 10 = .ok (.invokevirtual 113, 3) := by decide +kernel
theorem d_D_relax_13 : decode b_D_relax 13 = .ok (.ifCond .ne 5, 3) := by decide +kernel
theorem d_D_relax_16 : decode b_D_relax 16 = .ok (.iconst 0, 1) := by decide +kernel
theorem d_D_relax_17 : decode b_D_relax 17 = .ok (.ireturn, 1) := by decide +kernel
theorem d_D_relax_18 : decode b_D_relax 18 = .ok (.aload_n 0, 1) := by decide +kernel
theorem d_D_relax_19 : decode b_D_relax 19 = .ok (.getfield 32, 3) := by decide +kernel
theorem d_D_relax_22 : decode b_D_relax 22 = .ok (.iload_n 3, 1) := by decide +kernel
theorem d_D_relax_23 : decode b_D_relax 23 = .ok (.iaload, 1) := by decide +kernel
theorem d_D_relax_24 : decode b_D_relax 24 = .ok (.aload_n 0, 1) := by decide +kernel
theorem d_D_relax_25 : decode b_D_relax 25 = .ok (.iload_n 1, 1) := by decide +kernel
theorem d_D_relax_26 : decode b_D_relax 26 = .ok (.invokevirtual 117, 3) := by decide +kernel
theorem d_D_relax_29 : decode b_D_relax 29 = .ok (.iadd, 1) := by decide +kernel
theorem d_D_relax_30 : decode b_D_relax 30 = .ok (.istore 5, 2) := by decide +kernel
theorem d_D_relax_32 : decode b_D_relax 32 = .ok (.aload_n 0, 1) := by decide +kernel
theorem d_D_relax_33 : decode b_D_relax 33 = .ok (.getfield 35, 3) := by decide +kernel
theorem d_D_relax_36 : decode b_D_relax 36 = .ok (.iload_n 3, 1) := by decide +kernel
theorem d_D_relax_37 : decode b_D_relax 37 = .ok (.iaload, 1) := by decide +kernel
theorem d_D_relax_38 : decode b_D_relax 38 = .ok (.iconst 1, 1) := by decide +kernel
theorem d_D_relax_39 : decode b_D_relax 39 = .ok (.iadd, 1) := by decide +kernel
theorem d_D_relax_40 : decode b_D_relax 40 = .ok (.istore 6, 2) := by decide +kernel
theorem d_D_relax_42 : decode b_D_relax 42 = .ok (.aload_n 0, 1) := by decide +kernel
theorem d_D_relax_43 : decode b_D_relax 43 = .ok (.getfield 32, 3) := by decide +kernel
theorem d_D_relax_46 : decode b_D_relax 46 = .ok (.iload_n 2, 1) := by decide +kernel
theorem d_D_relax_47 : decode b_D_relax 47 = .ok (.iaload, 1) := by decide +kernel
theorem d_D_relax_48 : decode b_D_relax 48 = .ok (.ifCond .lt 38, 3) := by decide +kernel
theorem d_D_relax_51 : decode b_D_relax 51 = .ok (.iload 5, 2) := by decide +kernel
theorem d_D_relax_53 : decode b_D_relax 53 = .ok (.aload_n 0, 1) := by decide +kernel
theorem d_D_relax_54 : decode b_D_relax 54 = .ok (.getfield 32, 3) := by decide +kernel
theorem d_D_relax_57 : decode b_D_relax 57 = .ok (.iload_n 2, 1) := by decide +kernel
theorem d_D_relax_58 : decode b_D_relax 58 = .ok (.iaload, 1) := by decide +kernel
theorem d_D_relax_59 : decode b_D_relax 59 = .ok (.if_icmp .gt 25, 3) := by decide +kernel
theorem d_D_relax_62 : decode b_D_relax 62 = .ok (.iload 5, 2) := by decide +kernel
theorem d_D_relax_64 : decode b_D_relax 64 = .ok (.aload_n 0, 1) := by decide +kernel
theorem d_D_relax_65 : decode b_D_relax 65 = .ok (.getfield 32, 3) := by decide +kernel
theorem d_D_relax_68 : decode b_D_relax 68 = .ok (.iload_n 2, 1) := by decide +kernel
theorem d_D_relax_69 : decode b_D_relax 69 = .ok (.iaload, 1) := by decide +kernel
theorem d_D_relax_70 : decode b_D_relax 70 = .ok (.if_icmp .ne 16, 3) := by decide +kernel
theorem d_D_relax_73 : decode b_D_relax 73 = .ok (.iload 6, 2) := by decide +kernel
theorem d_D_relax_75 : decode b_D_relax 75 = .ok (.aload_n 0, 1) := by decide +kernel
theorem d_D_relax_76 : decode b_D_relax 76 = .ok (.getfield 35, 3) := by decide +kernel
theorem d_D_relax_79 : decode b_D_relax 79 = .ok (.iload_n 2, 1) := by decide +kernel
theorem d_D_relax_80 : decode b_D_relax 80 = .ok (.iaload, 1) := by decide +kernel
theorem d_D_relax_81 : decode b_D_relax 81 = .ok (.if_icmp .lt 5, 3) := by decide +kernel
theorem d_D_relax_84 : decode b_D_relax 84 = .ok (.iconst 0, 1) := by decide +kernel
theorem d_D_relax_85 : decode b_D_relax 85 = .ok (.ireturn, 1) := by decide +kernel
theorem d_D_relax_86 : decode b_D_relax 86 = .ok (.aload_n 0, 1) := by decide +kernel
theorem d_D_relax_87 : decode b_D_relax 87 = .ok (.getfield 32, 3) := by decide +kernel
theorem d_D_relax_90 : decode b_D_relax 90 = .ok (.iload_n 2, 1) := by decide +kernel
theorem d_D_relax_91 : decode b_D_relax 91 = .ok (.iload 5, 2) := by decide +kernel
theorem d_D_relax_93 : decode b_D_relax 93 = .ok (.iastore, 1) := by decide +kernel
theorem d_D_relax_94 : decode b_D_relax 94 = .ok (.aload_n 0, 1) := by decide +kernel
theorem d_D_relax_95 : decode b_D_relax 95 = .ok (.getfield 35, 3) := by decide +kernel
theorem d_D_relax_98 : decode b_D_relax 98 = .ok (.iload_n 2, 1) := by decide +kernel
theorem d_D_relax_99 : decode b_D_relax 99 = .ok (.iload 6, 2) := by decide +kernel
theorem d_D_relax_101 : decode b_D_relax 101 = .ok (.iastore, 1) := by decide +kernel
theorem d_D_relax_102 : decode b_D_relax 102 = .ok (.iconst 1, 1) := by decide +kernel
theorem d_D_relax_103 : decode b_D_relax 103 = .ok (.ireturn, 1) := by decide +kernel
theorem d_D_goesOn_0 : decode b_D_goesOn 0 = .ok (.aload_n 0, 1) := by decide +kernel
theorem d_D_goesOn_1 : decode b_D_goesOn 1 = .ok (.getfield 32, 3) := by decide +kernel
theorem d_D_goesOn_4 : decode b_D_goesOn 4 = .ok (.iload_n 1, 1) := by decide +kernel
theorem d_D_goesOn_5 : decode b_D_goesOn 5 = .ok (.iaload, 1) := by decide +kernel
theorem d_D_goesOn_6 : decode b_D_goesOn 6 = .ok (.ifCond .lt 21, 3) := by decide +kernel
theorem d_D_goesOn_9 : decode b_D_goesOn 9 = .ok (.iload_n 1, 1) := by decide +kernel
theorem d_D_goesOn_10 : decode b_D_goesOn 10 = .ok (.iload_n 2, 1) := by decide +kernel
theorem d_D_goesOn_11 : decode b_D_goesOn 11 = .ok (.if_icmp .eq 12, 3) := by decide +kernel
theorem d_D_goesOn_14 : decode b_D_goesOn 14 = .ok (.aload_n 0, 1) := by decide +kernel
theorem d_D_goesOn_15 : decode b_D_goesOn 15 = .ok (.getfield 7, 3) := by decide +kernel
theorem d_D_goesOn_18 : decode b_D_goesOn 18 = .ok (.iload_n 1, 1) := by decide +kernel
theorem d_D_goesOn_19 : decode b_D_goesOn 19 = .ok (.baload, 1) := by decide +kernel
theorem d_D_goesOn_20 : decode b_D_goesOn 20 = .ok (.ifCond .ne 7, 3) := by decide +kernel
theorem d_D_goesOn_23 : decode b_D_goesOn 23 = .ok (.iconst 1, 1) := by decide +kernel
theorem d_D_goesOn_24 : decode b_D_goesOn 24 = .ok (.goto 4, 3) := by decide +kernel
theorem d_D_goesOn_27 : decode b_D_goesOn 27 = .ok (.iconst 0, 1) := by decide +kernel
theorem d_D_goesOn_28 : decode b_D_goesOn 28 = .ok (.ireturn, 1) := by decide +kernel
theorem d_D_heavy_0 : decode b_D_heavy 0 = .ok (.aload_n 0, 1) := by decide +kernel
theorem d_D_heavy_1 : decode b_D_heavy 1 = .ok (.getfield 29, 3) := by decide +kernel
theorem d_D_heavy_4 : decode b_D_heavy 4 = .ok (.iload_n 1, 1) := by decide +kernel
theorem d_D_heavy_5 : decode b_D_heavy 5 = .ok (.baload, 1) := by decide +kernel
theorem d_D_heavy_6 : decode b_D_heavy 6 = .ok (.ifCond .eq 7, 3) := by decide +kernel
theorem d_D_heavy_9 : decode b_D_heavy 9 = .ok (.iconst 0, 1) := by decide +kernel
theorem d_D_heavy_10 : decode b_D_heavy 10 = .ok (.goto 9, 3) := by decide +kernel
theorem d_D_heavy_13 : decode b_D_heavy 13 = .ok (.aload_n 0, 1) := by decide +kernel
theorem d_D_heavy_14 : decode b_D_heavy 14 = .ok (.getfield 23, 3) := by decide +kernel
theorem d_D_heavy_17 : decode b_D_heavy 17 = .ok (.iload_n 1, 1) := by decide +kernel
theorem d_D_heavy_18 : decode b_D_heavy 18 = .ok (.iaload, 1) := by decide +kernel
theorem d_D_heavy_19 : decode b_D_heavy 19 = .ok (.ireturn, 1) := by decide +kernel
theorem d_D_nextEdge_0 : decode b_D_nextEdge 0 = .ok (.iconst 0, 1) := by decide +kernel
theorem d_D_nextEdge_1 : decode b_D_nextEdge 1 = .ok (.istore_n 3, 1) := by decide +kernel
theorem d_D_nextEdge_2 : decode b_D_nextEdge 2 = .ok (.iload_n 3, 1) := by decide +kernel
theorem d_D_nextEdge_3 : decode b_D_nextEdge 3 = .ok (.aload_n 0, 1) := by decide +kernel
theorem d_D_nextEdge_4 : decode b_D_nextEdge 4 = .ok (.getfield 87, 3) := by decide +kernel
theorem d_D_nextEdge_7 : decode b_D_nextEdge 7 = .ok (.if_icmp .ge 101, 3) := by decide +kernel
theorem d_D_nextEdge_10 : decode b_D_nextEdge 10 = .ok (.aload_n 0, 1) := by decide +kernel
theorem d_D_nextEdge_11 : decode b_D_nextEdge 11 = .ok (.getfield 17, 3) := by decide +kernel
theorem d_D_nextEdge_14 : decode b_D_nextEdge 14 = .ok (.iload_n 3, 1) := by decide +kernel
theorem d_D_nextEdge_15 : decode b_D_nextEdge 15 = .ok (.iaload, 1) := by decide +kernel
theorem d_D_nextEdge_16 : decode b_D_nextEdge 16 = .ok (.iload_n 1, 1) := by decide +kernel
theorem d_D_nextEdge_17 : decode b_D_nextEdge 17 = .ok (.if_icmp .eq 16, 3) := by decide +kernel
theorem d_D_nextEdge_20 : decode b_D_nextEdge 20 = .ok (.aload_n 0, 1) := by decide +kernel
theorem d_D_nextEdge_21 : decode b_D_nextEdge 21 = .ok (.getfield 20, 3) := by decide +kernel
theorem d_D_nextEdge_24 : decode b_D_nextEdge 24 = .ok (.iload_n 3, 1) := by decide +kernel
theorem d_D_nextEdge_25 : decode b_D_nextEdge 25 = .ok (.iaload, 1) := by decide +kernel
theorem d_D_nextEdge_26 : decode b_D_nextEdge 26 = .ok (.iload_n 1, 1) := by decide +kernel
theorem d_D_nextEdge_27 : decode b_D_nextEdge 27 = .ok (.if_icmp .eq 6, 3) := by decide +kernel
theorem d_D_nextEdge_30 : decode b_D_nextEdge 30 = .ok (.goto 72, 3) := by decide +kernel
theorem d_D_nextEdge_33 : decode b_D_nextEdge 33 = .ok (.aload_n 0, 1) := by decide +kernel
theorem d_D_nextEdge_34 : decode b_D_nextEdge 34 = .ok (.getfield 17, 3) := by decide +kernel
theorem d_D_nextEdge_37 : decode b_D_nextEdge 37 = .ok (.iload_n 3, 1) := by decide +kernel
theorem d_D_nextEdge_38 : decode b_D_nextEdge 38 = .ok (.iaload, 1) := by decide +kernel
theorem d_D_nextEdge_39 : decode b_D_nextEdge 39 = .ok (.aload_n 0, 1) := by decide +kernel
theorem d_D_nextEdge_40 : decode b_D_nextEdge 40 = .ok (.getfield 20, 3) := by decide +kernel
theorem d_D_nextEdge_43 : decode b_D_nextEdge 43 = .ok (.iload_n 3, 1) := by decide +kernel
theorem d_D_nextEdge_44 : decode b_D_nextEdge 44 = .ok (.iaload, 1) := by decide +kernel
theorem d_D_nextEdge_45 : decode b_D_nextEdge 45 = .ok (.iadd, 1) := by decide +kernel
theorem d_D_nextEdge_46 : decode b_D_nextEdge 46 = .ok (.iload_n 1, 1) := by decide +kernel
theorem d_D_nextEdge_47 : decode b_D_nextEdge 47 = .ok (.isub, 1) := by decide +kernel
theorem d_D_nextEdge_48 : decode b_D_nextEdge 48 = .ok (.istore 4, 2) := by decide +kernel
theorem d_D_nextEdge_50 : decode b_D_nextEdge 50 = .ok (.aload_n 0, 1) := by decide +kernel
theorem d_D_nextEdge_51 : decode b_D_nextEdge 51 = .ok (.iload 4, 2) := by decide +kernel
theorem d_D_nextEdge_53 : decode b_D_nextEdge 53 = .ok (.iload_n 2, 1) := by decide +kernel
theorem d_D_nextEdge_54 : decode b_D_nextEdge 54 = .ok (.invokevirtual 113, 3) := by decide +kernel
theorem d_D_nextEdge_57 : decode b_D_nextEdge 57 = .ok (.ifCond .eq 45, 3) := by decide +kernel
theorem d_D_nextEdge_60 : decode b_D_nextEdge 60 = .ok (.aload_n 0, 1) := by decide +kernel
theorem d_D_nextEdge_61 : decode b_D_nextEdge 61 = .ok (.getfield 32, 3) := by decide +kernel
theorem d_D_nextEdge_64 : decode b_D_nextEdge 64 = .ok (.iload 4, 2) := by decide +kernel
theorem d_D_nextEdge_66 : decode b_D_nextEdge 66 = .ok (.iaload, 1) := by decide +kernel
theorem d_D_nextEdge_67 : decode b_D_nextEdge 67 = .ok (.aload_n 0, 1) := by decide +kernel
theorem d_D_nextEdge_68 : decode b_D_nextEdge 68 = .ok (.iload_n 3, 1) := by decide +kernel
theorem d_D_nextEdge_69 : decode b_D_nextEdge 69 = .ok (.invokevirtual 117, 3) := by decide +kernel
theorem d_D_nextEdge_72 : decode b_D_nextEdge 72 = .ok (.iadd, 1) := by decide +kernel
theorem d_D_nextEdge_73 : decode b_D_nextEdge 73 = .ok (.aload_n 0, 1) := by decide +kernel
theorem d_D_nextEdge_74 : decode b_D_nextEdge 74 = .ok (.getfield 32, 3) := by decide +kernel
theorem d_D_nextEdge_77 : decode b_D_nextEdge 77 = .ok (.iload_n 1, 1) := by decide +kernel
theorem d_D_nextEdge_78 : decode b_D_nextEdge 78 = .ok (.iaload, 1) := by decide +kernel
theorem d_D_nextEdge_79 : decode b_D_nextEdge 79 = .ok (.if_icmp .ne 23, 3) := by decide +kernel
theorem d_D_nextEdge_82 : decode b_D_nextEdge 82 = .ok (.aload_n 0, 1) := by decide +kernel
theorem d_D_nextEdge_83 : decode b_D_nextEdge 83 = .ok (.getfield 35, 3) := by decide +kernel
theorem d_D_nextEdge_86 : decode b_D_nextEdge 86 = .ok (.iload 4, 2) := by decide +kernel
theorem d_D_nextEdge_88 : decode b_D_nextEdge 88 = .ok (.iaload, 1) := by decide +kernel
theorem d_D_nextEdge_89 : decode b_D_nextEdge 89 = .ok (.iconst 1, 1) := by decide +kernel
theorem d_D_nextEdge_90 : decode b_D_nextEdge 90 = .ok (.iadd, 1) := by decide +kernel
theorem d_D_nextEdge_91 : decode b_D_nextEdge 91 = .ok (.aload_n 0, 1) := by decide +kernel
theorem d_D_nextEdge_92 : decode b_D_nextEdge 92 = .ok (.getfield 35, 3) := by decide +kernel
theorem d_D_nextEdge_95 : decode b_D_nextEdge 95 = .ok (.iload_n 1, 1) := by decide +kernel
theorem d_D_nextEdge_96 : decode b_D_nextEdge 96 = .ok (.iaload, 1) := by decide +kernel
theorem d_D_nextEdge_97 : decode b_D_nextEdge 97 = .ok (.if_icmp .ne 5, 3) := by decide +kernel
theorem d_D_nextEdge_100 : decode b_D_nextEdge 100 = .ok (.iload_n 3, 1) := by decide +kernel
theorem d_D_nextEdge_101 : decode b_D_nextEdge 101 = .ok (.ireturn, 1) := by decide +kernel
theorem d_D_nextEdge_102 : decode b_D_nextEdge 102 = .ok (.iinc 3 1, 3) := by decide +kernel
theorem d_D_nextEdge_105 : decode b_D_nextEdge 105 = .ok (.goto (-103), 3) := by decide +kernel
theorem d_D_nextEdge_108 : decode b_D_nextEdge 108 = .ok (.iconst (-1), 1) := by decide +kernel
theorem d_D_nextEdge_109 : decode b_D_nextEdge 109 = .ok (.ireturn, 1) := by decide +kernel
