theorem d_P_init_0 : decode b_P_init 0 = .ok (.aload_n 0, 1) := by decide +kernel
theorem d_P_init_1 : decode b_P_init 1 = .ok (.invokespecial 1, 3) := by decide +kernel
theorem d_P_init_4 : decode b_P_init 4 = .ok (.aload_n 0, 1) := by decide +kernel
theorem d_P_init_5 : decode b_P_init 5 = .ok (.new 7, 3) := by decide +kernel
theorem d_P_init_8 : decode b_P_init 8 = .ok (.dup, 1) := by decide +kernel
theorem d_P_init_9 : decode b_P_init 9 = .ok (.invokespecial 9, 3) := by decide +kernel
theorem d_P_init_12 : decode b_P_init 12 = .ok (.putfield 10, 3) := by decide +kernel
theorem d_P_init_15 : decode b_P_init 15 = .ok (.aload_n 0, 1) := by decide +kernel
theorem d_P_init_16 : decode b_P_init 16 = .ok (.new 16, 3) := by decide +kernel
theorem d_P_init_19 : decode b_P_init 19 = .ok (.dup, 1) := by decide +kernel
theorem d_P_init_20 : decode b_P_init 20 = .ok (.aload_n 0, 1) := by decide +kernel
theorem d_P_init_21 : decode b_P_init 21 = .ok (.getfield 10, 3) := by decide +kernel
theorem d_P_init_24 : decode b_P_init 24 = .ok (.invokespecial 18, 3) := by decide +kernel
theorem d_P_init_27 : decode b_P_init 27 = .ok (.putfield 21, 3) := by decide +kernel
theorem d_P_init_30 : decode b_P_init 30 = .ok (.aload_n 0, 1) := by decide +kernel
theorem d_P_init_31 : decode b_P_init 31 = .ok (.new 25, 3) := by decide +kernel
theorem d_P_init_34 : decode b_P_init 34 = .ok (.dup, 1) := by decide +kernel
theorem d_P_init_35 : decode b_P_init 35 = .ok (.aload_n 0, 1) := by decide +kernel
theorem d_P_init_36 : decode b_P_init 36 = .ok (.getfield 10, 3) := by decide +kernel
theorem d_P_init_39 : decode b_P_init 39 = .ok (.aload_n 0, 1) := by decide +kernel
theorem d_P_init_40 : decode b_P_init 40 = .ok (.getfield 21, 3) := by decide +kernel
theorem d_P_init_43 : decode b_P_init 43 = .ok (.invokespecial 27, 3) := by decide +kernel
theorem d_P_init_46 : decode b_P_init 46 = .ok (.putfield 30, 3) := by decide +kernel
theorem d_P_init_49 : decode b_P_init 49 = .ok (.aload_n 0, 1) := by decide +kernel
theorem d_P_init_50 : decode b_P_init 50 = .ok (.new 34, 3) := by decide +kernel
theorem d_P_init_53 : decode b_P_init 53 = .ok (.dup, 1) := by decide +kernel
theorem d_P_init_54 : decode b_P_init 54 = .ok (.invokespecial 36, 3) := by decide +kernel
theorem d_P_init_57 : decode b_P_init 57 = .ok (.putfield 37, 3) := by decide +kernel
theorem d_P_init_60 : decode b_P_init 60 = .ok (.aload_n 0, 1) := by decide +kernel
theorem d_P_init_61 : decode b_P_init 61 = .ok (.iconst 0, 1) := by decide +kernel
theorem d_P_init_62 : decode b_P_init 62 = .ok (.putfield 41, 3) := by decide +kernel
theorem d_P_init_65 : decode b_P_init 65 = .ok (.aload_n 0, 1) := by decide +kernel
theorem d_P_init_66 : decode b_P_init 66 = .ok (.lconst 0, 1) := by decide +kernel
theorem d_P_init_67 : decode b_P_init 67 = .ok (.putfield 45, 3) := by decide +kernel
theorem d_P_init_70 : decode b_P_init 70 = .ok (.return_, 1) := by decide +kernel
theorem d_P_point_0 : decode b_P_point 0 = .ok (.iload_n 2, 1) := by decide +kernel
theorem d_P_point_1 : decode b_P_point 1 = .ok (.ifCond .lt 21, 3) := by decide +kernel
theorem d_P_point_4 : decode b_P_point 4 = .ok (.iload_n 2, 1) := by decide +kernel
theorem d_P_point_5 : decode b_P_point 5 = .ok (.bipush 10, 2) := by decide +kernel
theorem d_P_point_7 : decode b_P_point 7 = .ok (.if_icmp .ge 15, 3) := by decide +kernel
theorem d_P_point_10 : decode b_P_point 10 = .ok (.aload_n 0, 1) := by decide +kernel
theorem d_P_point_11 : decode b_P_point 11 = .ok (.getfield 10, 3) := by decide +kernel
theorem d_P_point_14 : decode b_P_point 14 = .ok (.getfield 49, 3) := by decide +kernel
theorem d_P_point_17 : decode b_P_point 17 = .ok (.bipush 20, 2) := by decide +kernel
theorem d_P_point_19 : decode b_P_point 19 = .ok (.if_icmp .lt 5, 3) := by decide +kernel
theorem d_P_point_22 : decode b_P_point 22 = .ok (.iconst (-1), 1) := by decide +kernel
theorem d_P_point_23 : decode b_P_point 23 = .ok (.ireturn, 1) := by decide +kernel
theorem d_P_point_24 : decode b_P_point 24 = .ok (.aload_n 0, 1) := by decide +kernel
theorem d_P_point_25 : decode b_P_point 25 = .ok (.getfield 10, 3) := by decide +kernel
theorem d_P_point_28 : decode b_P_point 28 = .ok (.iload_n 1, 1) := by decide +kernel
theorem d_P_point_29 : decode b_P_point 29 = .ok (.iload_n 2, 1) := by decide +kernel
theorem d_P_point_30 : decode b_P_point 30 = .ok (.invokevirtual 52, 3) := by decide +kernel
theorem d_P_point_33 : decode b_P_point 33 = .ok (.ireturn, 1) := by decide +kernel
theorem d_P_edge_0 : decode b_P_edge 0 = .ok (.aload_n 0, 1) := by decide +kernel
theorem d_P_edge_1 : decode b_P_edge 1 = .ok (.getfield 10, 3) := by decide +kernel
theorem d_P_edge_4 : decode b_P_edge 4 = .ok (.iload_n 1, 1) := by decide +kernel
theorem d_P_edge_5 : decode b_P_edge 5 = .ok (.iload_n 2, 1) := by decide +kernel
theorem d_P_edge_6 : decode b_P_edge 6 = .ok (.invokevirtual 56, 3) := by decide +kernel
theorem d_P_edge_9 : decode b_P_edge 9 = .ok (.ifCond .eq 23, 3) := by decide +kernel
theorem d_P_edge_12 : decode b_P_edge 12 = .ok (.iload_n 3, 1) := by decide +kernel
theorem d_P_edge_13 : decode b_P_edge 13 = .ok (.iload 4, 2) := by decide +kernel
theorem d_P_edge_15 : decode b_P_edge 15 = .ok (.invokestatic 60, 3) := by decide +kernel
theorem d_P_edge_18 : decode b_P_edge 18 = .ok (.ifCond .eq 14, 3) := by decide +kernel
theorem d_P_edge_21 : decode b_P_edge 21 = .ok (.aload_n 0, 1) := by decide +kernel
theorem d_P_edge_22 : decode b_P_edge 22 = .ok (.getfield 10, 3) := by decide +kernel
theorem d_P_edge_25 : decode b_P_edge 25 = .ok (.iconst 1, 1) := by decide +kernel
theorem d_P_edge_26 : decode b_P_edge 26 = .ok (.invokevirtual 63, 3) := by decide +kernel
theorem d_P_edge_29 : decode b_P_edge 29 = .ok (.ifCond .ne 5, 3) := by decide +kernel
theorem d_P_edge_32 : decode b_P_edge 32 = .ok (.iconst (-1), 1) := by decide +kernel
theorem d_P_edge_33 : decode b_P_edge 33 = .ok (.ireturn, 1) := by decide +kernel
theorem d_P_edge_34 : decode b_P_edge 34 = .ok (.aload_n 0, 1) := by decide +kernel
theorem d_P_edge_35 : decode b_P_edge 35 = .ok (.getfield 10, 3) := by decide +kernel
theorem d_P_edge_38 : decode b_P_edge 38 = .ok (.iload_n 1, 1) := by decide +kernel
theorem d_P_edge_39 : decode b_P_edge 39 = .ok (.iload_n 2, 1) := by decide +kernel
theorem d_P_edge_40 : decode b_P_edge 40 = .ok (.iload_n 3, 1) := by decide +kernel
theorem d_P_edge_41 : decode b_P_edge 41 = .ok (.iload 4, 2) := by decide +kernel
theorem d_P_edge_43 : decode b_P_edge 43 = .ok (.invokevirtual 67, 3) := by decide +kernel
theorem d_P_edge_46 : decode b_P_edge 46 = .ok (.ireturn, 1) := by decide +kernel
theorem d_P_areEdgeValues_0 : decode b_P_areEdgeValues 0 = .ok (.iload_n 0, 1) := by decide +kernel
theorem d_P_areEdgeValues_1 : decode b_P_areEdgeValues 1 = .ok (.ifCond .lt 24, 3) := by decide +kernel
theorem d_P_areEdgeValues_4 : decode b_P_areEdgeValues 4 = .ok (.iload_n 0, 1) := by decide +kernel
theorem d_P_areEdgeValues_5 : decode b_P_areEdgeValues 5 = .ok (.ldc 184, 2) := by decide +kernel
theorem d_P_areEdgeValues_7 : decode b_P_areEdgeValues 7 = .ok (.if_icmp .gt 18, 3) := by decide +kernel
theorem d_P_areEdgeValues_10 : decode b_P_areEdgeValues 10 = .ok (.iload_n 1, 1) := by decide +kernel
theorem d_P_areEdgeValues_11 : decode b_P_areEdgeValues 11 = .ok (.ifCond .lt 14, 3) := by decide +kernel
theorem d_P_areEdgeValues_14 : decode b_P_areEdgeValues 14 = .ok (.iload_n 1, 1) := by decide +kernel
theorem d_P_areEdgeValues_15 : decode b_P_areEdgeValues 15 = .ok (.sipush 255, 3) := by decide +kernel
theorem d_P_areEdgeValues_18 : decode b_P_areEdgeValues 18 = .ok (.if_icmp .gt 7, 3) := by decide +kernel
theorem d_P_areEdgeValues_21 : decode b_P_areEdgeValues 21 = .ok (.iconst 1, 1) := by decide +kernel
theorem d_P_areEdgeValues_22 : decode b_P_areEdgeValues 22 = .ok (.goto 4, 3) := by decide +kernel
theorem d_P_areEdgeValues_25 : decode b_P_areEdgeValues 25 = .ok (.iconst 0, 1) := by decide +kernel
theorem d_P_areEdgeValues_26 : decode b_P_areEdgeValues 26 = .ok (.ireturn, 1) := by decide +kernel
theorem d_P_fault_0 : decode b_P_fault 0 = .ok (.aload_n 0, 1) := by decide +kernel
theorem d_P_fault_1 : decode b_P_fault 1 = .ok (.getfield 10, 3) := by decide +kernel
theorem d_P_fault_4 : decode b_P_fault 4 = .ok (.iload_n 1, 1) := by decide +kernel
theorem d_P_fault_5 : decode b_P_fault 5 = .ok (.invokevirtual 71, 3) := by decide +kernel
theorem d_P_fault_8 : decode b_P_fault 8 = .ok (.ifCond .eq 10, 3) := by decide +kernel
theorem d_P_fault_11 : decode b_P_fault 11 = .ok (.iload_n 1, 1) := by decide +kernel
theorem d_P_fault_12 : decode b_P_fault 12 = .ok (.invokestatic 74, 3) := by decide +kernel
theorem d_P_fault_15 : decode b_P_fault 15 = .ok (.goto 4, 3) := by decide +kernel
theorem d_P_fault_18 : decode b_P_fault 18 = .ok (.iconst 0, 1) := by decide +kernel
theorem d_P_fault_19 : decode b_P_fault 19 = .ok (.istore 4, 2) := by decide +kernel
theorem d_P_fault_21 : decode b_P_fault 21 = .ok (.iload 4, 2) := by decide +kernel
theorem d_P_fault_23 : decode b_P_fault 23 = .ok (.iconst 3, 1) := by decide +kernel
theorem d_P_fault_24 : decode b_P_fault 24 = .ok (.if_icmp .eq 11, 3) := by decide +kernel
theorem d_P_fault_27 : decode b_P_fault 27 = .ok (.iload 4, 2) := by decide +kernel
theorem d_P_fault_29 : decode b_P_fault 29 = .ok (.iconst 4, 1) := by decide +kernel
theorem d_P_fault_30 : decode b_P_fault 30 = .ok (.if_icmp .eq 5, 3) := by decide +kernel
theorem d_P_fault_33 : decode b_P_fault 33 = .ok (.iconst (-1), 1) := by decide +kernel
theorem d_P_fault_34 : decode b_P_fault 34 = .ok (.ireturn, 1) := by decide +kernel
theorem d_P_fault_35 : decode b_P_fault 35 = .ok (.iload_n 1, 1) := by decide +kernel
theorem d_P_fault_36 : decode b_P_fault 36 = .ok (.iconst 0, 1) := by decide +kernel
theorem d_P_fault_37 : decode b_P_fault 37 = .ok (.invokestatic 80, 3) := by decide +kernel
theorem d_P_fault_40 : decode b_P_fault 40 = .ok (.istore 5, 2) := by decide +kernel
theorem d_P_fault_42 : decode b_P_fault 42 = .ok (.iload_n 1, 1) := by decide +kernel
theorem d_P_fault_43 : decode b_P_fault 43 = .ok (.iconst 1, 1) := by decide +kernel
theorem d_P_fault_44 : decode b_P_fault 44 = .ok (.invokestatic 80, 3) := by decide +kernel
theorem d_P_fault_47 : decode b_P_fault 47 = .ok (.istore 6, 2) := by decide +kernel
theorem d_P_fault_49 : decode b_P_fault 49 = .ok (.iload_n 1, 1) := by decide +kernel
theorem d_P_fault_50 : decode b_P_fault 50 = .ok (.iconst 2, 1) := by decide +kernel
theorem d_P_fault_51 : decode b_P_fault 51 = .ok (.invokestatic 80, 3) := by decide +kernel
theorem d_P_fault_54 : decode b_P_fault 54 = .ok (.istore 7, 2) := by decide +kernel
theorem d_P_fault_56 : decode b_P_fault 56 = .ok (.iload 4, 2) := by decide +kernel
theorem d_P_fault_58 : decode b_P_fault 58 = .ok (.iconst 4, 1) := by decide +kernel
theorem d_P_fault_59 : decode b_P_fault 59 = .ok (.if_icmp .ne 11, 3) := by decide +kernel
theorem d_P_fault_62 : decode b_P_fault 62 = .ok (.iload_n 1, 1) := by decide +kernel
theorem d_P_fault_63 : decode b_P_fault 63 = .ok (.iconst 3, 1) := by decide +kernel
theorem d_P_fault_64 : decode b_P_fault 64 = .ok (.invokestatic 80, 3) := by decide +kernel
theorem d_P_fault_67 : decode b_P_fault 67 = .ok (.goto 10, 3) := by decide +kernel
theorem d_P_fault_70 : decode b_P_fault 70 = .ok (.aload_n 0, 1) := by decide +kernel
theorem d_P_fault_71 : decode b_P_fault 71 = .ok (.getfield 10, 3) := by decide +kernel
theorem d_P_fault_74 : decode b_P_fault 74 = .ok (.invokevirtual 84, 3) := by decide +kernel
theorem d_P_fault_77 : decode b_P_fault 77 = .ok (.istore 8, 2) := by decide +kernel
theorem d_P_fault_79 : decode b_P_fault 79 = .ok (.aload_n 0, 1) := by decide +kernel
theorem d_P_fault_80 : decode b_P_fault 80 = .ok (.getfield 10, 3) := by decide +kernel
theorem d_P_fault_83 : decode b_P_fault 83 = .ok (.iload 5, 2) := by decide +kernel
theorem d_P_fault_85 : decode b_P_fault 85 = .ok (.iload 6, 2) := by decide +kernel
theorem d_P_fault_87 : decode b_P_fault 87 = .ok (.invokevirtual 56, 3) := by decide +kernel
theorem d_P_fault_90 : decode b_P_fault 90 = .ok (.ifCond .eq 36, 3) := by decide +kernel
theorem d_P_fault_93 : decode b_P_fault 93 = .ok (.aload_n 0, 1) := by decide +kernel
theorem d_P_fault_94 : decode b_P_fault 94 = .ok (.getfield 10, 3) := by decide +kernel
theorem d_P_fault_97 : decode b_P_fault 97 = .ok (.iload 7, 2) := by decide +kernel
theorem d_P_fault_99 : decode b_P_fault 99 = .ok (.iload 8, 2) := by decide +kernel
theorem d_P_fault_101 : decode b_P_fault 101 = .ok (.invokevirtual 56, 3) := by decide +kernel
theorem d_P_fault_104 : decode b_P_fault 104 = .ok (.ifCond .eq 22, 3) := by decide +kernel
theorem d_P_fault_107 : decode b_P_fault 107 = .ok (.iload_n 2, 1) := by decide +kernel
theorem d_P_fault_108 : decode b_P_fault 108 = .ok (.iload_n 3, 1) := by decide +kernel
theorem d_P_fault_109 : decode b_P_fault 109 = .ok (.invokestatic 60, 3) := by decide +kernel
theorem d_P_fault_112 : decode b_P_fault 112 = .ok (.ifCond .eq 14, 3) := by decide +kernel
theorem d_P_fault_115 : decode b_P_fault 115 = .ok (.aload_n 0, 1) := by decide +kernel
theorem d_P_fault_116 : decode b_P_fault 116 = .ok (.getfield 10, 3) := by decide +kernel
theorem d_P_fault_119 : decode b_P_fault 119 = .ok (.iconst 2, 1) := by decide +kernel
theorem d_P_fault_120 : decode b_P_fault 120 = .ok (.invokevirtual 63, 3) := by decide +kernel
theorem d_P_fault_123 : decode b_P_fault 123 = .ok (.ifCond .ne 5, 3) := by decide +kernel
theorem d_P_fault_126 : decode b_P_fault 126 = .ok (.iconst (-1), 1) := by decide +kernel
theorem d_P_fault_127 : decode b_P_fault 127 = .ok (.ireturn, 1) := by decide +kernel
theorem d_P_fault_128 : decode b_P_fault 128 = .ok (.aload_n 0, 1) := by decide +kernel
theorem d_P_fault_129 : decode b_P_fault 129 = .ok (.getfield 10, 3) := by decide +kernel
theorem d_P_fault_132 : decode b_P_fault 132 = .ok (.iload 5, 2) := by decide +kernel
theorem d_P_fault_134 : decode b_P_fault 134 = .ok (.iload 6, 2) := by decide +kernel
theorem d_P_fault_136 : decode b_P_fault 136 = .ok (.iload_n 2, 1) := by decide +kernel
theorem d_P_fault_137 : decode b_P_fault 137 = .ok (.iload_n 3, 1) := by decide +kernel
theorem d_P_fault_138 : decode b_P_fault 138 = .ok (.invokevirtual 67, 3) := by decide +kernel
theorem d_P_fault_141 : decode b_P_fault 141 = .ok (.istore 9, 2) := by decide +kernel
theorem d_P_fault_143 : decode b_P_fault 143 = .ok (.aload_n 0, 1) := by decide +kernel
theorem d_P_fault_144 : decode b_P_fault 144 = .ok (.getfield 10, 3) := by decide +kernel
theorem d_P_fault_147 : decode b_P_fault 147 = .ok (.iload 7, 2) := by decide +kernel
theorem d_P_fault_149 : decode b_P_fault 149 = .ok (.iload 8, 2) := by decide +kernel
theorem d_P_fault_151 : decode b_P_fault 151 = .ok (.iconst 0, 1) := by decide +kernel
theorem d_P_fault_152 : decode b_P_fault 152 = .ok (.iconst 0, 1) := by decide +kernel
theorem d_P_fault_153 : decode b_P_fault 153 = .ok (.invokevirtual 67, 3) := by decide +kernel
theorem d_P_fault_156 : decode b_P_fault 156 = .ok (.pop, 1) := by decide +kernel
theorem d_P_fault_157 : decode b_P_fault 157 = .ok (.iload 9, 2) := by decide +kernel
theorem d_P_fault_159 : decode b_P_fault 159 = .ok (.ireturn, 1) := by decide +kernel
theorem d_P_memberOf_0 : decode b_P_memberOf 0 = .ok (.iload_n 1, 1) := by decide +kernel
theorem d_P_memberOf_1 : decode b_P_memberOf 1 = .ok (.istore_n 2, 1) := by decide +kernel
theorem d_P_memberOf_2 : decode b_P_memberOf 2 = .ok (.iconst 0, 1) := by decide +kernel
theorem d_P_memberOf_3 : decode b_P_memberOf 3 = .ok (.istore_n 3, 1) := by decide +kernel
theorem d_P_memberOf_4 : decode b_P_memberOf 4 = .ok (.iload_n 3, 1) := by decide +kernel
theorem d_P_memberOf_5 : decode b_P_memberOf 5 = .ok (.bipush 20, 2) := by decide +kernel
theorem d_P_memberOf_7 : decode b_P_memberOf 7 = .ok (.if_icmp .ge 27, 3) := by decide +kernel
theorem d_P_memberOf_10 : decode b_P_memberOf 10 = .ok (.iload_n 0, 1) := by decide +kernel
theorem d_P_memberOf_11 : decode b_P_memberOf 11 = .ok (.iload_n 3, 1) := by decide +kernel
theorem d_P_memberOf_12 : decode b_P_memberOf 12 = .ok (.ishr, 1) := by decide +kernel
theorem d_P_memberOf_13 : decode b_P_memberOf 13 = .ok (.iconst 1, 1) := by decide +kernel
theorem d_P_memberOf_14 : decode b_P_memberOf 14 = .ok (.iand, 1) := by decide +kernel
theorem d_P_memberOf_15 : decode b_P_memberOf 15 = .ok (.iconst 1, 1) := by decide +kernel
theorem d_P_memberOf_16 : decode b_P_memberOf 16 = .ok (.if_icmp .ne 12, 3) := by decide +kernel
theorem d_P_memberOf_19 : decode b_P_memberOf 19 = .ok (.iload_n 2, 1) := by decide +kernel
theorem d_P_memberOf_20 : decode b_P_memberOf 20 = .ok (.ifCond .ne 5, 3) := by decide +kernel
theorem d_P_memberOf_23 : decode b_P_memberOf 23 = .ok (.iload_n 3, 1) := by decide +kernel
theorem d_P_memberOf_24 : decode b_P_memberOf 24 = .ok (.ireturn, 1) := by decide +kernel
theorem d_P_memberOf_25 : decode b_P_memberOf 25 = .ok (.iinc 2 (-1), 3) := by decide +kernel
theorem d_P_memberOf_28 : decode b_P_memberOf 28 = .ok (.iinc 3 1, 3) := by decide +kernel
theorem d_P_memberOf_31 : decode b_P_memberOf 31 = .ok (.goto (-27), 3) := by decide +kernel
theorem d_P_memberOf_34 : decode b_P_memberOf 34 = .ok (.iconst (-1), 1) := by decide +kernel
theorem d_P_memberOf_35 : decode b_P_memberOf 35 = .ok (.ireturn, 1) := by decide +kernel
theorem d_P_fire_0 : decode b_P_fire 0 = .ok (.aload_n 0, 1) := by decide +kernel
theorem d_P_fire_1 : decode b_P_fire 1 = .ok (.getfield 10, 3) := by decide +kernel
theorem d_P_fire_4 : decode b_P_fire 4 = .ok (.iload_n 1, 1) := by decide +kernel
theorem d_P_fire_5 : decode b_P_fire 5 = .ok (.invokevirtual 88, 3) := by decide +kernel
theorem d_P_fire_8 : decode b_P_fire 8 = .ok (.ifCond .eq 23, 3) := by decide +kernel
theorem d_P_fire_11 : decode b_P_fire 11 = .ok (.aload_n 0, 1) := by decide +kernel
theorem d_P_fire_12 : decode b_P_fire 12 = .ok (.getfield 10, 3) := by decide +kernel
theorem d_P_fire_15 : decode b_P_fire 15 = .ok (.iload_n 1, 1) := by decide +kernel
theorem d_P_fire_16 : decode b_P_fire 16 = .ok (.invokevirtual 91, 3) := by decide +kernel
theorem d_P_fire_19 : decode b_P_fire 19 = .ok (.ifCond .ne 12, 3) := by decide +kernel
theorem d_P_fire_22 : decode b_P_fire 22 = .ok (.aload_n 0, 1) := by decide +kernel
theorem d_P_fire_23 : decode b_P_fire 23 = .ok (.iload_n 1, 1) := by decide +kernel
theorem d_P_fire_24 : decode b_P_fire 24 = .ok (.invokevirtual 94, 3) := by decide +kernel
theorem d_P_fire_27 : decode b_P_fire 27 = .ok (.iload_n 2, 1) := by decide +kernel
theorem d_P_fire_28 : decode b_P_fire 28 = .ok (.if_icmp .ne 5, 3) := by decide +kernel
theorem d_P_fire_31 : decode b_P_fire 31 = .ok (.iconst 0, 1) := by decide +kernel
theorem d_P_fire_32 : decode b_P_fire 32 = .ok (.ireturn, 1) := by decide +kernel
theorem d_P_fire_33 : decode b_P_fire 33 = .ok (.iload_n 2, 1) := by decide +kernel
theorem d_P_fire_34 : decode b_P_fire 34 = .ok (.ifCond .eq 17, 3) := by decide +kernel
theorem d_P_fire_37 : decode b_P_fire 37 = .ok (.aload_n 0, 1) := by decide +kernel
theorem d_P_fire_38 : decode b_P_fire 38 = .ok (.getfield 41, 3) := by decide +kernel
theorem d_P_fire_41 : decode b_P_fire 41 = .ok (.invokestatic 74, 3) := by decide +kernel
theorem d_P_fire_44 : decode b_P_fire 44 = .ok (.bipush 10, 2) := by decide +kernel
theorem d_P_fire_46 : decode b_P_fire 46 = .ok (.if_icmp .lt 5, 3) := by decide +kernel
theorem d_P_fire_49 : decode b_P_fire 49 = .ok (.iconst 0, 1) := by decide +kernel
theorem d_P_fire_50 : decode b_P_fire 50 = .ok (.ireturn, 1) := by decide +kernel
theorem d_P_fire_51 : decode b_P_fire 51 = .ok (.aload_n 0, 1) := by decide +kernel
theorem d_P_fire_52 : decode b_P_fire 52 = .ok (.dup, 1) := by decide +kernel
theorem d_P_fire_53 : decode b_P_fire 53 = .ok (.getfield 41, 3) := by decide +kernel
theorem d_P_fire_56 : decode b_P_fire 56 = .ok (.iconst 1, 1) := by decide +kernel
theorem d_P_fire_57 : decode b_P_fire 57 = .ok (.iload_n 1, 1) := by decide +kernel
theorem d_P_fire_58 : decode b_P_fire 58 = .ok (.ishl, 1) := by decide +kernel
theorem d_P_fire_59 : decode b_P_fire 59 = .ok (.ixor, 1) := by decide +kernel
theorem d_P_fire_60 : decode b_P_fire 60 = .ok (.putfield 41, 3) := by decide +kernel
theorem d_P_fire_63 : decode b_P_fire 63 = .ok (.iconst 1, 1) := by decide +kernel
theorem d_P_fire_64 : decode b_P_fire 64 = .ok (.ireturn, 1) := by decide +kernel
theorem d_P_isFired_0 : decode b_P_isFired 0 = .ok (.aload_n 0, 1) := by decide +kernel
theorem d_P_isFired_1 : decode b_P_isFired 1 = .ok (.getfield 41, 3) := by decide +kernel
theorem d_P_isFired_4 : decode b_P_isFired 4 = .ok (.iload_n 1, 1) := by decide +kernel
theorem d_P_isFired_5 : decode b_P_isFired 5 = .ok (.ishr, 1) := by decide +kernel
theorem d_P_isFired_6 : decode b_P_isFired 6 = .ok (.iconst 1, 1) := by decide +kernel
theorem d_P_isFired_7 : decode b_P_isFired 7 = .ok (.iand, 1) := by decide +kernel
theorem d_P_isFired_8 : decode b_P_isFired 8 = .ok (.iconst 1, 1) := by decide +kernel
theorem d_P_isFired_9 : decode b_P_isFired 9 = .ok (.if_icmp .ne 7, 3) := by decide +kernel
theorem d_P_isFired_12 : decode b_P_isFired 12 = .ok (.iconst 1, 1) := by decide +kernel
theorem d_P_isFired_13 : decode b_P_isFired 13 = .ok (.goto 4, 3) := by decide +kernel
theorem d_P_isFired_16 : decode b_P_isFired 16 = .ok (.iconst 0, 1) := by decide +kernel
theorem d_P_isFired_17 : decode b_P_isFired 17 = .ok (.ireturn, 1) := by decide +kernel
theorem d_P_erase_0 : decode b_P_erase 0 = .ok (.aload_n 0, 1) := by decide +kernel
theorem d_P_erase_1 : decode b_P_erase 1 = .ok (.getfield 10, 3) := by decide +kernel
theorem d_P_erase_4 : decode b_P_erase 4 = .ok (.iload_n 1, 1) := by decide +kernel
theorem d_P_erase_5 : decode b_P_erase 5 = .ok (.invokevirtual 97, 3) := by decide +kernel
theorem d_P_erase_8 : decode b_P_erase 8 = .ok (.ifCond .eq 15, 3) := by decide +kernel
theorem d_P_erase_11 : decode b_P_erase 11 = .ok (.aload_n 0, 1) := by decide +kernel
theorem d_P_erase_12 : decode b_P_erase 12 = .ok (.getfield 10, 3) := by decide +kernel
theorem d_P_erase_15 : decode b_P_erase 15 = .ok (.iload_n 1, 1) := by decide +kernel
theorem d_P_erase_16 : decode b_P_erase 16 = .ok (.invokevirtual 100, 3) := by decide +kernel
theorem d_P_erase_19 : decode b_P_erase 19 = .ok (.iload_n 2, 1) := by decide +kernel
theorem d_P_erase_20 : decode b_P_erase 20 = .ok (.if_icmp .ne 5, 3) := by decide +kernel
theorem d_P_erase_23 : decode b_P_erase 23 = .ok (.iconst 0, 1) := by decide +kernel
theorem d_P_erase_24 : decode b_P_erase 24 = .ok (.ireturn, 1) := by decide +kernel
theorem d_P_erase_25 : decode b_P_erase 25 = .ok (.aload_n 0, 1) := by decide +kernel
theorem d_P_erase_26 : decode b_P_erase 26 = .ok (.getfield 10, 3) := by decide +kernel
theorem d_P_erase_29 : decode b_P_erase 29 = .ok (.iload_n 1, 1) := by decide +kernel
theorem d_P_erase_30 : decode b_P_erase 30 = .ok (.invokevirtual 103, 3) := by decide +kernel
theorem d_P_erase_33 : decode b_P_erase 33 = .ok (.iconst 1, 1) := by decide +kernel
theorem d_P_erase_34 : decode b_P_erase 34 = .ok (.ireturn, 1) := by decide +kernel
theorem d_P_way_0 : decode b_P_way 0 = .ok (.aload_n 0, 1) := by decide +kernel
theorem d_P_way_1 : decode b_P_way 1 = .ok (.getfield 10, 3) := by decide +kernel
theorem d_P_way_4 : decode b_P_way 4 = .ok (.iload_n 1, 1) := by decide +kernel
theorem d_P_way_5 : decode b_P_way 5 = .ok (.invokevirtual 88, 3) := by decide +kernel
theorem d_P_way_8 : decode b_P_way 8 = .ok (.ifCond .eq 23, 3) := by decide +kernel
theorem d_P_way_11 : decode b_P_way 11 = .ok (.aload_n 0, 1) := by decide +kernel
theorem d_P_way_12 : decode b_P_way 12 = .ok (.getfield 10, 3) := by decide +kernel
theorem d_P_way_15 : decode b_P_way 15 = .ok (.iload_n 2, 1) := by decide +kernel
theorem d_P_way_16 : decode b_P_way 16 = .ok (.invokevirtual 88, 3) := by decide +kernel
theorem d_P_way_19 : decode b_P_way 19 = .ok (.ifCond .eq 12, 3) := by decide +kernel
theorem d_P_way_22 : decode b_P_way 22 = .ok (.iload_n 1, 1) := by decide +kernel
theorem d_P_way_23 : decode b_P_way 23 = .ok (.iload_n 2, 1) := by decide +kernel
theorem d_P_way_24 : decode b_P_way 24 = .ok (.if_icmp .eq 7, 3) := by decide +kernel
theorem d_P_way_27 : decode b_P_way 27 = .ok (.iload_n 3, 1) := by decide +kernel
theorem d_P_way_28 : decode b_P_way 28 = .ok (.ifCond .ge 5, 3) := by decide +kernel
theorem d_P_way_31 : decode b_P_way 31 = .ok (.iconst (-1), 1) := by decide +kernel
theorem d_P_way_32 : decode b_P_way 32 = .ok (.ireturn, 1) := by decide +kernel
theorem d_P_way_33 : decode b_P_way 33 = .ok (.aload_n 0, 1) := by decide +kernel
theorem d_P_way_34 : decode b_P_way 34 = .ok (.getfield 21, 3) := by decide +kernel
theorem d_P_way_37 : decode b_P_way 37 = .ok (.invokevirtual 107, 3) := by decide +kernel
theorem d_P_way_40 : decode b_P_way 40 = .ok (.aload_n 0, 1) := by decide +kernel
theorem d_P_way_41 : decode b_P_way 41 = .ok (.getfield 21, 3) := by decide +kernel
theorem d_P_way_44 : decode b_P_way 44 = .ok (.iload_n 1, 1) := by decide +kernel
theorem d_P_way_45 : decode b_P_way 45 = .ok (.iload_n 2, 1) := by decide +kernel
theorem d_P_way_46 : decode b_P_way 46 = .ok (.invokevirtual 110, 3) := by decide +kernel
theorem d_P_way_49 : decode b_P_way 49 = .ok (.ifCond .ne 5, 3) := by decide +kernel
theorem d_P_way_52 : decode b_P_way 52 = .ok (.iconst (-1), 1) := by decide +kernel
theorem d_P_way_53 : decode b_P_way 53 = .ok (.ireturn, 1) := by decide +kernel
theorem d_P_way_54 : decode b_P_way 54 = .ok (.iload_n 3, 1) := by decide +kernel
theorem d_P_way_55 : decode b_P_way 55 = .ok (.ifCond .ne 13, 3) := by decide +kernel
theorem d_P_way_58 : decode b_P_way 58 = .ok (.aload_n 0, 1) := by decide +kernel
theorem d_P_way_59 : decode b_P_way 59 = .ok (.getfield 21, 3) := by decide +kernel
theorem d_P_way_62 : decode b_P_way 62 = .ok (.iload_n 1, 1) := by decide +kernel
theorem d_P_way_63 : decode b_P_way 63 = .ok (.iload_n 2, 1) := by decide +kernel
theorem d_P_way_64 : decode b_P_way 64 = .ok (.invokevirtual 113, 3) := by decide +kernel
theorem d_P_way_67 : decode b_P_way 67 = .ok (.ireturn, 1) := by decide +kernel
theorem d_P_way_68 : decode b_P_way 68 = .ok (.aload_n 0, 1) := by decide +kernel
theorem d_P_way_69 : decode b_P_way 69 = .ok (.getfield 21, 3) := by decide +kernel
theorem d_P_way_72 : decode b_P_way 72 = .ok (.iload_n 1, 1) := by decide +kernel
theorem d_P_way_73 : decode b_P_way 73 = .ok (.iload_n 2, 1) := by decide +kernel
theorem d_P_way_74 : decode b_P_way 74 = .ok (.invokevirtual 116, 3) := by decide +kernel
theorem d_P_way_77 : decode b_P_way 77 = .ok (.iload_n 3, 1) := by decide +kernel
theorem d_P_way_78 : decode b_P_way 78 = .ok (.iconst 1, 1) := by decide +kernel
theorem d_P_way_79 : decode b_P_way 79 = .ok (.if_icmp .ne 13, 3) := by decide +kernel
theorem d_P_way_82 : decode b_P_way 82 = .ok (.aload_n 0, 1) := by decide +kernel
theorem d_P_way_83 : decode b_P_way 83 = .ok (.getfield 21, 3) := by decide +kernel
theorem d_P_way_86 : decode b_P_way 86 = .ok (.getfield 120, 3) := by decide +kernel
theorem d_P_way_89 : decode b_P_way 89 = .ok (.goto 23, 3) := by decide +kernel
theorem d_P_way_92 : decode b_P_way 92 = .ok (.aload_n 0, 1) := by decide +kernel
theorem d_P_way_93 : decode b_P_way 93 = .ok (.getfield 21, 3) := by decide +kernel
theorem d_P_way_96 : decode b_P_way 96 = .ok (.iload_n 3, 1) := by decide +kernel
theorem d_P_way_97 : decode b_P_way 97 = .ok (.iconst 2, 1) := by decide +kernel
theorem d_P_way_98 : decode b_P_way 98 = .ok (.isub, 1) := by decide +kernel
theorem d_P_way_99 : decode b_P_way 99 = .ok (.iload_n 1, 1) := by decide +kernel
theorem d_P_way_100 : decode b_P_way 100 = .ok (.iload_n 2, 1) := by decide +kernel
theorem d_P_way_101 : decode b_P_way 101 = .ok (.if_icmp .le 7, 3) := by decide +kernel
theorem d_P_way_104 : decode b_P_way 104 = .ok (.iconst 1, 1) := by decide +kernel
theorem d_P_way_105 : decode b_P_way 105 = .ok (.goto 4, 3) := by decide +kernel
theorem d_P_way_108 : decode b_P_way 108 = .ok (.iconst 0, 1) := by decide +kernel
theorem d_P_way_109 : decode b_P_way 109 = .ok (.invokevirtual 123, 3) := by decide +kernel
theorem d_P_way_112 : decode b_P_way 112 = .ok (.ireturn, 1) := by decide +kernel
theorem d_P_pair_0 : decode b_P_pair 0 = .ok (.iload_n 1, 1) := by decide +kernel
theorem d_P_pair_1 : decode b_P_pair 1 = .ok (.ifCond .lt 14, 3) := by decide +kernel
theorem d_P_pair_4 : decode b_P_pair 4 = .ok (.iload_n 1, 1) := by decide +kernel
theorem d_P_pair_5 : decode b_P_pair 5 = .ok (.aload_n 0, 1) := by decide +kernel
theorem d_P_pair_6 : decode b_P_pair 6 = .ok (.getfield 37, 3) := by decide +kernel
theorem d_P_pair_9 : decode b_P_pair 9 = .ok (.getfield 141, 3) := by decide +kernel
theorem d_P_pair_12 : decode b_P_pair 12 = .ok (.if_icmp .lt 5, 3) := by decide +kernel
theorem d_P_pair_15 : decode b_P_pair 15 = .ok (.iconst (-1), 1) := by decide +kernel
theorem d_P_pair_16 : decode b_P_pair 16 = .ok (.ireturn, 1) := by decide +kernel
theorem d_P_pair_17 : decode b_P_pair 17 = .ok (.iload_n 2, 1) := by decide +kernel
theorem d_P_pair_18 : decode b_P_pair 18 = .ok (.ifCond .ne 13, 3) := by decide +kernel
theorem d_P_pair_21 : decode b_P_pair 21 = .ok (.aload_n 0, 1) := by decide +kernel
theorem d_P_pair_22 : decode b_P_pair 22 = .ok (.getfield 37, 3) := by decide +kernel
theorem d_P_pair_25 : decode b_P_pair 25 = .ok (.getfield 144, 3) := by decide +kernel
theorem d_P_pair_28 : decode b_P_pair 28 = .ok (.iload_n 1, 1) := by decide +kernel
theorem d_P_pair_29 : decode b_P_pair 29 = .ok (.iaload, 1) := by decide +kernel
theorem d_P_pair_30 : decode b_P_pair 30 = .ok (.ireturn, 1) := by decide +kernel
theorem d_P_pair_31 : decode b_P_pair 31 = .ok (.iload_n 2, 1) := by decide +kernel
theorem d_P_pair_32 : decode b_P_pair 32 = .ok (.iconst 1, 1) := by decide +kernel
theorem d_P_pair_33 : decode b_P_pair 33 = .ok (.if_icmp .ne 15, 3) := by decide +kernel
theorem d_P_pair_36 : decode b_P_pair 36 = .ok (.aload_n 0, 1) := by decide +kernel
theorem d_P_pair_37 : decode b_P_pair 37 = .ok (.getfield 37, 3) := by decide +kernel
theorem d_P_pair_40 : decode b_P_pair 40 = .ok (.getfield 148, 3) := by decide +kernel
theorem d_P_pair_43 : decode b_P_pair 43 = .ok (.iload_n 1, 1) := by decide +kernel
theorem d_P_pair_44 : decode b_P_pair 44 = .ok (.iaload, 1) := by decide +kernel
theorem d_P_pair_45 : decode b_P_pair 45 = .ok (.goto 4, 3) := by decide +kernel
theorem d_P_pair_48 : decode b_P_pair 48 = .ok (.iconst (-1), 1) := by decide +kernel
theorem d_P_pair_49 : decode b_P_pair 49 = .ok (.ireturn, 1) := by decide +kernel
theorem d_P_least_0 : decode b_P_least 0 = .ok (.aload_n 0, 1) := by decide +kernel
theorem d_P_least_1 : decode b_P_least 1 = .ok (.getfield 37, 3) := by decide +kernel
theorem d_P_least_4 : decode b_P_least 4 = .ok (.getfield 151, 3) := by decide +kernel
theorem d_P_least_7 : decode b_P_least 7 = .ok (.ireturn, 1) := by decide +kernel
theorem d_P_fix_0 : decode b_P_fix 0 = .ok (.aload_n 0, 1) := by decide +kernel
theorem d_P_fix_1 : decode b_P_fix 1 = .ok (.getfield 37, 3) := by decide +kernel
theorem d_P_fix_4 : decode b_P_fix 4 = .ok (.getfield 154, 3) := by decide +kernel
theorem d_P_fix_7 : decode b_P_fix 7 = .ok (.lreturn, 1) := by decide +kernel
theorem d_P_signs_0 : decode b_P_signs 0 = .ok (.aload_n 0, 1) := by decide +kernel
theorem d_P_signs_1 : decode b_P_signs 1 = .ok (.getfield 10, 3) := by decide +kernel
theorem d_P_signs_4 : decode b_P_signs 4 = .ok (.lload_n 1, 1) := by decide +kernel
theorem d_P_signs_5 : decode b_P_signs 5 = .ok (.invokevirtual 157, 3) := by decide +kernel
theorem d_P_signs_8 : decode b_P_signs 8 = .ok (.ifCond .eq 14, 3) := by decide +kernel
theorem d_P_signs_11 : decode b_P_signs 11 = .ok (.aload_n 0, 1) := by decide +kernel
theorem d_P_signs_12 : decode b_P_signs 12 = .ok (.getfield 10, 3) := by decide +kernel
theorem d_P_signs_15 : decode b_P_signs 15 = .ok (.lload_n 1, 1) := by decide +kernel
theorem d_P_signs_16 : decode b_P_signs 16 = .ok (.invokevirtual 161, 3) := by decide +kernel
theorem d_P_signs_19 : decode b_P_signs 19 = .ok (.goto 4, 3) := by decide +kernel
theorem d_P_signs_22 : decode b_P_signs 22 = .ok (.iconst (-1), 1) := by decide +kernel
theorem d_P_signs_23 : decode b_P_signs 23 = .ok (.ireturn, 1) := by decide +kernel
theorem d_P_syndrome_0 : decode b_P_syndrome 0 = .ok (.aload_n 0, 1) := by decide +kernel
theorem d_P_syndrome_1 : decode b_P_syndrome 1 = .ok (.getfield 10, 3) := by decide +kernel
theorem d_P_syndrome_4 : decode b_P_syndrome 4 = .ok (.lload_n 1, 1) := by decide +kernel
theorem d_P_syndrome_5 : decode b_P_syndrome 5 = .ok (.invokevirtual 157, 3) := by decide +kernel
theorem d_P_syndrome_8 : decode b_P_syndrome 8 = .ok (.ifCond .eq 14, 3) := by decide +kernel
theorem d_P_syndrome_11 : decode b_P_syndrome 11 = .ok (.aload_n 0, 1) := by decide +kernel
theorem d_P_syndrome_12 : decode b_P_syndrome 12 = .ok (.getfield 10, 3) := by decide +kernel
theorem d_P_syndrome_15 : decode b_P_syndrome 15 = .ok (.lload_n 1, 1) := by decide +kernel
theorem d_P_syndrome_16 : decode b_P_syndrome 16 = .ok (.invokevirtual 165, 3) := by decide +kernel
theorem d_P_syndrome_19 : decode b_P_syndrome 19 = .ok (.goto 4, 3) := by decide +kernel
theorem d_P_syndrome_22 : decode b_P_syndrome 22 = .ok (.iconst (-1), 1) := by decide +kernel
theorem d_P_syndrome_23 : decode b_P_syndrome 23 = .ok (.ireturn, 1) := by decide +kernel
theorem d_P_kept_0 : decode b_P_kept 0 = .ok (.aload_n 0, 1) := by decide +kernel
theorem d_P_kept_1 : decode b_P_kept 1 = .ok (.getfield 45, 3) := by decide +kernel
theorem d_P_kept_4 : decode b_P_kept 4 = .ok (.lreturn, 1) := by decide +kernel
theorem d_P_total_0 : decode b_P_total 0 = .ok (.iload_n 1, 1) := by decide +kernel
theorem d_P_total_1 : decode b_P_total 1 = .ok (.tableswitch 75 0 4 #[35, 43, 51, 56, 64], 35) := by decide +kernel
theorem d_P_total_36 : decode b_P_total 36 = .ok (.aload_n 0, 1) := by decide +kernel
theorem d_P_total_37 : decode b_P_total 37 = .ok (.getfield 10, 3) := by decide +kernel
theorem d_P_total_40 : decode b_P_total 40 = .ok (.getfield 49, 3) := by decide +kernel
theorem d_P_total_43 : decode b_P_total 43 = .ok (.ireturn, 1) := by decide +kernel
theorem d_P_total_44 : decode b_P_total 44 = .ok (.aload_n 0, 1) := by decide +kernel
theorem d_P_total_45 : decode b_P_total 45 = .ok (.getfield 10, 3) := by decide +kernel
theorem d_P_total_48 : decode b_P_total 48 = .ok (.getfield 174, 3) := by decide +kernel
theorem d_P_total_51 : decode b_P_total 51 = .ok (.ireturn, 1) := by decide +kernel
theorem d_P_total_52 : decode b_P_total 52 = .ok (.aload_n 0, 1) := by decide +kernel
theorem d_P_total_53 : decode b_P_total 53 = .ok (.getfield 41, 3) := by decide +kernel
theorem d_P_total_56 : decode b_P_total 56 = .ok (.ireturn, 1) := by decide +kernel
theorem d_P_total_57 : decode b_P_total 57 = .ok (.aload_n 0, 1) := by decide +kernel
theorem d_P_total_58 : decode b_P_total 58 = .ok (.getfield 37, 3) := by decide +kernel
theorem d_P_total_61 : decode b_P_total 61 = .ok (.getfield 141, 3) := by decide +kernel
theorem d_P_total_64 : decode b_P_total 64 = .ok (.ireturn, 1) := by decide +kernel
theorem d_P_total_65 : decode b_P_total 65 = .ok (.aload_n 0, 1) := by decide +kernel
theorem d_P_total_66 : decode b_P_total 66 = .ok (.getfield 10, 3) := by decide +kernel
theorem d_P_total_69 : decode b_P_total 69 = .ok (.getfield 177, 3) := by decide +kernel
theorem d_P_total_72 : decode b_P_total 72 = .ok (.invokestatic 180, 3) := by decide +kernel
theorem d_P_total_75 : decode b_P_total 75 = .ok (.ireturn, 1) := by decide +kernel
theorem d_P_total_76 : decode b_P_total 76 = .ok (.iconst (-1), 1) := by decide +kernel
theorem d_P_total_77 : decode b_P_total 77 = .ok (.ireturn, 1) := by decide +kernel
theorem d_P_decode_0 : decode b_P_decode 0 = .ok (.aload_n 0, 1) := by decide +kernel
theorem d_P_decode_1 : decode b_P_decode 1 = .ok (.invokevirtual 127, 3) := by decide +kernel
theorem d_P_decode_4 : decode b_P_decode 4 = .ok (.ifCond .ne 13, 3) := by decide +kernel
theorem d_P_decode_7 : decode b_P_decode 7 = .ok (.new 131, 3) := by decide +kernel
theorem d_P_decode_10 : decode b_P_decode 10 = .ok (.dup, 1) := by decide +kernel
theorem d_P_decode_11 : decode b_P_decode 11 = .ok (.ldc 133, 2) := by decide +kernel
theorem d_P_decode_13 : decode b_P_decode 13 = .ok (.invokespecial 135, 3) := by decide +kernel
theorem d_P_decode_16 : decode b_P_decode 16 = .ok (.athrow, 1) := by decide +kernel
theorem d_P_decode_17 : decode b_P_decode 17 = .ok (.aload_n 0, 1) := by decide +kernel
theorem d_P_decode_18 : decode b_P_decode 18 = .ok (.getfield 37, 3) := by decide +kernel
theorem d_P_decode_21 : decode b_P_decode 21 = .ok (.getfield 138, 3) := by decide +kernel
theorem d_P_decode_24 : decode b_P_decode 24 = .ok (.ireturn, 1) := by decide +kernel
theorem d_P_findPairing_0 : decode b_P_findPairing 0 = .ok (.aload_n 0, 1) := by decide +kernel
theorem d_P_findPairing_1 : decode b_P_findPairing 1 = .ok (.getfield 21, 3) := by decide +kernel
theorem d_P_findPairing_4 : decode b_P_findPairing 4 = .ok (.invokevirtual 107, 3) := by decide +kernel
theorem d_P_findPairing_7 : decode b_P_findPairing 7 = .ok (.aload_n 0, 1) := by decide +kernel
theorem d_P_findPairing_8 : decode b_P_findPairing 8 = .ok (.getfield 30, 3) := by decide +kernel
theorem d_P_findPairing_11 : decode b_P_findPairing 11 = .ok (.aload_n 0, 1) := by decide +kernel
theorem d_P_findPairing_12 : decode b_P_findPairing 12 = .ok (.getfield 41, 3) := by decide +kernel
theorem d_P_findPairing_15 : decode b_P_findPairing 15 = .ok (.invokevirtual 185, 3) := by decide +kernel
theorem d_P_findPairing_18 : decode b_P_findPairing 18 = .ok (.ifCond .ne 5, 3) := by decide +kernel
theorem d_P_findPairing_21 : decode b_P_findPairing 21 = .ok (.iconst 0, 1) := by decide +kernel
theorem d_P_findPairing_22 : decode b_P_findPairing 22 = .ok (.ireturn, 1) := by decide +kernel
theorem d_P_findPairing_23 : decode b_P_findPairing 23 = .ok (.aload_n 0, 1) := by decide +kernel
theorem d_P_findPairing_24 : decode b_P_findPairing 24 = .ok (.getfield 30, 3) := by decide +kernel
theorem d_P_findPairing_27 : decode b_P_findPairing 27 = .ok (.aload_n 0, 1) := by decide +kernel
theorem d_P_findPairing_28 : decode b_P_findPairing 28 = .ok (.getfield 37, 3) := by decide +kernel
theorem d_P_findPairing_31 : decode b_P_findPairing 31 = .ok (.invokevirtual 188, 3) := by decide +kernel
theorem d_P_findPairing_34 : decode b_P_findPairing 34 = .ok (.iconst 1, 1) := by decide +kernel
theorem d_P_findPairing_35 : decode b_P_findPairing 35 = .ok (.ireturn, 1) := by decide +kernel
theorem d_P_commit_0 : decode b_P_commit 0 = .ok (.iload_n 1, 1) := by decide +kernel
theorem d_P_commit_1 : decode b_P_commit 1 = .ok (.ifCond .lt 9, 3) := by decide +kernel
theorem d_P_commit_4 : decode b_P_commit 4 = .ok (.iload_n 1, 1) := by decide +kernel
theorem d_P_commit_5 : decode b_P_commit 5 = .ok (.bipush 10, 2) := by decide +kernel
theorem d_P_commit_7 : decode b_P_commit 7 = .ok (.if_icmp .le 5, 3) := by decide +kernel
theorem d_P_commit_10 : decode b_P_commit 10 = .ok (.iconst (-1), 1) := by decide +kernel
theorem d_P_commit_11 : decode b_P_commit 11 = .ok (.ireturn, 1) := by decide +kernel
theorem d_P_commit_12 : decode b_P_commit 12 = .ok (.aload_n 0, 1) := by decide +kernel
theorem d_P_commit_13 : decode b_P_commit 13 = .ok (.invokevirtual 127, 3) := by decide +kernel
theorem d_P_commit_16 : decode b_P_commit 16 = .ok (.ifCond .ne 13, 3) := by decide +kernel
theorem d_P_commit_19 : decode b_P_commit 19 = .ok (.new 131, 3) := by decide +kernel
theorem d_P_commit_22 : decode b_P_commit 22 = .ok (.dup, 1) := by decide +kernel
theorem d_P_commit_23 : decode b_P_commit 23 = .ok (.ldc 133, 2) := by decide +kernel
theorem d_P_commit_25 : decode b_P_commit 25 = .ok (.invokespecial 135, 3) := by decide +kernel
theorem d_P_commit_28 : decode b_P_commit 28 = .ok (.athrow, 1) := by decide +kernel
theorem d_P_commit_29 : decode b_P_commit 29 = .ok (.aload_n 0, 1) := by decide +kernel
theorem d_P_commit_30 : decode b_P_commit 30 = .ok (.getfield 41, 3) := by decide +kernel
theorem d_P_commit_33 : decode b_P_commit 33 = .ok (.invokestatic 74, 3) := by decide +kernel
theorem d_P_commit_36 : decode b_P_commit 36 = .ok (.istore_n 2, 1) := by decide +kernel
theorem d_P_commit_37 : decode b_P_commit 37 = .ok (.iconst 0, 1) := by decide +kernel
theorem d_P_commit_38 : decode b_P_commit 38 = .ok (.istore_n 3, 1) := by decide +kernel
theorem d_P_commit_39 : decode b_P_commit 39 = .ok (.iload_n 3, 1) := by decide +kernel
theorem d_P_commit_40 : decode b_P_commit 40 = .ok (.aload_n 0, 1) := by decide +kernel
theorem d_P_commit_41 : decode b_P_commit 41 = .ok (.getfield 37, 3) := by decide +kernel
theorem d_P_commit_44 : decode b_P_commit 44 = .ok (.getfield 141, 3) := by decide +kernel
theorem d_P_commit_47 : decode b_P_commit 47 = .ok (.if_icmp .ge 23, 3) := by decide +kernel
theorem d_P_commit_50 : decode b_P_commit 50 = .ok (.aload_n 0, 1) := by decide +kernel
theorem d_P_commit_51 : decode b_P_commit 51 = .ok (.iload_n 3, 1) := by decide +kernel
theorem d_P_commit_52 : decode b_P_commit 52 = .ok (.iload_n 1, 1) := by decide +kernel
theorem d_P_commit_53 : decode b_P_commit 53 = .ok (.invokevirtual 168, 3) := by decide +kernel
theorem d_P_commit_56 : decode b_P_commit 56 = .ok (.ifCond .eq 8, 3) := by decide +kernel
theorem d_P_commit_59 : decode b_P_commit 59 = .ok (.aload_n 0, 1) := by decide +kernel
theorem d_P_commit_60 : decode b_P_commit 60 = .ok (.iload_n 3, 1) := by decide +kernel
theorem d_P_commit_61 : decode b_P_commit 61 = .ok (.invokevirtual 171, 3) := by decide +kernel
theorem d_P_commit_64 : decode b_P_commit 64 = .ok (.iinc 3 1, 3) := by decide +kernel
theorem d_P_commit_67 : decode b_P_commit 67 = .ok (.goto (-28), 3) := by decide +kernel
theorem d_P_commit_70 : decode b_P_commit 70 = .ok (.iload_n 2, 1) := by decide +kernel
theorem d_P_commit_71 : decode b_P_commit 71 = .ok (.aload_n 0, 1) := by decide +kernel
theorem d_P_commit_72 : decode b_P_commit 72 = .ok (.getfield 41, 3) := by decide +kernel
theorem d_P_commit_75 : decode b_P_commit 75 = .ok (.invokestatic 74, 3) := by decide +kernel
theorem d_P_commit_78 : decode b_P_commit 78 = .ok (.isub, 1) := by decide +kernel
theorem d_P_commit_79 : decode b_P_commit 79 = .ok (.ireturn, 1) := by decide +kernel
theorem d_P_isPairBefore_0 : decode b_P_isPairBefore 0 = .ok (.aload_n 0, 1) := by decide +kernel
theorem d_P_isPairBefore_1 : decode b_P_isPairBefore 1 = .ok (.getfield 10, 3) := by decide +kernel
theorem d_P_isPairBefore_4 : decode b_P_isPairBefore 4 = .ok (.aload_n 0, 1) := by decide +kernel
theorem d_P_isPairBefore_5 : decode b_P_isPairBefore 5 = .ok (.getfield 37, 3) := by decide +kernel
theorem d_P_isPairBefore_8 : decode b_P_isPairBefore 8 = .ok (.getfield 144, 3) := by decide +kernel
theorem d_P_isPairBefore_11 : decode b_P_isPairBefore 11 = .ok (.iload_n 1, 1) := by decide +kernel
theorem d_P_isPairBefore_12 : decode b_P_isPairBefore 12 = .ok (.iaload, 1) := by decide +kernel
theorem d_P_isPairBefore_13 : decode b_P_isPairBefore 13 = .ok (.iload_n 2, 1) := by decide +kernel
theorem d_P_isPairBefore_14 : decode b_P_isPairBefore 14 = .ok (.invokevirtual 192, 3) := by decide +kernel
theorem d_P_isPairBefore_17 : decode b_P_isPairBefore 17 = .ok (.ifCond .eq 27, 3) := by decide +kernel
theorem d_P_isPairBefore_20 : decode b_P_isPairBefore 20 = .ok (.aload_n 0, 1) := by decide +kernel
theorem d_P_isPairBefore_21 : decode b_P_isPairBefore 21 = .ok (.getfield 10, 3) := by decide +kernel
theorem d_P_isPairBefore_24 : decode b_P_isPairBefore 24 = .ok (.aload_n 0, 1) := by decide +kernel
theorem d_P_isPairBefore_25 : decode b_P_isPairBefore 25 = .ok (.getfield 37, 3) := by decide +kernel
theorem d_P_isPairBefore_28 : decode b_P_isPairBefore 28 = .ok (.getfield 148, 3) := by decide +kernel
theorem d_P_isPairBefore_31 : decode b_P_isPairBefore 31 = .ok (.iload_n 1, 1) := by decide +kernel
theorem d_P_isPairBefore_32 : decode b_P_isPairBefore 32 = .ok (.iaload, 1) := by decide +kernel
theorem d_P_isPairBefore_33 : decode b_P_isPairBefore 33 = .ok (.iload_n 2, 1) := by decide +kernel
theorem d_P_isPairBefore_34 : decode b_P_isPairBefore 34 = .ok (.invokevirtual 192, 3) := by decide +kernel
theorem d_P_isPairBefore_37 : decode b_P_isPairBefore 37 = .ok (.ifCond .eq 7, 3) := by decide +kernel
theorem d_P_isPairBefore_40 : decode b_P_isPairBefore 40 = .ok (.iconst 1, 1) := by decide +kernel
theorem d_P_isPairBefore_41 : decode b_P_isPairBefore 41 = .ok (.goto 4, 3) := by decide +kernel
theorem d_P_isPairBefore_44 : decode b_P_isPairBefore 44 = .ok (.iconst 0, 1) := by decide +kernel
theorem d_P_isPairBefore_45 : decode b_P_isPairBefore 45 = .ok (.ireturn, 1) := by decide +kernel
theorem d_P_commitPair_0 : decode b_P_commitPair 0 = .ok (.aload_n 0, 1) := by decide +kernel
theorem d_P_commitPair_1 : decode b_P_commitPair 1 = .ok (.getfield 37, 3) := by decide +kernel
theorem d_P_commitPair_4 : decode b_P_commitPair 4 = .ok (.getfield 144, 3) := by decide +kernel
theorem d_P_commitPair_7 : decode b_P_commitPair 7 = .ok (.iload_n 1, 1) := by decide +kernel
theorem d_P_commitPair_8 : decode b_P_commitPair 8 = .ok (.iaload, 1) := by decide +kernel
theorem d_P_commitPair_9 : decode b_P_commitPair 9 = .ok (.istore_n 2, 1) := by decide +kernel
theorem d_P_commitPair_10 : decode b_P_commitPair 10 = .ok (.aload_n 0, 1) := by decide +kernel
theorem d_P_commitPair_11 : decode b_P_commitPair 11 = .ok (.getfield 37, 3) := by decide +kernel
theorem d_P_commitPair_14 : decode b_P_commitPair 14 = .ok (.getfield 148, 3) := by decide +kernel
theorem d_P_commitPair_17 : decode b_P_commitPair 17 = .ok (.iload_n 1, 1) := by decide +kernel
theorem d_P_commitPair_18 : decode b_P_commitPair 18 = .ok (.iaload, 1) := by decide +kernel
theorem d_P_commitPair_19 : decode b_P_commitPair 19 = .ok (.istore_n 3, 1) := by decide +kernel
theorem d_P_commitPair_20 : decode b_P_commitPair 20 = .ok (.aload_n 0, 1) := by decide +kernel
theorem d_P_commitPair_21 : decode b_P_commitPair 21 = .ok (.getfield 21, 3) := by decide +kernel
theorem d_P_commitPair_24 : decode b_P_commitPair 24 = .ok (.iload_n 2, 1) := by decide +kernel
theorem d_P_commitPair_25 : decode b_P_commitPair 25 = .ok (.iload_n 3, 1) := by decide +kernel
theorem d_P_commitPair_26 : decode b_P_commitPair 26 = .ok (.invokevirtual 116, 3) := by decide +kernel
theorem d_P_commitPair_29 : decode b_P_commitPair 29 = .ok (.aload_n 0, 1) := by decide +kernel
theorem d_P_commitPair_30 : decode b_P_commitPair 30 = .ok (.dup, 1) := by decide +kernel
theorem d_P_commitPair_31 : decode b_P_commitPair 31 = .ok (.getfield 45, 3) := by decide +kernel
theorem d_P_commitPair_34 : decode b_P_commitPair 34 = .ok (.aload_n 0, 1) := by decide +kernel
theorem d_P_commitPair_35 : decode b_P_commitPair 35 = .ok (.getfield 21, 3) := by decide +kernel
theorem d_P_commitPair_38 : decode b_P_commitPair 38 = .ok (.invokevirtual 195, 3) := by decide +kernel
theorem d_P_commitPair_41 : decode b_P_commitPair 41 = .ok (.lxor, 1) := by decide +kernel
theorem d_P_commitPair_42 : decode b_P_commitPair 42 = .ok (.putfield 45, 3) := by decide +kernel
theorem d_P_commitPair_45 : decode b_P_commitPair 45 = .ok (.aload_n 0, 1) := by decide +kernel
theorem d_P_commitPair_46 : decode b_P_commitPair 46 = .ok (.dup, 1) := by decide +kernel
theorem d_P_commitPair_47 : decode b_P_commitPair 47 = .ok (.getfield 41, 3) := by decide +kernel
theorem d_P_commitPair_50 : decode b_P_commitPair 50 = .ok (.iconst 1, 1) := by decide +kernel
theorem d_P_commitPair_51 : decode b_P_commitPair 51 = .ok (.iload_n 2, 1) := by decide +kernel
theorem d_P_commitPair_52 : decode b_P_commitPair 52 = .ok (.ishl, 1) := by decide +kernel
theorem d_P_commitPair_53 : decode b_P_commitPair 53 = .ok (.iconst 1, 1) := by decide +kernel
theorem d_P_commitPair_54 : decode b_P_commitPair 54 = .ok (.iload_n 3, 1) := by decide +kernel
theorem d_P_commitPair_55 : decode b_P_commitPair 55 = .ok (.ishl, 1) := by decide +kernel
theorem d_P_commitPair_56 : decode b_P_commitPair 56 = .ok (.ior, 1) := by decide +kernel
theorem d_P_commitPair_57 : decode b_P_commitPair 57 = .ok (.iconst (-1), 1) := by decide +kernel
theorem d_P_commitPair_58 : decode b_P_commitPair 58 = .ok (.ixor, 1) := by decide +kernel
theorem d_P_commitPair_59 : decode b_P_commitPair 59 = .ok (.iand, 1) := by decide +kernel
theorem d_P_commitPair_60 : decode b_P_commitPair 60 = .ok (.putfield 41, 3) := by decide +kernel
theorem d_P_commitPair_63 : decode b_P_commitPair 63 = .ok (.return_, 1) := by decide +kernel
