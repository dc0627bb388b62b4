theorem d_M_init_0 : decode b_M_init 0 = .ok (.aload_n 0, 1) := by decide +kernel
theorem d_M_init_1 : decode b_M_init 1 = .ok (.invokespecial 3, 3) := by decide +kernel
theorem d_M_init_4 : decode b_M_init 4 = .ok (.aload_n 0, 1) := by decide +kernel
theorem d_M_init_5 : decode b_M_init 5 = .ok (.bipush 10, 2) := by decide +kernel
theorem d_M_init_7 : decode b_M_init 7 = .ok (.newarray .int, 2) := by decide +kernel
theorem d_M_init_9 : decode b_M_init 9 = .ok (.putfield 9, 3) := by decide +kernel
theorem d_M_init_12 : decode b_M_init 12 = .ok (.aload_n 0, 1) := by decide +kernel
theorem d_M_init_13 : decode b_M_init 13 = .ok (.bipush 10, 2) := by decide +kernel
theorem d_M_init_15 : decode b_M_init 15 = .ok (.newarray .int, 2) := by decide +kernel
theorem d_M_init_17 : decode b_M_init 17 = .ok (.putfield 15, 3) := by decide +kernel
theorem d_M_init_20 : decode b_M_init 20 = .ok (.aload_n 0, 1) := by decide +kernel
theorem d_M_init_21 : decode b_M_init 21 = .ok (.bipush 100, 2) := by decide +kernel
theorem d_M_init_23 : decode b_M_init 23 = .ok (.newarray .int, 2) := by decide +kernel
theorem d_M_init_25 : decode b_M_init 25 = .ok (.putfield 18, 3) := by decide +kernel
theorem d_M_init_28 : decode b_M_init 28 = .ok (.aload_n 0, 1) := by decide +kernel
theorem d_M_init_29 : decode b_M_init 29 = .ok (.sipush 1024, 3) := by decide +kernel
theorem d_M_init_32 : decode b_M_init 32 = .ok (.newarray .int, 2) := by decide +kernel
theorem d_M_init_34 : decode b_M_init 34 = .ok (.putfield 21, 3) := by decide +kernel
theorem d_M_init_37 : decode b_M_init 37 = .ok (.aload_n 0, 1) := by decide +kernel
theorem d_M_init_38 : decode b_M_init 38 = .ok (.sipush 1024, 3) := by decide +kernel
theorem d_M_init_41 : decode b_M_init 41 = .ok (.newarray .int, 2) := by decide +kernel
theorem d_M_init_43 : decode b_M_init 43 = .ok (.putfield 24, 3) := by decide +kernel
theorem d_M_init_46 : decode b_M_init 46 = .ok (.aload_n 0, 1) := by decide +kernel
theorem d_M_init_47 : decode b_M_init 47 = .ok (.iconst 0, 1) := by decide +kernel
theorem d_M_init_48 : decode b_M_init 48 = .ok (.putfield 27, 3) := by decide +kernel
theorem d_M_init_51 : decode b_M_init 51 = .ok (.aload_n 0, 1) := by decide +kernel
theorem d_M_init_52 : decode b_M_init 52 = .ok (.aload_n 1, 1) := by decide +kernel
theorem d_M_init_53 : decode b_M_init 53 = .ok (.putfield 31, 3) := by decide +kernel
theorem d_M_init_56 : decode b_M_init 56 = .ok (.aload_n 0, 1) := by decide +kernel
theorem d_M_init_57 : decode b_M_init 57 = .ok (.aload_n 2, 1) := by decide +kernel
theorem d_M_init_58 : decode b_M_init 58 = .ok (.putfield 35, 3) := by decide +kernel
theorem d_M_init_61 : decode b_M_init 61 = .ok (.return_, 1) := by decide +kernel
theorem d_M_solve_0 : decode b_M_solve 0 = .ok (.aload_n 0, 1) := by decide +kernel
theorem d_M_solve_1 : decode b_M_solve 1 = .ok (.iload_n 1, 1) := by decide +kernel
theorem d_M_solve_2 : decode b_M_solve 2 = .ok (.invokevirtual 39, 3) := by decide +kernel
theorem d_M_solve_5 : decode b_M_solve 5 = .ok (.aload_n 0, 1) := by decide +kernel
theorem d_M_solve_6 : decode b_M_solve 6 = .ok (.invokevirtual 43, 3) := by decide +kernel
theorem d_M_solve_9 : decode b_M_solve 9 = .ok (.aload_n 0, 1) := by decide +kernel
theorem d_M_solve_10 : decode b_M_solve 10 = .ok (.getfield 21, 3) := by decide +kernel
theorem d_M_solve_13 : decode b_M_solve 13 = .ok (.iconst 0, 1) := by decide +kernel
theorem d_M_solve_14 : decode b_M_solve 14 = .ok (.iconst 0, 1) := by decide +kernel
theorem d_M_solve_15 : decode b_M_solve 15 = .ok (.iastore, 1) := by decide +kernel
theorem d_M_solve_16 : decode b_M_solve 16 = .ok (.aload_n 0, 1) := by decide +kernel
theorem d_M_solve_17 : decode b_M_solve 17 = .ok (.getfield 24, 3) := by decide +kernel
theorem d_M_solve_20 : decode b_M_solve 20 = .ok (.iconst 0, 1) := by decide +kernel
theorem d_M_solve_21 : decode b_M_solve 21 = .ok (.iconst 1, 1) := by decide +kernel
theorem d_M_solve_22 : decode b_M_solve 22 = .ok (.iastore, 1) := by decide +kernel
theorem d_M_solve_23 : decode b_M_solve 23 = .ok (.aload_n 0, 1) := by decide +kernel
theorem d_M_solve_24 : decode b_M_solve 24 = .ok (.invokevirtual 46, 3) := by decide +kernel
theorem d_M_solve_27 : decode b_M_solve 27 = .ok (.istore_n 2, 1) := by decide +kernel
theorem d_M_solve_28 : decode b_M_solve 28 = .ok (.iconst 1, 1) := by decide +kernel
theorem d_M_solve_29 : decode b_M_solve 29 = .ok (.istore_n 3, 1) := by decide +kernel
theorem d_M_solve_30 : decode b_M_solve 30 = .ok (.iload_n 3, 1) := by decide +kernel
theorem d_M_solve_31 : decode b_M_solve 31 = .ok (.iload_n 2, 1) := by decide +kernel
theorem d_M_solve_32 : decode b_M_solve 32 = .ok (.if_icmp .gt 14, 3) := by decide +kernel
theorem d_M_solve_35 : decode b_M_solve 35 = .ok (.aload_n 0, 1) := by decide +kernel
theorem d_M_solve_36 : decode b_M_solve 36 = .ok (.iload_n 3, 1) := by decide +kernel
theorem d_M_solve_37 : decode b_M_solve 37 = .ok (.invokevirtual 50, 3) := by decide +kernel
theorem d_M_solve_40 : decode b_M_solve 40 = .ok (.iinc 3 1, 3) := by decide +kernel
theorem d_M_solve_43 : decode b_M_solve 43 = .ok (.goto (-13), 3) := by decide +kernel
theorem d_M_solve_46 : decode b_M_solve 46 = .ok (.aload_n 0, 1) := by decide +kernel
theorem d_M_solve_47 : decode b_M_solve 47 = .ok (.getfield 21, 3) := by decide +kernel
theorem d_M_solve_50 : decode b_M_solve 50 = .ok (.iload_n 2, 1) := by decide +kernel
theorem d_M_solve_51 : decode b_M_solve 51 = .ok (.iaload, 1) := by decide +kernel
theorem d_M_solve_52 : decode b_M_solve 52 = .ok (.ldc 53, 2) := by decide +kernel
theorem d_M_solve_54 : decode b_M_solve 54 = .ok (.if_icmp .eq 7, 3) := by decide +kernel
theorem d_M_solve_57 : decode b_M_solve 57 = .ok (.iconst 1, 1) := by decide +kernel
theorem d_M_solve_58 : decode b_M_solve 58 = .ok (.goto 4, 3) := by decide +kernel
theorem d_M_solve_61 : decode b_M_solve 61 = .ok (.iconst 0, 1) := by decide +kernel
theorem d_M_solve_62 : decode b_M_solve 62 = .ok (.ireturn, 1) := by decide +kernel
theorem d_M_layRow_0 : decode b_M_layRow 0 = .ok (.aload_n 0, 1) := by decide +kernel
theorem d_M_layRow_1 : decode b_M_layRow 1 = .ok (.iconst 0, 1) := by decide +kernel
theorem d_M_layRow_2 : decode b_M_layRow 2 = .ok (.putfield 27, 3) := by decide +kernel
theorem d_M_layRow_5 : decode b_M_layRow 5 = .ok (.iconst 0, 1) := by decide +kernel
theorem d_M_layRow_6 : decode b_M_layRow 6 = .ok (.istore_n 2, 1) := by decide +kernel
theorem d_M_layRow_7 : decode b_M_layRow 7 = .ok (.iload_n 2, 1) := by decide +kernel
theorem d_M_layRow_8 : decode b_M_layRow 8 = .ok (.aload_n 0, 1) := by decide +kernel
theorem d_M_layRow_9 : decode b_M_layRow 9 = .ok (.getfield 31, 3) := by decide +kernel
theorem d_M_layRow_12 : decode b_M_layRow 12 = .ok (.getfield 84, 3) := by decide +kernel
theorem d_M_layRow_15 : decode b_M_layRow 15 = .ok (.if_icmp .ge 61, 3) := by decide +kernel
theorem d_M_layRow_18 : decode b_M_layRow 18 = .ok (.aload_n 0, 1) := by decide +kernel
theorem d_M_layRow_19 : decode b_M_layRow 19 = .ok (.getfield 27, 3) := by decide +kernel
theorem d_M_layRow_22 : decode b_M_layRow 22 = .ok (.bipush 10, 2) := by decide +kernel
theorem d_M_layRow_24 : decode b_M_layRow 24 = .ok (.if_icmp .ge 52, 3) := by decide +kernel
theorem d_M_layRow_27 : decode b_M_layRow 27 = .ok (.iload_n 1, 1) := by decide +kernel
theorem d_M_layRow_28 : decode b_M_layRow 28 = .ok (.iload_n 2, 1) := by decide +kernel
theorem d_M_layRow_29 : decode b_M_layRow 29 = .ok (.ishr, 1) := by decide +kernel
theorem d_M_layRow_30 : decode b_M_layRow 30 = .ok (.iconst 1, 1) := by decide +kernel
theorem d_M_layRow_31 : decode b_M_layRow 31 = .ok (.iand, 1) := by decide +kernel
theorem d_M_layRow_32 : decode b_M_layRow 32 = .ok (.iconst 1, 1) := by decide +kernel
theorem d_M_layRow_33 : decode b_M_layRow 33 = .ok (.if_icmp .ne 37, 3) := by decide +kernel
theorem d_M_layRow_36 : decode b_M_layRow 36 = .ok (.aload_n 0, 1) := by decide +kernel
theorem d_M_layRow_37 : decode b_M_layRow 37 = .ok (.getfield 9, 3) := by decide +kernel
theorem d_M_layRow_40 : decode b_M_layRow 40 = .ok (.aload_n 0, 1) := by decide +kernel
theorem d_M_layRow_41 : decode b_M_layRow 41 = .ok (.getfield 27, 3) := by decide +kernel
theorem d_M_layRow_44 : decode b_M_layRow 44 = .ok (.iload_n 2, 1) := by decide +kernel
theorem d_M_layRow_45 : decode b_M_layRow 45 = .ok (.iastore, 1) := by decide +kernel
theorem d_M_layRow_46 : decode b_M_layRow 46 = .ok (.aload_n 0, 1) := by decide +kernel
theorem d_M_layRow_47 : decode b_M_layRow 47 = .ok (.getfield 15, 3) := by decide +kernel
theorem d_M_layRow_50 : decode b_M_layRow 50 = .ok (.aload_n 0, 1) := by decide +kernel
theorem d_M_layRow_51 : decode b_M_layRow 51 = .ok (.getfield 27, 3) := by decide +kernel
theorem d_M_layRow_54 : decode b_M_layRow 54 = .ok (.aload_n 0, 1) := by decide +kernel
theorem d_M_layRow_55 : decode b_M_layRow 55 = .ok (.iload_n 2, 1) := by decide +kernel
theorem d_M_layRow_56 : decode b_M_layRow 56 = .ok (.invokevirtual 89, 3) := by decide +kernel
theorem d_M_layRow_59 : decode b_M_layRow 59 = .ok (.iastore, 1) := by decide +kernel
theorem d_M_layRow_60 : decode b_M_layRow 60 = .ok (.aload_n 0, 1) := by decide +kernel
theorem d_M_layRow_61 : decode b_M_layRow 61 = .ok (.dup, 1) := by decide +kernel
theorem d_M_layRow_62 : decode b_M_layRow 62 = .ok (.getfield 27, 3) := by decide +kernel
theorem d_M_layRow_65 : decode b_M_layRow 65 = .ok (.iconst 1, 1) := by decide +kernel
theorem d_M_layRow_66 : decode b_M_layRow 66 = .ok (.iadd, 1) := by decide +kernel
theorem d_M_layRow_67 : decode b_M_layRow 67 = .ok (.putfield 27, 3) := by decide +kernel
theorem d_M_layRow_70 : decode b_M_layRow 70 = .ok (.iinc 2 1, 3) := by decide +kernel
theorem d_M_layRow_73 : decode b_M_layRow 73 = .ok (.goto (-66), 3) := by decide +kernel
theorem d_M_layRow_76 : decode b_M_layRow 76 = .ok (.return_, 1) := by decide +kernel
theorem d_M_nearestBoundary_0 : decode b_M_nearestBoundary 0 = .ok (.iconst (-1), 1) := by decide +kernel
theorem d_M_nearestBoundary_1 : decode b_M_nearestBoundary 1 = .ok (.istore_n 2, 1) := by decide +kernel
theorem d_M_nearestBoundary_2 : decode b_M_nearestBoundary 2 = .ok (.iconst 0, 1) := by decide +kernel
theorem d_M_nearestBoundary_3 : decode b_M_nearestBoundary 3 = .ok (.istore_n 3, 1) := by decide +kernel
theorem d_M_nearestBoundary_4 : decode b_M_nearestBoundary 4 = .ok (.iload_n 3, 1) := by decide +kernel
theorem d_M_nearestBoundary_5 : decode b_M_nearestBoundary 5 = .ok (.aload_n 0, 1) := by decide +kernel
theorem d_M_nearestBoundary_6 : decode b_M_nearestBoundary 6 = .ok (.getfield 31, 3) := by decide +kernel
theorem d_M_nearestBoundary_9 : decode b_M_nearestBoundary 9 = .ok (.getfield 84, 3) := by decide +kernel
theorem d_M_nearestBoundary_12 : decode b_M_nearestBoundary 12 = .ok (.if_icmp .ge 60, 3) := by decide +kernel
theorem d_M_nearestBoundary_15 : decode b_M_nearestBoundary 15 = .ok (.aload_n 0, 1) := by decide +kernel
theorem d_M_nearestBoundary_16 : decode b_M_nearestBoundary 16 = .ok (.getfield 31, 3) := by decide +kernel
theorem d_M_nearestBoundary_19 : decode b_M_nearestBoundary 19 = .ok (.iload_n 3, 1) := by decide +kernel
theorem d_M_nearestBoundary_20 : decode b_M_nearestBoundary 20 = .ok (.invokevirtual 93, 3) := by decide +kernel
theorem d_M_nearestBoundary_23 : decode b_M_nearestBoundary 23 = .ok (.ifCond .eq 43, 3) := by decide +kernel
theorem d_M_nearestBoundary_26 : decode b_M_nearestBoundary 26 = .ok (.aload_n 0, 1) := by decide +kernel
theorem d_M_nearestBoundary_27 : decode b_M_nearestBoundary 27 = .ok (.getfield 35, 3) := by decide +kernel
theorem d_M_nearestBoundary_30 : decode b_M_nearestBoundary 30 = .ok (.iload_n 1, 1) := by decide +kernel
theorem d_M_nearestBoundary_31 : decode b_M_nearestBoundary 31 = .ok (.iload_n 3, 1) := by decide +kernel
theorem d_M_nearestBoundary_32 : decode b_M_nearestBoundary 32 = .ok (.invokevirtual 97, 3) := by decide +kernel
theorem d_M_nearestBoundary_35 : decode b_M_nearestBoundary 35 = .ok (.ifCond .eq 31, 3) := by decide +kernel
theorem d_M_nearestBoundary_38 : decode b_M_nearestBoundary 38 = .ok (.iload_n 2, 1) := by decide +kernel
theorem d_M_nearestBoundary_39 : decode b_M_nearestBoundary 39 = .ok (.iconst (-1), 1) := by decide +kernel
theorem d_M_nearestBoundary_40 : decode b_M_nearestBoundary 40 = .ok (.if_icmp .eq 24, 3) := by decide +kernel
theorem d_M_nearestBoundary_43 : decode b_M_nearestBoundary 43 = .ok (.aload_n 0, 1) := by decide +kernel
theorem d_M_nearestBoundary_44 : decode b_M_nearestBoundary 44 = .ok (.getfield 35, 3) := by decide +kernel
theorem d_M_nearestBoundary_47 : decode b_M_nearestBoundary 47 = .ok (.iload_n 1, 1) := by decide +kernel
theorem d_M_nearestBoundary_48 : decode b_M_nearestBoundary 48 = .ok (.iload_n 3, 1) := by decide +kernel
theorem d_M_nearestBoundary_49 : decode b_M_nearestBoundary 49 = .ok (.invokevirtual 101, 3) := by decide +kernel
theorem d_M_nearestBoundary_52 : decode b_M_nearestBoundary 52 = .ok (.aload_n 0, 1) := by decide +kernel
theorem d_M_nearestBoundary_53 : decode b_M_nearestBoundary 53 = .ok (.getfield 35, 3) := by decide +kernel
theorem d_M_nearestBoundary_56 : decode b_M_nearestBoundary 56 = .ok (.iload_n 1, 1) := by decide +kernel
theorem d_M_nearestBoundary_57 : decode b_M_nearestBoundary 57 = .ok (.iload_n 2, 1) := by decide +kernel
theorem d_M_nearestBoundary_58 : decode b_M_nearestBoundary 58 = .ok (.invokevirtual 101, 3) := by decide +kernel
theorem d_M_nearestBoundary_61 : decode b_M_nearestBoundary 61 = .ok (.if_icmp .ge 5, 3) := by decide +kernel
theorem d_M_nearestBoundary_64 : decode b_M_nearestBoundary 64 = .ok (.iload_n 3, 1) := by decide +kernel
theorem d_M_nearestBoundary_65 : decode b_M_nearestBoundary 65 = .ok (.istore_n 2, 1) := by decide +kernel
theorem d_M_nearestBoundary_66 : decode b_M_nearestBoundary 66 = .ok (.iinc 3 1, 3) := by decide +kernel
theorem d_M_nearestBoundary_69 : decode b_M_nearestBoundary 69 = .ok (.goto (-65), 3) := by decide +kernel
theorem d_M_nearestBoundary_72 : decode b_M_nearestBoundary 72 = .ok (.iload_n 2, 1) := by decide +kernel
theorem d_M_nearestBoundary_73 : decode b_M_nearestBoundary 73 = .ok (.ireturn, 1) := by decide +kernel
theorem d_M_weighPairs_0 : decode b_M_weighPairs 0 = .ok (.iconst 0, 1) := by decide +kernel
theorem d_M_weighPairs_1 : decode b_M_weighPairs 1 = .ok (.istore_n 1, 1) := by decide +kernel
theorem d_M_weighPairs_2 : decode b_M_weighPairs 2 = .ok (.iload_n 1, 1) := by decide +kernel
theorem d_M_weighPairs_3 : decode b_M_weighPairs 3 = .ok (.aload_n 0, 1) := by decide +kernel
theorem d_M_weighPairs_4 : decode b_M_weighPairs 4 = .ok (.getfield 27, 3) := by decide +kernel
theorem d_M_weighPairs_7 : decode b_M_weighPairs 7 = .ok (.if_icmp .ge 84, 3) := by decide +kernel
theorem d_M_weighPairs_10 : decode b_M_weighPairs 10 = .ok (.iload_n 1, 1) := by decide +kernel
theorem d_M_weighPairs_11 : decode b_M_weighPairs 11 = .ok (.istore_n 2, 1) := by decide +kernel
theorem d_M_weighPairs_12 : decode b_M_weighPairs 12 = .ok (.iload_n 2, 1) := by decide +kernel
theorem d_M_weighPairs_13 : decode b_M_weighPairs 13 = .ok (.aload_n 0, 1) := by decide +kernel
theorem d_M_weighPairs_14 : decode b_M_weighPairs 14 = .ok (.getfield 27, 3) := by decide +kernel
theorem d_M_weighPairs_17 : decode b_M_weighPairs 17 = .ok (.if_icmp .ge 68, 3) := by decide +kernel
theorem d_M_weighPairs_20 : decode b_M_weighPairs 20 = .ok (.aload_n 0, 1) := by decide +kernel
theorem d_M_weighPairs_21 : decode b_M_weighPairs 21 = .ok (.iload_n 1, 1) := by decide +kernel
theorem d_M_weighPairs_22 : decode b_M_weighPairs 22 = .ok (.iload_n 2, 1) := by decide +kernel
theorem d_M_weighPairs_23 : decode b_M_weighPairs 23 = .ok (.invokevirtual 64, 3) := by decide +kernel
theorem d_M_weighPairs_26 : decode b_M_weighPairs 26 = .ok (.istore_n 3, 1) := by decide +kernel
theorem d_M_weighPairs_27 : decode b_M_weighPairs 27 = .ok (.aload_n 0, 1) := by decide +kernel
theorem d_M_weighPairs_28 : decode b_M_weighPairs 28 = .ok (.getfield 18, 3) := by decide +kernel
theorem d_M_weighPairs_31 : decode b_M_weighPairs 31 = .ok (.iload_n 1, 1) := by decide +kernel
theorem d_M_weighPairs_32 : decode b_M_weighPairs 32 = .ok (.bipush 10, 2) := by decide +kernel
theorem d_M_weighPairs_34 : decode b_M_weighPairs 34 = .ok (.imul, 1) := by decide +kernel
theorem d_M_weighPairs_35 : decode b_M_weighPairs 35 = .ok (.iload_n 2, 1) := by decide +kernel
theorem d_M_weighPairs_36 : decode b_M_weighPairs 36 = .ok (.iadd, 1) := by decide +kernel
theorem d_M_weighPairs_37 : decode b_M_weighPairs 37 = .ok (.iload_n 3, 1) := by decide +kernel
theorem d_M_weighPairs_38 : decode b_M_weighPairs 38 = .ok (.iconst (-1), 1) := by decide +kernel
theorem d_M_weighPairs_39 : decode b_M_weighPairs 39 = .ok (.if_icmp .eq 37, 3) := by decide +kernel
theorem d_M_weighPairs_42 : decode b_M_weighPairs 42 = .ok (.aload_n 0, 1) := by decide +kernel
theorem d_M_weighPairs_43 : decode b_M_weighPairs 43 = .ok (.getfield 35, 3) := by decide +kernel
theorem d_M_weighPairs_46 : decode b_M_weighPairs 46 = .ok (.aload_n 0, 1) := by decide +kernel
theorem d_M_weighPairs_47 : decode b_M_weighPairs 47 = .ok (.getfield 9, 3) := by decide +kernel
theorem d_M_weighPairs_50 : decode b_M_weighPairs 50 = .ok (.iload_n 1, 1) := by decide +kernel
theorem d_M_weighPairs_51 : decode b_M_weighPairs 51 = .ok (.iaload, 1) := by decide +kernel
theorem d_M_weighPairs_52 : decode b_M_weighPairs 52 = .ok (.iload_n 3, 1) := by decide +kernel
theorem d_M_weighPairs_53 : decode b_M_weighPairs 53 = .ok (.invokevirtual 97, 3) := by decide +kernel
theorem d_M_weighPairs_56 : decode b_M_weighPairs 56 = .ok (.ifCond .eq 20, 3) := by decide +kernel
theorem d_M_weighPairs_59 : decode b_M_weighPairs 59 = .ok (.aload_n 0, 1) := by decide +kernel
theorem d_M_weighPairs_60 : decode b_M_weighPairs 60 = .ok (.getfield 35, 3) := by decide +kernel
theorem d_M_weighPairs_63 : decode b_M_weighPairs 63 = .ok (.aload_n 0, 1) := by decide +kernel
theorem d_M_weighPairs_64 : decode b_M_weighPairs 64 = .ok (.getfield 9, 3) := by decide +kernel
theorem d_M_weighPairs_67 : decode b_M_weighPairs 67 = .ok (.iload_n 1, 1) := by decide +kernel
theorem d_M_weighPairs_68 : decode b_M_weighPairs 68 = .ok (.iaload, 1) := by decide +kernel
theorem d_M_weighPairs_69 : decode b_M_weighPairs 69 = .ok (.iload_n 3, 1) := by decide +kernel
theorem d_M_weighPairs_70 : decode b_M_weighPairs 70 = .ok (.invokevirtual 101, 3) := by decide +kernel
theorem d_M_weighPairs_73 : decode b_M_weighPairs 73 = .ok (.goto 5, 3) := by decide +kernel
theorem d_M_weighPairs_76 : decode b_M_weighPairs 76 = .ok (.ldc 53, 2) := by decide +kernel
theorem d_M_weighPairs_78 : decode b_M_weighPairs 78 = .ok (.iastore, 1) := by decide +kernel
theorem d_M_weighPairs_79 : decode b_M_weighPairs 79 = .ok (.iinc 2 1, 3) := by decide +kernel
theorem d_M_weighPairs_82 : decode b_M_weighPairs 82 = .ok (.goto (-70), 3) := by decide +kernel
theorem d_M_weighPairs_85 : decode b_M_weighPairs 85 = .ok (.iinc 1 1, 3) := by decide +kernel
theorem d_M_weighPairs_88 : decode b_M_weighPairs 88 = .ok (.goto (-86), 3) := by decide +kernel
theorem d_M_weighPairs_91 : decode b_M_weighPairs 91 = .ok (.return_, 1) := by decide +kernel
theorem d_M_pointOf_0 : decode b_M_pointOf 0 = .ok (.iload_n 2, 1) := by decide +kernel
theorem d_M_pointOf_1 : decode b_M_pointOf 1 = .ok (.iload_n 1, 1) := by decide +kernel
theorem d_M_pointOf_2 : decode b_M_pointOf 2 = .ok (.if_icmp .ne 12, 3) := by decide +kernel
theorem d_M_pointOf_5 : decode b_M_pointOf 5 = .ok (.aload_n 0, 1) := by decide +kernel
theorem d_M_pointOf_6 : decode b_M_pointOf 6 = .ok (.getfield 15, 3) := by decide +kernel
theorem d_M_pointOf_9 : decode b_M_pointOf 9 = .ok (.iload_n 1, 1) := by decide +kernel
theorem d_M_pointOf_10 : decode b_M_pointOf 10 = .ok (.iaload, 1) := by decide +kernel
theorem d_M_pointOf_11 : decode b_M_pointOf 11 = .ok (.goto 9, 3) := by decide +kernel
theorem d_M_pointOf_14 : decode b_M_pointOf 14 = .ok (.aload_n 0, 1) := by decide +kernel
theorem d_M_pointOf_15 : decode b_M_pointOf 15 = .ok (.getfield 9, 3) := by decide +kernel
theorem d_M_pointOf_18 : decode b_M_pointOf 18 = .ok (.iload_n 2, 1) := by decide +kernel
theorem d_M_pointOf_19 : decode b_M_pointOf 19 = .ok (.iaload, 1) := by decide +kernel
theorem d_M_pointOf_20 : decode b_M_pointOf 20 = .ok (.ireturn, 1) := by decide +kernel
theorem d_M_wholeGroup_0 : decode b_M_wholeGroup 0 = .ok (.iconst 1, 1) := by decide +kernel
theorem d_M_wholeGroup_1 : decode b_M_wholeGroup 1 = .ok (.aload_n 0, 1) := by decide +kernel
theorem d_M_wholeGroup_2 : decode b_M_wholeGroup 2 = .ok (.getfield 27, 3) := by decide +kernel
theorem d_M_wholeGroup_5 : decode b_M_wholeGroup 5 = .ok (.ishl, 1) := by decide +kernel
theorem d_M_wholeGroup_6 : decode b_M_wholeGroup 6 = .ok (.iconst 1, 1) := by decide +kernel
theorem d_M_wholeGroup_7 : decode b_M_wholeGroup 7 = .ok (.isub, 1) := by decide +kernel
theorem d_M_wholeGroup_8 : decode b_M_wholeGroup 8 = .ok (.ireturn, 1) := by decide +kernel
theorem d_M_solveGroup_0 : decode b_M_solveGroup 0 = .ok (.aload_n 0, 1) := by decide +kernel
theorem d_M_solveGroup_1 : decode b_M_solveGroup 1 = .ok (.iload_n 1, 1) := by decide +kernel
theorem d_M_solveGroup_2 : decode b_M_solveGroup 2 = .ok (.invokevirtual 104, 3) := by decide +kernel
theorem d_M_solveGroup_5 : decode b_M_solveGroup 5 = .ok (.istore_n 2, 1) := by decide +kernel
theorem d_M_solveGroup_6 : decode b_M_solveGroup 6 = .ok (.aload_n 0, 1) := by decide +kernel
theorem d_M_solveGroup_7 : decode b_M_solveGroup 7 = .ok (.getfield 21, 3) := by decide +kernel
theorem d_M_solveGroup_10 : decode b_M_solveGroup 10 = .ok (.iload_n 1, 1) := by decide +kernel
theorem d_M_solveGroup_11 : decode b_M_solveGroup 11 = .ok (.ldc 53, 2) := by decide +kernel
theorem d_M_solveGroup_13 : decode b_M_solveGroup 13 = .ok (.iastore, 1) := by decide +kernel
theorem d_M_solveGroup_14 : decode b_M_solveGroup 14 = .ok (.aload_n 0, 1) := by decide +kernel
theorem d_M_solveGroup_15 : decode b_M_solveGroup 15 = .ok (.getfield 24, 3) := by decide +kernel
theorem d_M_solveGroup_18 : decode b_M_solveGroup 18 = .ok (.iload_n 1, 1) := by decide +kernel
theorem d_M_solveGroup_19 : decode b_M_solveGroup 19 = .ok (.iconst 0, 1) := by decide +kernel
theorem d_M_solveGroup_20 : decode b_M_solveGroup 20 = .ok (.iastore, 1) := by decide +kernel
theorem d_M_solveGroup_21 : decode b_M_solveGroup 21 = .ok (.iload_n 2, 1) := by decide +kernel
theorem d_M_solveGroup_22 : decode b_M_solveGroup 22 = .ok (.istore_n 3, 1) := by decide +kernel
theorem d_M_solveGroup_23 : decode b_M_solveGroup 23 = .ok (.iload_n 3, 1) := by decide +kernel
theorem d_M_solveGroup_24 : decode b_M_solveGroup 24 = .ok (.aload_n 0, 1) := by decide +kernel
theorem d_M_solveGroup_25 : decode b_M_solveGroup 25 = .ok (.getfield 27, 3) := by decide +kernel
theorem d_M_solveGroup_28 : decode b_M_solveGroup 28 = .ok (.if_icmp .ge 41, 3) := by decide +kernel
theorem d_M_solveGroup_31 : decode b_M_solveGroup 31 = .ok (.iload_n 1, 1) := by decide +kernel
theorem d_M_solveGroup_32 : decode b_M_solveGroup 32 = .ok (.iload_n 3, 1) := by decide +kernel
theorem d_M_solveGroup_33 : decode b_M_solveGroup 33 = .ok (.ishr, 1) := by decide +kernel
theorem d_M_solveGroup_34 : decode b_M_solveGroup 34 = .ok (.iconst 1, 1) := by decide +kernel
theorem d_M_solveGroup_35 : decode b_M_solveGroup 35 = .ok (.iand, 1) := by decide +kernel
theorem d_M_solveGroup_36 : decode b_M_solveGroup 36 = .ok (.iconst 1, 1) := by decide +kernel
theorem d_M_solveGroup_37 : decode b_M_solveGroup 37 = .ok (.if_icmp .ne 26, 3) := by decide +kernel
theorem d_M_solveGroup_40 : decode b_M_solveGroup 40 = .ok (.aload_n 0, 1) := by decide +kernel
theorem d_M_solveGroup_41 : decode b_M_solveGroup 41 = .ok (.iload_n 1, 1) := by decide +kernel
theorem d_M_solveGroup_42 : decode b_M_solveGroup 42 = .ok (.aload_n 0, 1) := by decide +kernel
theorem d_M_solveGroup_43 : decode b_M_solveGroup 43 = .ok (.iload_n 1, 1) := by decide +kernel
theorem d_M_solveGroup_44 : decode b_M_solveGroup 44 = .ok (.iload_n 2, 1) := by decide +kernel
theorem d_M_solveGroup_45 : decode b_M_solveGroup 45 = .ok (.iload_n 3, 1) := by decide +kernel
theorem d_M_solveGroup_46 : decode b_M_solveGroup 46 = .ok (.invokevirtual 107, 3) := by decide +kernel
theorem d_M_solveGroup_49 : decode b_M_solveGroup 49 = .ok (.aload_n 0, 1) := by decide +kernel
theorem d_M_solveGroup_50 : decode b_M_solveGroup 50 = .ok (.getfield 24, 3) := by decide +kernel
theorem d_M_solveGroup_53 : decode b_M_solveGroup 53 = .ok (.iload_n 1, 1) := by decide +kernel
theorem d_M_solveGroup_54 : decode b_M_solveGroup 54 = .ok (.iload_n 2, 1) := by decide +kernel
theorem d_M_solveGroup_55 : decode b_M_solveGroup 55 = .ok (.iload_n 3, 1) := by decide +kernel
theorem d_M_solveGroup_56 : decode b_M_solveGroup 56 = .ok (.invokestatic 80, 3) := by decide +kernel
theorem d_M_solveGroup_59 : decode b_M_solveGroup 59 = .ok (.iaload, 1) := by decide +kernel
theorem d_M_solveGroup_60 : decode b_M_solveGroup 60 = .ok (.invokevirtual 110, 3) := by decide +kernel
theorem d_M_solveGroup_63 : decode b_M_solveGroup 63 = .ok (.iinc 3 1, 3) := by decide +kernel
theorem d_M_solveGroup_66 : decode b_M_solveGroup 66 = .ok (.goto (-43), 3) := by decide +kernel
theorem d_M_solveGroup_69 : decode b_M_solveGroup 69 = .ok (.return_, 1) := by decide +kernel
theorem d_M_leastPlace_0 : decode b_M_leastPlace 0 = .ok (.iconst 0, 1) := by decide +kernel
theorem d_M_leastPlace_1 : decode b_M_leastPlace 1 = .ok (.istore_n 2, 1) := by decide +kernel
theorem d_M_leastPlace_2 : decode b_M_leastPlace 2 = .ok (.iload_n 2, 1) := by decide +kernel
theorem d_M_leastPlace_3 : decode b_M_leastPlace 3 = .ok (.aload_n 0, 1) := by decide +kernel
theorem d_M_leastPlace_4 : decode b_M_leastPlace 4 = .ok (.getfield 27, 3) := by decide +kernel
theorem d_M_leastPlace_7 : decode b_M_leastPlace 7 = .ok (.iconst 1, 1) := by decide +kernel
theorem d_M_leastPlace_8 : decode b_M_leastPlace 8 = .ok (.isub, 1) := by decide +kernel
theorem d_M_leastPlace_9 : decode b_M_leastPlace 9 = .ok (.if_icmp .ge 17, 3) := by decide +kernel
theorem d_M_leastPlace_12 : decode b_M_leastPlace 12 = .ok (.iload_n 1, 1) := by decide +kernel
theorem d_M_leastPlace_13 : decode b_M_leastPlace 13 = .ok (.iload_n 2, 1) := by decide +kernel
theorem d_M_leastPlace_14 : decode b_M_leastPlace 14 = .ok (.ishr, 1) := by decide +kernel
theorem d_M_leastPlace_15 : decode b_M_leastPlace 15 = .ok (.iconst 1, 1) := by decide +kernel
theorem d_M_leastPlace_16 : decode b_M_leastPlace 16 = .ok (.iand, 1) := by decide +kernel
theorem d_M_leastPlace_17 : decode b_M_leastPlace 17 = .ok (.ifCond .ne 9, 3) := by decide +kernel
theorem d_M_leastPlace_20 : decode b_M_leastPlace 20 = .ok (.iinc 2 1, 3) := by decide +kernel
theorem d_M_leastPlace_23 : decode b_M_leastPlace 23 = .ok (.goto (-21), 3) := by decide +kernel
theorem d_M_leastPlace_26 : decode b_M_leastPlace 26 = .ok (.iload_n 2, 1) := by decide +kernel
theorem d_M_leastPlace_27 : decode b_M_leastPlace 27 = .ok (.ireturn, 1) := by decide +kernel
theorem d_M_weightWith_0 : decode b_M_weightWith 0 = .ok (.aload_n 0, 1) := by decide +kernel
theorem d_M_weightWith_1 : decode b_M_weightWith 1 = .ok (.getfield 18, 3) := by decide +kernel
theorem d_M_weightWith_4 : decode b_M_weightWith 4 = .ok (.iload_n 2, 1) := by decide +kernel
theorem d_M_weightWith_5 : decode b_M_weightWith 5 = .ok (.bipush 10, 2) := by decide +kernel
theorem d_M_weightWith_7 : decode b_M_weightWith 7 = .ok (.imul, 1) := by decide +kernel
theorem d_M_weightWith_8 : decode b_M_weightWith 8 = .ok (.iload_n 3, 1) := by decide +kernel
theorem d_M_weightWith_9 : decode b_M_weightWith 9 = .ok (.iadd, 1) := by decide +kernel
theorem d_M_weightWith_10 : decode b_M_weightWith 10 = .ok (.iaload, 1) := by decide +kernel
theorem d_M_weightWith_11 : decode b_M_weightWith 11 = .ok (.istore 4, 2) := by decide +kernel
theorem d_M_weightWith_13 : decode b_M_weightWith 13 = .ok (.aload_n 0, 1) := by decide +kernel
theorem d_M_weightWith_14 : decode b_M_weightWith 14 = .ok (.getfield 21, 3) := by decide +kernel
theorem d_M_weightWith_17 : decode b_M_weightWith 17 = .ok (.iload_n 1, 1) := by decide +kernel
theorem d_M_weightWith_18 : decode b_M_weightWith 18 = .ok (.iload_n 2, 1) := by decide +kernel
theorem d_M_weightWith_19 : decode b_M_weightWith 19 = .ok (.iload_n 3, 1) := by decide +kernel
theorem d_M_weightWith_20 : decode b_M_weightWith 20 = .ok (.invokestatic 80, 3) := by decide +kernel
theorem d_M_weightWith_23 : decode b_M_weightWith 23 = .ok (.iaload, 1) := by decide +kernel
theorem d_M_weightWith_24 : decode b_M_weightWith 24 = .ok (.istore 5, 2) := by decide +kernel
theorem d_M_weightWith_26 : decode b_M_weightWith 26 = .ok (.iload 4, 2) := by decide +kernel
theorem d_M_weightWith_28 : decode b_M_weightWith 28 = .ok (.ldc 53, 2) := by decide +kernel
theorem d_M_weightWith_30 : decode b_M_weightWith 30 = .ok (.if_icmp .eq 10, 3) := by decide +kernel
theorem d_M_weightWith_33 : decode b_M_weightWith 33 = .ok (.iload 5, 2) := by decide +kernel
theorem d_M_weightWith_35 : decode b_M_weightWith 35 = .ok (.ldc 53, 2) := by decide +kernel
theorem d_M_weightWith_37 : decode b_M_weightWith 37 = .ok (.if_icmp .ne 8, 3) := by decide +kernel
theorem d_M_weightWith_40 : decode b_M_weightWith 40 = .ok (.ldc 53, 2) := by decide +kernel
theorem d_M_weightWith_42 : decode b_M_weightWith 42 = .ok (.goto 8, 3) := by decide +kernel
theorem d_M_weightWith_45 : decode b_M_weightWith 45 = .ok (.iload 4, 2) := by decide +kernel
theorem d_M_weightWith_47 : decode b_M_weightWith 47 = .ok (.iload 5, 2) := by decide +kernel
theorem d_M_weightWith_49 : decode b_M_weightWith 49 = .ok (.iadd, 1) := by decide +kernel
theorem d_M_weightWith_50 : decode b_M_weightWith 50 = .ok (.ireturn, 1) := by decide +kernel
theorem d_M_without_0 : decode b_M_without 0 = .ok (.iload_n 0, 1) := by decide +kernel
theorem d_M_without_1 : decode b_M_without 1 = .ok (.iconst 1, 1) := by decide +kernel
theorem d_M_without_2 : decode b_M_without 2 = .ok (.iload_n 1, 1) := by decide +kernel
theorem d_M_without_3 : decode b_M_without 3 = .ok (.ishl, 1) := by decide +kernel
theorem d_M_without_4 : decode b_M_without 4 = .ok (.iconst 1, 1) := by decide +kernel
theorem d_M_without_5 : decode b_M_without 5 = .ok (.iload_n 2, 1) := by decide +kernel
theorem d_M_without_6 : decode b_M_without 6 = .ok (.ishl, 1) := by decide +kernel
theorem d_M_without_7 : decode b_M_without 7 = .ok (.ior, 1) := by decide +kernel
theorem d_M_without_8 : decode b_M_without 8 = .ok (.iconst (-1), 1) := by decide +kernel
theorem d_M_without_9 : decode b_M_without 9 = .ok (.ixor, 1) := by decide +kernel
theorem d_M_without_10 : decode b_M_without 10 = .ok (.iand, 1) := by decide +kernel
theorem d_M_without_11 : decode b_M_without 11 = .ok (.ireturn, 1) := by decide +kernel
theorem d_M_weighIn_0 : decode b_M_weighIn 0 = .ok (.iload_n 2, 1) := by decide +kernel
theorem d_M_weighIn_1 : decode b_M_weighIn 1 = .ok (.aload_n 0, 1) := by decide +kernel
theorem d_M_weighIn_2 : decode b_M_weighIn 2 = .ok (.getfield 21, 3) := by decide +kernel
theorem d_M_weighIn_5 : decode b_M_weighIn 5 = .ok (.iload_n 1, 1) := by decide +kernel
theorem d_M_weighIn_6 : decode b_M_weighIn 6 = .ok (.iaload, 1) := by decide +kernel
theorem d_M_weighIn_7 : decode b_M_weighIn 7 = .ok (.if_icmp .ge 20, 3) := by decide +kernel
theorem d_M_weighIn_10 : decode b_M_weighIn 10 = .ok (.aload_n 0, 1) := by decide +kernel
theorem d_M_weighIn_11 : decode b_M_weighIn 11 = .ok (.getfield 21, 3) := by decide +kernel
theorem d_M_weighIn_14 : decode b_M_weighIn 14 = .ok (.iload_n 1, 1) := by decide +kernel
theorem d_M_weighIn_15 : decode b_M_weighIn 15 = .ok (.iload_n 2, 1) := by decide +kernel
theorem d_M_weighIn_16 : decode b_M_weighIn 16 = .ok (.iastore, 1) := by decide +kernel
theorem d_M_weighIn_17 : decode b_M_weighIn 17 = .ok (.aload_n 0, 1) := by decide +kernel
theorem d_M_weighIn_18 : decode b_M_weighIn 18 = .ok (.getfield 24, 3) := by decide +kernel
theorem d_M_weighIn_21 : decode b_M_weighIn 21 = .ok (.iload_n 1, 1) := by decide +kernel
theorem d_M_weighIn_22 : decode b_M_weighIn 22 = .ok (.iload_n 3, 1) := by decide +kernel
theorem d_M_weighIn_23 : decode b_M_weighIn 23 = .ok (.iastore, 1) := by decide +kernel
theorem d_M_weighIn_24 : decode b_M_weighIn 24 = .ok (.goto 29, 3) := by decide +kernel
theorem d_M_weighIn_27 : decode b_M_weighIn 27 = .ok (.iload_n 2, 1) := by decide +kernel
theorem d_M_weighIn_28 : decode b_M_weighIn 28 = .ok (.aload_n 0, 1) := by decide +kernel
theorem d_M_weighIn_29 : decode b_M_weighIn 29 = .ok (.getfield 21, 3) := by decide +kernel
theorem d_M_weighIn_32 : decode b_M_weighIn 32 = .ok (.iload_n 1, 1) := by decide +kernel
theorem d_M_weighIn_33 : decode b_M_weighIn 33 = .ok (.iaload, 1) := by decide +kernel
theorem d_M_weighIn_34 : decode b_M_weighIn 34 = .ok (.if_icmp .ne 19, 3) := by decide +kernel
theorem d_M_weighIn_37 : decode b_M_weighIn 37 = .ok (.iload_n 2, 1) := by decide +kernel
theorem d_M_weighIn_38 : decode b_M_weighIn 38 = .ok (.ldc 53, 2) := by decide +kernel
theorem d_M_weighIn_40 : decode b_M_weighIn 40 = .ok (.if_icmp .eq 13, 3) := by decide +kernel
theorem d_M_weighIn_43 : decode b_M_weighIn 43 = .ok (.aload_n 0, 1) := by decide +kernel
theorem d_M_weighIn_44 : decode b_M_weighIn 44 = .ok (.getfield 24, 3) := by decide +kernel
theorem d_M_weighIn_47 : decode b_M_weighIn 47 = .ok (.iload_n 1, 1) := by decide +kernel
theorem d_M_weighIn_48 : decode b_M_weighIn 48 = .ok (.dup2, 1) := by decide +kernel
theorem d_M_weighIn_49 : decode b_M_weighIn 49 = .ok (.iaload, 1) := by decide +kernel
theorem d_M_weighIn_50 : decode b_M_weighIn 50 = .ok (.iload_n 3, 1) := by decide +kernel
theorem d_M_weighIn_51 : decode b_M_weighIn 51 = .ok (.iadd, 1) := by decide +kernel
theorem d_M_weighIn_52 : decode b_M_weighIn 52 = .ok (.iastore, 1) := by decide +kernel
theorem d_M_weighIn_53 : decode b_M_weighIn 53 = .ok (.return_, 1) := by decide +kernel
theorem d_M_tellFirst_0 : decode b_M_tellFirst 0 = .ok (.aload_n 0, 1) := by decide +kernel
theorem d_M_tellFirst_1 : decode b_M_tellFirst 1 = .ok (.invokevirtual 46, 3) := by decide +kernel
theorem d_M_tellFirst_4 : decode b_M_tellFirst 4 = .ok (.istore_n 2, 1) := by decide +kernel
theorem d_M_tellFirst_5 : decode b_M_tellFirst 5 = .ok (.aload_n 1, 1) := by decide +kernel
theorem d_M_tellFirst_6 : decode b_M_tellFirst 6 = .ok (.aload_n 0, 1) := by decide +kernel
theorem d_M_tellFirst_7 : decode b_M_tellFirst 7 = .ok (.getfield 21, 3) := by decide +kernel
theorem d_M_tellFirst_10 : decode b_M_tellFirst 10 = .ok (.iload_n 2, 1) := by decide +kernel
theorem d_M_tellFirst_11 : decode b_M_tellFirst 11 = .ok (.iaload, 1) := by decide +kernel
theorem d_M_tellFirst_12 : decode b_M_tellFirst 12 = .ok (.aload_n 0, 1) := by decide +kernel
theorem d_M_tellFirst_13 : decode b_M_tellFirst 13 = .ok (.getfield 24, 3) := by decide +kernel
theorem d_M_tellFirst_16 : decode b_M_tellFirst 16 = .ok (.iload_n 2, 1) := by decide +kernel
theorem d_M_tellFirst_17 : decode b_M_tellFirst 17 = .ok (.iaload, 1) := by decide +kernel
theorem d_M_tellFirst_18 : decode b_M_tellFirst 18 = .ok (.invokevirtual 54, 3) := by decide +kernel
theorem d_M_tellFirst_21 : decode b_M_tellFirst 21 = .ok (.iconst 0, 1) := by decide +kernel
theorem d_M_tellFirst_22 : decode b_M_tellFirst 22 = .ok (.istore_n 3, 1) := by decide +kernel
theorem d_M_tellFirst_23 : decode b_M_tellFirst 23 = .ok (.iload_n 3, 1) := by decide +kernel
theorem d_M_tellFirst_24 : decode b_M_tellFirst 24 = .ok (.aload_n 0, 1) := by decide +kernel
theorem d_M_tellFirst_25 : decode b_M_tellFirst 25 = .ok (.getfield 27, 3) := by decide +kernel
theorem d_M_tellFirst_28 : decode b_M_tellFirst 28 = .ok (.if_icmp .ge 77, 3) := by decide +kernel
theorem d_M_tellFirst_31 : decode b_M_tellFirst 31 = .ok (.iload_n 2, 1) := by decide +kernel
theorem d_M_tellFirst_32 : decode b_M_tellFirst 32 = .ok (.iload_n 3, 1) := by decide +kernel
theorem d_M_tellFirst_33 : decode b_M_tellFirst 33 = .ok (.ishr, 1) := by decide +kernel
theorem d_M_tellFirst_34 : decode b_M_tellFirst 34 = .ok (.iconst 1, 1) := by decide +kernel
theorem d_M_tellFirst_35 : decode b_M_tellFirst 35 = .ok (.iand, 1) := by decide +kernel
theorem d_M_tellFirst_36 : decode b_M_tellFirst 36 = .ok (.iconst 1, 1) := by decide +kernel
theorem d_M_tellFirst_37 : decode b_M_tellFirst 37 = .ok (.if_icmp .ne 62, 3) := by decide +kernel
theorem d_M_tellFirst_40 : decode b_M_tellFirst 40 = .ok (.aload_n 0, 1) := by decide +kernel
theorem d_M_tellFirst_41 : decode b_M_tellFirst 41 = .ok (.iload_n 2, 1) := by decide +kernel
theorem d_M_tellFirst_42 : decode b_M_tellFirst 42 = .ok (.iload_n 3, 1) := by decide +kernel
theorem d_M_tellFirst_43 : decode b_M_tellFirst 43 = .ok (.invokevirtual 60, 3) := by decide +kernel
theorem d_M_tellFirst_46 : decode b_M_tellFirst 46 = .ok (.istore 4, 2) := by decide +kernel
theorem d_M_tellFirst_48 : decode b_M_tellFirst 48 = .ok (.aload_n 0, 1) := by decide +kernel
theorem d_M_tellFirst_49 : decode b_M_tellFirst 49 = .ok (.iload_n 3, 1) := by decide +kernel
theorem d_M_tellFirst_50 : decode b_M_tellFirst 50 = .ok (.iload 4, 2) := by decide +kernel
theorem d_M_tellFirst_52 : decode b_M_tellFirst 52 = .ok (.invokevirtual 64, 3) := by decide +kernel
theorem d_M_tellFirst_55 : decode b_M_tellFirst 55 = .ok (.istore 5, 2) := by decide +kernel
theorem d_M_tellFirst_57 : decode b_M_tellFirst 57 = .ok (.aload_n 0, 1) := by decide +kernel
theorem d_M_tellFirst_58 : decode b_M_tellFirst 58 = .ok (.getfield 35, 3) := by decide +kernel
theorem d_M_tellFirst_61 : decode b_M_tellFirst 61 = .ok (.aload_n 0, 1) := by decide +kernel
theorem d_M_tellFirst_62 : decode b_M_tellFirst 62 = .ok (.getfield 9, 3) := by decide +kernel
theorem d_M_tellFirst_65 : decode b_M_tellFirst 65 = .ok (.iload_n 3, 1) := by decide +kernel
theorem d_M_tellFirst_66 : decode b_M_tellFirst 66 = .ok (.iaload, 1) := by decide +kernel
theorem d_M_tellFirst_67 : decode b_M_tellFirst 67 = .ok (.iload 5, 2) := by decide +kernel
theorem d_M_tellFirst_69 : decode b_M_tellFirst 69 = .ok (.invokevirtual 67, 3) := by decide +kernel
theorem d_M_tellFirst_72 : decode b_M_tellFirst 72 = .ok (.aload_n 1, 1) := by decide +kernel
theorem d_M_tellFirst_73 : decode b_M_tellFirst 73 = .ok (.aload_n 0, 1) := by decide +kernel
theorem d_M_tellFirst_74 : decode b_M_tellFirst 74 = .ok (.getfield 9, 3) := by decide +kernel
theorem d_M_tellFirst_77 : decode b_M_tellFirst 77 = .ok (.iload_n 3, 1) := by decide +kernel
theorem d_M_tellFirst_78 : decode b_M_tellFirst 78 = .ok (.iaload, 1) := by decide +kernel
theorem d_M_tellFirst_79 : decode b_M_tellFirst 79 = .ok (.iload 5, 2) := by decide +kernel
theorem d_M_tellFirst_81 : decode b_M_tellFirst 81 = .ok (.aload_n 0, 1) := by decide +kernel
theorem d_M_tellFirst_82 : decode b_M_tellFirst 82 = .ok (.getfield 35, 3) := by decide +kernel
theorem d_M_tellFirst_85 : decode b_M_tellFirst 85 = .ok (.invokevirtual 72, 3) := by decide +kernel
theorem d_M_tellFirst_88 : decode b_M_tellFirst 88 = .ok (.invokevirtual 76, 3) := by decide +kernel
theorem d_M_tellFirst_91 : decode b_M_tellFirst 91 = .ok (.iload_n 2, 1) := by decide +kernel
theorem d_M_tellFirst_92 : decode b_M_tellFirst 92 = .ok (.iload_n 3, 1) := by decide +kernel
theorem d_M_tellFirst_93 : decode b_M_tellFirst 93 = .ok (.iload 4, 2) := by decide +kernel
theorem d_M_tellFirst_95 : decode b_M_tellFirst 95 = .ok (.invokestatic 80, 3) := by decide +kernel
theorem d_M_tellFirst_98 : decode b_M_tellFirst 98 = .ok (.istore_n 2, 1) := by decide +kernel
theorem d_M_tellFirst_99 : decode b_M_tellFirst 99 = .ok (.iinc 3 1, 3) := by decide +kernel
theorem d_M_tellFirst_102 : decode b_M_tellFirst 102 = .ok (.goto (-79), 3) := by decide +kernel
theorem d_M_tellFirst_105 : decode b_M_tellFirst 105 = .ok (.return_, 1) := by decide +kernel
theorem d_M_firstPartner_0 : decode b_M_firstPartner 0 = .ok (.iload_n 2, 1) := by decide +kernel
theorem d_M_firstPartner_1 : decode b_M_firstPartner 1 = .ok (.iconst 1, 1) := by decide +kernel
theorem d_M_firstPartner_2 : decode b_M_firstPartner 2 = .ok (.iadd, 1) := by decide +kernel
theorem d_M_firstPartner_3 : decode b_M_firstPartner 3 = .ok (.istore_n 3, 1) := by decide +kernel
theorem d_M_firstPartner_4 : decode b_M_firstPartner 4 = .ok (.iload_n 3, 1) := by decide +kernel
theorem d_M_firstPartner_5 : decode b_M_firstPartner 5 = .ok (.aload_n 0, 1) := by decide +kernel
theorem d_M_firstPartner_6 : decode b_M_firstPartner 6 = .ok (.getfield 27, 3) := by decide +kernel
theorem d_M_firstPartner_9 : decode b_M_firstPartner 9 = .ok (.if_icmp .ge 36, 3) := by decide +kernel
theorem d_M_firstPartner_12 : decode b_M_firstPartner 12 = .ok (.iload_n 1, 1) := by decide +kernel
theorem d_M_firstPartner_13 : decode b_M_firstPartner 13 = .ok (.iload_n 3, 1) := by decide +kernel
theorem d_M_firstPartner_14 : decode b_M_firstPartner 14 = .ok (.ishr, 1) := by decide +kernel
theorem d_M_firstPartner_15 : decode b_M_firstPartner 15 = .ok (.iconst 1, 1) := by decide +kernel
theorem d_M_firstPartner_16 : decode b_M_firstPartner 16 = .ok (.iand, 1) := by decide +kernel
theorem d_M_firstPartner_17 : decode b_M_firstPartner 17 = .ok (.iconst 1, 1) := by decide +kernel
theorem d_M_firstPartner_18 : decode b_M_firstPartner 18 = .ok (.if_icmp .ne 21, 3) := by decide +kernel
theorem d_M_firstPartner_21 : decode b_M_firstPartner 21 = .ok (.aload_n 0, 1) := by decide +kernel
theorem d_M_firstPartner_22 : decode b_M_firstPartner 22 = .ok (.iload_n 1, 1) := by decide +kernel
theorem d_M_firstPartner_23 : decode b_M_firstPartner 23 = .ok (.iload_n 2, 1) := by decide +kernel
theorem d_M_firstPartner_24 : decode b_M_firstPartner 24 = .ok (.iload_n 3, 1) := by decide +kernel
theorem d_M_firstPartner_25 : decode b_M_firstPartner 25 = .ok (.invokevirtual 107, 3) := by decide +kernel
theorem d_M_firstPartner_28 : decode b_M_firstPartner 28 = .ok (.aload_n 0, 1) := by decide +kernel
theorem d_M_firstPartner_29 : decode b_M_firstPartner 29 = .ok (.getfield 21, 3) := by decide +kernel
theorem d_M_firstPartner_32 : decode b_M_firstPartner 32 = .ok (.iload_n 1, 1) := by decide +kernel
theorem d_M_firstPartner_33 : decode b_M_firstPartner 33 = .ok (.iaload, 1) := by decide +kernel
theorem d_M_firstPartner_34 : decode b_M_firstPartner 34 = .ok (.if_icmp .ne 5, 3) := by decide +kernel
theorem d_M_firstPartner_37 : decode b_M_firstPartner 37 = .ok (.iload_n 3, 1) := by decide +kernel
theorem d_M_firstPartner_38 : decode b_M_firstPartner 38 = .ok (.ireturn, 1) := by decide +kernel
theorem d_M_firstPartner_39 : decode b_M_firstPartner 39 = .ok (.iinc 3 1, 3) := by decide +kernel
theorem d_M_firstPartner_42 : decode b_M_firstPartner 42 = .ok (.goto (-38), 3) := by decide +kernel
theorem d_M_firstPartner_45 : decode b_M_firstPartner 45 = .ok (.iload_n 2, 1) := by decide +kernel
theorem d_M_firstPartner_46 : decode b_M_firstPartner 46 = .ok (.ireturn, 1) := by decide +kernel
