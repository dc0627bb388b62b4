theorem d_G_init_0 : decode b_G_init 0 = .ok (.aload_n 0, 1) := by decide +kernel
theorem d_G_init_1 : decode b_G_init 1 = .ok (.invokespecial 3, 3) := by decide +kernel
theorem d_G_init_4 : decode b_G_init 4 = .ok (.aload_n 0, 1) := by decide +kernel
theorem d_G_init_5 : decode b_G_init 5 = .ok (.bipush 20, 2) := by decide +kernel
theorem d_G_init_7 : decode b_G_init 7 = .ok (.newarray .int, 2) := by decide +kernel
theorem d_G_init_9 : decode b_G_init 9 = .ok (.putfield 9, 3) := by decide +kernel
theorem d_G_init_12 : decode b_G_init 12 = .ok (.aload_n 0, 1) := by decide +kernel
theorem d_G_init_13 : decode b_G_init 13 = .ok (.bipush 60, 2) := by decide +kernel
theorem d_G_init_15 : decode b_G_init 15 = .ok (.newarray .int, 2) := by decide +kernel
theorem d_G_init_17 : decode b_G_init 17 = .ok (.putfield 15, 3) := by decide +kernel
theorem d_G_init_20 : decode b_G_init 20 = .ok (.aload_n 0, 1) := by decide +kernel
theorem d_G_init_21 : decode b_G_init 21 = .ok (.bipush 60, 2) := by decide +kernel
theorem d_G_init_23 : decode b_G_init 23 = .ok (.newarray .int, 2) := by decide +kernel
theorem d_G_init_25 : decode b_G_init 25 = .ok (.putfield 18, 3) := by decide +kernel
theorem d_G_init_28 : decode b_G_init 28 = .ok (.aload_n 0, 1) := by decide +kernel
theorem d_G_init_29 : decode b_G_init 29 = .ok (.bipush 60, 2) := by decide +kernel
theorem d_G_init_31 : decode b_G_init 31 = .ok (.newarray .int, 2) := by decide +kernel
theorem d_G_init_33 : decode b_G_init 33 = .ok (.putfield 21, 3) := by decide +kernel
theorem d_G_init_36 : decode b_G_init 36 = .ok (.aload_n 0, 1) := by decide +kernel
theorem d_G_init_37 : decode b_G_init 37 = .ok (.bipush 60, 2) := by decide +kernel
theorem d_G_init_39 : decode b_G_init 39 = .ok (.newarray .int, 2) := by decide +kernel
theorem d_G_init_41 : decode b_G_init 41 = .ok (.putfield 24, 3) := by decide +kernel
theorem d_G_init_44 : decode b_G_init 44 = .ok (.aload_n 0, 1) := by decide +kernel
theorem d_G_init_45 : decode b_G_init 45 = .ok (.iconst 0, 1) := by decide +kernel
theorem d_G_init_46 : decode b_G_init 46 = .ok (.putfield 27, 3) := by decide +kernel
theorem d_G_init_49 : decode b_G_init 49 = .ok (.aload_n 0, 1) := by decide +kernel
theorem d_G_init_50 : decode b_G_init 50 = .ok (.iconst 0, 1) := by decide +kernel
theorem d_G_init_51 : decode b_G_init 51 = .ok (.putfield 31, 3) := by decide +kernel
theorem d_G_init_54 : decode b_G_init 54 = .ok (.aload_n 0, 1) := by decide +kernel
theorem d_G_init_55 : decode b_G_init 55 = .ok (.iconst 0, 1) := by decide +kernel
theorem d_G_init_56 : decode b_G_init 56 = .ok (.putfield 34, 3) := by decide +kernel
theorem d_G_init_59 : decode b_G_init 59 = .ok (.aload_n 0, 1) := by decide +kernel
theorem d_G_init_60 : decode b_G_init 60 = .ok (.lconst 0, 1) := by decide +kernel
theorem d_G_init_61 : decode b_G_init 61 = .ok (.putfield 37, 3) := by decide +kernel
theorem d_G_init_64 : decode b_G_init 64 = .ok (.aload_n 0, 1) := by decide +kernel
theorem d_G_init_65 : decode b_G_init 65 = .ok (.iconst 0, 1) := by decide +kernel
theorem d_G_init_66 : decode b_G_init 66 = .ok (.putfield 41, 3) := by decide +kernel
theorem d_G_init_69 : decode b_G_init 69 = .ok (.return_, 1) := by decide +kernel
theorem d_G_addPoint_0 : decode b_G_addPoint 0 = .ok (.aload_n 0, 1) := by decide +kernel
theorem d_G_addPoint_1 : decode b_G_addPoint 1 = .ok (.getfield 27, 3) := by decide +kernel
theorem d_G_addPoint_4 : decode b_G_addPoint 4 = .ok (.istore_n 3, 1) := by decide +kernel
theorem d_G_addPoint_5 : decode b_G_addPoint 5 = .ok (.aload_n 0, 1) := by decide +kernel
theorem d_G_addPoint_6 : decode b_G_addPoint 6 = .ok (.getfield 9, 3) := by decide +kernel
theorem d_G_addPoint_9 : decode b_G_addPoint 9 = .ok (.iload_n 3, 1) := by decide +kernel
theorem d_G_addPoint_10 : decode b_G_addPoint 10 = .ok (.iload_n 2, 1) := by decide +kernel
theorem d_G_addPoint_11 : decode b_G_addPoint 11 = .ok (.iastore, 1) := by decide +kernel
theorem d_G_addPoint_12 : decode b_G_addPoint 12 = .ok (.iload_n 1, 1) := by decide +kernel
theorem d_G_addPoint_13 : decode b_G_addPoint 13 = .ok (.ifCond .eq 15, 3) := by decide +kernel
theorem d_G_addPoint_16 : decode b_G_addPoint 16 = .ok (.aload_n 0, 1) := by decide +kernel
theorem d_G_addPoint_17 : decode b_G_addPoint 17 = .ok (.dup, 1) := by decide +kernel
theorem d_G_addPoint_18 : decode b_G_addPoint 18 = .ok (.getfield 34, 3) := by decide +kernel
theorem d_G_addPoint_21 : decode b_G_addPoint 21 = .ok (.iconst 1, 1) := by decide +kernel
theorem d_G_addPoint_22 : decode b_G_addPoint 22 = .ok (.iload_n 3, 1) := by decide +kernel
theorem d_G_addPoint_23 : decode b_G_addPoint 23 = .ok (.ishl, 1) := by decide +kernel
theorem d_G_addPoint_24 : decode b_G_addPoint 24 = .ok (.ior, 1) := by decide +kernel
theorem d_G_addPoint_25 : decode b_G_addPoint 25 = .ok (.putfield 34, 3) := by decide +kernel
theorem d_G_addPoint_28 : decode b_G_addPoint 28 = .ok (.aload_n 0, 1) := by decide +kernel
theorem d_G_addPoint_29 : decode b_G_addPoint 29 = .ok (.dup, 1) := by decide +kernel
theorem d_G_addPoint_30 : decode b_G_addPoint 30 = .ok (.getfield 27, 3) := by decide +kernel
theorem d_G_addPoint_33 : decode b_G_addPoint 33 = .ok (.iconst 1, 1) := by decide +kernel
theorem d_G_addPoint_34 : decode b_G_addPoint 34 = .ok (.iadd, 1) := by decide +kernel
theorem d_G_addPoint_35 : decode b_G_addPoint 35 = .ok (.putfield 27, 3) := by decide +kernel
theorem d_G_addPoint_38 : decode b_G_addPoint 38 = .ok (.aload_n 0, 1) := by decide +kernel
theorem d_G_addPoint_39 : decode b_G_addPoint 39 = .ok (.dup, 1) := by decide +kernel
theorem d_G_addPoint_40 : decode b_G_addPoint 40 = .ok (.getfield 41, 3) := by decide +kernel
theorem d_G_addPoint_43 : decode b_G_addPoint 43 = .ok (.iconst 1, 1) := by decide +kernel
theorem d_G_addPoint_44 : decode b_G_addPoint 44 = .ok (.iadd, 1) := by decide +kernel
theorem d_G_addPoint_45 : decode b_G_addPoint 45 = .ok (.putfield 41, 3) := by decide +kernel
theorem d_G_addPoint_48 : decode b_G_addPoint 48 = .ok (.iload_n 3, 1) := by decide +kernel
theorem d_G_addPoint_49 : decode b_G_addPoint 49 = .ok (.ireturn, 1) := by decide +kernel
theorem d_G_canJoin_0 : decode b_G_canJoin 0 = .ok (.aload_n 0, 1) := by decide +kernel
theorem d_G_canJoin_1 : decode b_G_canJoin 1 = .ok (.iload_n 1, 1) := by decide +kernel
theorem d_G_canJoin_2 : decode b_G_canJoin 2 = .ok (.invokevirtual 48, 3) := by decide +kernel
theorem d_G_canJoin_5 : decode b_G_canJoin 5 = .ok (.ifCond .eq 36, 3) := by decide +kernel
theorem d_G_canJoin_8 : decode b_G_canJoin 8 = .ok (.aload_n 0, 1) := by decide +kernel
theorem d_G_canJoin_9 : decode b_G_canJoin 9 = .ok (.iload_n 2, 1) := by decide +kernel
theorem d_G_canJoin_10 : decode b_G_canJoin 10 = .ok (.invokevirtual 48, 3) := by decide +kernel
theorem d_G_canJoin_13 : decode b_G_canJoin 13 = .ok (.ifCond .eq 28, 3) := by decide +kernel
theorem d_G_canJoin_16 : decode b_G_canJoin 16 = .ok (.iload_n 1, 1) := by decide +kernel
theorem d_G_canJoin_17 : decode b_G_canJoin 17 = .ok (.iload_n 2, 1) := by decide +kernel
theorem d_G_canJoin_18 : decode b_G_canJoin 18 = .ok (.if_icmp .eq 23, 3) := by decide +kernel
theorem d_G_canJoin_21 : decode b_G_canJoin 21 = .ok (.aload_n 0, 1) := by decide +kernel
theorem d_G_canJoin_22 : decode b_G_canJoin 22 = .ok (.iload_n 1, 1) := by decide +kernel
theorem d_G_canJoin_23 : decode b_G_canJoin 23 = .ok (.invokevirtual 44, 3) := by decide +kernel
theorem d_G_canJoin_26 : decode b_G_canJoin 26 = .ok (.ifCond .eq 11, 3) := by decide +kernel
theorem d_G_canJoin_29 : decode b_G_canJoin 29 = .ok (.aload_n 0, 1) := by decide +kernel
theorem d_G_canJoin_30 : decode b_G_canJoin 30 = .ok (.iload_n 2, 1) := by decide +kernel
theorem d_G_canJoin_31 : decode b_G_canJoin 31 = .ok (.invokevirtual 44, 3) := by decide +kernel
theorem d_G_canJoin_34 : decode b_G_canJoin 34 = .ok (.ifCond .ne 7, 3) := by decide +kernel
theorem d_G_canJoin_37 : decode b_G_canJoin 37 = .ok (.iconst 1, 1) := by decide +kernel
theorem d_G_canJoin_38 : decode b_G_canJoin 38 = .ok (.goto 4, 3) := by decide +kernel
theorem d_G_canJoin_41 : decode b_G_canJoin 41 = .ok (.iconst 0, 1) := by decide +kernel
theorem d_G_canJoin_42 : decode b_G_canJoin 42 = .ok (.ireturn, 1) := by decide +kernel
theorem d_G_hasPoint_0 : decode b_G_hasPoint 0 = .ok (.iload_n 1, 1) := by decide +kernel
theorem d_G_hasPoint_1 : decode b_G_hasPoint 1 = .ok (.ifCond .lt 15, 3) := by decide +kernel
theorem d_G_hasPoint_4 : decode b_G_hasPoint 4 = .ok (.iload_n 1, 1) := by decide +kernel
theorem d_G_hasPoint_5 : decode b_G_hasPoint 5 = .ok (.aload_n 0, 1) := by decide +kernel
theorem d_G_hasPoint_6 : decode b_G_hasPoint 6 = .ok (.getfield 27, 3) := by decide +kernel
theorem d_G_hasPoint_9 : decode b_G_hasPoint 9 = .ok (.if_icmp .ge 7, 3) := by decide +kernel
theorem d_G_hasPoint_12 : decode b_G_hasPoint 12 = .ok (.iconst 1, 1) := by decide +kernel
theorem d_G_hasPoint_13 : decode b_G_hasPoint 13 = .ok (.goto 4, 3) := by decide +kernel
theorem d_G_hasPoint_16 : decode b_G_hasPoint 16 = .ok (.iconst 0, 1) := by decide +kernel
theorem d_G_hasPoint_17 : decode b_G_hasPoint 17 = .ok (.ireturn, 1) := by decide +kernel
theorem d_G_isBoundary_0 : decode b_G_isBoundary 0 = .ok (.aload_n 0, 1) := by decide +kernel
theorem d_G_isBoundary_1 : decode b_G_isBoundary 1 = .ok (.getfield 34, 3) := by decide +kernel
theorem d_G_isBoundary_4 : decode b_G_isBoundary 4 = .ok (.iload_n 1, 1) := by decide +kernel
theorem d_G_isBoundary_5 : decode b_G_isBoundary 5 = .ok (.ishr, 1) := by decide +kernel
theorem d_G_isBoundary_6 : decode b_G_isBoundary 6 = .ok (.iconst 1, 1) := by decide +kernel
theorem d_G_isBoundary_7 : decode b_G_isBoundary 7 = .ok (.iand, 1) := by decide +kernel
theorem d_G_isBoundary_8 : decode b_G_isBoundary 8 = .ok (.iconst 1, 1) := by decide +kernel
theorem d_G_isBoundary_9 : decode b_G_isBoundary 9 = .ok (.if_icmp .ne 7, 3) := by decide +kernel
theorem d_G_isBoundary_12 : decode b_G_isBoundary 12 = .ok (.iconst 1, 1) := by decide +kernel
theorem d_G_isBoundary_13 : decode b_G_isBoundary 13 = .ok (.goto 4, 3) := by decide +kernel
theorem d_G_isBoundary_16 : decode b_G_isBoundary 16 = .ok (.iconst 0, 1) := by decide +kernel
theorem d_G_isBoundary_17 : decode b_G_isBoundary 17 = .ok (.ireturn, 1) := by decide +kernel
theorem d_G_hasRoomFor_0 : decode b_G_hasRoomFor 0 = .ok (.aload_n 0, 1) := by decide +kernel
theorem d_G_hasRoomFor_1 : decode b_G_hasRoomFor 1 = .ok (.getfield 31, 3) := by decide +kernel
theorem d_G_hasRoomFor_4 : decode b_G_hasRoomFor 4 = .ok (.iload_n 1, 1) := by decide +kernel
theorem d_G_hasRoomFor_5 : decode b_G_hasRoomFor 5 = .ok (.iadd, 1) := by decide +kernel
theorem d_G_hasRoomFor_6 : decode b_G_hasRoomFor 6 = .ok (.bipush 60, 2) := by decide +kernel
theorem d_G_hasRoomFor_8 : decode b_G_hasRoomFor 8 = .ok (.if_icmp .gt 7, 3) := by decide +kernel
theorem d_G_hasRoomFor_11 : decode b_G_hasRoomFor 11 = .ok (.iconst 1, 1) := by decide +kernel
theorem d_G_hasRoomFor_12 : decode b_G_hasRoomFor 12 = .ok (.goto 4, 3) := by decide +kernel
theorem d_G_hasRoomFor_15 : decode b_G_hasRoomFor 15 = .ok (.iconst 0, 1) := by decide +kernel
theorem d_G_hasRoomFor_16 : decode b_G_hasRoomFor 16 = .ok (.ireturn, 1) := by decide +kernel
theorem d_G_addEdge_0 : decode b_G_addEdge 0 = .ok (.aload_n 0, 1) := by decide +kernel
theorem d_G_addEdge_1 : decode b_G_addEdge 1 = .ok (.getfield 31, 3) := by decide +kernel
theorem d_G_addEdge_4 : decode b_G_addEdge 4 = .ok (.istore 5, 2) := by decide +kernel
theorem d_G_addEdge_6 : decode b_G_addEdge 6 = .ok (.aload_n 0, 1) := by decide +kernel
theorem d_G_addEdge_7 : decode b_G_addEdge 7 = .ok (.getfield 15, 3) := by decide +kernel
theorem d_G_addEdge_10 : decode b_G_addEdge 10 = .ok (.iload 5, 2) := by decide +kernel
theorem d_G_addEdge_12 : decode b_G_addEdge 12 = .ok (.iload_n 1, 1) := by decide +kernel
theorem d_G_addEdge_13 : decode b_G_addEdge 13 = .ok (.iastore, 1) := by decide +kernel
theorem d_G_addEdge_14 : decode b_G_addEdge 14 = .ok (.aload_n 0, 1) := by decide +kernel
theorem d_G_addEdge_15 : decode b_G_addEdge 15 = .ok (.getfield 18, 3) := by decide +kernel
theorem d_G_addEdge_18 : decode b_G_addEdge 18 = .ok (.iload 5, 2) := by decide +kernel
theorem d_G_addEdge_20 : decode b_G_addEdge 20 = .ok (.iload_n 2, 1) := by decide +kernel
theorem d_G_addEdge_21 : decode b_G_addEdge 21 = .ok (.iastore, 1) := by decide +kernel
theorem d_G_addEdge_22 : decode b_G_addEdge 22 = .ok (.aload_n 0, 1) := by decide +kernel
theorem d_G_addEdge_23 : decode b_G_addEdge 23 = .ok (.getfield 21, 3) := by decide +kernel
theorem d_G_addEdge_26 : decode b_G_addEdge 26 = .ok (.iload 5, 2) := by decide +kernel
theorem d_G_addEdge_28 : decode b_G_addEdge 28 = .ok (.iload_n 3, 1) := by decide +kernel
theorem d_G_addEdge_29 : decode b_G_addEdge 29 = .ok (.iastore, 1) := by decide +kernel
theorem d_G_addEdge_30 : decode b_G_addEdge 30 = .ok (.aload_n 0, 1) := by decide +kernel
theorem d_G_addEdge_31 : decode b_G_addEdge 31 = .ok (.getfield 24, 3) := by decide +kernel
theorem d_G_addEdge_34 : decode b_G_addEdge 34 = .ok (.iload 5, 2) := by decide +kernel
theorem d_G_addEdge_36 : decode b_G_addEdge 36 = .ok (.iload 4, 2) := by decide +kernel
theorem d_G_addEdge_38 : decode b_G_addEdge 38 = .ok (.iastore, 1) := by decide +kernel
theorem d_G_addEdge_39 : decode b_G_addEdge 39 = .ok (.aload_n 0, 1) := by decide +kernel
theorem d_G_addEdge_40 : decode b_G_addEdge 40 = .ok (.dup, 1) := by decide +kernel
theorem d_G_addEdge_41 : decode b_G_addEdge 41 = .ok (.getfield 31, 3) := by decide +kernel
theorem d_G_addEdge_44 : decode b_G_addEdge 44 = .ok (.iconst 1, 1) := by decide +kernel
theorem d_G_addEdge_45 : decode b_G_addEdge 45 = .ok (.iadd, 1) := by decide +kernel
theorem d_G_addEdge_46 : decode b_G_addEdge 46 = .ok (.putfield 31, 3) := by decide +kernel
theorem d_G_addEdge_49 : decode b_G_addEdge 49 = .ok (.aload_n 0, 1) := by decide +kernel
theorem d_G_addEdge_50 : decode b_G_addEdge 50 = .ok (.dup, 1) := by decide +kernel
theorem d_G_addEdge_51 : decode b_G_addEdge 51 = .ok (.getfield 41, 3) := by decide +kernel
theorem d_G_addEdge_54 : decode b_G_addEdge 54 = .ok (.iconst 1, 1) := by decide +kernel
theorem d_G_addEdge_55 : decode b_G_addEdge 55 = .ok (.iadd, 1) := by decide +kernel
theorem d_G_addEdge_56 : decode b_G_addEdge 56 = .ok (.putfield 41, 3) := by decide +kernel
theorem d_G_addEdge_59 : decode b_G_addEdge 59 = .ok (.iload 5, 2) := by decide +kernel
theorem d_G_addEdge_61 : decode b_G_addEdge 61 = .ok (.ireturn, 1) := by decide +kernel
theorem d_G_hasPoints_0 : decode b_G_hasPoints 0 = .ok (.iload_n 1, 1) := by decide +kernel
theorem d_G_hasPoints_1 : decode b_G_hasPoints 1 = .ok (.aload_n 0, 1) := by decide +kernel
theorem d_G_hasPoints_2 : decode b_G_hasPoints 2 = .ok (.getfield 27, 3) := by decide +kernel
theorem d_G_hasPoints_5 : decode b_G_hasPoints 5 = .ok (.iushr, 1) := by decide +kernel
theorem d_G_hasPoints_6 : decode b_G_hasPoints 6 = .ok (.ifCond .ne 7, 3) := by decide +kernel
theorem d_G_hasPoints_9 : decode b_G_hasPoints 9 = .ok (.iconst 1, 1) := by decide +kernel
theorem d_G_hasPoints_10 : decode b_G_hasPoints 10 = .ok (.goto 4, 3) := by decide +kernel
theorem d_G_hasPoints_13 : decode b_G_hasPoints 13 = .ok (.iconst 0, 1) := by decide +kernel
theorem d_G_hasPoints_14 : decode b_G_hasPoints 14 = .ok (.ireturn, 1) := by decide +kernel
theorem d_G_leastBoundary_0 : decode b_G_leastBoundary 0 = .ok (.aload_n 0, 1) := by decide +kernel
theorem d_G_leastBoundary_1 : decode b_G_leastBoundary 1 = .ok (.getfield 34, 3) := by decide +kernel
theorem d_G_leastBoundary_4 : decode b_G_leastBoundary 4 = .ok (.iconst 0, 1) := by decide +kernel
theorem d_G_leastBoundary_5 : decode b_G_leastBoundary 5 = .ok (.invokestatic 51, 3) := by decide +kernel
theorem d_G_leastBoundary_8 : decode b_G_leastBoundary 8 = .ok (.ireturn, 1) := by decide +kernel
theorem d_G_hasEdge_0 : decode b_G_hasEdge 0 = .ok (.iload_n 1, 1) := by decide +kernel
theorem d_G_hasEdge_1 : decode b_G_hasEdge 1 = .ok (.ifCond .lt 15, 3) := by decide +kernel
theorem d_G_hasEdge_4 : decode b_G_hasEdge 4 = .ok (.iload_n 1, 1) := by decide +kernel
theorem d_G_hasEdge_5 : decode b_G_hasEdge 5 = .ok (.aload_n 0, 1) := by decide +kernel
theorem d_G_hasEdge_6 : decode b_G_hasEdge 6 = .ok (.getfield 31, 3) := by decide +kernel
theorem d_G_hasEdge_9 : decode b_G_hasEdge 9 = .ok (.if_icmp .ge 7, 3) := by decide +kernel
theorem d_G_hasEdge_12 : decode b_G_hasEdge 12 = .ok (.iconst 1, 1) := by decide +kernel
theorem d_G_hasEdge_13 : decode b_G_hasEdge 13 = .ok (.goto 4, 3) := by decide +kernel
theorem d_G_hasEdge_16 : decode b_G_hasEdge 16 = .ok (.iconst 0, 1) := by decide +kernel
theorem d_G_hasEdge_17 : decode b_G_hasEdge 17 = .ok (.ireturn, 1) := by decide +kernel
theorem d_G_isErased_0 : decode b_G_isErased 0 = .ok (.aload_n 0, 1) := by decide +kernel
theorem d_G_isErased_1 : decode b_G_isErased 1 = .ok (.getfield 37, 3) := by decide +kernel
theorem d_G_isErased_4 : decode b_G_isErased 4 = .ok (.iload_n 1, 1) := by decide +kernel
theorem d_G_isErased_5 : decode b_G_isErased 5 = .ok (.lshr, 1) := by decide +kernel
theorem d_G_isErased_6 : decode b_G_isErased 6 = .ok (.lconst 1, 1) := by decide +kernel
theorem d_G_isErased_7 : decode b_G_isErased 7 = .ok (.land, 1) := by decide +kernel
theorem d_G_isErased_8 : decode b_G_isErased 8 = .ok (.lconst 1, 1) := by decide +kernel
theorem d_G_isErased_9 : decode b_G_isErased 9 = .ok (.lcmp, 1) := by decide +kernel
theorem d_G_isErased_10 : decode b_G_isErased 10 = .ok (.ifCond .ne 7, 3) := by decide +kernel
theorem d_G_isErased_13 : decode b_G_isErased 13 = .ok (.iconst 1, 1) := by decide +kernel
theorem d_G_isErased_14 : decode b_G_isErased 14 = .ok (.goto 4, 3) := by decide +kernel
theorem d_G_isErased_17 : decode b_G_isErased 17 = .ok (.iconst 0, 1) := by decide +kernel
theorem d_G_isErased_18 : decode b_G_isErased 18 = .ok (.ireturn, 1) := by decide +kernel
theorem d_G_turnErased_0 : decode b_G_turnErased 0 = .ok (.aload_n 0, 1) := by decide +kernel
theorem d_G_turnErased_1 : decode b_G_turnErased 1 = .ok (.dup, 1) := by decide +kernel
theorem d_G_turnErased_2 : decode b_G_turnErased 2 = .ok (.getfield 37, 3) := by decide +kernel
theorem d_G_turnErased_5 : decode b_G_turnErased 5 = .ok (.lconst 1, 1) := by decide +kernel
theorem d_G_turnErased_6 : decode b_G_turnErased 6 = .ok (.iload_n 1, 1) := by decide +kernel
theorem d_G_turnErased_7 : decode b_G_turnErased 7 = .ok (.lshl, 1) := by decide +kernel
theorem d_G_turnErased_8 : decode b_G_turnErased 8 = .ok (.lxor, 1) := by decide +kernel
theorem d_G_turnErased_9 : decode b_G_turnErased 9 = .ok (.putfield 37, 3) := by decide +kernel
theorem d_G_turnErased_12 : decode b_G_turnErased 12 = .ok (.aload_n 0, 1) := by decide +kernel
theorem d_G_turnErased_13 : decode b_G_turnErased 13 = .ok (.dup, 1) := by decide +kernel
theorem d_G_turnErased_14 : decode b_G_turnErased 14 = .ok (.getfield 41, 3) := by decide +kernel
theorem d_G_turnErased_17 : decode b_G_turnErased 17 = .ok (.iconst 1, 1) := by decide +kernel
theorem d_G_turnErased_18 : decode b_G_turnErased 18 = .ok (.iadd, 1) := by decide +kernel
theorem d_G_turnErased_19 : decode b_G_turnErased 19 = .ok (.putfield 41, 3) := by decide +kernel
theorem d_G_turnErased_22 : decode b_G_turnErased 22 = .ok (.return_, 1) := by decide +kernel
theorem d_G_weightNow_0 : decode b_G_weightNow 0 = .ok (.aload_n 0, 1) := by decide +kernel
theorem d_G_weightNow_1 : decode b_G_weightNow 1 = .ok (.getfield 37, 3) := by decide +kernel
theorem d_G_weightNow_4 : decode b_G_weightNow 4 = .ok (.iload_n 1, 1) := by decide +kernel
theorem d_G_weightNow_5 : decode b_G_weightNow 5 = .ok (.lshr, 1) := by decide +kernel
theorem d_G_weightNow_6 : decode b_G_weightNow 6 = .ok (.lconst 1, 1) := by decide +kernel
theorem d_G_weightNow_7 : decode b_G_weightNow 7 = .ok (.land, 1) := by decide +kernel
theorem d_G_weightNow_8 : decode b_G_weightNow 8 = .ok (.lconst 1, 1) := by decide +kernel
theorem d_G_weightNow_9 : decode b_G_weightNow 9 = .ok (.lcmp, 1) := by decide +kernel
theorem d_G_weightNow_10 : decode b_G_weightNow 10 = .ok (.ifCond .ne 7, 3) := by decide +kernel
theorem d_G_weightNow_13 : decode b_G_weightNow 13 = .ok (.iconst 0, 1) := by decide +kernel
theorem d_G_weightNow_14 : decode b_G_weightNow 14 = .ok (.goto 9, 3) := by decide +kernel
theorem d_G_weightNow_17 : decode b_G_weightNow 17 = .ok (.aload_n 0, 1) := by decide +kernel
theorem d_G_weightNow_18 : decode b_G_weightNow 18 = .ok (.getfield 21, 3) := by decide +kernel
theorem d_G_weightNow_21 : decode b_G_weightNow 21 = .ok (.iload_n 1, 1) := by decide +kernel
theorem d_G_weightNow_22 : decode b_G_weightNow 22 = .ok (.iaload, 1) := by decide +kernel
theorem d_G_weightNow_23 : decode b_G_weightNow 23 = .ok (.ireturn, 1) := by decide +kernel
theorem d_G_endBeyond_0 : decode b_G_endBeyond 0 = .ok (.aload_n 0, 1) := by decide +kernel
theorem d_G_endBeyond_1 : decode b_G_endBeyond 1 = .ok (.getfield 15, 3) := by decide +kernel
theorem d_G_endBeyond_4 : decode b_G_endBeyond 4 = .ok (.iload_n 1, 1) := by decide +kernel
theorem d_G_endBeyond_5 : decode b_G_endBeyond 5 = .ok (.iaload, 1) := by decide +kernel
theorem d_G_endBeyond_6 : decode b_G_endBeyond 6 = .ok (.iload_n 2, 1) := by decide +kernel
theorem d_G_endBeyond_7 : decode b_G_endBeyond 7 = .ok (.if_icmp .ne 10, 3) := by decide +kernel
theorem d_G_endBeyond_10 : decode b_G_endBeyond 10 = .ok (.aload_n 0, 1) := by decide +kernel
theorem d_G_endBeyond_11 : decode b_G_endBeyond 11 = .ok (.getfield 18, 3) := by decide +kernel
theorem d_G_endBeyond_14 : decode b_G_endBeyond 14 = .ok (.iload_n 1, 1) := by decide +kernel
theorem d_G_endBeyond_15 : decode b_G_endBeyond 15 = .ok (.iaload, 1) := by decide +kernel
theorem d_G_endBeyond_16 : decode b_G_endBeyond 16 = .ok (.ireturn, 1) := by decide +kernel
theorem d_G_endBeyond_17 : decode b_G_endBeyond 17 = .ok (.aload_n 0, 1) := by decide +kernel
theorem d_G_endBeyond_18 : decode b_G_endBeyond 18 = .ok (.getfield 18, 3) := by decide +kernel
theorem d_G_endBeyond_21 : decode b_G_endBeyond 21 = .ok (.iload_n 1, 1) := by decide +kernel
theorem d_G_endBeyond_22 : decode b_G_endBeyond 22 = .ok (.iaload, 1) := by decide +kernel
theorem d_G_endBeyond_23 : decode b_G_endBeyond 23 = .ok (.iload_n 2, 1) := by decide +kernel
theorem d_G_endBeyond_24 : decode b_G_endBeyond 24 = .ok (.if_icmp .ne 12, 3) := by decide +kernel
theorem d_G_endBeyond_27 : decode b_G_endBeyond 27 = .ok (.aload_n 0, 1) := by decide +kernel
theorem d_G_endBeyond_28 : decode b_G_endBeyond 28 = .ok (.getfield 15, 3) := by decide +kernel
theorem d_G_endBeyond_31 : decode b_G_endBeyond 31 = .ok (.iload_n 1, 1) := by decide +kernel
theorem d_G_endBeyond_32 : decode b_G_endBeyond 32 = .ok (.iaload, 1) := by decide +kernel
theorem d_G_endBeyond_33 : decode b_G_endBeyond 33 = .ok (.goto 4, 3) := by decide +kernel
theorem d_G_endBeyond_36 : decode b_G_endBeyond 36 = .ok (.iconst (-1), 1) := by decide +kernel
theorem d_G_endBeyond_37 : decode b_G_endBeyond 37 = .ok (.ireturn, 1) := by decide +kernel
theorem d_G_hasEdges_0 : decode b_G_hasEdges 0 = .ok (.lload_n 1, 1) := by decide +kernel
theorem d_G_hasEdges_1 : decode b_G_hasEdges 1 = .ok (.aload_n 0, 1) := by decide +kernel
theorem d_G_hasEdges_2 : decode b_G_hasEdges 2 = .ok (.getfield 31, 3) := by decide +kernel
theorem d_G_hasEdges_5 : decode b_G_hasEdges 5 = .ok (.lushr, 1) := by decide +kernel
theorem d_G_hasEdges_6 : decode b_G_hasEdges 6 = .ok (.lconst 0, 1) := by decide +kernel
theorem d_G_hasEdges_7 : decode b_G_hasEdges 7 = .ok (.lcmp, 1) := by decide +kernel
theorem d_G_hasEdges_8 : decode b_G_hasEdges 8 = .ok (.ifCond .ne 7, 3) := by decide +kernel
theorem d_G_hasEdges_11 : decode b_G_hasEdges 11 = .ok (.iconst 1, 1) := by decide +kernel
theorem d_G_hasEdges_12 : decode b_G_hasEdges 12 = .ok (.goto 4, 3) := by decide +kernel
theorem d_G_hasEdges_15 : decode b_G_hasEdges 15 = .ok (.iconst 0, 1) := by decide +kernel
theorem d_G_hasEdges_16 : decode b_G_hasEdges 16 = .ok (.ireturn, 1) := by decide +kernel
theorem d_G_oddSigns_0 : decode b_G_oddSigns 0 = .ok (.iconst 0, 1) := by decide +kernel
theorem d_G_oddSigns_1 : decode b_G_oddSigns 1 = .ok (.istore_n 3, 1) := by decide +kernel
theorem d_G_oddSigns_2 : decode b_G_oddSigns 2 = .ok (.iconst 0, 1) := by decide +kernel
theorem d_G_oddSigns_3 : decode b_G_oddSigns 3 = .ok (.istore 4, 2) := by decide +kernel
theorem d_G_oddSigns_5 : decode b_G_oddSigns 5 = .ok (.iload 4, 2) := by decide +kernel
theorem d_G_oddSigns_7 : decode b_G_oddSigns 7 = .ok (.aload_n 0, 1) := by decide +kernel
theorem d_G_oddSigns_8 : decode b_G_oddSigns 8 = .ok (.getfield 31, 3) := by decide +kernel
theorem d_G_oddSigns_11 : decode b_G_oddSigns 11 = .ok (.if_icmp .ge 30, 3) := by decide +kernel
theorem d_G_oddSigns_14 : decode b_G_oddSigns 14 = .ok (.lload_n 1, 1) := by decide +kernel
theorem d_G_oddSigns_15 : decode b_G_oddSigns 15 = .ok (.iload 4, 2) := by decide +kernel
theorem d_G_oddSigns_17 : decode b_G_oddSigns 17 = .ok (.lshr, 1) := by decide +kernel
theorem d_G_oddSigns_18 : decode b_G_oddSigns 18 = .ok (.lconst 1, 1) := by decide +kernel
theorem d_G_oddSigns_19 : decode b_G_oddSigns 19 = .ok (.land, 1) := by decide +kernel
theorem d_G_oddSigns_20 : decode b_G_oddSigns 20 = .ok (.lconst 1, 1) := by decide +kernel
theorem d_G_oddSigns_21 : decode b_G_oddSigns 21 = .ok (.lcmp, 1) := by decide +kernel
theorem d_G_oddSigns_22 : decode b_G_oddSigns 22 = .ok (.ifCond .ne 13, 3) := by decide +kernel
theorem d_G_oddSigns_25 : decode b_G_oddSigns 25 = .ok (.iload_n 3, 1) := by decide +kernel
theorem d_G_oddSigns_26 : decode b_G_oddSigns 26 = .ok (.aload_n 0, 1) := by decide +kernel
theorem d_G_oddSigns_27 : decode b_G_oddSigns 27 = .ok (.getfield 24, 3) := by decide +kernel
theorem d_G_oddSigns_30 : decode b_G_oddSigns 30 = .ok (.iload 4, 2) := by decide +kernel
theorem d_G_oddSigns_32 : decode b_G_oddSigns 32 = .ok (.iaload, 1) := by decide +kernel
theorem d_G_oddSigns_33 : decode b_G_oddSigns 33 = .ok (.ixor, 1) := by decide +kernel
theorem d_G_oddSigns_34 : decode b_G_oddSigns 34 = .ok (.istore_n 3, 1) := by decide +kernel
theorem d_G_oddSigns_35 : decode b_G_oddSigns 35 = .ok (.iinc 4 1, 3) := by decide +kernel
theorem d_G_oddSigns_38 : decode b_G_oddSigns 38 = .ok (.goto (-33), 3) := by decide +kernel
theorem d_G_oddSigns_41 : decode b_G_oddSigns 41 = .ok (.iload_n 3, 1) := by decide +kernel
theorem d_G_oddSigns_42 : decode b_G_oddSigns 42 = .ok (.ireturn, 1) := by decide +kernel
theorem d_G_oddPoints_0 : decode b_G_oddPoints 0 = .ok (.iconst 0, 1) := by decide +kernel
theorem d_G_oddPoints_1 : decode b_G_oddPoints 1 = .ok (.istore_n 3, 1) := by decide +kernel
theorem d_G_oddPoints_2 : decode b_G_oddPoints 2 = .ok (.iconst 0, 1) := by decide +kernel
theorem d_G_oddPoints_3 : decode b_G_oddPoints 3 = .ok (.istore 4, 2) := by decide +kernel
theorem d_G_oddPoints_5 : decode b_G_oddPoints 5 = .ok (.iload 4, 2) := by decide +kernel
theorem d_G_oddPoints_7 : decode b_G_oddPoints 7 = .ok (.aload_n 0, 1) := by decide +kernel
theorem d_G_oddPoints_8 : decode b_G_oddPoints 8 = .ok (.getfield 31, 3) := by decide +kernel
theorem d_G_oddPoints_11 : decode b_G_oddPoints 11 = .ok (.if_icmp .ge 42, 3) := by decide +kernel
theorem d_G_oddPoints_14 : decode b_G_oddPoints 14 = .ok (.lload_n 1, 1) := by decide +kernel
theorem d_G_oddPoints_15 : decode b_G_oddPoints 15 = .ok (.iload 4, 2) := by decide +kernel
theorem d_G_oddPoints_17 : decode b_G_oddPoints 17 = .ok (.lshr, 1) := by decide +kernel
theorem d_G_oddPoints_18 : decode b_G_oddPoints 18 = .ok (.lconst 1, 1) := by decide +kernel
theorem d_G_oddPoints_19 : decode b_G_oddPoints 19 = .ok (.land, 1) := by decide +kernel
theorem d_G_oddPoints_20 : decode b_G_oddPoints 20 = .ok (.lconst 1, 1) := by decide +kernel
theorem d_G_oddPoints_21 : decode b_G_oddPoints 21 = .ok (.lcmp, 1) := by decide +kernel
theorem d_G_oddPoints_22 : decode b_G_oddPoints 22 = .ok (.ifCond .ne 25, 3) := by decide +kernel
theorem d_G_oddPoints_25 : decode b_G_oddPoints 25 = .ok (.iload_n 3, 1) := by decide +kernel
theorem d_G_oddPoints_26 : decode b_G_oddPoints 26 = .ok (.iconst 1, 1) := by decide +kernel
theorem d_G_oddPoints_27 : decode b_G_oddPoints 27 = .ok (.aload_n 0, 1) := by decide +kernel
theorem d_G_oddPoints_28 : decode b_G_oddPoints 28 = .ok (.getfield 15, 3) := by decide +kernel
theorem d_G_oddPoints_31 : decode b_G_oddPoints 31 = .ok (.iload 4, 2) := by decide +kernel
theorem d_G_oddPoints_33 : decode b_G_oddPoints 33 = .ok (.iaload, 1) := by decide +kernel
theorem d_G_oddPoints_34 : decode b_G_oddPoints 34 = .ok (.ishl, 1) := by decide +kernel
theorem d_G_oddPoints_35 : decode b_G_oddPoints 35 = .ok (.iconst 1, 1) := by decide +kernel
theorem d_G_oddPoints_36 : decode b_G_oddPoints 36 = .ok (.aload_n 0, 1) := by decide +kernel
theorem d_G_oddPoints_37 : decode b_G_oddPoints 37 = .ok (.getfield 18, 3) := by decide +kernel
theorem d_G_oddPoints_40 : decode b_G_oddPoints 40 = .ok (.iload 4, 2) := by decide +kernel
theorem d_G_oddPoints_42 : decode b_G_oddPoints 42 = .ok (.iaload, 1) := by decide +kernel
theorem d_G_oddPoints_43 : decode b_G_oddPoints 43 = .ok (.ishl, 1) := by decide +kernel
theorem d_G_oddPoints_44 : decode b_G_oddPoints 44 = .ok (.ixor, 1) := by decide +kernel
theorem d_G_oddPoints_45 : decode b_G_oddPoints 45 = .ok (.ixor, 1) := by decide +kernel
theorem d_G_oddPoints_46 : decode b_G_oddPoints 46 = .ok (.istore_n 3, 1) := by decide +kernel
theorem d_G_oddPoints_47 : decode b_G_oddPoints 47 = .ok (.iinc 4 1, 3) := by decide +kernel
theorem d_G_oddPoints_50 : decode b_G_oddPoints 50 = .ok (.goto (-45), 3) := by decide +kernel
theorem d_G_oddPoints_53 : decode b_G_oddPoints 53 = .ok (.iload_n 3, 1) := by decide +kernel
theorem d_G_oddPoints_54 : decode b_G_oddPoints 54 = .ok (.aload_n 0, 1) := by decide +kernel
theorem d_G_oddPoints_55 : decode b_G_oddPoints 55 = .ok (.getfield 34, 3) := by decide +kernel
theorem d_G_oddPoints_58 : decode b_G_oddPoints 58 = .ok (.iconst (-1), 1) := by decide +kernel
theorem d_G_oddPoints_59 : decode b_G_oddPoints 59 = .ok (.ixor, 1) := by decide +kernel
theorem d_G_oddPoints_60 : decode b_G_oddPoints 60 = .ok (.iand, 1) := by decide +kernel
theorem d_G_oddPoints_61 : decode b_G_oddPoints 61 = .ok (.ireturn, 1) := by decide +kernel
theorem d_G_isBefore_0 : decode b_G_isBefore 0 = .ok (.aload_n 0, 1) := by decide +kernel
theorem d_G_isBefore_1 : decode b_G_isBefore 1 = .ok (.iload_n 1, 1) := by decide +kernel
theorem d_G_isBefore_2 : decode b_G_isBefore 2 = .ok (.invokevirtual 44, 3) := by decide +kernel
theorem d_G_isBefore_5 : decode b_G_isBefore 5 = .ok (.ifCond .ne 21, 3) := by decide +kernel
theorem d_G_isBefore_8 : decode b_G_isBefore 8 = .ok (.aload_n 0, 1) := by decide +kernel
theorem d_G_isBefore_9 : decode b_G_isBefore 9 = .ok (.iload_n 1, 1) := by decide +kernel
theorem d_G_isBefore_10 : decode b_G_isBefore 10 = .ok (.invokevirtual 48, 3) := by decide +kernel
theorem d_G_isBefore_13 : decode b_G_isBefore 13 = .ok (.ifCond .eq 17, 3) := by decide +kernel
theorem d_G_isBefore_16 : decode b_G_isBefore 16 = .ok (.aload_n 0, 1) := by decide +kernel
theorem d_G_isBefore_17 : decode b_G_isBefore 17 = .ok (.getfield 9, 3) := by decide +kernel
theorem d_G_isBefore_20 : decode b_G_isBefore 20 = .ok (.iload_n 1, 1) := by decide +kernel
theorem d_G_isBefore_21 : decode b_G_isBefore 21 = .ok (.iaload, 1) := by decide +kernel
theorem d_G_isBefore_22 : decode b_G_isBefore 22 = .ok (.iload_n 2, 1) := by decide +kernel
theorem d_G_isBefore_23 : decode b_G_isBefore 23 = .ok (.if_icmp .ge 7, 3) := by decide +kernel
theorem d_G_isBefore_26 : decode b_G_isBefore 26 = .ok (.iconst 1, 1) := by decide +kernel
theorem d_G_isBefore_27 : decode b_G_isBefore 27 = .ok (.goto 4, 3) := by decide +kernel
theorem d_G_isBefore_30 : decode b_G_isBefore 30 = .ok (.iconst 0, 1) := by decide +kernel
theorem d_G_isBefore_31 : decode b_G_isBefore 31 = .ok (.ireturn, 1) := by decide +kernel
