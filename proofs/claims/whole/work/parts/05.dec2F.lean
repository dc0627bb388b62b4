theorem d_F_init_0 : decode b_F_init 0 = .ok (.aload_n 0, 1) := by decide +kernel
theorem d_F_init_1 : decode b_F_init 1 = .ok (.invokespecial 3, 3) := by decide +kernel
theorem d_F_init_4 : decode b_F_init 4 = .ok (.aload_n 0, 1) := by decide +kernel
theorem d_F_init_5 : decode b_F_init 5 = .ok (.bipush 10, 2) := by decide +kernel
theorem d_F_init_7 : decode b_F_init 7 = .ok (.newarray .int, 2) := by decide +kernel
theorem d_F_init_9 : decode b_F_init 9 = .ok (.putfield 9, 3) := by decide +kernel
theorem d_F_init_12 : decode b_F_init 12 = .ok (.aload_n 0, 1) := by decide +kernel
theorem d_F_init_13 : decode b_F_init 13 = .ok (.bipush 10, 2) := by decide +kernel
theorem d_F_init_15 : decode b_F_init 15 = .ok (.newarray .int, 2) := by decide +kernel
theorem d_F_init_17 : decode b_F_init 17 = .ok (.putfield 15, 3) := by decide +kernel
theorem d_F_init_20 : decode b_F_init 20 = .ok (.aload_n 0, 1) := by decide +kernel
theorem d_F_init_21 : decode b_F_init 21 = .ok (.iconst 0, 1) := by decide +kernel
theorem d_F_init_22 : decode b_F_init 22 = .ok (.putfield 18, 3) := by decide +kernel
theorem d_F_init_25 : decode b_F_init 25 = .ok (.aload_n 0, 1) := by decide +kernel
theorem d_F_init_26 : decode b_F_init 26 = .ok (.iconst 0, 1) := by decide +kernel
theorem d_F_init_27 : decode b_F_init 27 = .ok (.putfield 22, 3) := by decide +kernel
theorem d_F_init_30 : decode b_F_init 30 = .ok (.aload_n 0, 1) := by decide +kernel
theorem d_F_init_31 : decode b_F_init 31 = .ok (.iconst 0, 1) := by decide +kernel
theorem d_F_init_32 : decode b_F_init 32 = .ok (.putfield 25, 3) := by decide +kernel
theorem d_F_init_35 : decode b_F_init 35 = .ok (.aload_n 0, 1) := by decide +kernel
theorem d_F_init_36 : decode b_F_init 36 = .ok (.lconst 0, 1) := by decide +kernel
theorem d_F_init_37 : decode b_F_init 37 = .ok (.putfield 28, 3) := by decide +kernel
theorem d_F_init_40 : decode b_F_init 40 = .ok (.return_, 1) := by decide +kernel
theorem d_JI_bitCount_0 : decode b_JI_bitCount 0 = .ok (.iload_n 0, 1) := by decide +kernel
theorem d_JI_bitCount_1 : decode b_JI_bitCount 1 = .ok (.iload_n 0, 1) := by decide +kernel
theorem d_JI_bitCount_2 : decode b_JI_bitCount 2 = .ok (.iconst 1, 1) := by decide +kernel
theorem d_JI_bitCount_3 : decode b_JI_bitCount 3 = .ok (.iushr, 1) := by decide +kernel
theorem d_JI_bitCount_4 : decode b_JI_bitCount 4 = .ok (.ldc_w 265, 3) := by decide +kernel
theorem d_JI_bitCount_7 : decode b_JI_bitCount 7 = .ok (.iand, 1) := by decide +kernel
theorem d_JI_bitCount_8 : decode b_JI_bitCount 8 = .ok (.isub, 1) := by decide +kernel
theorem d_JI_bitCount_9 : decode b_JI_bitCount 9 = .ok (.istore_n 0, 1) := by decide +kernel
theorem d_JI_bitCount_10 : decode b_JI_bitCount 10 = .ok (.iload_n 0, 1) := by decide +kernel
theorem d_JI_bitCount_11 : decode b_JI_bitCount 11 = .ok (.ldc_w 266, 3) := by decide +kernel
theorem d_JI_bitCount_14 : decode b_JI_bitCount 14 = .ok (.iand, 1) := by decide +kernel
theorem d_JI_bitCount_15 : decode b_JI_bitCount 15 = .ok (.iload_n 0, 1) := by decide +kernel
theorem d_JI_bitCount_16 : decode b_JI_bitCount 16 = .ok (.iconst 2, 1) := by decide +kernel
theorem d_JI_bitCount_17 : decode b_JI_bitCount 17 = .ok (.iushr, 1) := by decide +kernel
theorem d_JI_bitCount_18 : decode b_JI_bitCount 18 = .ok (.ldc_w 266, 3) := by decide +kernel
theorem d_JI_bitCount_21 : decode b_JI_bitCount 21 = .ok (.iand, 1) := by decide +kernel
theorem d_JI_bitCount_22 : decode b_JI_bitCount 22 = .ok (.iadd, 1) := by decide +kernel
theorem d_JI_bitCount_23 : decode b_JI_bitCount 23 = .ok (.istore_n 0, 1) := by decide +kernel
theorem d_JI_bitCount_24 : decode b_JI_bitCount 24 = .ok (.iload_n 0, 1) := by decide +kernel
theorem d_JI_bitCount_25 : decode b_JI_bitCount 25 = .ok (.iload_n 0, 1) := by decide +kernel
theorem d_JI_bitCount_26 : decode b_JI_bitCount 26 = .ok (.iconst 4, 1) := by decide +kernel
theorem d_JI_bitCount_27 : decode b_JI_bitCount 27 = .ok (.iushr, 1) := by decide +kernel
theorem d_JI_bitCount_28 : decode b_JI_bitCount 28 = .ok (.iadd, 1) := by decide +kernel
theorem d_JI_bitCount_29 : decode b_JI_bitCount 29 = .ok (.ldc_w 267, 3) := by decide +kernel
theorem d_JI_bitCount_32 : decode b_JI_bitCount 32 = .ok (.iand, 1) := by decide +kernel
theorem d_JI_bitCount_33 : decode b_JI_bitCount 33 = .ok (.istore_n 0, 1) := by decide +kernel
theorem d_JI_bitCount_34 : decode b_JI_bitCount 34 = .ok (.iload_n 0, 1) := by decide +kernel
theorem d_JI_bitCount_35 : decode b_JI_bitCount 35 = .ok (.iload_n 0, 1) := by decide +kernel
theorem d_JI_bitCount_36 : decode b_JI_bitCount 36 = .ok (.bipush 8, 2) := by decide +kernel
theorem d_JI_bitCount_38 : decode b_JI_bitCount 38 = .ok (.iushr, 1) := by decide +kernel
theorem d_JI_bitCount_39 : decode b_JI_bitCount 39 = .ok (.iadd, 1) := by decide +kernel
theorem d_JI_bitCount_40 : decode b_JI_bitCount 40 = .ok (.istore_n 0, 1) := by decide +kernel
theorem d_JI_bitCount_41 : decode b_JI_bitCount 41 = .ok (.iload_n 0, 1) := by decide +kernel
theorem d_JI_bitCount_42 : decode b_JI_bitCount 42 = .ok (.iload_n 0, 1) := by decide +kernel
theorem d_JI_bitCount_43 : decode b_JI_bitCount 43 = .ok (.bipush 16, 2) := by decide +kernel
theorem d_JI_bitCount_45 : decode b_JI_bitCount 45 = .ok (.iushr, 1) := by decide +kernel
theorem d_JI_bitCount_46 : decode b_JI_bitCount 46 = .ok (.iadd, 1) := by decide +kernel
theorem d_JI_bitCount_47 : decode b_JI_bitCount 47 = .ok (.istore_n 0, 1) := by decide +kernel
theorem d_JI_bitCount_48 : decode b_JI_bitCount 48 = .ok (.iload_n 0, 1) := by decide +kernel
theorem d_JI_bitCount_49 : decode b_JI_bitCount 49 = .ok (.bipush 63, 2) := by decide +kernel
theorem d_JI_bitCount_51 : decode b_JI_bitCount 51 = .ok (.iand, 1) := by decide +kernel
theorem d_JI_bitCount_52 : decode b_JI_bitCount 52 = .ok (.ireturn, 1) := by decide +kernel
theorem d_JL_bitCount_0 : decode b_JL_bitCount 0 = .ok (.lload_n 0, 1) := by decide +kernel
theorem d_JL_bitCount_1 : decode b_JL_bitCount 1 = .ok (.lload_n 0, 1) := by decide +kernel
theorem d_JL_bitCount_2 : decode b_JL_bitCount 2 = .ok (.iconst 1, 1) := by decide +kernel
theorem d_JL_bitCount_3 : decode b_JL_bitCount 3 = .ok (.lushr, 1) := by decide +kernel
theorem d_JL_bitCount_4 : decode b_JL_bitCount 4 = .ok (.ldc2_w 314, 3) := by decide +kernel
theorem d_JL_bitCount_7 : decode b_JL_bitCount 7 = .ok (.land, 1) := by decide +kernel
theorem d_JL_bitCount_8 : decode b_JL_bitCount 8 = .ok (.lsub, 1) := by decide +kernel
theorem d_JL_bitCount_9 : decode b_JL_bitCount 9 = .ok (.lstore_n 0, 1) := by decide +kernel
theorem d_JL_bitCount_10 : decode b_JL_bitCount 10 = .ok (.lload_n 0, 1) := by decide +kernel
theorem d_JL_bitCount_11 : decode b_JL_bitCount 11 = .ok (.ldc2_w 316, 3) := by decide +kernel
theorem d_JL_bitCount_14 : decode b_JL_bitCount 14 = .ok (.land, 1) := by decide +kernel
theorem d_JL_bitCount_15 : decode b_JL_bitCount 15 = .ok (.lload_n 0, 1) := by decide +kernel
theorem d_JL_bitCount_16 : decode b_JL_bitCount 16 = .ok (.iconst 2, 1) := by decide +kernel
theorem d_JL_bitCount_17 : decode b_JL_bitCount 17 = .ok (.lushr, 1) := by decide +kernel
theorem d_JL_bitCount_18 : decode b_JL_bitCount 18 = .ok (.ldc2_w 316, 3) := by decide +kernel
theorem d_JL_bitCount_21 : decode b_JL_bitCount 21 = .ok (.land, 1) := by decide +kernel
theorem d_JL_bitCount_22 : decode b_JL_bitCount 22 = .ok (.ladd, 1) := by decide +kernel
theorem d_JL_bitCount_23 : decode b_JL_bitCount 23 = .ok (.lstore_n 0, 1) := by decide +kernel
theorem d_JL_bitCount_24 : decode b_JL_bitCount 24 = .ok (.lload_n 0, 1) := by decide +kernel
theorem d_JL_bitCount_25 : decode b_JL_bitCount 25 = .ok (.lload_n 0, 1) := by decide +kernel
theorem d_JL_bitCount_26 : decode b_JL_bitCount 26 = .ok (.iconst 4, 1) := by decide +kernel
theorem d_JL_bitCount_27 : decode b_JL_bitCount 27 = .ok (.lushr, 1) := by decide +kernel
theorem d_JL_bitCount_28 : decode b_JL_bitCount 28 = .ok (.ladd, 1) := by decide +kernel
theorem d_JL_bitCount_29 : decode b_JL_bitCount 29 = .ok (.ldc2_w 318, 3) := by decide +kernel
theorem d_JL_bitCount_32 : decode b_JL_bitCount 32 = .ok (.land, 1) := by decide +kernel
theorem d_JL_bitCount_33 : decode b_JL_bitCount 33 = .ok (.lstore_n 0, 1) := by decide +kernel
theorem d_JL_bitCount_34 : decode b_JL_bitCount 34 = .ok (.lload_n 0, 1) := by decide +kernel
theorem d_JL_bitCount_35 : decode b_JL_bitCount 35 = .ok (.lload_n 0, 1) := by decide +kernel
theorem d_JL_bitCount_36 : decode b_JL_bitCount 36 = .ok (.bipush 8, 2) := by decide +kernel
theorem d_JL_bitCount_38 : decode b_JL_bitCount 38 = .ok (.lushr, 1) := by decide +kernel
theorem d_JL_bitCount_39 : decode b_JL_bitCount 39 = .ok (.ladd, 1) := by decide +kernel
theorem d_JL_bitCount_40 : decode b_JL_bitCount 40 = .ok (.lstore_n 0, 1) := by decide +kernel
theorem d_JL_bitCount_41 : decode b_JL_bitCount 41 = .ok (.lload_n 0, 1) := by decide +kernel
theorem d_JL_bitCount_42 : decode b_JL_bitCount 42 = .ok (.lload_n 0, 1) := by decide +kernel
theorem d_JL_bitCount_43 : decode b_JL_bitCount 43 = .ok (.bipush 16, 2) := by decide +kernel
theorem d_JL_bitCount_45 : decode b_JL_bitCount 45 = .ok (.lushr, 1) := by decide +kernel
theorem d_JL_bitCount_46 : decode b_JL_bitCount 46 = .ok (.ladd, 1) := by decide +kernel
theorem d_JL_bitCount_47 : decode b_JL_bitCount 47 = .ok (.lstore_n 0, 1) := by decide +kernel
theorem d_JL_bitCount_48 : decode b_JL_bitCount 48 = .ok (.lload_n 0, 1) := by decide +kernel
theorem d_JL_bitCount_49 : decode b_JL_bitCount 49 = .ok (.lload_n 0, 1) := by decide +kernel
theorem d_JL_bitCount_50 : decode b_JL_bitCount 50 = .ok (.bipush 32, 2) := by decide +kernel
theorem d_JL_bitCount_52 : decode b_JL_bitCount 52 = .ok (.lushr, 1) := by decide +kernel
theorem d_JL_bitCount_53 : decode b_JL_bitCount 53 = .ok (.ladd, 1) := by decide +kernel
theorem d_JL_bitCount_54 : decode b_JL_bitCount 54 = .ok (.lstore_n 0, 1) := by decide +kernel
theorem d_JL_bitCount_55 : decode b_JL_bitCount 55 = .ok (.lload_n 0, 1) := by decide +kernel
theorem d_JL_bitCount_56 : decode b_JL_bitCount 56 = .ok (.l2i, 1) := by decide +kernel
theorem d_JL_bitCount_57 : decode b_JL_bitCount 57 = .ok (.bipush 127, 2) := by decide +kernel
theorem d_JL_bitCount_59 : decode b_JL_bitCount 59 = .ok (.iand, 1) := by decide +kernel
theorem d_JL_bitCount_60 : decode b_JL_bitCount 60 = .ok (.ireturn, 1) := by decide +kernel
theorem d_F_begin_0 : decode b_F_begin 0 = .ok (.aload_n 0, 1) := by decide +kernel
theorem d_F_begin_1 : decode b_F_begin 1 = .ok (.iconst 0, 1) := by decide +kernel
theorem d_F_begin_2 : decode b_F_begin 2 = .ok (.putfield 18, 3) := by decide +kernel
theorem d_F_begin_5 : decode b_F_begin 5 = .ok (.aload_n 0, 1) := by decide +kernel
theorem d_F_begin_6 : decode b_F_begin 6 = .ok (.iload_n 1, 1) := by decide +kernel
theorem d_F_begin_7 : decode b_F_begin 7 = .ok (.putfield 22, 3) := by decide +kernel
theorem d_F_begin_10 : decode b_F_begin 10 = .ok (.aload_n 0, 1) := by decide +kernel
theorem d_F_begin_11 : decode b_F_begin 11 = .ok (.iload_n 2, 1) := by decide +kernel
theorem d_F_begin_12 : decode b_F_begin 12 = .ok (.putfield 25, 3) := by decide +kernel
theorem d_F_begin_15 : decode b_F_begin 15 = .ok (.aload_n 0, 1) := by decide +kernel
theorem d_F_begin_16 : decode b_F_begin 16 = .ok (.lconst 0, 1) := by decide +kernel
theorem d_F_begin_17 : decode b_F_begin 17 = .ok (.putfield 28, 3) := by decide +kernel
theorem d_F_begin_20 : decode b_F_begin 20 = .ok (.return_, 1) := by decide +kernel
theorem d_F_addPair_0 : decode b_F_addPair 0 = .ok (.aload_n 0, 1) := by decide +kernel
theorem d_F_addPair_1 : decode b_F_addPair 1 = .ok (.getfield 18, 3) := by decide +kernel
theorem d_F_addPair_4 : decode b_F_addPair 4 = .ok (.bipush 10, 2) := by decide +kernel
theorem d_F_addPair_6 : decode b_F_addPair 6 = .ok (.if_icmp .lt 4, 3) := by decide +kernel
theorem d_F_addPair_9 : decode b_F_addPair 9 = .ok (.return_, 1) := by decide +kernel
theorem d_F_addPair_10 : decode b_F_addPair 10 = .ok (.aload_n 0, 1) := by decide +kernel
theorem d_F_addPair_11 : decode b_F_addPair 11 = .ok (.getfield 9, 3) := by decide +kernel
theorem d_F_addPair_14 : decode b_F_addPair 14 = .ok (.aload_n 0, 1) := by decide +kernel
theorem d_F_addPair_15 : decode b_F_addPair 15 = .ok (.getfield 18, 3) := by decide +kernel
theorem d_F_addPair_18 : decode b_F_addPair 18 = .ok (.iload_n 1, 1) := by decide +kernel
theorem d_F_addPair_19 : decode b_F_addPair 19 = .ok (.iastore, 1) := by decide +kernel
theorem d_F_addPair_20 : decode b_F_addPair 20 = .ok (.aload_n 0, 1) := by decide +kernel
theorem d_F_addPair_21 : decode b_F_addPair 21 = .ok (.getfield 15, 3) := by decide +kernel
theorem d_F_addPair_24 : decode b_F_addPair 24 = .ok (.aload_n 0, 1) := by decide +kernel
theorem d_F_addPair_25 : decode b_F_addPair 25 = .ok (.getfield 18, 3) := by decide +kernel
theorem d_F_addPair_28 : decode b_F_addPair 28 = .ok (.iload_n 2, 1) := by decide +kernel
theorem d_F_addPair_29 : decode b_F_addPair 29 = .ok (.iastore, 1) := by decide +kernel
theorem d_F_addPair_30 : decode b_F_addPair 30 = .ok (.aload_n 0, 1) := by decide +kernel
theorem d_F_addPair_31 : decode b_F_addPair 31 = .ok (.dup, 1) := by decide +kernel
theorem d_F_addPair_32 : decode b_F_addPair 32 = .ok (.getfield 18, 3) := by decide +kernel
theorem d_F_addPair_35 : decode b_F_addPair 35 = .ok (.iconst 1, 1) := by decide +kernel
theorem d_F_addPair_36 : decode b_F_addPair 36 = .ok (.iadd, 1) := by decide +kernel
theorem d_F_addPair_37 : decode b_F_addPair 37 = .ok (.putfield 18, 3) := by decide +kernel
theorem d_F_addPair_40 : decode b_F_addPair 40 = .ok (.aload_n 0, 1) := by decide +kernel
theorem d_F_addPair_41 : decode b_F_addPair 41 = .ok (.dup, 1) := by decide +kernel
theorem d_F_addPair_42 : decode b_F_addPair 42 = .ok (.getfield 28, 3) := by decide +kernel
theorem d_F_addPair_45 : decode b_F_addPair 45 = .ok (.lload_n 3, 1) := by decide +kernel
theorem d_F_addPair_46 : decode b_F_addPair 46 = .ok (.lxor, 1) := by decide +kernel
theorem d_F_addPair_47 : decode b_F_addPair 47 = .ok (.putfield 28, 3) := by decide +kernel
theorem d_F_addPair_50 : decode b_F_addPair 50 = .ok (.return_, 1) := by decide +kernel
