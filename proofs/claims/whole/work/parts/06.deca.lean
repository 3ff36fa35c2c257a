-- decode rows
theorem dX0_init_0 : decode cX0_init 0 = .ok (.aload_n 0, 1) := by decide +kernel
theorem dX0_init_1 : decode cX0_init 1 = .ok (.invokespecial 3, 3) := by decide +kernel
theorem dX0_init_4 : decode cX0_init 4 = .ok (.aload_n 0, 1) := by decide +kernel
theorem dX0_init_5 : decode cX0_init 5 = .ok (.new 9, 3) := by decide +kernel
theorem dX0_init_8 : decode cX0_init 8 = .ok (.dup, 1) := by decide +kernel
theorem dX0_init_9 : decode cX0_init 9 = .ok (.invokespecial 11, 3) := by decide +kernel
theorem dX0_init_12 : decode cX0_init 12 = .ok (.putfield 12, 3) := by decide +kernel
theorem dX0_init_15 : decode cX0_init 15 = .ok (.aload_n 0, 1) := by decide +kernel
theorem dX0_init_16 : decode cX0_init 16 = .ok (.new 18, 3) := by decide +kernel
theorem dX0_init_19 : decode cX0_init 19 = .ok (.dup, 1) := by decide +kernel
theorem dX0_init_20 : decode cX0_init 20 = .ok (.invokespecial 20, 3) := by decide +kernel
theorem dX0_init_23 : decode cX0_init 23 = .ok (.putfield 21, 3) := by decide +kernel
theorem dX0_init_26 : decode cX0_init 26 = .ok (.aload_n 0, 1) := by decide +kernel
theorem dX0_init_27 : decode cX0_init 27 = .ok (.sipush 6400, 3) := by decide +kernel
theorem dX0_init_30 : decode cX0_init 30 = .ok (.newarray .byte, 2) := by decide +kernel
theorem dX0_init_32 : decode cX0_init 32 = .ok (.putfield 25, 3) := by decide +kernel
theorem dX0_init_35 : decode cX0_init 35 = .ok (.return_, 1) := by decide +kernel
theorem dX0_count_0 : decode cX0_count 0 = .ok (.aload_n 0, 1) := by decide +kernel
theorem dX0_count_1 : decode cX0_count 1 = .ok (.getfield 12, 3) := by decide +kernel
theorem dX0_count_4 : decode cX0_count 4 = .ok (.invokevirtual 29, 3) := by decide +kernel
theorem dX0_count_7 : decode cX0_count 7 = .ok (.ireturn, 1) := by decide +kernel
theorem dX0_isFull_0 : decode cX0_isFull 0 = .ok (.aload_n 0, 1) := by decide +kernel
theorem dX0_isFull_1 : decode cX0_isFull 1 = .ok (.getfield 12, 3) := by decide +kernel
theorem dX0_isFull_4 : decode cX0_isFull 4 = .ok (.invokevirtual 29, 3) := by decide +kernel
theorem dX0_isFull_7 : decode cX0_isFull 7 = .ok (.sipush 200, 3) := by decide +kernel
theorem dX0_isFull_10 : decode cX0_isFull 10 = .ok (.if_icmp .lt 7, 3) := by decide +kernel
theorem dX0_isFull_13 : decode cX0_isFull 13 = .ok (.iconst 1, 1) := by decide +kernel
theorem dX0_isFull_14 : decode cX0_isFull 14 = .ok (.goto 4, 3) := by decide +kernel
theorem dX0_isFull_17 : decode cX0_isFull 17 = .ok (.iconst 0, 1) := by decide +kernel
theorem dX0_isFull_18 : decode cX0_isFull 18 = .ok (.ireturn, 1) := by decide +kernel
theorem dX0_find_0 : decode cX0_find 0 = .ok (.iload_n 1, 1) := by decide +kernel
theorem dX0_find_1 : decode cX0_find 1 = .ok (.ifCond .lt 28, 3) := by decide +kernel
theorem dX0_find_4 : decode cX0_find 4 = .ok (.iload_n 1, 1) := by decide +kernel
theorem dX0_find_5 : decode cX0_find 5 = .ok (.aload_n 0, 1) := by decide +kernel
theorem dX0_find_6 : decode cX0_find 6 = .ok (.getfield 12, 3) := by decide +kernel
theorem dX0_find_9 : decode cX0_find 9 = .ok (.invokevirtual 29, 3) := by decide +kernel
theorem dX0_find_12 : decode cX0_find 12 = .ok (.if_icmp .ge 17, 3) := by decide +kernel
theorem dX0_find_15 : decode cX0_find 15 = .ok (.aload_n 0, 1) := by decide +kernel
theorem dX0_find_16 : decode cX0_find 16 = .ok (.getfield 12, 3) := by decide +kernel
theorem dX0_find_19 : decode cX0_find 19 = .ok (.iload_n 1, 1) := by decide +kernel
theorem dX0_find_20 : decode cX0_find 20 = .ok (.invokevirtual 33, 3) := by decide +kernel
theorem dX0_find_23 : decode cX0_find 23 = .ok (.checkcast 37, 3) := by decide +kernel
theorem dX0_find_26 : decode cX0_find 26 = .ok (.goto 4, 3) := by decide +kernel
theorem dX0_find_29 : decode cX0_find 29 = .ok (.aconst_null, 1) := by decide +kernel
theorem dX0_find_30 : decode cX0_find 30 = .ok (.areturn, 1) := by decide +kernel
theorem dX0_append_0 : decode cX0_append 0 = .ok (.aload_n 0, 1) := by decide +kernel
theorem dX0_append_1 : decode cX0_append 1 = .ok (.aload_n 0, 1) := by decide +kernel
theorem dX0_append_2 : decode cX0_append 2 = .ok (.aload_n 0, 1) := by decide +kernel
theorem dX0_append_3 : decode cX0_append 3 = .ok (.getfield 12, 3) := by decide +kernel
theorem dX0_append_6 : decode cX0_append 6 = .ok (.invokevirtual 29, 3) := by decide +kernel
theorem dX0_append_9 : decode cX0_append 9 = .ok (.iconst 1, 1) := by decide +kernel
theorem dX0_append_10 : decode cX0_append 10 = .ok (.isub, 1) := by decide +kernel
theorem dX0_append_11 : decode cX0_append 11 = .ok (.invokevirtual 39, 3) := by decide +kernel
theorem dX0_append_14 : decode cX0_append 14 = .ok (.aload_n 1, 1) := by decide +kernel
theorem dX0_append_15 : decode cX0_append 15 = .ok (.invokevirtual 43, 3) := by decide +kernel
theorem dX0_append_18 : decode cX0_append 18 = .ok (.aload_n 0, 1) := by decide +kernel
theorem dX0_append_19 : decode cX0_append 19 = .ok (.getfield 21, 3) := by decide +kernel
theorem dX0_append_22 : decode cX0_append 22 = .ok (.aload_n 1, 1) := by decide +kernel
theorem dX0_append_23 : decode cX0_append 23 = .ok (.getfield 47, 3) := by decide +kernel
theorem dX0_append_26 : decode cX0_append 26 = .ok (.bipush 41, 2) := by decide +kernel
theorem dX0_append_28 : decode cX0_append 28 = .ok (.invokevirtual 50, 3) := by decide +kernel
theorem dX0_append_31 : decode cX0_append 31 = .ok (.aload_n 0, 1) := by decide +kernel
theorem dX0_append_32 : decode cX0_append 32 = .ok (.getfield 12, 3) := by decide +kernel
theorem dX0_append_35 : decode cX0_append 35 = .ok (.aload_n 1, 1) := by decide +kernel
theorem dX0_append_36 : decode cX0_append 36 = .ok (.invokevirtual 54, 3) := by decide +kernel
theorem dX0_append_39 : decode cX0_append 39 = .ok (.pop, 1) := by decide +kernel
theorem dX0_append_40 : decode cX0_append 40 = .ok (.aload_n 0, 1) := by decide +kernel
theorem dX0_append_41 : decode cX0_append 41 = .ok (.getfield 12, 3) := by decide +kernel
theorem dX0_append_44 : decode cX0_append 44 = .ok (.invokevirtual 29, 3) := by decide +kernel
theorem dX0_append_47 : decode cX0_append 47 = .ok (.iconst 1, 1) := by decide +kernel
theorem dX0_append_48 : decode cX0_append 48 = .ok (.isub, 1) := by decide +kernel
theorem dX0_append_49 : decode cX0_append 49 = .ok (.ireturn, 1) := by decide +kernel
theorem dX0_firstBroken_0 : decode cX0_firstBroken 0 = .ok (.iload_n 1, 1) := by decide +kernel
theorem dX0_firstBroken_1 : decode cX0_firstBroken 1 = .ok (.istore_n 2, 1) := by decide +kernel
theorem dX0_firstBroken_2 : decode cX0_firstBroken 2 = .ok (.iload_n 2, 1) := by decide +kernel
theorem dX0_firstBroken_3 : decode cX0_firstBroken 3 = .ok (.aload_n 0, 1) := by decide +kernel
theorem dX0_firstBroken_4 : decode cX0_firstBroken 4 = .ok (.getfield 12, 3) := by decide +kernel
theorem dX0_firstBroken_7 : decode cX0_firstBroken 7 = .ok (.invokevirtual 29, 3) := by decide +kernel
theorem dX0_firstBroken_10 : decode cX0_firstBroken 10 = .ok (.if_icmp .ge 49, 3) := by decide +kernel
theorem dX0_firstBroken_13 : decode cX0_firstBroken 13 = .ok (.aload_n 0, 1) := by decide +kernel
theorem dX0_firstBroken_14 : decode cX0_firstBroken 14 = .ok (.iload_n 2, 1) := by decide +kernel
theorem dX0_firstBroken_15 : decode cX0_firstBroken 15 = .ok (.invokevirtual 39, 3) := by decide +kernel
theorem dX0_firstBroken_18 : decode cX0_firstBroken 18 = .ok (.astore_n 3, 1) := by decide +kernel
theorem dX0_firstBroken_19 : decode cX0_firstBroken 19 = .ok (.aload_n 3, 1) := by decide +kernel
theorem dX0_firstBroken_20 : decode cX0_firstBroken 20 = .ok (.ifnull 33, 3) := by decide +kernel
theorem dX0_firstBroken_23 : decode cX0_firstBroken 23 = .ok (.aload_n 0, 1) := by decide +kernel
theorem dX0_firstBroken_24 : decode cX0_firstBroken 24 = .ok (.aload_n 0, 1) := by decide +kernel
theorem dX0_firstBroken_25 : decode cX0_firstBroken 25 = .ok (.iload_n 2, 1) := by decide +kernel
theorem dX0_firstBroken_26 : decode cX0_firstBroken 26 = .ok (.iconst 1, 1) := by decide +kernel
theorem dX0_firstBroken_27 : decode cX0_firstBroken 27 = .ok (.isub, 1) := by decide +kernel
theorem dX0_firstBroken_28 : decode cX0_firstBroken 28 = .ok (.invokevirtual 39, 3) := by decide +kernel
theorem dX0_firstBroken_31 : decode cX0_firstBroken 31 = .ok (.aload_n 3, 1) := by decide +kernel
theorem dX0_firstBroken_32 : decode cX0_firstBroken 32 = .ok (.invokevirtual 43, 3) := by decide +kernel
theorem dX0_firstBroken_35 : decode cX0_firstBroken 35 = .ok (.aload_n 0, 1) := by decide +kernel
theorem dX0_firstBroken_36 : decode cX0_firstBroken 36 = .ok (.getfield 21, 3) := by decide +kernel
theorem dX0_firstBroken_39 : decode cX0_firstBroken 39 = .ok (.aload_n 3, 1) := by decide +kernel
theorem dX0_firstBroken_40 : decode cX0_firstBroken 40 = .ok (.getfield 47, 3) := by decide +kernel
theorem dX0_firstBroken_43 : decode cX0_firstBroken 43 = .ok (.bipush 41, 2) := by decide +kernel
theorem dX0_firstBroken_45 : decode cX0_firstBroken 45 = .ok (.invokevirtual 58, 3) := by decide +kernel
theorem dX0_firstBroken_48 : decode cX0_firstBroken 48 = .ok (.ifCond .ne 5, 3) := by decide +kernel
theorem dX0_firstBroken_51 : decode cX0_firstBroken 51 = .ok (.iload_n 2, 1) := by decide +kernel
theorem dX0_firstBroken_52 : decode cX0_firstBroken 52 = .ok (.ireturn, 1) := by decide +kernel
theorem dX0_firstBroken_53 : decode cX0_firstBroken 53 = .ok (.iinc 2 1, 3) := by decide +kernel
theorem dX0_firstBroken_56 : decode cX0_firstBroken 56 = .ok (.goto (-54), 3) := by decide +kernel
theorem dX0_firstBroken_59 : decode cX0_firstBroken 59 = .ok (.iconst (-1), 1) := by decide +kernel
theorem dX0_firstBroken_60 : decode cX0_firstBroken 60 = .ok (.ireturn, 1) := by decide +kernel
theorem dX0_rootByte_0 : decode cX0_rootByte 0 = .ok (.iload_n 2, 1) := by decide +kernel
theorem dX0_rootByte_1 : decode cX0_rootByte 1 = .ok (.ifCond .lt 9, 3) := by decide +kernel
theorem dX0_rootByte_4 : decode cX0_rootByte 4 = .ok (.iload_n 2, 1) := by decide +kernel
theorem dX0_rootByte_5 : decode cX0_rootByte 5 = .ok (.bipush 32, 2) := by decide +kernel
theorem dX0_rootByte_7 : decode cX0_rootByte 7 = .ok (.if_icmp .lt 5, 3) := by decide +kernel
theorem dX0_rootByte_10 : decode cX0_rootByte 10 = .ok (.iconst (-1), 1) := by decide +kernel
theorem dX0_rootByte_11 : decode cX0_rootByte 11 = .ok (.ireturn, 1) := by decide +kernel
theorem dX0_rootByte_12 : decode cX0_rootByte 12 = .ok (.aload_n 0, 1) := by decide +kernel
theorem dX0_rootByte_13 : decode cX0_rootByte 13 = .ok (.iload_n 1, 1) := by decide +kernel
theorem dX0_rootByte_14 : decode cX0_rootByte 14 = .ok (.invokevirtual 62, 3) := by decide +kernel
theorem dX0_rootByte_17 : decode cX0_rootByte 17 = .ok (.istore_n 3, 1) := by decide +kernel
theorem dX0_rootByte_18 : decode cX0_rootByte 18 = .ok (.iload_n 3, 1) := by decide +kernel
theorem dX0_rootByte_19 : decode cX0_rootByte 19 = .ok (.ifCond .ne 5, 3) := by decide +kernel
theorem dX0_rootByte_22 : decode cX0_rootByte 22 = .ok (.iconst (-1), 1) := by decide +kernel
theorem dX0_rootByte_23 : decode cX0_rootByte 23 = .ok (.ireturn, 1) := by decide +kernel
theorem dX0_rootByte_24 : decode cX0_rootByte 24 = .ok (.iload_n 3, 1) := by decide +kernel
theorem dX0_rootByte_25 : decode cX0_rootByte 25 = .ok (.istore 4, 2) := by decide +kernel
theorem dX0_rootByte_27 : decode cX0_rootByte 27 = .ok (.iload 4, 2) := by decide +kernel
theorem dX0_rootByte_29 : decode cX0_rootByte 29 = .ok (.iconst 1, 1) := by decide +kernel
theorem dX0_rootByte_30 : decode cX0_rootByte 30 = .ok (.if_icmp .le 20, 3) := by decide +kernel
theorem dX0_rootByte_33 : decode cX0_rootByte 33 = .ok (.aload_n 0, 1) := by decide +kernel
theorem dX0_rootByte_34 : decode cX0_rootByte 34 = .ok (.iload 4, 2) := by decide +kernel
theorem dX0_rootByte_36 : decode cX0_rootByte 36 = .ok (.invokevirtual 66, 3) := by decide +kernel
theorem dX0_rootByte_39 : decode cX0_rootByte 39 = .ok (.iload 4, 2) := by decide +kernel
theorem dX0_rootByte_41 : decode cX0_rootByte 41 = .ok (.iconst 1, 1) := by decide +kernel
theorem dX0_rootByte_42 : decode cX0_rootByte 42 = .ok (.iadd, 1) := by decide +kernel
theorem dX0_rootByte_43 : decode cX0_rootByte 43 = .ok (.iconst 2, 1) := by decide +kernel
theorem dX0_rootByte_44 : decode cX0_rootByte 44 = .ok (.idiv, 1) := by decide +kernel
theorem dX0_rootByte_45 : decode cX0_rootByte 45 = .ok (.istore 4, 2) := by decide +kernel
theorem dX0_rootByte_47 : decode cX0_rootByte 47 = .ok (.goto (-20), 3) := by decide +kernel
theorem dX0_rootByte_50 : decode cX0_rootByte 50 = .ok (.aload_n 0, 1) := by decide +kernel
theorem dX0_rootByte_51 : decode cX0_rootByte 51 = .ok (.getfield 25, 3) := by decide +kernel
theorem dX0_rootByte_54 : decode cX0_rootByte 54 = .ok (.iload_n 2, 1) := by decide +kernel
theorem dX0_rootByte_55 : decode cX0_rootByte 55 = .ok (.baload, 1) := by decide +kernel
theorem dX0_rootByte_56 : decode cX0_rootByte 56 = .ok (.sipush 255, 3) := by decide +kernel
theorem dX0_rootByte_59 : decode cX0_rootByte 59 = .ok (.iand, 1) := by decide +kernel
theorem dX0_rootByte_60 : decode cX0_rootByte 60 = .ok (.ireturn, 1) := by decide +kernel
theorem dX0_sumRow_0 : decode cX0_sumRow 0 = .ok (.aload_n 0, 1) := by decide +kernel
theorem dX0_sumRow_1 : decode cX0_sumRow 1 = .ok (.getfield 21, 3) := by decide +kernel
theorem dX0_sumRow_4 : decode cX0_sumRow 4 = .ok (.invokevirtual 70, 3) := by decide +kernel
theorem dX0_sumRow_7 : decode cX0_sumRow 7 = .ok (.aload_n 1, 1) := by decide +kernel
theorem dX0_sumRow_8 : decode cX0_sumRow 8 = .ok (.ifnonnull 15, 3) := by decide +kernel
theorem dX0_sumRow_11 : decode cX0_sumRow 11 = .ok (.aload_n 0, 1) := by decide +kernel
theorem dX0_sumRow_12 : decode cX0_sumRow 12 = .ok (.getfield 21, 3) := by decide +kernel
theorem dX0_sumRow_15 : decode cX0_sumRow 15 = .ok (.bipush 32, 2) := by decide +kernel
theorem dX0_sumRow_17 : decode cX0_sumRow 17 = .ok (.invokevirtual 73, 3) := by decide +kernel
theorem dX0_sumRow_20 : decode cX0_sumRow 20 = .ok (.goto 18, 3) := by decide +kernel
theorem dX0_sumRow_23 : decode cX0_sumRow 23 = .ok (.aload_n 0, 1) := by decide +kernel
theorem dX0_sumRow_24 : decode cX0_sumRow 24 = .ok (.getfield 21, 3) := by decide +kernel
theorem dX0_sumRow_27 : decode cX0_sumRow 27 = .ok (.aload_n 1, 1) := by decide +kernel
theorem dX0_sumRow_28 : decode cX0_sumRow 28 = .ok (.getfield 47, 3) := by decide +kernel
theorem dX0_sumRow_31 : decode cX0_sumRow 31 = .ok (.bipush 41, 2) := by decide +kernel
theorem dX0_sumRow_33 : decode cX0_sumRow 33 = .ok (.bipush 32, 2) := by decide +kernel
theorem dX0_sumRow_35 : decode cX0_sumRow 35 = .ok (.invokevirtual 76, 3) := by decide +kernel
theorem dX0_sumRow_38 : decode cX0_sumRow 38 = .ok (.aload_n 0, 1) := by decide +kernel
theorem dX0_sumRow_39 : decode cX0_sumRow 39 = .ok (.getfield 21, 3) := by decide +kernel
theorem dX0_sumRow_42 : decode cX0_sumRow 42 = .ok (.aload_n 2, 1) := by decide +kernel
theorem dX0_sumRow_43 : decode cX0_sumRow 43 = .ok (.getfield 47, 3) := by decide +kernel
theorem dX0_sumRow_46 : decode cX0_sumRow 46 = .ok (.iconst 0, 1) := by decide +kernel
theorem dX0_sumRow_47 : decode cX0_sumRow 47 = .ok (.bipush 41, 2) := by decide +kernel
theorem dX0_sumRow_49 : decode cX0_sumRow 49 = .ok (.invokevirtual 76, 3) := by decide +kernel
theorem dX0_sumRow_52 : decode cX0_sumRow 52 = .ok (.aload_n 0, 1) := by decide +kernel
theorem dX0_sumRow_53 : decode cX0_sumRow 53 = .ok (.getfield 21, 3) := by decide +kernel
theorem dX0_sumRow_56 : decode cX0_sumRow 56 = .ok (.invokevirtual 79, 3) := by decide +kernel
theorem dX0_sumRow_59 : decode cX0_sumRow 59 = .ok (.return_, 1) := by decide +kernel
theorem dX0_gather_0 : decode cX0_gather 0 = .ok (.iconst 0, 1) := by decide +kernel
theorem dX0_gather_1 : decode cX0_gather 1 = .ok (.istore_n 2, 1) := by decide +kernel
theorem dX0_gather_2 : decode cX0_gather 2 = .ok (.iconst 0, 1) := by decide +kernel
theorem dX0_gather_3 : decode cX0_gather 3 = .ok (.istore_n 3, 1) := by decide +kernel
theorem dX0_gather_4 : decode cX0_gather 4 = .ok (.iload_n 3, 1) := by decide +kernel
theorem dX0_gather_5 : decode cX0_gather 5 = .ok (.aload_n 0, 1) := by decide +kernel
theorem dX0_gather_6 : decode cX0_gather 6 = .ok (.getfield 12, 3) := by decide +kernel
theorem dX0_gather_9 : decode cX0_gather 9 = .ok (.invokevirtual 29, 3) := by decide +kernel
theorem dX0_gather_12 : decode cX0_gather 12 = .ok (.if_icmp .ge 61, 3) := by decide +kernel
theorem dX0_gather_15 : decode cX0_gather 15 = .ok (.aload_n 0, 1) := by decide +kernel
theorem dX0_gather_16 : decode cX0_gather 16 = .ok (.getfield 12, 3) := by decide +kernel
theorem dX0_gather_19 : decode cX0_gather 19 = .ok (.iload_n 3, 1) := by decide +kernel
theorem dX0_gather_20 : decode cX0_gather 20 = .ok (.invokevirtual 33, 3) := by decide +kernel
theorem dX0_gather_23 : decode cX0_gather 23 = .ok (.checkcast 37, 3) := by decide +kernel
theorem dX0_gather_26 : decode cX0_gather 26 = .ok (.astore 4, 2) := by decide +kernel
theorem dX0_gather_28 : decode cX0_gather 28 = .ok (.aload 4, 2) := by decide +kernel
theorem dX0_gather_30 : decode cX0_gather 30 = .ok (.getfield 82, 3) := by decide +kernel
theorem dX0_gather_33 : decode cX0_gather 33 = .ok (.iload_n 1, 1) := by decide +kernel
theorem dX0_gather_34 : decode cX0_gather 34 = .ok (.if_icmp .ne 33, 3) := by decide +kernel
theorem dX0_gather_37 : decode cX0_gather 37 = .ok (.iload_n 2, 1) := by decide +kernel
theorem dX0_gather_38 : decode cX0_gather 38 = .ok (.sipush 200, 3) := by decide +kernel
theorem dX0_gather_41 : decode cX0_gather 41 = .ok (.if_icmp .ge 26, 3) := by decide +kernel
theorem dX0_gather_44 : decode cX0_gather 44 = .ok (.aload 4, 2) := by decide +kernel
theorem dX0_gather_46 : decode cX0_gather 46 = .ok (.getfield 47, 3) := by decide +kernel
theorem dX0_gather_49 : decode cX0_gather 49 = .ok (.bipush 41, 2) := by decide +kernel
theorem dX0_gather_51 : decode cX0_gather 51 = .ok (.aload_n 0, 1) := by decide +kernel
theorem dX0_gather_52 : decode cX0_gather 52 = .ok (.getfield 25, 3) := by decide +kernel
theorem dX0_gather_55 : decode cX0_gather 55 = .ok (.iload_n 2, 1) := by decide +kernel
theorem dX0_gather_56 : decode cX0_gather 56 = .ok (.bipush 32, 2) := by decide +kernel
theorem dX0_gather_58 : decode cX0_gather 58 = .ok (.imul, 1) := by decide +kernel
theorem dX0_gather_59 : decode cX0_gather 59 = .ok (.bipush 32, 2) := by decide +kernel
theorem dX0_gather_61 : decode cX0_gather 61 = .ok (.invokestatic 86, 3) := by decide +kernel
theorem dX0_gather_64 : decode cX0_gather 64 = .ok (.iinc 2 1, 3) := by decide +kernel
theorem dX0_gather_67 : decode cX0_gather 67 = .ok (.iinc 3 1, 3) := by decide +kernel
theorem dX0_gather_70 : decode cX0_gather 70 = .ok (.goto (-66), 3) := by decide +kernel
theorem dX0_gather_73 : decode cX0_gather 73 = .ok (.iload_n 2, 1) := by decide +kernel
theorem dX0_gather_74 : decode cX0_gather 74 = .ok (.ireturn, 1) := by decide +kernel
theorem dX0_pairUp_0 : decode cX0_pairUp 0 = .ok (.iconst 0, 1) := by decide +kernel
theorem dX0_pairUp_1 : decode cX0_pairUp 1 = .ok (.istore_n 2, 1) := by decide +kernel
theorem dX0_pairUp_2 : decode cX0_pairUp 2 = .ok (.iload_n 2, 1) := by decide +kernel
theorem dX0_pairUp_3 : decode cX0_pairUp 3 = .ok (.iload_n 1, 1) := by decide +kernel
theorem dX0_pairUp_4 : decode cX0_pairUp 4 = .ok (.if_icmp .ge 89, 3) := by decide +kernel
theorem dX0_pairUp_7 : decode cX0_pairUp 7 = .ok (.iload_n 2, 1) := by decide +kernel
theorem dX0_pairUp_8 : decode cX0_pairUp 8 = .ok (.bipush 32, 2) := by decide +kernel
theorem dX0_pairUp_10 : decode cX0_pairUp 10 = .ok (.imul, 1) := by decide +kernel
theorem dX0_pairUp_11 : decode cX0_pairUp 11 = .ok (.istore_n 3, 1) := by decide +kernel
theorem dX0_pairUp_12 : decode cX0_pairUp 12 = .ok (.iload_n 2, 1) := by decide +kernel
theorem dX0_pairUp_13 : decode cX0_pairUp 13 = .ok (.iconst 2, 1) := by decide +kernel
theorem dX0_pairUp_14 : decode cX0_pairUp 14 = .ok (.idiv, 1) := by decide +kernel
theorem dX0_pairUp_15 : decode cX0_pairUp 15 = .ok (.bipush 32, 2) := by decide +kernel
theorem dX0_pairUp_17 : decode cX0_pairUp 17 = .ok (.imul, 1) := by decide +kernel
theorem dX0_pairUp_18 : decode cX0_pairUp 18 = .ok (.istore 4, 2) := by decide +kernel
theorem dX0_pairUp_20 : decode cX0_pairUp 20 = .ok (.iload_n 2, 1) := by decide +kernel
theorem dX0_pairUp_21 : decode cX0_pairUp 21 = .ok (.iconst 1, 1) := by decide +kernel
theorem dX0_pairUp_22 : decode cX0_pairUp 22 = .ok (.iadd, 1) := by decide +kernel
theorem dX0_pairUp_23 : decode cX0_pairUp 23 = .ok (.iload_n 1, 1) := by decide +kernel
theorem dX0_pairUp_24 : decode cX0_pairUp 24 = .ok (.if_icmp .ge 47, 3) := by decide +kernel
theorem dX0_pairUp_27 : decode cX0_pairUp 27 = .ok (.aload_n 0, 1) := by decide +kernel
theorem dX0_pairUp_28 : decode cX0_pairUp 28 = .ok (.getfield 21, 3) := by decide +kernel
theorem dX0_pairUp_31 : decode cX0_pairUp 31 = .ok (.invokevirtual 70, 3) := by decide +kernel
theorem dX0_pairUp_34 : decode cX0_pairUp 34 = .ok (.aload_n 0, 1) := by decide +kernel
theorem dX0_pairUp_35 : decode cX0_pairUp 35 = .ok (.getfield 21, 3) := by decide +kernel
theorem dX0_pairUp_38 : decode cX0_pairUp 38 = .ok (.aload_n 0, 1) := by decide +kernel
theorem dX0_pairUp_39 : decode cX0_pairUp 39 = .ok (.getfield 25, 3) := by decide +kernel
theorem dX0_pairUp_42 : decode cX0_pairUp 42 = .ok (.iload_n 3, 1) := by decide +kernel
theorem dX0_pairUp_43 : decode cX0_pairUp 43 = .ok (.bipush 64, 2) := by decide +kernel
theorem dX0_pairUp_45 : decode cX0_pairUp 45 = .ok (.invokevirtual 76, 3) := by decide +kernel
theorem dX0_pairUp_48 : decode cX0_pairUp 48 = .ok (.aload_n 0, 1) := by decide +kernel
theorem dX0_pairUp_49 : decode cX0_pairUp 49 = .ok (.getfield 21, 3) := by decide +kernel
theorem dX0_pairUp_52 : decode cX0_pairUp 52 = .ok (.invokevirtual 79, 3) := by decide +kernel
theorem dX0_pairUp_55 : decode cX0_pairUp 55 = .ok (.aload_n 0, 1) := by decide +kernel
theorem dX0_pairUp_56 : decode cX0_pairUp 56 = .ok (.getfield 21, 3) := by decide +kernel
theorem dX0_pairUp_59 : decode cX0_pairUp 59 = .ok (.aload_n 0, 1) := by decide +kernel
theorem dX0_pairUp_60 : decode cX0_pairUp 60 = .ok (.getfield 25, 3) := by decide +kernel
theorem dX0_pairUp_63 : decode cX0_pairUp 63 = .ok (.iload 4, 2) := by decide +kernel
theorem dX0_pairUp_65 : decode cX0_pairUp 65 = .ok (.invokevirtual 50, 3) := by decide +kernel
theorem dX0_pairUp_68 : decode cX0_pairUp 68 = .ok (.goto 19, 3) := by decide +kernel
theorem dX0_pairUp_71 : decode cX0_pairUp 71 = .ok (.aload_n 0, 1) := by decide +kernel
theorem dX0_pairUp_72 : decode cX0_pairUp 72 = .ok (.getfield 25, 3) := by decide +kernel
theorem dX0_pairUp_75 : decode cX0_pairUp 75 = .ok (.iload_n 3, 1) := by decide +kernel
theorem dX0_pairUp_76 : decode cX0_pairUp 76 = .ok (.aload_n 0, 1) := by decide +kernel
theorem dX0_pairUp_77 : decode cX0_pairUp 77 = .ok (.getfield 25, 3) := by decide +kernel
theorem dX0_pairUp_80 : decode cX0_pairUp 80 = .ok (.iload 4, 2) := by decide +kernel
theorem dX0_pairUp_82 : decode cX0_pairUp 82 = .ok (.bipush 32, 2) := by decide +kernel
theorem dX0_pairUp_84 : decode cX0_pairUp 84 = .ok (.invokestatic 86, 3) := by decide +kernel
theorem dX0_pairUp_87 : decode cX0_pairUp 87 = .ok (.iinc 2 2, 3) := by decide +kernel
theorem dX0_pairUp_90 : decode cX0_pairUp 90 = .ok (.goto (-88), 3) := by decide +kernel
theorem dX0_pairUp_93 : decode cX0_pairUp 93 = .ok (.return_, 1) := by decide +kernel
theorem dX1_init_0 : decode cX1_init 0 = .ok (.aload_n 0, 1) := by decide +kernel
theorem dX1_init_1 : decode cX1_init 1 = .ok (.invokespecial 3, 3) := by decide +kernel
theorem dX1_init_4 : decode cX1_init 4 = .ok (.aload_n 0, 1) := by decide +kernel
theorem dX1_init_5 : decode cX1_init 5 = .ok (.bipush 62, 2) := by decide +kernel
theorem dX1_init_7 : decode cX1_init 7 = .ok (.newarray .byte, 2) := by decide +kernel
theorem dX1_init_9 : decode cX1_init 9 = .ok (.putfield 9, 3) := by decide +kernel
theorem dX1_init_12 : decode cX1_init 12 = .ok (.aload_n 0, 1) := by decide +kernel
theorem dX1_init_13 : decode cX1_init 13 = .ok (.iconst 0, 1) := by decide +kernel
theorem dX1_init_14 : decode cX1_init 14 = .ok (.putfield 15, 3) := by decide +kernel
theorem dX1_init_17 : decode cX1_init 17 = .ok (.return_, 1) := by decide +kernel
theorem dX1_fill_0 : decode cX1_fill 0 = .ok (.aload_n 0, 1) := by decide +kernel
theorem dX1_fill_1 : decode cX1_fill 1 = .ok (.iconst 0, 1) := by decide +kernel
theorem dX1_fill_2 : decode cX1_fill 2 = .ok (.putfield 15, 3) := by decide +kernel
theorem dX1_fill_5 : decode cX1_fill 5 = .ok (.iconst 0, 1) := by decide +kernel
theorem dX1_fill_6 : decode cX1_fill 6 = .ok (.istore_n 2, 1) := by decide +kernel
theorem dX1_fill_7 : decode cX1_fill 7 = .ok (.iload_n 2, 1) := by decide +kernel
theorem dX1_fill_8 : decode cX1_fill 8 = .ok (.bipush 7, 2) := by decide +kernel
theorem dX1_fill_10 : decode cX1_fill 10 = .ok (.if_icmp .gt 28, 3) := by decide +kernel
theorem dX1_fill_13 : decode cX1_fill 13 = .ok (.iload_n 2, 1) := by decide +kernel
theorem dX1_fill_14 : decode cX1_fill 14 = .ok (.ifCond .le 9, 3) := by decide +kernel
theorem dX1_fill_17 : decode cX1_fill 17 = .ok (.aload_n 0, 1) := by decide +kernel
theorem dX1_fill_18 : decode cX1_fill 18 = .ok (.bipush 32, 2) := by decide +kernel
theorem dX1_fill_20 : decode cX1_fill 20 = .ok (.invokevirtual 19, 3) := by decide +kernel
theorem dX1_fill_23 : decode cX1_fill 23 = .ok (.aload_n 0, 1) := by decide +kernel
theorem dX1_fill_24 : decode cX1_fill 24 = .ok (.aload_n 1, 1) := by decide +kernel
theorem dX1_fill_25 : decode cX1_fill 25 = .ok (.iload_n 2, 1) := by decide +kernel
theorem dX1_fill_26 : decode cX1_fill 26 = .ok (.invokevirtual 23, 3) := by decide +kernel
theorem dX1_fill_29 : decode cX1_fill 29 = .ok (.invokevirtual 29, 3) := by decide +kernel
theorem dX1_fill_32 : decode cX1_fill 32 = .ok (.iinc 2 1, 3) := by decide +kernel
theorem dX1_fill_35 : decode cX1_fill 35 = .ok (.goto (-28), 3) := by decide +kernel
theorem dX1_fill_38 : decode cX1_fill 38 = .ok (.aload_n 1, 1) := by decide +kernel
theorem dX1_fill_39 : decode cX1_fill 39 = .ok (.invokevirtual 33, 3) := by decide +kernel
theorem dX1_fill_42 : decode cX1_fill 42 = .ok (.ifCond .eq 40, 3) := by decide +kernel
theorem dX1_fill_45 : decode cX1_fill 45 = .ok (.iconst 0, 1) := by decide +kernel
theorem dX1_fill_46 : decode cX1_fill 46 = .ok (.istore_n 2, 1) := by decide +kernel
theorem dX1_fill_47 : decode cX1_fill 47 = .ok (.iload_n 2, 1) := by decide +kernel
theorem dX1_fill_48 : decode cX1_fill 48 = .ok (.ldc 37, 2) := by decide +kernel
theorem dX1_fill_50 : decode cX1_fill 50 = .ok (.invokevirtual 39, 3) := by decide +kernel
theorem dX1_fill_53 : decode cX1_fill 53 = .ok (.if_icmp .ge 19, 3) := by decide +kernel
theorem dX1_fill_56 : decode cX1_fill 56 = .ok (.aload_n 0, 1) := by decide +kernel
theorem dX1_fill_57 : decode cX1_fill 57 = .ok (.ldc 37, 2) := by decide +kernel
theorem dX1_fill_59 : decode cX1_fill 59 = .ok (.iload_n 2, 1) := by decide +kernel
theorem dX1_fill_60 : decode cX1_fill 60 = .ok (.invokevirtual 44, 3) := by decide +kernel
theorem dX1_fill_63 : decode cX1_fill 63 = .ok (.invokevirtual 19, 3) := by decide +kernel
theorem dX1_fill_66 : decode cX1_fill 66 = .ok (.iinc 2 1, 3) := by decide +kernel
theorem dX1_fill_69 : decode cX1_fill 69 = .ok (.goto (-22), 3) := by decide +kernel
theorem dX1_fill_72 : decode cX1_fill 72 = .ok (.aload_n 0, 1) := by decide +kernel
theorem dX1_fill_73 : decode cX1_fill 73 = .ok (.aload_n 1, 1) := by decide +kernel
theorem dX1_fill_74 : decode cX1_fill 74 = .ok (.bipush 8, 2) := by decide +kernel
theorem dX1_fill_76 : decode cX1_fill 76 = .ok (.invokevirtual 23, 3) := by decide +kernel
theorem dX1_fill_79 : decode cX1_fill 79 = .ok (.invokevirtual 29, 3) := by decide +kernel
theorem dX1_fill_82 : decode cX1_fill 82 = .ok (.return_, 1) := by decide +kernel
theorem dX1_sign_0 : decode cX1_sign 0 = .ok (.iload_n 1, 1) := by decide +kernel
theorem dX1_sign_1 : decode cX1_sign 1 = .ok (.ifCond .lt 29, 3) := by decide +kernel
theorem dX1_sign_4 : decode cX1_sign 4 = .ok (.iload_n 1, 1) := by decide +kernel
theorem dX1_sign_5 : decode cX1_sign 5 = .ok (.aload_n 0, 1) := by decide +kernel
theorem dX1_sign_6 : decode cX1_sign 6 = .ok (.getfield 15, 3) := by decide +kernel
theorem dX1_sign_9 : decode cX1_sign 9 = .ok (.if_icmp .ge 21, 3) := by decide +kernel
theorem dX1_sign_12 : decode cX1_sign 12 = .ok (.iload_n 1, 1) := by decide +kernel
theorem dX1_sign_13 : decode cX1_sign 13 = .ok (.aload_n 0, 1) := by decide +kernel
theorem dX1_sign_14 : decode cX1_sign 14 = .ok (.getfield 9, 3) := by decide +kernel
theorem dX1_sign_17 : decode cX1_sign 17 = .ok (.arraylength, 1) := by decide +kernel
theorem dX1_sign_18 : decode cX1_sign 18 = .ok (.if_icmp .ge 12, 3) := by decide +kernel
theorem dX1_sign_21 : decode cX1_sign 21 = .ok (.aload_n 0, 1) := by decide +kernel
theorem dX1_sign_22 : decode cX1_sign 22 = .ok (.getfield 9, 3) := by decide +kernel
theorem dX1_sign_25 : decode cX1_sign 25 = .ok (.iload_n 1, 1) := by decide +kernel
theorem dX1_sign_26 : decode cX1_sign 26 = .ok (.baload, 1) := by decide +kernel
theorem dX1_sign_27 : decode cX1_sign 27 = .ok (.goto 4, 3) := by decide +kernel
theorem dX1_sign_30 : decode cX1_sign 30 = .ok (.iconst (-1), 1) := by decide +kernel
theorem dX1_sign_31 : decode cX1_sign 31 = .ok (.ireturn, 1) := by decide +kernel
theorem dX1_add_0 : decode cX1_add 0 = .ok (.aload_n 0, 1) := by decide +kernel
theorem dX1_add_1 : decode cX1_add 1 = .ok (.getfield 15, 3) := by decide +kernel
theorem dX1_add_4 : decode cX1_add 4 = .ok (.aload_n 0, 1) := by decide +kernel
theorem dX1_add_5 : decode cX1_add 5 = .ok (.getfield 9, 3) := by decide +kernel
theorem dX1_add_8 : decode cX1_add 8 = .ok (.arraylength, 1) := by decide +kernel
theorem dX1_add_9 : decode cX1_add 9 = .ok (.if_icmp .ge 24, 3) := by decide +kernel
theorem dX1_add_12 : decode cX1_add 12 = .ok (.aload_n 0, 1) := by decide +kernel
theorem dX1_add_13 : decode cX1_add 13 = .ok (.getfield 9, 3) := by decide +kernel
theorem dX1_add_16 : decode cX1_add 16 = .ok (.aload_n 0, 1) := by decide +kernel
theorem dX1_add_17 : decode cX1_add 17 = .ok (.getfield 15, 3) := by decide +kernel
theorem dX1_add_20 : decode cX1_add 20 = .ok (.iload_n 1, 1) := by decide +kernel
theorem dX1_add_21 : decode cX1_add 21 = .ok (.i2b, 1) := by decide +kernel
theorem dX1_add_22 : decode cX1_add 22 = .ok (.bastore, 1) := by decide +kernel
theorem dX1_add_23 : decode cX1_add 23 = .ok (.aload_n 0, 1) := by decide +kernel
theorem dX1_add_24 : decode cX1_add 24 = .ok (.dup, 1) := by decide +kernel
theorem dX1_add_25 : decode cX1_add 25 = .ok (.getfield 15, 3) := by decide +kernel
theorem dX1_add_28 : decode cX1_add 28 = .ok (.iconst 1, 1) := by decide +kernel
theorem dX1_add_29 : decode cX1_add 29 = .ok (.iadd, 1) := by decide +kernel
theorem dX1_add_30 : decode cX1_add 30 = .ok (.putfield 15, 3) := by decide +kernel
theorem dX1_add_33 : decode cX1_add 33 = .ok (.return_, 1) := by decide +kernel
theorem dX1_addDecimals_0 : decode cX1_addDecimals 0 = .ok (.iconst 0, 1) := by decide +kernel
theorem dX1_addDecimals_1 : decode cX1_addDecimals 1 = .ok (.istore_n 3, 1) := by decide +kernel
theorem dX1_addDecimals_2 : decode cX1_addDecimals 2 = .ok (.ldc2_w 48, 3) := by decide +kernel
theorem dX1_addDecimals_5 : decode cX1_addDecimals 5 = .ok (.lstore 4, 2) := by decide +kernel
theorem dX1_addDecimals_7 : decode cX1_addDecimals 7 = .ok (.lload 4, 2) := by decide +kernel
theorem dX1_addDecimals_9 : decode cX1_addDecimals 9 = .ok (.lconst 0, 1) := by decide +kernel
theorem dX1_addDecimals_10 : decode cX1_addDecimals 10 = .ok (.lcmp, 1) := by decide +kernel
theorem dX1_addDecimals_11 : decode cX1_addDecimals 11 = .ok (.ifCond .le 61, 3) := by decide +kernel
theorem dX1_addDecimals_14 : decode cX1_addDecimals 14 = .ok (.lload_n 1, 1) := by decide +kernel
theorem dX1_addDecimals_15 : decode cX1_addDecimals 15 = .ok (.lload 4, 2) := by decide +kernel
theorem dX1_addDecimals_17 : decode cX1_addDecimals 17 = .ok (.ldiv, 1) := by decide +kernel
theorem dX1_addDecimals_18 : decode cX1_addDecimals 18 = .ok (.ldc2_w 50, 3) := by decide +kernel
theorem dX1_addDecimals_21 : decode cX1_addDecimals 21 = .ok (.lrem, 1) := by decide +kernel
theorem dX1_addDecimals_22 : decode cX1_addDecimals 22 = .ok (.l2i, 1) := by decide +kernel
theorem dX1_addDecimals_23 : decode cX1_addDecimals 23 = .ok (.istore 6, 2) := by decide +kernel
theorem dX1_addDecimals_25 : decode cX1_addDecimals 25 = .ok (.iload_n 3, 1) := by decide +kernel
theorem dX1_addDecimals_26 : decode cX1_addDecimals 26 = .ok (.ifCond .ne 15, 3) := by decide +kernel
theorem dX1_addDecimals_29 : decode cX1_addDecimals 29 = .ok (.iload 6, 2) := by decide +kernel
theorem dX1_addDecimals_31 : decode cX1_addDecimals 31 = .ok (.ifCond .gt 10, 3) := by decide +kernel
theorem dX1_addDecimals_34 : decode cX1_addDecimals 34 = .ok (.lload 4, 2) := by decide +kernel
theorem dX1_addDecimals_36 : decode cX1_addDecimals 36 = .ok (.lconst 1, 1) := by decide +kernel
theorem dX1_addDecimals_37 : decode cX1_addDecimals 37 = .ok (.lcmp, 1) := by decide +kernel
theorem dX1_addDecimals_38 : decode cX1_addDecimals 38 = .ok (.ifCond .ne 7, 3) := by decide +kernel
theorem dX1_addDecimals_41 : decode cX1_addDecimals 41 = .ok (.iconst 1, 1) := by decide +kernel
theorem dX1_addDecimals_42 : decode cX1_addDecimals 42 = .ok (.goto 4, 3) := by decide +kernel
theorem dX1_addDecimals_45 : decode cX1_addDecimals 45 = .ok (.iconst 0, 1) := by decide +kernel
theorem dX1_addDecimals_46 : decode cX1_addDecimals 46 = .ok (.istore_n 3, 1) := by decide +kernel
theorem dX1_addDecimals_47 : decode cX1_addDecimals 47 = .ok (.iload_n 3, 1) := by decide +kernel
theorem dX1_addDecimals_48 : decode cX1_addDecimals 48 = .ok (.ifCond .eq 13, 3) := by decide +kernel
theorem dX1_addDecimals_51 : decode cX1_addDecimals 51 = .ok (.aload_n 0, 1) := by decide +kernel
theorem dX1_addDecimals_52 : decode cX1_addDecimals 52 = .ok (.bipush 48, 2) := by decide +kernel
theorem dX1_addDecimals_54 : decode cX1_addDecimals 54 = .ok (.iload 6, 2) := by decide +kernel
theorem dX1_addDecimals_56 : decode cX1_addDecimals 56 = .ok (.iadd, 1) := by decide +kernel
theorem dX1_addDecimals_57 : decode cX1_addDecimals 57 = .ok (.i2c, 1) := by decide +kernel
theorem dX1_addDecimals_58 : decode cX1_addDecimals 58 = .ok (.invokevirtual 19, 3) := by decide +kernel
theorem dX1_addDecimals_61 : decode cX1_addDecimals 61 = .ok (.lload 4, 2) := by decide +kernel
theorem dX1_addDecimals_63 : decode cX1_addDecimals 63 = .ok (.ldc2_w 50, 3) := by decide +kernel
theorem dX1_addDecimals_66 : decode cX1_addDecimals 66 = .ok (.ldiv, 1) := by decide +kernel
theorem dX1_addDecimals_67 : decode cX1_addDecimals 67 = .ok (.lstore 4, 2) := by decide +kernel
theorem dX1_addDecimals_69 : decode cX1_addDecimals 69 = .ok (.goto (-62), 3) := by decide +kernel
theorem dX1_addDecimals_72 : decode cX1_addDecimals 72 = .ok (.return_, 1) := by decide +kernel
theorem dX2_init_0 : decode cX2_init 0 = .ok (.aload_n 0, 1) := by decide +kernel
theorem dX2_init_1 : decode cX2_init 1 = .ok (.invokespecial 3, 3) := by decide +kernel
theorem dX2_init_4 : decode cX2_init 4 = .ok (.aload_n 0, 1) := by decide +kernel
theorem dX2_init_5 : decode cX2_init 5 = .ok (.bipush 73, 2) := by decide +kernel
theorem dX2_init_7 : decode cX2_init 7 = .ok (.newarray .byte, 2) := by decide +kernel
theorem dX2_init_9 : decode cX2_init 9 = .ok (.putfield 9, 3) := by decide +kernel
theorem dX2_init_12 : decode cX2_init 12 = .ok (.aload_n 0, 1) := by decide +kernel
theorem dX2_init_13 : decode cX2_init 13 = .ok (.iconst 0, 1) := by decide +kernel
theorem dX2_init_14 : decode cX2_init 14 = .ok (.putfield 15, 3) := by decide +kernel
theorem dX2_init_17 : decode cX2_init 17 = .ok (.aload_n 0, 1) := by decide +kernel
theorem dX2_init_18 : decode cX2_init 18 = .ok (.iload_n 1, 1) := by decide +kernel
theorem dX2_init_19 : decode cX2_init 19 = .ok (.putfield 19, 3) := by decide +kernel
theorem dX2_init_22 : decode cX2_init 22 = .ok (.return_, 1) := by decide +kernel
theorem dX2_write_0 : decode cX2_write 0 = .ok (.iload_n 3, 1) := by decide +kernel
theorem dX2_write_1 : decode cX2_write 1 = .ok (.iconst 1, 1) := by decide +kernel
theorem dX2_write_2 : decode cX2_write 2 = .ok (.isub, 1) := by decide +kernel
theorem dX2_write_3 : decode cX2_write 3 = .ok (.istore 4, 2) := by decide +kernel
theorem dX2_write_5 : decode cX2_write 5 = .ok (.iload 4, 2) := by decide +kernel
theorem dX2_write_7 : decode cX2_write 7 = .ok (.ifCond .lt 46, 3) := by decide +kernel
theorem dX2_write_10 : decode cX2_write 10 = .ok (.aload_n 0, 1) := by decide +kernel
theorem dX2_write_11 : decode cX2_write 11 = .ok (.getfield 15, 3) := by decide +kernel
theorem dX2_write_14 : decode cX2_write 14 = .ok (.bipush 41, 2) := by decide +kernel
theorem dX2_write_16 : decode cX2_write 16 = .ok (.if_icmp .ge 31, 3) := by decide +kernel
theorem dX2_write_19 : decode cX2_write 19 = .ok (.aload_n 0, 1) := by decide +kernel
theorem dX2_write_20 : decode cX2_write 20 = .ok (.getfield 9, 3) := by decide +kernel
theorem dX2_write_23 : decode cX2_write 23 = .ok (.aload_n 0, 1) := by decide +kernel
theorem dX2_write_24 : decode cX2_write 24 = .ok (.getfield 15, 3) := by decide +kernel
theorem dX2_write_27 : decode cX2_write 27 = .ok (.lload_n 1, 1) := by decide +kernel
theorem dX2_write_28 : decode cX2_write 28 = .ok (.bipush 8, 2) := by decide +kernel
theorem dX2_write_30 : decode cX2_write 30 = .ok (.iload 4, 2) := by decide +kernel
theorem dX2_write_32 : decode cX2_write 32 = .ok (.imul, 1) := by decide +kernel
theorem dX2_write_33 : decode cX2_write 33 = .ok (.lushr, 1) := by decide +kernel
theorem dX2_write_34 : decode cX2_write 34 = .ok (.l2i, 1) := by decide +kernel
theorem dX2_write_35 : decode cX2_write 35 = .ok (.i2b, 1) := by decide +kernel
theorem dX2_write_36 : decode cX2_write 36 = .ok (.bastore, 1) := by decide +kernel
theorem dX2_write_37 : decode cX2_write 37 = .ok (.aload_n 0, 1) := by decide +kernel
theorem dX2_write_38 : decode cX2_write 38 = .ok (.dup, 1) := by decide +kernel
theorem dX2_write_39 : decode cX2_write 39 = .ok (.getfield 15, 3) := by decide +kernel
theorem dX2_write_42 : decode cX2_write 42 = .ok (.iconst 1, 1) := by decide +kernel
theorem dX2_write_43 : decode cX2_write 43 = .ok (.iadd, 1) := by decide +kernel
theorem dX2_write_44 : decode cX2_write 44 = .ok (.putfield 15, 3) := by decide +kernel
theorem dX2_write_47 : decode cX2_write 47 = .ok (.iinc 4 (-1), 3) := by decide +kernel
theorem dX2_write_50 : decode cX2_write 50 = .ok (.goto (-45), 3) := by decide +kernel
theorem dX2_write_53 : decode cX2_write 53 = .ok (.return_, 1) := by decide +kernel
theorem dX2_has_0 : decode cX2_has 0 = .ok (.iload_n 1, 1) := by decide +kernel
theorem dX2_has_1 : decode cX2_has 1 = .ok (.ifCond .lt 16, 3) := by decide +kernel
theorem dX2_has_4 : decode cX2_has 4 = .ok (.iload_n 1, 1) := by decide +kernel
theorem dX2_has_5 : decode cX2_has 5 = .ok (.aload_n 0, 1) := by decide +kernel
theorem dX2_has_6 : decode cX2_has 6 = .ok (.getfield 9, 3) := by decide +kernel
theorem dX2_has_9 : decode cX2_has 9 = .ok (.arraylength, 1) := by decide +kernel
theorem dX2_has_10 : decode cX2_has 10 = .ok (.if_icmp .ge 7, 3) := by decide +kernel
theorem dX2_has_13 : decode cX2_has 13 = .ok (.iconst 1, 1) := by decide +kernel
theorem dX2_has_14 : decode cX2_has 14 = .ok (.goto 4, 3) := by decide +kernel
theorem dX2_has_17 : decode cX2_has 17 = .ok (.iconst 0, 1) := by decide +kernel
theorem dX2_has_18 : decode cX2_has 18 = .ok (.ireturn, 1) := by decide +kernel
theorem dX2_value_0 : decode cX2_value 0 = .ok (.aload_n 0, 1) := by decide +kernel
theorem dX2_value_1 : decode cX2_value 1 = .ok (.iload_n 1, 1) := by decide +kernel
theorem dX2_value_2 : decode cX2_value 2 = .ok (.invokevirtual 22, 3) := by decide +kernel
theorem dX2_value_5 : decode cX2_value 5 = .ok (.ifCond .eq 16, 3) := by decide +kernel
theorem dX2_value_8 : decode cX2_value 8 = .ok (.aload_n 0, 1) := by decide +kernel
theorem dX2_value_9 : decode cX2_value 9 = .ok (.getfield 9, 3) := by decide +kernel
theorem dX2_value_12 : decode cX2_value 12 = .ok (.iload_n 1, 1) := by decide +kernel
theorem dX2_value_13 : decode cX2_value 13 = .ok (.baload, 1) := by decide +kernel
theorem dX2_value_14 : decode cX2_value 14 = .ok (.sipush 255, 3) := by decide +kernel
theorem dX2_value_17 : decode cX2_value 17 = .ok (.iand, 1) := by decide +kernel
theorem dX2_value_18 : decode cX2_value 18 = .ok (.goto 4, 3) := by decide +kernel
theorem dX2_value_21 : decode cX2_value 21 = .ok (.iconst (-1), 1) := by decide +kernel
theorem dX2_value_22 : decode cX2_value 22 = .ok (.ireturn, 1) := by decide +kernel
theorem dX2_change_0 : decode cX2_change 0 = .ok (.aload_n 0, 1) := by decide +kernel
theorem dX2_change_1 : decode cX2_change 1 = .ok (.iload_n 1, 1) := by decide +kernel
theorem dX2_change_2 : decode cX2_change 2 = .ok (.invokevirtual 22, 3) := by decide +kernel
theorem dX2_change_5 : decode cX2_change 5 = .ok (.ifCond .ne 5, 3) := by decide +kernel
theorem dX2_change_8 : decode cX2_change 8 = .ok (.iconst 0, 1) := by decide +kernel
theorem dX2_change_9 : decode cX2_change 9 = .ok (.ireturn, 1) := by decide +kernel
theorem dX2_change_10 : decode cX2_change 10 = .ok (.aload_n 0, 1) := by decide +kernel
theorem dX2_change_11 : decode cX2_change 11 = .ok (.getfield 9, 3) := by decide +kernel
theorem dX2_change_14 : decode cX2_change 14 = .ok (.iload_n 1, 1) := by decide +kernel
theorem dX2_change_15 : decode cX2_change 15 = .ok (.aload_n 0, 1) := by decide +kernel
theorem dX2_change_16 : decode cX2_change 16 = .ok (.getfield 9, 3) := by decide +kernel
theorem dX2_change_19 : decode cX2_change 19 = .ok (.iload_n 1, 1) := by decide +kernel
theorem dX2_change_20 : decode cX2_change 20 = .ok (.baload, 1) := by decide +kernel
theorem dX2_change_21 : decode cX2_change 21 = .ok (.iload_n 2, 1) := by decide +kernel
theorem dX2_change_22 : decode cX2_change 22 = .ok (.ixor, 1) := by decide +kernel
theorem dX2_change_23 : decode cX2_change 23 = .ok (.i2b, 1) := by decide +kernel
theorem dX2_change_24 : decode cX2_change 24 = .ok (.bastore, 1) := by decide +kernel
theorem dX2_change_25 : decode cX2_change 25 = .ok (.iconst 1, 1) := by decide +kernel
theorem dX2_change_26 : decode cX2_change 26 = .ok (.ireturn, 1) := by decide +kernel
theorem dX3_init_0 : decode cX3_init 0 = .ok (.aload_n 0, 1) := by decide +kernel
theorem dX3_init_1 : decode cX3_init 1 = .ok (.invokespecial 5, 3) := by decide +kernel
theorem dX3_init_4 : decode cX3_init 4 = .ok (.aload_n 0, 1) := by decide +kernel
theorem dX3_init_5 : decode cX3_init 5 = .ok (.sipush 128, 3) := by decide +kernel
theorem dX3_init_8 : decode cX3_init 8 = .ok (.newarray .byte, 2) := by decide +kernel
theorem dX3_init_10 : decode cX3_init 10 = .ok (.putfield 11, 3) := by decide +kernel
theorem dX3_init_13 : decode cX3_init 13 = .ok (.aload_n 0, 1) := by decide +kernel
theorem dX3_init_14 : decode cX3_init 14 = .ok (.bipush 64, 2) := by decide +kernel
theorem dX3_init_16 : decode cX3_init 16 = .ok (.newarray .int, 2) := by decide +kernel
theorem dX3_init_18 : decode cX3_init 18 = .ok (.putfield 15, 3) := by decide +kernel
theorem dX3_init_21 : decode cX3_init 21 = .ok (.aload_n 0, 1) := by decide +kernel
theorem dX3_init_22 : decode cX3_init 22 = .ok (.bipush 8, 2) := by decide +kernel
theorem dX3_init_24 : decode cX3_init 24 = .ok (.newarray .int, 2) := by decide +kernel
theorem dX3_init_26 : decode cX3_init 26 = .ok (.putfield 19, 3) := by decide +kernel
theorem dX3_init_29 : decode cX3_init 29 = .ok (.aload_n 0, 1) := by decide +kernel
theorem dX3_init_30 : decode cX3_init 30 = .ok (.iconst 0, 1) := by decide +kernel
theorem dX3_init_31 : decode cX3_init 31 = .ok (.putfield 22, 3) := by decide +kernel
theorem dX3_init_34 : decode cX3_init 34 = .ok (.return_, 1) := by decide +kernel
theorem dX3_start_0 : decode cX3_start 0 = .ok (.aload_n 0, 1) := by decide +kernel
theorem dX3_start_1 : decode cX3_start 1 = .ok (.iconst 0, 1) := by decide +kernel
theorem dX3_start_2 : decode cX3_start 2 = .ok (.putfield 22, 3) := by decide +kernel
theorem dX3_start_5 : decode cX3_start 5 = .ok (.return_, 1) := by decide +kernel
theorem dX3_add_0 : decode cX3_add 0 = .ok (.iconst 0, 1) := by decide +kernel
theorem dX3_add_1 : decode cX3_add 1 = .ok (.istore 4, 2) := by decide +kernel
theorem dX3_add_3 : decode cX3_add 3 = .ok (.iload 4, 2) := by decide +kernel
theorem dX3_add_5 : decode cX3_add 5 = .ok (.iload_n 3, 1) := by decide +kernel
theorem dX3_add_6 : decode cX3_add 6 = .ok (.if_icmp .ge 35, 3) := by decide +kernel
theorem dX3_add_9 : decode cX3_add 9 = .ok (.iload_n 2, 1) := by decide +kernel
theorem dX3_add_10 : decode cX3_add 10 = .ok (.iload 4, 2) := by decide +kernel
theorem dX3_add_12 : decode cX3_add 12 = .ok (.iadd, 1) := by decide +kernel
theorem dX3_add_13 : decode cX3_add 13 = .ok (.istore 5, 2) := by decide +kernel
theorem dX3_add_15 : decode cX3_add 15 = .ok (.iload 5, 2) := by decide +kernel
theorem dX3_add_17 : decode cX3_add 17 = .ok (.ifCond .lt 18, 3) := by decide +kernel
theorem dX3_add_20 : decode cX3_add 20 = .ok (.iload 5, 2) := by decide +kernel
theorem dX3_add_22 : decode cX3_add 22 = .ok (.aload_n 1, 1) := by decide +kernel
theorem dX3_add_23 : decode cX3_add 23 = .ok (.arraylength, 1) := by decide +kernel
theorem dX3_add_24 : decode cX3_add 24 = .ok (.if_icmp .ge 11, 3) := by decide +kernel
theorem dX3_add_27 : decode cX3_add 27 = .ok (.aload_n 0, 1) := by decide +kernel
theorem dX3_add_28 : decode cX3_add 28 = .ok (.aload_n 1, 1) := by decide +kernel
theorem dX3_add_29 : decode cX3_add 29 = .ok (.iload 5, 2) := by decide +kernel
theorem dX3_add_31 : decode cX3_add 31 = .ok (.baload, 1) := by decide +kernel
theorem dX3_add_32 : decode cX3_add 32 = .ok (.invokevirtual 26, 3) := by decide +kernel
theorem dX3_add_35 : decode cX3_add 35 = .ok (.iinc 4 1, 3) := by decide +kernel
theorem dX3_add_38 : decode cX3_add 38 = .ok (.goto (-35), 3) := by decide +kernel
theorem dX3_add_41 : decode cX3_add 41 = .ok (.return_, 1) := by decide +kernel
theorem dX3_addZeros_0 : decode cX3_addZeros 0 = .ok (.iconst 0, 1) := by decide +kernel
theorem dX3_addZeros_1 : decode cX3_addZeros 1 = .ok (.istore_n 2, 1) := by decide +kernel
theorem dX3_addZeros_2 : decode cX3_addZeros 2 = .ok (.iload_n 2, 1) := by decide +kernel
theorem dX3_addZeros_3 : decode cX3_addZeros 3 = .ok (.iload_n 1, 1) := by decide +kernel
theorem dX3_addZeros_4 : decode cX3_addZeros 4 = .ok (.if_icmp .ge 14, 3) := by decide +kernel
theorem dX3_addZeros_7 : decode cX3_addZeros 7 = .ok (.aload_n 0, 1) := by decide +kernel
theorem dX3_addZeros_8 : decode cX3_addZeros 8 = .ok (.iconst 0, 1) := by decide +kernel
theorem dX3_addZeros_9 : decode cX3_addZeros 9 = .ok (.invokevirtual 26, 3) := by decide +kernel
theorem dX3_addZeros_12 : decode cX3_addZeros 12 = .ok (.iinc 2 1, 3) := by decide +kernel
theorem dX3_addZeros_15 : decode cX3_addZeros 15 = .ok (.goto (-13), 3) := by decide +kernel
theorem dX3_addZeros_18 : decode cX3_addZeros 18 = .ok (.return_, 1) := by decide +kernel
theorem dX3_finish_0 : decode cX3_finish 0 = .ok (.ldc2_w 30, 3) := by decide +kernel
theorem dX3_finish_3 : decode cX3_finish 3 = .ok (.aload_n 0, 1) := by decide +kernel
theorem dX3_finish_4 : decode cX3_finish 4 = .ok (.getfield 22, 3) := by decide +kernel
theorem dX3_finish_7 : decode cX3_finish 7 = .ok (.i2l, 1) := by decide +kernel
theorem dX3_finish_8 : decode cX3_finish 8 = .ok (.lmul, 1) := by decide +kernel
theorem dX3_finish_9 : decode cX3_finish 9 = .ok (.lstore_n 1, 1) := by decide +kernel
theorem dX3_finish_10 : decode cX3_finish 10 = .ok (.aload_n 0, 1) := by decide +kernel
theorem dX3_finish_11 : decode cX3_finish 11 = .ok (.sipush 128, 3) := by decide +kernel
theorem dX3_finish_14 : decode cX3_finish 14 = .ok (.invokevirtual 26, 3) := by decide +kernel
theorem dX3_finish_17 : decode cX3_finish 17 = .ok (.iconst 0, 1) := by decide +kernel
theorem dX3_finish_18 : decode cX3_finish 18 = .ok (.istore_n 3, 1) := by decide +kernel
theorem dX3_finish_19 : decode cX3_finish 19 = .ok (.iload_n 3, 1) := by decide +kernel
theorem dX3_finish_20 : decode cX3_finish 20 = .ok (.bipush 64, 2) := by decide +kernel
theorem dX3_finish_22 : decode cX3_finish 22 = .ok (.if_icmp .ge 26, 3) := by decide +kernel
theorem dX3_finish_25 : decode cX3_finish 25 = .ok (.aload_n 0, 1) := by decide +kernel
theorem dX3_finish_26 : decode cX3_finish 26 = .ok (.getfield 22, 3) := by decide +kernel
theorem dX3_finish_29 : decode cX3_finish 29 = .ok (.bipush 64, 2) := by decide +kernel
theorem dX3_finish_31 : decode cX3_finish 31 = .ok (.irem, 1) := by decide +kernel
theorem dX3_finish_32 : decode cX3_finish 32 = .ok (.bipush 56, 2) := by decide +kernel
theorem dX3_finish_34 : decode cX3_finish 34 = .ok (.if_icmp .eq 14, 3) := by decide +kernel
theorem dX3_finish_37 : decode cX3_finish 37 = .ok (.aload_n 0, 1) := by decide +kernel
theorem dX3_finish_38 : decode cX3_finish 38 = .ok (.iconst 0, 1) := by decide +kernel
theorem dX3_finish_39 : decode cX3_finish 39 = .ok (.invokevirtual 26, 3) := by decide +kernel
theorem dX3_finish_42 : decode cX3_finish 42 = .ok (.iinc 3 1, 3) := by decide +kernel
theorem dX3_finish_45 : decode cX3_finish 45 = .ok (.goto (-26), 3) := by decide +kernel
theorem dX3_finish_48 : decode cX3_finish 48 = .ok (.bipush 7, 2) := by decide +kernel
theorem dX3_finish_50 : decode cX3_finish 50 = .ok (.istore_n 3, 1) := by decide +kernel
theorem dX3_finish_51 : decode cX3_finish 51 = .ok (.iload_n 3, 1) := by decide +kernel
theorem dX3_finish_52 : decode cX3_finish 52 = .ok (.ifCond .lt 20, 3) := by decide +kernel
theorem dX3_finish_55 : decode cX3_finish 55 = .ok (.aload_n 0, 1) := by decide +kernel
theorem dX3_finish_56 : decode cX3_finish 56 = .ok (.lload_n 1, 1) := by decide +kernel
theorem dX3_finish_57 : decode cX3_finish 57 = .ok (.bipush 8, 2) := by decide +kernel
theorem dX3_finish_59 : decode cX3_finish 59 = .ok (.iload_n 3, 1) := by decide +kernel
theorem dX3_finish_60 : decode cX3_finish 60 = .ok (.imul, 1) := by decide +kernel
theorem dX3_finish_61 : decode cX3_finish 61 = .ok (.lushr, 1) := by decide +kernel
theorem dX3_finish_62 : decode cX3_finish 62 = .ok (.l2i, 1) := by decide +kernel
theorem dX3_finish_63 : decode cX3_finish 63 = .ok (.invokevirtual 26, 3) := by decide +kernel
theorem dX3_finish_66 : decode cX3_finish 66 = .ok (.iinc 3 (-1), 3) := by decide +kernel
theorem dX3_finish_69 : decode cX3_finish 69 = .ok (.goto (-18), 3) := by decide +kernel
theorem dX3_finish_72 : decode cX3_finish 72 = .ok (.getstatic 32, 3) := by decide +kernel
theorem dX3_finish_75 : decode cX3_finish 75 = .ok (.iconst 0, 1) := by decide +kernel
theorem dX3_finish_76 : decode cX3_finish 76 = .ok (.aload_n 0, 1) := by decide +kernel
theorem dX3_finish_77 : decode cX3_finish 77 = .ok (.getfield 19, 3) := by decide +kernel
theorem dX3_finish_80 : decode cX3_finish 80 = .ok (.iconst 0, 1) := by decide +kernel
theorem dX3_finish_81 : decode cX3_finish 81 = .ok (.bipush 8, 2) := by decide +kernel
theorem dX3_finish_83 : decode cX3_finish 83 = .ok (.invokestatic 35, 3) := by decide +kernel
theorem dX3_finish_86 : decode cX3_finish 86 = .ok (.iconst 0, 1) := by decide +kernel
theorem dX3_finish_87 : decode cX3_finish 87 = .ok (.istore_n 3, 1) := by decide +kernel
theorem dX3_finish_88 : decode cX3_finish 88 = .ok (.iload_n 3, 1) := by decide +kernel
theorem dX3_finish_89 : decode cX3_finish 89 = .ok (.bipush 64, 2) := by decide +kernel
theorem dX3_finish_91 : decode cX3_finish 91 = .ok (.iadd, 1) := by decide +kernel
theorem dX3_finish_92 : decode cX3_finish 92 = .ok (.aload_n 0, 1) := by decide +kernel
theorem dX3_finish_93 : decode cX3_finish 93 = .ok (.getfield 22, 3) := by decide +kernel
theorem dX3_finish_96 : decode cX3_finish 96 = .ok (.if_icmp .gt 18, 3) := by decide +kernel
theorem dX3_finish_99 : decode cX3_finish 99 = .ok (.aload_n 0, 1) := by decide +kernel
theorem dX3_finish_100 : decode cX3_finish 100 = .ok (.iload_n 3, 1) := by decide +kernel
theorem dX3_finish_101 : decode cX3_finish 101 = .ok (.invokevirtual 41, 3) := by decide +kernel
theorem dX3_finish_104 : decode cX3_finish 104 = .ok (.aload_n 0, 1) := by decide +kernel
theorem dX3_finish_105 : decode cX3_finish 105 = .ok (.invokevirtual 44, 3) := by decide +kernel
theorem dX3_finish_108 : decode cX3_finish 108 = .ok (.iinc 3 64, 3) := by decide +kernel
theorem dX3_finish_111 : decode cX3_finish 111 = .ok (.goto (-23), 3) := by decide +kernel
theorem dX3_finish_114 : decode cX3_finish 114 = .ok (.return_, 1) := by decide +kernel
theorem dX3_copyTo_0 : decode cX3_copyTo 0 = .ok (.iconst 0, 1) := by decide +kernel
theorem dX3_copyTo_1 : decode cX3_copyTo 1 = .ok (.istore_n 3, 1) := by decide +kernel
theorem dX3_copyTo_2 : decode cX3_copyTo 2 = .ok (.iload_n 3, 1) := by decide +kernel
theorem dX3_copyTo_3 : decode cX3_copyTo 3 = .ok (.bipush 32, 2) := by decide +kernel
theorem dX3_copyTo_5 : decode cX3_copyTo 5 = .ok (.if_icmp .ge 35, 3) := by decide +kernel
theorem dX3_copyTo_8 : decode cX3_copyTo 8 = .ok (.iload_n 2, 1) := by decide +kernel
theorem dX3_copyTo_9 : decode cX3_copyTo 9 = .ok (.iload_n 3, 1) := by decide +kernel
theorem dX3_copyTo_10 : decode cX3_copyTo 10 = .ok (.iadd, 1) := by decide +kernel
theorem dX3_copyTo_11 : decode cX3_copyTo 11 = .ok (.istore 4, 2) := by decide +kernel
theorem dX3_copyTo_13 : decode cX3_copyTo 13 = .ok (.iload 4, 2) := by decide +kernel
theorem dX3_copyTo_15 : decode cX3_copyTo 15 = .ok (.ifCond .lt 19, 3) := by decide +kernel
theorem dX3_copyTo_18 : decode cX3_copyTo 18 = .ok (.iload 4, 2) := by decide +kernel
theorem dX3_copyTo_20 : decode cX3_copyTo 20 = .ok (.aload_n 1, 1) := by decide +kernel
theorem dX3_copyTo_21 : decode cX3_copyTo 21 = .ok (.arraylength, 1) := by decide +kernel
theorem dX3_copyTo_22 : decode cX3_copyTo 22 = .ok (.if_icmp .ge 12, 3) := by decide +kernel
theorem dX3_copyTo_25 : decode cX3_copyTo 25 = .ok (.aload_n 1, 1) := by decide +kernel
theorem dX3_copyTo_26 : decode cX3_copyTo 26 = .ok (.iload 4, 2) := by decide +kernel
theorem dX3_copyTo_28 : decode cX3_copyTo 28 = .ok (.aload_n 0, 1) := by decide +kernel
theorem dX3_copyTo_29 : decode cX3_copyTo 29 = .ok (.iload_n 3, 1) := by decide +kernel
theorem dX3_copyTo_30 : decode cX3_copyTo 30 = .ok (.invokevirtual 47, 3) := by decide +kernel
theorem dX3_copyTo_33 : decode cX3_copyTo 33 = .ok (.bastore, 1) := by decide +kernel
theorem dX3_copyTo_34 : decode cX3_copyTo 34 = .ok (.iinc 3 1, 3) := by decide +kernel
theorem dX3_copyTo_37 : decode cX3_copyTo 37 = .ok (.goto (-35), 3) := by decide +kernel
theorem dX3_copyTo_40 : decode cX3_copyTo 40 = .ok (.return_, 1) := by decide +kernel
theorem dX3_isAt_0 : decode cX3_isAt 0 = .ok (.iconst 0, 1) := by decide +kernel
theorem dX3_isAt_1 : decode cX3_isAt 1 = .ok (.istore_n 3, 1) := by decide +kernel
theorem dX3_isAt_2 : decode cX3_isAt 2 = .ok (.iload_n 3, 1) := by decide +kernel
theorem dX3_isAt_3 : decode cX3_isAt 3 = .ok (.bipush 32, 2) := by decide +kernel
theorem dX3_isAt_5 : decode cX3_isAt 5 = .ok (.if_icmp .ge 40, 3) := by decide +kernel
theorem dX3_isAt_8 : decode cX3_isAt 8 = .ok (.iload_n 2, 1) := by decide +kernel
theorem dX3_isAt_9 : decode cX3_isAt 9 = .ok (.iload_n 3, 1) := by decide +kernel
theorem dX3_isAt_10 : decode cX3_isAt 10 = .ok (.iadd, 1) := by decide +kernel
theorem dX3_isAt_11 : decode cX3_isAt 11 = .ok (.istore 4, 2) := by decide +kernel
theorem dX3_isAt_13 : decode cX3_isAt 13 = .ok (.iload 4, 2) := by decide +kernel
theorem dX3_isAt_15 : decode cX3_isAt 15 = .ok (.ifCond .lt 22, 3) := by decide +kernel
theorem dX3_isAt_18 : decode cX3_isAt 18 = .ok (.iload 4, 2) := by decide +kernel
theorem dX3_isAt_20 : decode cX3_isAt 20 = .ok (.aload_n 1, 1) := by decide +kernel
theorem dX3_isAt_21 : decode cX3_isAt 21 = .ok (.arraylength, 1) := by decide +kernel
theorem dX3_isAt_22 : decode cX3_isAt 22 = .ok (.if_icmp .ge 15, 3) := by decide +kernel
theorem dX3_isAt_25 : decode cX3_isAt 25 = .ok (.aload_n 1, 1) := by decide +kernel
theorem dX3_isAt_26 : decode cX3_isAt 26 = .ok (.iload 4, 2) := by decide +kernel
theorem dX3_isAt_28 : decode cX3_isAt 28 = .ok (.baload, 1) := by decide +kernel
theorem dX3_isAt_29 : decode cX3_isAt 29 = .ok (.aload_n 0, 1) := by decide +kernel
theorem dX3_isAt_30 : decode cX3_isAt 30 = .ok (.iload_n 3, 1) := by decide +kernel
theorem dX3_isAt_31 : decode cX3_isAt 31 = .ok (.invokevirtual 47, 3) := by decide +kernel
theorem dX3_isAt_34 : decode cX3_isAt 34 = .ok (.if_icmp .eq 5, 3) := by decide +kernel
theorem dX3_isAt_37 : decode cX3_isAt 37 = .ok (.iconst 0, 1) := by decide +kernel
theorem dX3_isAt_38 : decode cX3_isAt 38 = .ok (.ireturn, 1) := by decide +kernel
theorem dX3_isAt_39 : decode cX3_isAt 39 = .ok (.iinc 3 1, 3) := by decide +kernel
theorem dX3_isAt_42 : decode cX3_isAt 42 = .ok (.goto (-40), 3) := by decide +kernel
theorem dX3_isAt_45 : decode cX3_isAt 45 = .ok (.iconst 1, 1) := by decide +kernel
theorem dX3_isAt_46 : decode cX3_isAt 46 = .ok (.ireturn, 1) := by decide +kernel
theorem dX3_sumByte_0 : decode cX3_sumByte 0 = .ok (.aload_n 0, 1) := by decide +kernel
theorem dX3_sumByte_1 : decode cX3_sumByte 1 = .ok (.getfield 19, 3) := by decide +kernel
theorem dX3_sumByte_4 : decode cX3_sumByte 4 = .ok (.iload_n 1, 1) := by decide +kernel
theorem dX3_sumByte_5 : decode cX3_sumByte 5 = .ok (.iconst 4, 1) := by decide +kernel
theorem dX3_sumByte_6 : decode cX3_sumByte 6 = .ok (.idiv, 1) := by decide +kernel
theorem dX3_sumByte_7 : decode cX3_sumByte 7 = .ok (.iaload, 1) := by decide +kernel
theorem dX3_sumByte_8 : decode cX3_sumByte 8 = .ok (.bipush 24, 2) := by decide +kernel
theorem dX3_sumByte_10 : decode cX3_sumByte 10 = .ok (.bipush 8, 2) := by decide +kernel
theorem dX3_sumByte_12 : decode cX3_sumByte 12 = .ok (.iload_n 1, 1) := by decide +kernel
theorem dX3_sumByte_13 : decode cX3_sumByte 13 = .ok (.iconst 4, 1) := by decide +kernel
theorem dX3_sumByte_14 : decode cX3_sumByte 14 = .ok (.irem, 1) := by decide +kernel
theorem dX3_sumByte_15 : decode cX3_sumByte 15 = .ok (.imul, 1) := by decide +kernel
theorem dX3_sumByte_16 : decode cX3_sumByte 16 = .ok (.isub, 1) := by decide +kernel
theorem dX3_sumByte_17 : decode cX3_sumByte 17 = .ok (.iushr, 1) := by decide +kernel
theorem dX3_sumByte_18 : decode cX3_sumByte 18 = .ok (.i2b, 1) := by decide +kernel
theorem dX3_sumByte_19 : decode cX3_sumByte 19 = .ok (.ireturn, 1) := by decide +kernel
theorem dX3_addByte_0 : decode cX3_addByte 0 = .ok (.aload_n 0, 1) := by decide +kernel
theorem dX3_addByte_1 : decode cX3_addByte 1 = .ok (.getfield 22, 3) := by decide +kernel
theorem dX3_addByte_4 : decode cX3_addByte 4 = .ok (.aload_n 0, 1) := by decide +kernel
theorem dX3_addByte_5 : decode cX3_addByte 5 = .ok (.getfield 11, 3) := by decide +kernel
theorem dX3_addByte_8 : decode cX3_addByte 8 = .ok (.arraylength, 1) := by decide +kernel
theorem dX3_addByte_9 : decode cX3_addByte 9 = .ok (.if_icmp .ge 24, 3) := by decide +kernel
theorem dX3_addByte_12 : decode cX3_addByte 12 = .ok (.aload_n 0, 1) := by decide +kernel
theorem dX3_addByte_13 : decode cX3_addByte 13 = .ok (.getfield 11, 3) := by decide +kernel
theorem dX3_addByte_16 : decode cX3_addByte 16 = .ok (.aload_n 0, 1) := by decide +kernel
theorem dX3_addByte_17 : decode cX3_addByte 17 = .ok (.getfield 22, 3) := by decide +kernel
theorem dX3_addByte_20 : decode cX3_addByte 20 = .ok (.iload_n 1, 1) := by decide +kernel
theorem dX3_addByte_21 : decode cX3_addByte 21 = .ok (.i2b, 1) := by decide +kernel
theorem dX3_addByte_22 : decode cX3_addByte 22 = .ok (.bastore, 1) := by decide +kernel
theorem dX3_addByte_23 : decode cX3_addByte 23 = .ok (.aload_n 0, 1) := by decide +kernel
theorem dX3_addByte_24 : decode cX3_addByte 24 = .ok (.dup, 1) := by decide +kernel
theorem dX3_addByte_25 : decode cX3_addByte 25 = .ok (.getfield 22, 3) := by decide +kernel
theorem dX3_addByte_28 : decode cX3_addByte 28 = .ok (.iconst 1, 1) := by decide +kernel
theorem dX3_addByte_29 : decode cX3_addByte 29 = .ok (.iadd, 1) := by decide +kernel
theorem dX3_addByte_30 : decode cX3_addByte 30 = .ok (.putfield 22, 3) := by decide +kernel
theorem dX3_addByte_33 : decode cX3_addByte 33 = .ok (.return_, 1) := by decide +kernel
theorem dX3_readWords_0 : decode cX3_readWords 0 = .ok (.iconst 0, 1) := by decide +kernel
theorem dX3_readWords_1 : decode cX3_readWords 1 = .ok (.istore_n 2, 1) := by decide +kernel
theorem dX3_readWords_2 : decode cX3_readWords 2 = .ok (.iload_n 2, 1) := by decide +kernel
theorem dX3_readWords_3 : decode cX3_readWords 3 = .ok (.bipush 16, 2) := by decide +kernel
theorem dX3_readWords_5 : decode cX3_readWords 5 = .ok (.if_icmp .ge 56, 3) := by decide +kernel
theorem dX3_readWords_8 : decode cX3_readWords 8 = .ok (.iconst 0, 1) := by decide +kernel
theorem dX3_readWords_9 : decode cX3_readWords 9 = .ok (.istore_n 3, 1) := by decide +kernel
theorem dX3_readWords_10 : decode cX3_readWords 10 = .ok (.iconst 0, 1) := by decide +kernel
theorem dX3_readWords_11 : decode cX3_readWords 11 = .ok (.istore 4, 2) := by decide +kernel
theorem dX3_readWords_13 : decode cX3_readWords 13 = .ok (.iload 4, 2) := by decide +kernel
theorem dX3_readWords_15 : decode cX3_readWords 15 = .ok (.iconst 4, 1) := by decide +kernel
theorem dX3_readWords_16 : decode cX3_readWords 16 = .ok (.if_icmp .ge 32, 3) := by decide +kernel
theorem dX3_readWords_19 : decode cX3_readWords 19 = .ok (.iload_n 3, 1) := by decide +kernel
theorem dX3_readWords_20 : decode cX3_readWords 20 = .ok (.bipush 8, 2) := by decide +kernel
theorem dX3_readWords_22 : decode cX3_readWords 22 = .ok (.ishl, 1) := by decide +kernel
theorem dX3_readWords_23 : decode cX3_readWords 23 = .ok (.aload_n 0, 1) := by decide +kernel
theorem dX3_readWords_24 : decode cX3_readWords 24 = .ok (.getfield 11, 3) := by decide +kernel
theorem dX3_readWords_27 : decode cX3_readWords 27 = .ok (.iload_n 1, 1) := by decide +kernel
theorem dX3_readWords_28 : decode cX3_readWords 28 = .ok (.iconst 4, 1) := by decide +kernel
theorem dX3_readWords_29 : decode cX3_readWords 29 = .ok (.iload_n 2, 1) := by decide +kernel
theorem dX3_readWords_30 : decode cX3_readWords 30 = .ok (.imul, 1) := by decide +kernel
theorem dX3_readWords_31 : decode cX3_readWords 31 = .ok (.iadd, 1) := by decide +kernel
theorem dX3_readWords_32 : decode cX3_readWords 32 = .ok (.iload 4, 2) := by decide +kernel
theorem dX3_readWords_34 : decode cX3_readWords 34 = .ok (.iadd, 1) := by decide +kernel
theorem dX3_readWords_35 : decode cX3_readWords 35 = .ok (.baload, 1) := by decide +kernel
theorem dX3_readWords_36 : decode cX3_readWords 36 = .ok (.sipush 255, 3) := by decide +kernel
theorem dX3_readWords_39 : decode cX3_readWords 39 = .ok (.iand, 1) := by decide +kernel
theorem dX3_readWords_40 : decode cX3_readWords 40 = .ok (.ior, 1) := by decide +kernel
theorem dX3_readWords_41 : decode cX3_readWords 41 = .ok (.istore_n 3, 1) := by decide +kernel
theorem dX3_readWords_42 : decode cX3_readWords 42 = .ok (.iinc 4 1, 3) := by decide +kernel
theorem dX3_readWords_45 : decode cX3_readWords 45 = .ok (.goto (-32), 3) := by decide +kernel
theorem dX3_readWords_48 : decode cX3_readWords 48 = .ok (.aload_n 0, 1) := by decide +kernel
theorem dX3_readWords_49 : decode cX3_readWords 49 = .ok (.getfield 15, 3) := by decide +kernel
theorem dX3_readWords_52 : decode cX3_readWords 52 = .ok (.iload_n 2, 1) := by decide +kernel
theorem dX3_readWords_53 : decode cX3_readWords 53 = .ok (.iload_n 3, 1) := by decide +kernel
theorem dX3_readWords_54 : decode cX3_readWords 54 = .ok (.iastore, 1) := by decide +kernel
theorem dX3_readWords_55 : decode cX3_readWords 55 = .ok (.iinc 2 1, 3) := by decide +kernel
theorem dX3_readWords_58 : decode cX3_readWords 58 = .ok (.goto (-56), 3) := by decide +kernel
theorem dX3_readWords_61 : decode cX3_readWords 61 = .ok (.bipush 16, 2) := by decide +kernel
theorem dX3_readWords_63 : decode cX3_readWords 63 = .ok (.istore_n 2, 1) := by decide +kernel
theorem dX3_readWords_64 : decode cX3_readWords 64 = .ok (.iload_n 2, 1) := by decide +kernel
theorem dX3_readWords_65 : decode cX3_readWords 65 = .ok (.bipush 64, 2) := by decide +kernel
theorem dX3_readWords_67 : decode cX3_readWords 67 = .ok (.if_icmp .ge 59, 3) := by decide +kernel
theorem dX3_readWords_70 : decode cX3_readWords 70 = .ok (.aload_n 0, 1) := by decide +kernel
theorem dX3_readWords_71 : decode cX3_readWords 71 = .ok (.getfield 15, 3) := by decide +kernel
theorem dX3_readWords_74 : decode cX3_readWords 74 = .ok (.iload_n 2, 1) := by decide +kernel
theorem dX3_readWords_75 : decode cX3_readWords 75 = .ok (.aload_n 0, 1) := by decide +kernel
theorem dX3_readWords_76 : decode cX3_readWords 76 = .ok (.getfield 15, 3) := by decide +kernel
theorem dX3_readWords_79 : decode cX3_readWords 79 = .ok (.iload_n 2, 1) := by decide +kernel
theorem dX3_readWords_80 : decode cX3_readWords 80 = .ok (.iconst 2, 1) := by decide +kernel
theorem dX3_readWords_81 : decode cX3_readWords 81 = .ok (.isub, 1) := by decide +kernel
theorem dX3_readWords_82 : decode cX3_readWords 82 = .ok (.iaload, 1) := by decide +kernel
theorem dX3_readWords_83 : decode cX3_readWords 83 = .ok (.invokestatic 51, 3) := by decide +kernel
theorem dX3_readWords_86 : decode cX3_readWords 86 = .ok (.aload_n 0, 1) := by decide +kernel
theorem dX3_readWords_87 : decode cX3_readWords 87 = .ok (.getfield 15, 3) := by decide +kernel
theorem dX3_readWords_90 : decode cX3_readWords 90 = .ok (.iload_n 2, 1) := by decide +kernel
theorem dX3_readWords_91 : decode cX3_readWords 91 = .ok (.bipush 7, 2) := by decide +kernel
theorem dX3_readWords_93 : decode cX3_readWords 93 = .ok (.isub, 1) := by decide +kernel
theorem dX3_readWords_94 : decode cX3_readWords 94 = .ok (.iaload, 1) := by decide +kernel
theorem dX3_readWords_95 : decode cX3_readWords 95 = .ok (.iadd, 1) := by decide +kernel
theorem dX3_readWords_96 : decode cX3_readWords 96 = .ok (.aload_n 0, 1) := by decide +kernel
theorem dX3_readWords_97 : decode cX3_readWords 97 = .ok (.getfield 15, 3) := by decide +kernel
theorem dX3_readWords_100 : decode cX3_readWords 100 = .ok (.iload_n 2, 1) := by decide +kernel
theorem dX3_readWords_101 : decode cX3_readWords 101 = .ok (.bipush 15, 2) := by decide +kernel
theorem dX3_readWords_103 : decode cX3_readWords 103 = .ok (.isub, 1) := by decide +kernel
theorem dX3_readWords_104 : decode cX3_readWords 104 = .ok (.iaload, 1) := by decide +kernel
theorem dX3_readWords_105 : decode cX3_readWords 105 = .ok (.invokestatic 55, 3) := by decide +kernel
theorem dX3_readWords_108 : decode cX3_readWords 108 = .ok (.iadd, 1) := by decide +kernel
theorem dX3_readWords_109 : decode cX3_readWords 109 = .ok (.aload_n 0, 1) := by decide +kernel
theorem dX3_readWords_110 : decode cX3_readWords 110 = .ok (.getfield 15, 3) := by decide +kernel
theorem dX3_readWords_113 : decode cX3_readWords 113 = .ok (.iload_n 2, 1) := by decide +kernel
theorem dX3_readWords_114 : decode cX3_readWords 114 = .ok (.bipush 16, 2) := by decide +kernel
theorem dX3_readWords_116 : decode cX3_readWords 116 = .ok (.isub, 1) := by decide +kernel
theorem dX3_readWords_117 : decode cX3_readWords 117 = .ok (.iaload, 1) := by decide +kernel
theorem dX3_readWords_118 : decode cX3_readWords 118 = .ok (.iadd, 1) := by decide +kernel
theorem dX3_readWords_119 : decode cX3_readWords 119 = .ok (.iastore, 1) := by decide +kernel
theorem dX3_readWords_120 : decode cX3_readWords 120 = .ok (.iinc 2 1, 3) := by decide +kernel
theorem dX3_readWords_123 : decode cX3_readWords 123 = .ok (.goto (-59), 3) := by decide +kernel
theorem dX3_readWords_126 : decode cX3_readWords 126 = .ok (.return_, 1) := by decide +kernel
theorem dX3_mixWords_0 : decode cX3_mixWords 0 = .ok (.aload_n 0, 1) := by decide +kernel
theorem dX3_mixWords_1 : decode cX3_mixWords 1 = .ok (.getfield 19, 3) := by decide +kernel
theorem dX3_mixWords_4 : decode cX3_mixWords 4 = .ok (.iconst 0, 1) := by decide +kernel
theorem dX3_mixWords_5 : decode cX3_mixWords 5 = .ok (.iaload, 1) := by decide +kernel
theorem dX3_mixWords_6 : decode cX3_mixWords 6 = .ok (.istore_n 1, 1) := by decide +kernel
theorem dX3_mixWords_7 : decode cX3_mixWords 7 = .ok (.aload_n 0, 1) := by decide +kernel
theorem dX3_mixWords_8 : decode cX3_mixWords 8 = .ok (.getfield 19, 3) := by decide +kernel
theorem dX3_mixWords_11 : decode cX3_mixWords 11 = .ok (.iconst 1, 1) := by decide +kernel
theorem dX3_mixWords_12 : decode cX3_mixWords 12 = .ok (.iaload, 1) := by decide +kernel
theorem dX3_mixWords_13 : decode cX3_mixWords 13 = .ok (.istore_n 2, 1) := by decide +kernel
theorem dX3_mixWords_14 : decode cX3_mixWords 14 = .ok (.aload_n 0, 1) := by decide +kernel
theorem dX3_mixWords_15 : decode cX3_mixWords 15 = .ok (.getfield 19, 3) := by decide +kernel
theorem dX3_mixWords_18 : decode cX3_mixWords 18 = .ok (.iconst 2, 1) := by decide +kernel
theorem dX3_mixWords_19 : decode cX3_mixWords 19 = .ok (.iaload, 1) := by decide +kernel
theorem dX3_mixWords_20 : decode cX3_mixWords 20 = .ok (.istore_n 3, 1) := by decide +kernel
theorem dX3_mixWords_21 : decode cX3_mixWords 21 = .ok (.aload_n 0, 1) := by decide +kernel
theorem dX3_mixWords_22 : decode cX3_mixWords 22 = .ok (.getfield 19, 3) := by decide +kernel
theorem dX3_mixWords_25 : decode cX3_mixWords 25 = .ok (.iconst 3, 1) := by decide +kernel
theorem dX3_mixWords_26 : decode cX3_mixWords 26 = .ok (.iaload, 1) := by decide +kernel
theorem dX3_mixWords_27 : decode cX3_mixWords 27 = .ok (.istore 4, 2) := by decide +kernel
theorem dX3_mixWords_29 : decode cX3_mixWords 29 = .ok (.aload_n 0, 1) := by decide +kernel
theorem dX3_mixWords_30 : decode cX3_mixWords 30 = .ok (.getfield 19, 3) := by decide +kernel
theorem dX3_mixWords_33 : decode cX3_mixWords 33 = .ok (.iconst 4, 1) := by decide +kernel
theorem dX3_mixWords_34 : decode cX3_mixWords 34 = .ok (.iaload, 1) := by decide +kernel
theorem dX3_mixWords_35 : decode cX3_mixWords 35 = .ok (.istore 5, 2) := by decide +kernel
theorem dX3_mixWords_37 : decode cX3_mixWords 37 = .ok (.aload_n 0, 1) := by decide +kernel
theorem dX3_mixWords_38 : decode cX3_mixWords 38 = .ok (.getfield 19, 3) := by decide +kernel
theorem dX3_mixWords_41 : decode cX3_mixWords 41 = .ok (.iconst 5, 1) := by decide +kernel
theorem dX3_mixWords_42 : decode cX3_mixWords 42 = .ok (.iaload, 1) := by decide +kernel
theorem dX3_mixWords_43 : decode cX3_mixWords 43 = .ok (.istore 6, 2) := by decide +kernel
theorem dX3_mixWords_45 : decode cX3_mixWords 45 = .ok (.aload_n 0, 1) := by decide +kernel
theorem dX3_mixWords_46 : decode cX3_mixWords 46 = .ok (.getfield 19, 3) := by decide +kernel
theorem dX3_mixWords_49 : decode cX3_mixWords 49 = .ok (.bipush 6, 2) := by decide +kernel
theorem dX3_mixWords_51 : decode cX3_mixWords 51 = .ok (.iaload, 1) := by decide +kernel
theorem dX3_mixWords_52 : decode cX3_mixWords 52 = .ok (.istore 7, 2) := by decide +kernel
theorem dX3_mixWords_54 : decode cX3_mixWords 54 = .ok (.aload_n 0, 1) := by decide +kernel
theorem dX3_mixWords_55 : decode cX3_mixWords 55 = .ok (.getfield 19, 3) := by decide +kernel
theorem dX3_mixWords_58 : decode cX3_mixWords 58 = .ok (.bipush 7, 2) := by decide +kernel
theorem dX3_mixWords_60 : decode cX3_mixWords 60 = .ok (.iaload, 1) := by decide +kernel
theorem dX3_mixWords_61 : decode cX3_mixWords 61 = .ok (.istore 8, 2) := by decide +kernel
theorem dX3_mixWords_63 : decode cX3_mixWords 63 = .ok (.iconst 0, 1) := by decide +kernel
theorem dX3_mixWords_64 : decode cX3_mixWords 64 = .ok (.istore 9, 2) := by decide +kernel
theorem dX3_mixWords_66 : decode cX3_mixWords 66 = .ok (.iload 9, 2) := by decide +kernel
theorem dX3_mixWords_68 : decode cX3_mixWords 68 = .ok (.bipush 64, 2) := by decide +kernel
theorem dX3_mixWords_70 : decode cX3_mixWords 70 = .ok (.if_icmp .ge 131, 3) := by decide +kernel
theorem dX3_mixWords_73 : decode cX3_mixWords 73 = .ok (.iload 8, 2) := by decide +kernel
theorem dX3_mixWords_75 : decode cX3_mixWords 75 = .ok (.iload 5, 2) := by decide +kernel
theorem dX3_mixWords_77 : decode cX3_mixWords 77 = .ok (.bipush 6, 2) := by decide +kernel
theorem dX3_mixWords_79 : decode cX3_mixWords 79 = .ok (.invokestatic 58, 3) := by decide +kernel
theorem dX3_mixWords_82 : decode cX3_mixWords 82 = .ok (.iload 5, 2) := by decide +kernel
theorem dX3_mixWords_84 : decode cX3_mixWords 84 = .ok (.bipush 11, 2) := by decide +kernel
theorem dX3_mixWords_86 : decode cX3_mixWords 86 = .ok (.invokestatic 58, 3) := by decide +kernel
theorem dX3_mixWords_89 : decode cX3_mixWords 89 = .ok (.ixor, 1) := by decide +kernel
theorem dX3_mixWords_90 : decode cX3_mixWords 90 = .ok (.iload 5, 2) := by decide +kernel
theorem dX3_mixWords_92 : decode cX3_mixWords 92 = .ok (.bipush 25, 2) := by decide +kernel
theorem dX3_mixWords_94 : decode cX3_mixWords 94 = .ok (.invokestatic 58, 3) := by decide +kernel
theorem dX3_mixWords_97 : decode cX3_mixWords 97 = .ok (.ixor, 1) := by decide +kernel
theorem dX3_mixWords_98 : decode cX3_mixWords 98 = .ok (.iadd, 1) := by decide +kernel
theorem dX3_mixWords_99 : decode cX3_mixWords 99 = .ok (.iload 5, 2) := by decide +kernel
theorem dX3_mixWords_101 : decode cX3_mixWords 101 = .ok (.iload 6, 2) := by decide +kernel
theorem dX3_mixWords_103 : decode cX3_mixWords 103 = .ok (.iand, 1) := by decide +kernel
theorem dX3_mixWords_104 : decode cX3_mixWords 104 = .ok (.iload 5, 2) := by decide +kernel
theorem dX3_mixWords_106 : decode cX3_mixWords 106 = .ok (.iconst (-1), 1) := by decide +kernel
theorem dX3_mixWords_107 : decode cX3_mixWords 107 = .ok (.ixor, 1) := by decide +kernel
theorem dX3_mixWords_108 : decode cX3_mixWords 108 = .ok (.iload 7, 2) := by decide +kernel
theorem dX3_mixWords_110 : decode cX3_mixWords 110 = .ok (.iand, 1) := by decide +kernel
theorem dX3_mixWords_111 : decode cX3_mixWords 111 = .ok (.ixor, 1) := by decide +kernel
theorem dX3_mixWords_112 : decode cX3_mixWords 112 = .ok (.iadd, 1) := by decide +kernel
theorem dX3_mixWords_113 : decode cX3_mixWords 113 = .ok (.getstatic 62, 3) := by decide +kernel
theorem dX3_mixWords_116 : decode cX3_mixWords 116 = .ok (.iload 9, 2) := by decide +kernel
theorem dX3_mixWords_118 : decode cX3_mixWords 118 = .ok (.iaload, 1) := by decide +kernel
theorem dX3_mixWords_119 : decode cX3_mixWords 119 = .ok (.iadd, 1) := by decide +kernel
theorem dX3_mixWords_120 : decode cX3_mixWords 120 = .ok (.aload_n 0, 1) := by decide +kernel
theorem dX3_mixWords_121 : decode cX3_mixWords 121 = .ok (.getfield 15, 3) := by decide +kernel
theorem dX3_mixWords_124 : decode cX3_mixWords 124 = .ok (.iload 9, 2) := by decide +kernel
theorem dX3_mixWords_126 : decode cX3_mixWords 126 = .ok (.iaload, 1) := by decide +kernel
theorem dX3_mixWords_127 : decode cX3_mixWords 127 = .ok (.iadd, 1) := by decide +kernel
theorem dX3_mixWords_128 : decode cX3_mixWords 128 = .ok (.istore 10, 2) := by decide +kernel
theorem dX3_mixWords_130 : decode cX3_mixWords 130 = .ok (.iload_n 1, 1) := by decide +kernel
theorem dX3_mixWords_131 : decode cX3_mixWords 131 = .ok (.iconst 2, 1) := by decide +kernel
theorem dX3_mixWords_132 : decode cX3_mixWords 132 = .ok (.invokestatic 58, 3) := by decide +kernel
theorem dX3_mixWords_135 : decode cX3_mixWords 135 = .ok (.iload_n 1, 1) := by decide +kernel
theorem dX3_mixWords_136 : decode cX3_mixWords 136 = .ok (.bipush 13, 2) := by decide +kernel
theorem dX3_mixWords_138 : decode cX3_mixWords 138 = .ok (.invokestatic 58, 3) := by decide +kernel
theorem dX3_mixWords_141 : decode cX3_mixWords 141 = .ok (.ixor, 1) := by decide +kernel
theorem dX3_mixWords_142 : decode cX3_mixWords 142 = .ok (.iload_n 1, 1) := by decide +kernel
theorem dX3_mixWords_143 : decode cX3_mixWords 143 = .ok (.bipush 22, 2) := by decide +kernel
theorem dX3_mixWords_145 : decode cX3_mixWords 145 = .ok (.invokestatic 58, 3) := by decide +kernel
theorem dX3_mixWords_148 : decode cX3_mixWords 148 = .ok (.ixor, 1) := by decide +kernel
theorem dX3_mixWords_149 : decode cX3_mixWords 149 = .ok (.iload_n 1, 1) := by decide +kernel
theorem dX3_mixWords_150 : decode cX3_mixWords 150 = .ok (.iload_n 2, 1) := by decide +kernel
theorem dX3_mixWords_151 : decode cX3_mixWords 151 = .ok (.iand, 1) := by decide +kernel
theorem dX3_mixWords_152 : decode cX3_mixWords 152 = .ok (.iload_n 1, 1) := by decide +kernel
theorem dX3_mixWords_153 : decode cX3_mixWords 153 = .ok (.iload_n 3, 1) := by decide +kernel
theorem dX3_mixWords_154 : decode cX3_mixWords 154 = .ok (.iand, 1) := by decide +kernel
theorem dX3_mixWords_155 : decode cX3_mixWords 155 = .ok (.ixor, 1) := by decide +kernel
theorem dX3_mixWords_156 : decode cX3_mixWords 156 = .ok (.iload_n 2, 1) := by decide +kernel
theorem dX3_mixWords_157 : decode cX3_mixWords 157 = .ok (.iload_n 3, 1) := by decide +kernel
theorem dX3_mixWords_158 : decode cX3_mixWords 158 = .ok (.iand, 1) := by decide +kernel
theorem dX3_mixWords_159 : decode cX3_mixWords 159 = .ok (.ixor, 1) := by decide +kernel
theorem dX3_mixWords_160 : decode cX3_mixWords 160 = .ok (.iadd, 1) := by decide +kernel
theorem dX3_mixWords_161 : decode cX3_mixWords 161 = .ok (.istore 11, 2) := by decide +kernel
theorem dX3_mixWords_163 : decode cX3_mixWords 163 = .ok (.iload 7, 2) := by decide +kernel
theorem dX3_mixWords_165 : decode cX3_mixWords 165 = .ok (.istore 8, 2) := by decide +kernel
theorem dX3_mixWords_167 : decode cX3_mixWords 167 = .ok (.iload 6, 2) := by decide +kernel
theorem dX3_mixWords_169 : decode cX3_mixWords 169 = .ok (.istore 7, 2) := by decide +kernel
theorem dX3_mixWords_171 : decode cX3_mixWords 171 = .ok (.iload 5, 2) := by decide +kernel
theorem dX3_mixWords_173 : decode cX3_mixWords 173 = .ok (.istore 6, 2) := by decide +kernel
theorem dX3_mixWords_175 : decode cX3_mixWords 175 = .ok (.iload 4, 2) := by decide +kernel
theorem dX3_mixWords_177 : decode cX3_mixWords 177 = .ok (.iload 10, 2) := by decide +kernel
theorem dX3_mixWords_179 : decode cX3_mixWords 179 = .ok (.iadd, 1) := by decide +kernel
theorem dX3_mixWords_180 : decode cX3_mixWords 180 = .ok (.istore 5, 2) := by decide +kernel
theorem dX3_mixWords_182 : decode cX3_mixWords 182 = .ok (.iload_n 3, 1) := by decide +kernel
theorem dX3_mixWords_183 : decode cX3_mixWords 183 = .ok (.istore 4, 2) := by decide +kernel
theorem dX3_mixWords_185 : decode cX3_mixWords 185 = .ok (.iload_n 2, 1) := by decide +kernel
theorem dX3_mixWords_186 : decode cX3_mixWords 186 = .ok (.istore_n 3, 1) := by decide +kernel
theorem dX3_mixWords_187 : decode cX3_mixWords 187 = .ok (.iload_n 1, 1) := by decide +kernel
theorem dX3_mixWords_188 : decode cX3_mixWords 188 = .ok (.istore_n 2, 1) := by decide +kernel
theorem dX3_mixWords_189 : decode cX3_mixWords 189 = .ok (.iload 10, 2) := by decide +kernel
theorem dX3_mixWords_191 : decode cX3_mixWords 191 = .ok (.iload 11, 2) := by decide +kernel
theorem dX3_mixWords_193 : decode cX3_mixWords 193 = .ok (.iadd, 1) := by decide +kernel
theorem dX3_mixWords_194 : decode cX3_mixWords 194 = .ok (.istore_n 1, 1) := by decide +kernel
theorem dX3_mixWords_195 : decode cX3_mixWords 195 = .ok (.iinc 9 1, 3) := by decide +kernel
theorem dX3_mixWords_198 : decode cX3_mixWords 198 = .ok (.goto (-132), 3) := by decide +kernel
theorem dX3_mixWords_201 : decode cX3_mixWords 201 = .ok (.aload_n 0, 1) := by decide +kernel
theorem dX3_mixWords_202 : decode cX3_mixWords 202 = .ok (.getfield 19, 3) := by decide +kernel
theorem dX3_mixWords_205 : decode cX3_mixWords 205 = .ok (.iconst 0, 1) := by decide +kernel
theorem dX3_mixWords_206 : decode cX3_mixWords 206 = .ok (.dup2, 1) := by decide +kernel
theorem dX3_mixWords_207 : decode cX3_mixWords 207 = .ok (.iaload, 1) := by decide +kernel
theorem dX3_mixWords_208 : decode cX3_mixWords 208 = .ok (.iload_n 1, 1) := by decide +kernel
theorem dX3_mixWords_209 : decode cX3_mixWords 209 = .ok (.iadd, 1) := by decide +kernel
theorem dX3_mixWords_210 : decode cX3_mixWords 210 = .ok (.iastore, 1) := by decide +kernel
theorem dX3_mixWords_211 : decode cX3_mixWords 211 = .ok (.aload_n 0, 1) := by decide +kernel
theorem dX3_mixWords_212 : decode cX3_mixWords 212 = .ok (.getfield 19, 3) := by decide +kernel
theorem dX3_mixWords_215 : decode cX3_mixWords 215 = .ok (.iconst 1, 1) := by decide +kernel
theorem dX3_mixWords_216 : decode cX3_mixWords 216 = .ok (.dup2, 1) := by decide +kernel
theorem dX3_mixWords_217 : decode cX3_mixWords 217 = .ok (.iaload, 1) := by decide +kernel
theorem dX3_mixWords_218 : decode cX3_mixWords 218 = .ok (.iload_n 2, 1) := by decide +kernel
theorem dX3_mixWords_219 : decode cX3_mixWords 219 = .ok (.iadd, 1) := by decide +kernel
theorem dX3_mixWords_220 : decode cX3_mixWords 220 = .ok (.iastore, 1) := by decide +kernel
theorem dX3_mixWords_221 : decode cX3_mixWords 221 = .ok (.aload_n 0, 1) := by decide +kernel
theorem dX3_mixWords_222 : decode cX3_mixWords 222 = .ok (.getfield 19, 3) := by decide +kernel
theorem dX3_mixWords_225 : decode cX3_mixWords 225 = .ok (.iconst 2, 1) := by decide +kernel
theorem dX3_mixWords_226 : decode cX3_mixWords 226 = .ok (.dup2, 1) := by decide +kernel
theorem dX3_mixWords_227 : decode cX3_mixWords 227 = .ok (.iaload, 1) := by decide +kernel
theorem dX3_mixWords_228 : decode cX3_mixWords 228 = .ok (.iload_n 3, 1) := by decide +kernel
theorem dX3_mixWords_229 : decode cX3_mixWords 229 = .ok (.iadd, 1) := by decide +kernel
theorem dX3_mixWords_230 : decode cX3_mixWords 230 = .ok (.iastore, 1) := by decide +kernel
theorem dX3_mixWords_231 : decode cX3_mixWords 231 = .ok (.aload_n 0, 1) := by decide +kernel
theorem dX3_mixWords_232 : decode cX3_mixWords 232 = .ok (.getfield 19, 3) := by decide +kernel
theorem dX3_mixWords_235 : decode cX3_mixWords 235 = .ok (.iconst 3, 1) := by decide +kernel
theorem dX3_mixWords_236 : decode cX3_mixWords 236 = .ok (.dup2, 1) := by decide +kernel
theorem dX3_mixWords_237 : decode cX3_mixWords 237 = .ok (.iaload, 1) := by decide +kernel
theorem dX3_mixWords_238 : decode cX3_mixWords 238 = .ok (.iload 4, 2) := by decide +kernel
theorem dX3_mixWords_240 : decode cX3_mixWords 240 = .ok (.iadd, 1) := by decide +kernel
theorem dX3_mixWords_241 : decode cX3_mixWords 241 = .ok (.iastore, 1) := by decide +kernel
theorem dX3_mixWords_242 : decode cX3_mixWords 242 = .ok (.aload_n 0, 1) := by decide +kernel
theorem dX3_mixWords_243 : decode cX3_mixWords 243 = .ok (.getfield 19, 3) := by decide +kernel
theorem dX3_mixWords_246 : decode cX3_mixWords 246 = .ok (.iconst 4, 1) := by decide +kernel
theorem dX3_mixWords_247 : decode cX3_mixWords 247 = .ok (.dup2, 1) := by decide +kernel
theorem dX3_mixWords_248 : decode cX3_mixWords 248 = .ok (.iaload, 1) := by decide +kernel
theorem dX3_mixWords_249 : decode cX3_mixWords 249 = .ok (.iload 5, 2) := by decide +kernel
theorem dX3_mixWords_251 : decode cX3_mixWords 251 = .ok (.iadd, 1) := by decide +kernel
theorem dX3_mixWords_252 : decode cX3_mixWords 252 = .ok (.iastore, 1) := by decide +kernel
theorem dX3_mixWords_253 : decode cX3_mixWords 253 = .ok (.aload_n 0, 1) := by decide +kernel
theorem dX3_mixWords_254 : decode cX3_mixWords 254 = .ok (.getfield 19, 3) := by decide +kernel
theorem dX3_mixWords_257 : decode cX3_mixWords 257 = .ok (.iconst 5, 1) := by decide +kernel
theorem dX3_mixWords_258 : decode cX3_mixWords 258 = .ok (.dup2, 1) := by decide +kernel
theorem dX3_mixWords_259 : decode cX3_mixWords 259 = .ok (.iaload, 1) := by decide +kernel
theorem dX3_mixWords_260 : decode cX3_mixWords 260 = .ok (.iload 6, 2) := by decide +kernel
theorem dX3_mixWords_262 : decode cX3_mixWords 262 = .ok (.iadd, 1) := by decide +kernel
theorem dX3_mixWords_263 : decode cX3_mixWords 263 = .ok (.iastore, 1) := by decide +kernel
theorem dX3_mixWords_264 : decode cX3_mixWords 264 = .ok (.aload_n 0, 1) := by decide +kernel
theorem dX3_mixWords_265 : decode cX3_mixWords 265 = .ok (.getfield 19, 3) := by decide +kernel
theorem dX3_mixWords_268 : decode cX3_mixWords 268 = .ok (.bipush 6, 2) := by decide +kernel
theorem dX3_mixWords_270 : decode cX3_mixWords 270 = .ok (.dup2, 1) := by decide +kernel
theorem dX3_mixWords_271 : decode cX3_mixWords 271 = .ok (.iaload, 1) := by decide +kernel
theorem dX3_mixWords_272 : decode cX3_mixWords 272 = .ok (.iload 7, 2) := by decide +kernel
theorem dX3_mixWords_274 : decode cX3_mixWords 274 = .ok (.iadd, 1) := by decide +kernel
theorem dX3_mixWords_275 : decode cX3_mixWords 275 = .ok (.iastore, 1) := by decide +kernel
theorem dX3_mixWords_276 : decode cX3_mixWords 276 = .ok (.aload_n 0, 1) := by decide +kernel
theorem dX3_mixWords_277 : decode cX3_mixWords 277 = .ok (.getfield 19, 3) := by decide +kernel
theorem dX3_mixWords_280 : decode cX3_mixWords 280 = .ok (.bipush 7, 2) := by decide +kernel
theorem dX3_mixWords_282 : decode cX3_mixWords 282 = .ok (.dup2, 1) := by decide +kernel
theorem dX3_mixWords_283 : decode cX3_mixWords 283 = .ok (.iaload, 1) := by decide +kernel
theorem dX3_mixWords_284 : decode cX3_mixWords 284 = .ok (.iload 8, 2) := by decide +kernel
theorem dX3_mixWords_286 : decode cX3_mixWords 286 = .ok (.iadd, 1) := by decide +kernel
theorem dX3_mixWords_287 : decode cX3_mixWords 287 = .ok (.iastore, 1) := by decide +kernel
theorem dX3_mixWords_288 : decode cX3_mixWords 288 = .ok (.return_, 1) := by decide +kernel
theorem dX3_earlyWord_0 : decode cX3_earlyWord 0 = .ok (.iload_n 0, 1) := by decide +kernel
theorem dX3_earlyWord_1 : decode cX3_earlyWord 1 = .ok (.bipush 7, 2) := by decide +kernel
theorem dX3_earlyWord_3 : decode cX3_earlyWord 3 = .ok (.invokestatic 58, 3) := by decide +kernel
theorem dX3_earlyWord_6 : decode cX3_earlyWord 6 = .ok (.iload_n 0, 1) := by decide +kernel
theorem dX3_earlyWord_7 : decode cX3_earlyWord 7 = .ok (.bipush 18, 2) := by decide +kernel
theorem dX3_earlyWord_9 : decode cX3_earlyWord 9 = .ok (.invokestatic 58, 3) := by decide +kernel
theorem dX3_earlyWord_12 : decode cX3_earlyWord 12 = .ok (.ixor, 1) := by decide +kernel
theorem dX3_earlyWord_13 : decode cX3_earlyWord 13 = .ok (.iload_n 0, 1) := by decide +kernel
theorem dX3_earlyWord_14 : decode cX3_earlyWord 14 = .ok (.iconst 3, 1) := by decide +kernel
theorem dX3_earlyWord_15 : decode cX3_earlyWord 15 = .ok (.iushr, 1) := by decide +kernel
theorem dX3_earlyWord_16 : decode cX3_earlyWord 16 = .ok (.ixor, 1) := by decide +kernel
theorem dX3_earlyWord_17 : decode cX3_earlyWord 17 = .ok (.ireturn, 1) := by decide +kernel
theorem dX3_lateWord_0 : decode cX3_lateWord 0 = .ok (.iload_n 0, 1) := by decide +kernel
theorem dX3_lateWord_1 : decode cX3_lateWord 1 = .ok (.bipush 17, 2) := by decide +kernel
theorem dX3_lateWord_3 : decode cX3_lateWord 3 = .ok (.invokestatic 58, 3) := by decide +kernel
theorem dX3_lateWord_6 : decode cX3_lateWord 6 = .ok (.iload_n 0, 1) := by decide +kernel
theorem dX3_lateWord_7 : decode cX3_lateWord 7 = .ok (.bipush 19, 2) := by decide +kernel
theorem dX3_lateWord_9 : decode cX3_lateWord 9 = .ok (.invokestatic 58, 3) := by decide +kernel
theorem dX3_lateWord_12 : decode cX3_lateWord 12 = .ok (.ixor, 1) := by decide +kernel
theorem dX3_lateWord_13 : decode cX3_lateWord 13 = .ok (.iload_n 0, 1) := by decide +kernel
theorem dX3_lateWord_14 : decode cX3_lateWord 14 = .ok (.bipush 10, 2) := by decide +kernel
theorem dX3_lateWord_16 : decode cX3_lateWord 16 = .ok (.iushr, 1) := by decide +kernel
theorem dX3_lateWord_17 : decode cX3_lateWord 17 = .ok (.ixor, 1) := by decide +kernel
theorem dX3_lateWord_18 : decode cX3_lateWord 18 = .ok (.ireturn, 1) := by decide +kernel
theorem dX3_turn_0 : decode cX3_turn 0 = .ok (.iload_n 0, 1) := by decide +kernel
theorem dX3_turn_1 : decode cX3_turn 1 = .ok (.iload_n 1, 1) := by decide +kernel
theorem dX3_turn_2 : decode cX3_turn 2 = .ok (.iushr, 1) := by decide +kernel
theorem dX3_turn_3 : decode cX3_turn 3 = .ok (.iload_n 0, 1) := by decide +kernel
theorem dX3_turn_4 : decode cX3_turn 4 = .ok (.bipush 32, 2) := by decide +kernel
theorem dX3_turn_6 : decode cX3_turn 6 = .ok (.iload_n 1, 1) := by decide +kernel
theorem dX3_turn_7 : decode cX3_turn 7 = .ok (.isub, 1) := by decide +kernel
theorem dX3_turn_8 : decode cX3_turn 8 = .ok (.ishl, 1) := by decide +kernel
theorem dX3_turn_9 : decode cX3_turn 9 = .ok (.ior, 1) := by decide +kernel
theorem dX3_turn_10 : decode cX3_turn 10 = .ok (.ireturn, 1) := by decide +kernel
theorem dX4_init_0 : decode cX4_init 0 = .ok (.aload_n 0, 1) := by decide +kernel
theorem dX4_init_1 : decode cX4_init 1 = .ok (.invokespecial 1, 3) := by decide +kernel
theorem dX4_init_4 : decode cX4_init 4 = .ok (.aload_n 0, 1) := by decide +kernel
theorem dX4_init_5 : decode cX4_init 5 = .ok (.iload_n 1, 1) := by decide +kernel
theorem dX4_init_6 : decode cX4_init 6 = .ok (.putfield 7, 3) := by decide +kernel
theorem dX4_init_9 : decode cX4_init 9 = .ok (.aload_n 0, 1) := by decide +kernel
theorem dX4_init_10 : decode cX4_init 10 = .ok (.iload_n 2, 1) := by decide +kernel
theorem dX4_init_11 : decode cX4_init 11 = .ok (.putfield 13, 3) := by decide +kernel
theorem dX4_init_14 : decode cX4_init 14 = .ok (.aload_n 0, 1) := by decide +kernel
theorem dX4_init_15 : decode cX4_init 15 = .ok (.lload_n 3, 1) := by decide +kernel
theorem dX4_init_16 : decode cX4_init 16 = .ok (.putfield 16, 3) := by decide +kernel
theorem dX4_init_19 : decode cX4_init 19 = .ok (.return_, 1) := by decide +kernel
theorem dX5_init_0 : decode cX5_init 0 = .ok (.aload_n 0, 1) := by decide +kernel
theorem dX5_init_1 : decode cX5_init 1 = .ok (.invokespecial 3, 3) := by decide +kernel
theorem dX5_init_4 : decode cX5_init 4 = .ok (.aload_n 0, 1) := by decide +kernel
theorem dX5_init_5 : decode cX5_init 5 = .ok (.new 9, 3) := by decide +kernel
theorem dX5_init_8 : decode cX5_init 8 = .ok (.dup, 1) := by decide +kernel
theorem dX5_init_9 : decode cX5_init 9 = .ok (.invokespecial 11, 3) := by decide +kernel
theorem dX5_init_12 : decode cX5_init 12 = .ok (.putfield 12, 3) := by decide +kernel
theorem dX5_init_15 : decode cX5_init 15 = .ok (.return_, 1) := by decide +kernel
theorem dX5_tell_0 : decode cX5_tell 0 = .ok (.aload_n 0, 1) := by decide +kernel
theorem dX5_tell_1 : decode cX5_tell 1 = .ok (.iload_n 1, 1) := by decide +kernel
theorem dX5_tell_2 : decode cX5_tell 2 = .ok (.iload_n 2, 1) := by decide +kernel
theorem dX5_tell_3 : decode cX5_tell 3 = .ok (.invokevirtual 18, 3) := by decide +kernel
theorem dX5_tell_6 : decode cX5_tell 6 = .ok (.astore 5, 2) := by decide +kernel
theorem dX5_tell_8 : decode cX5_tell 8 = .ok (.aload 5, 2) := by decide +kernel
theorem dX5_tell_10 : decode cX5_tell 10 = .ok (.ifnull 20, 3) := by decide +kernel
theorem dX5_tell_13 : decode cX5_tell 13 = .ok (.aload 5, 2) := by decide +kernel
theorem dX5_tell_15 : decode cX5_tell 15 = .ok (.getfield 22, 3) := by decide +kernel
theorem dX5_tell_18 : decode cX5_tell 18 = .ok (.iload_n 1, 1) := by decide +kernel
theorem dX5_tell_19 : decode cX5_tell 19 = .ok (.if_icmp .ne 11, 3) := by decide +kernel
theorem dX5_tell_22 : decode cX5_tell 22 = .ok (.aload 5, 2) := by decide +kernel
theorem dX5_tell_24 : decode cX5_tell 24 = .ok (.lload_n 3, 1) := by decide +kernel
theorem dX5_tell_25 : decode cX5_tell 25 = .ok (.putfield 28, 3) := by decide +kernel
theorem dX5_tell_28 : decode cX5_tell 28 = .ok (.iconst 1, 1) := by decide +kernel
theorem dX5_tell_29 : decode cX5_tell 29 = .ok (.ireturn, 1) := by decide +kernel
theorem dX5_tell_30 : decode cX5_tell 30 = .ok (.aload_n 0, 1) := by decide +kernel
theorem dX5_tell_31 : decode cX5_tell 31 = .ok (.getfield 12, 3) := by decide +kernel
theorem dX5_tell_34 : decode cX5_tell 34 = .ok (.invokevirtual 32, 3) := by decide +kernel
theorem dX5_tell_37 : decode cX5_tell 37 = .ok (.sipush 512, 3) := by decide +kernel
theorem dX5_tell_40 : decode cX5_tell 40 = .ok (.if_icmp .lt 5, 3) := by decide +kernel
theorem dX5_tell_43 : decode cX5_tell 43 = .ok (.iconst 0, 1) := by decide +kernel
theorem dX5_tell_44 : decode cX5_tell 44 = .ok (.ireturn, 1) := by decide +kernel
theorem dX5_tell_45 : decode cX5_tell 45 = .ok (.aload_n 0, 1) := by decide +kernel
theorem dX5_tell_46 : decode cX5_tell 46 = .ok (.getfield 12, 3) := by decide +kernel
theorem dX5_tell_49 : decode cX5_tell 49 = .ok (.new 23, 3) := by decide +kernel
theorem dX5_tell_52 : decode cX5_tell 52 = .ok (.dup, 1) := by decide +kernel
theorem dX5_tell_53 : decode cX5_tell 53 = .ok (.iload_n 1, 1) := by decide +kernel
theorem dX5_tell_54 : decode cX5_tell 54 = .ok (.iload_n 2, 1) := by decide +kernel
theorem dX5_tell_55 : decode cX5_tell 55 = .ok (.lload_n 3, 1) := by decide +kernel
theorem dX5_tell_56 : decode cX5_tell 56 = .ok (.invokespecial 36, 3) := by decide +kernel
theorem dX5_tell_59 : decode cX5_tell 59 = .ok (.invokevirtual 39, 3) := by decide +kernel
theorem dX5_tell_62 : decode cX5_tell 62 = .ok (.pop, 1) := by decide +kernel
theorem dX5_tell_63 : decode cX5_tell 63 = .ok (.iconst 1, 1) := by decide +kernel
theorem dX5_tell_64 : decode cX5_tell 64 = .ok (.ireturn, 1) := by decide +kernel
theorem dX5_tareOn_0 : decode cX5_tareOn 0 = .ok (.aload_n 0, 1) := by decide +kernel
theorem dX5_tareOn_1 : decode cX5_tareOn 1 = .ok (.iload_n 1, 1) := by decide +kernel
theorem dX5_tareOn_2 : decode cX5_tareOn 2 = .ok (.iload_n 2, 1) := by decide +kernel
theorem dX5_tareOn_3 : decode cX5_tareOn 3 = .ok (.invokevirtual 18, 3) := by decide +kernel
theorem dX5_tareOn_6 : decode cX5_tareOn 6 = .ok (.astore_n 3, 1) := by decide +kernel
theorem dX5_tareOn_7 : decode cX5_tareOn 7 = .ok (.aload_n 3, 1) := by decide +kernel
theorem dX5_tareOn_8 : decode cX5_tareOn 8 = .ok (.ifnonnull 9, 3) := by decide +kernel
theorem dX5_tareOn_11 : decode cX5_tareOn 11 = .ok (.ldc2_w 43, 3) := by decide +kernel
theorem dX5_tareOn_14 : decode cX5_tareOn 14 = .ok (.goto 7, 3) := by decide +kernel
theorem dX5_tareOn_17 : decode cX5_tareOn 17 = .ok (.aload_n 3, 1) := by decide +kernel
theorem dX5_tareOn_18 : decode cX5_tareOn 18 = .ok (.getfield 28, 3) := by decide +kernel
theorem dX5_tareOn_21 : decode cX5_tareOn 21 = .ok (.lreturn, 1) := by decide +kernel
theorem dX5_lastUpTo_0 : decode cX5_lastUpTo 0 = .ok (.aconst_null, 1) := by decide +kernel
theorem dX5_lastUpTo_1 : decode cX5_lastUpTo 1 = .ok (.astore_n 3, 1) := by decide +kernel
theorem dX5_lastUpTo_2 : decode cX5_lastUpTo 2 = .ok (.iconst 0, 1) := by decide +kernel
theorem dX5_lastUpTo_3 : decode cX5_lastUpTo 3 = .ok (.istore 4, 2) := by decide +kernel
theorem dX5_lastUpTo_5 : decode cX5_lastUpTo 5 = .ok (.iload 4, 2) := by decide +kernel
theorem dX5_lastUpTo_7 : decode cX5_lastUpTo 7 = .ok (.aload_n 0, 1) := by decide +kernel
theorem dX5_lastUpTo_8 : decode cX5_lastUpTo 8 = .ok (.getfield 12, 3) := by decide +kernel
theorem dX5_lastUpTo_11 : decode cX5_lastUpTo 11 = .ok (.invokevirtual 32, 3) := by decide +kernel
theorem dX5_lastUpTo_14 : decode cX5_lastUpTo 14 = .ok (.if_icmp .ge 60, 3) := by decide +kernel
theorem dX5_lastUpTo_17 : decode cX5_lastUpTo 17 = .ok (.aload_n 0, 1) := by decide +kernel
theorem dX5_lastUpTo_18 : decode cX5_lastUpTo 18 = .ok (.getfield 12, 3) := by decide +kernel
theorem dX5_lastUpTo_21 : decode cX5_lastUpTo 21 = .ok (.iload 4, 2) := by decide +kernel
theorem dX5_lastUpTo_23 : decode cX5_lastUpTo 23 = .ok (.invokevirtual 45, 3) := by decide +kernel
theorem dX5_lastUpTo_26 : decode cX5_lastUpTo 26 = .ok (.checkcast 23, 3) := by decide +kernel
theorem dX5_lastUpTo_29 : decode cX5_lastUpTo 29 = .ok (.astore 5, 2) := by decide +kernel
theorem dX5_lastUpTo_31 : decode cX5_lastUpTo 31 = .ok (.aload 5, 2) := by decide +kernel
theorem dX5_lastUpTo_33 : decode cX5_lastUpTo 33 = .ok (.getfield 49, 3) := by decide +kernel
theorem dX5_lastUpTo_36 : decode cX5_lastUpTo 36 = .ok (.iload_n 2, 1) := by decide +kernel
theorem dX5_lastUpTo_37 : decode cX5_lastUpTo 37 = .ok (.if_icmp .ne 31, 3) := by decide +kernel
theorem dX5_lastUpTo_40 : decode cX5_lastUpTo 40 = .ok (.aload 5, 2) := by decide +kernel
theorem dX5_lastUpTo_42 : decode cX5_lastUpTo 42 = .ok (.getfield 22, 3) := by decide +kernel
theorem dX5_lastUpTo_45 : decode cX5_lastUpTo 45 = .ok (.iload_n 1, 1) := by decide +kernel
theorem dX5_lastUpTo_46 : decode cX5_lastUpTo 46 = .ok (.if_icmp .gt 22, 3) := by decide +kernel
theorem dX5_lastUpTo_49 : decode cX5_lastUpTo 49 = .ok (.aload_n 3, 1) := by decide +kernel
theorem dX5_lastUpTo_50 : decode cX5_lastUpTo 50 = .ok (.ifnull 15, 3) := by decide +kernel
theorem dX5_lastUpTo_53 : decode cX5_lastUpTo 53 = .ok (.aload 5, 2) := by decide +kernel
theorem dX5_lastUpTo_55 : decode cX5_lastUpTo 55 = .ok (.getfield 22, 3) := by decide +kernel
theorem dX5_lastUpTo_58 : decode cX5_lastUpTo 58 = .ok (.aload_n 3, 1) := by decide +kernel
theorem dX5_lastUpTo_59 : decode cX5_lastUpTo 59 = .ok (.getfield 22, 3) := by decide +kernel
theorem dX5_lastUpTo_62 : decode cX5_lastUpTo 62 = .ok (.if_icmp .le 6, 3) := by decide +kernel
theorem dX5_lastUpTo_65 : decode cX5_lastUpTo 65 = .ok (.aload 5, 2) := by decide +kernel
theorem dX5_lastUpTo_67 : decode cX5_lastUpTo 67 = .ok (.astore_n 3, 1) := by decide +kernel
theorem dX5_lastUpTo_68 : decode cX5_lastUpTo 68 = .ok (.iinc 4 1, 3) := by decide +kernel
theorem dX5_lastUpTo_71 : decode cX5_lastUpTo 71 = .ok (.goto (-66), 3) := by decide +kernel
theorem dX5_lastUpTo_74 : decode cX5_lastUpTo 74 = .ok (.aload_n 3, 1) := by decide +kernel
theorem dX5_lastUpTo_75 : decode cX5_lastUpTo 75 = .ok (.areturn, 1) := by decide +kernel
theorem dX6_init_0 : decode cX6_init 0 = .ok (.aload_n 0, 1) := by decide +kernel
theorem dX6_init_1 : decode cX6_init 1 = .ok (.invokespecial 3, 3) := by decide +kernel
theorem dX6_init_4 : decode cX6_init 4 = .ok (.aload_n 0, 1) := by decide +kernel
theorem dX6_init_5 : decode cX6_init 5 = .ok (.bipush 9, 2) := by decide +kernel
theorem dX6_init_7 : decode cX6_init 7 = .ok (.newarray .long, 2) := by decide +kernel
theorem dX6_init_9 : decode cX6_init 9 = .ok (.putfield 9, 3) := by decide +kernel
theorem dX6_init_12 : decode cX6_init 12 = .ok (.aload_n 0, 1) := by decide +kernel
theorem dX6_init_13 : decode cX6_init 13 = .ok (.bipush 8, 2) := by decide +kernel
theorem dX6_init_15 : decode cX6_init 15 = .ok (.newarray .long, 2) := by decide +kernel
theorem dX6_init_17 : decode cX6_init 17 = .ok (.putfield 15, 3) := by decide +kernel
theorem dX6_init_20 : decode cX6_init 20 = .ok (.aload_n 0, 1) := by decide +kernel
theorem dX6_init_21 : decode cX6_init 21 = .ok (.getfield 9, 3) := by decide +kernel
theorem dX6_init_24 : decode cX6_init 24 = .ok (.iconst 0, 1) := by decide +kernel
theorem dX6_init_25 : decode cX6_init 25 = .ok (.iload_n 1, 1) := by decide +kernel
theorem dX6_init_26 : decode cX6_init 26 = .ok (.i2l, 1) := by decide +kernel
theorem dX6_init_27 : decode cX6_init 27 = .ok (.lastore, 1) := by decide +kernel
theorem dX6_init_28 : decode cX6_init 28 = .ok (.aload_n 0, 1) := by decide +kernel
theorem dX6_init_29 : decode cX6_init 29 = .ok (.getfield 9, 3) := by decide +kernel
theorem dX6_init_32 : decode cX6_init 32 = .ok (.iconst 1, 1) := by decide +kernel
theorem dX6_init_33 : decode cX6_init 33 = .ok (.iload_n 2, 1) := by decide +kernel
theorem dX6_init_34 : decode cX6_init 34 = .ok (.i2l, 1) := by decide +kernel
theorem dX6_init_35 : decode cX6_init 35 = .ok (.lastore, 1) := by decide +kernel
theorem dX6_init_36 : decode cX6_init 36 = .ok (.aload_n 0, 1) := by decide +kernel
theorem dX6_init_37 : decode cX6_init 37 = .ok (.getfield 9, 3) := by decide +kernel
theorem dX6_init_40 : decode cX6_init 40 = .ok (.iconst 2, 1) := by decide +kernel
theorem dX6_init_41 : decode cX6_init 41 = .ok (.iload_n 3, 1) := by decide +kernel
theorem dX6_init_42 : decode cX6_init 42 = .ok (.i2l, 1) := by decide +kernel
theorem dX6_init_43 : decode cX6_init 43 = .ok (.lastore, 1) := by decide +kernel
theorem dX6_init_44 : decode cX6_init 44 = .ok (.aload_n 0, 1) := by decide +kernel
theorem dX6_init_45 : decode cX6_init 45 = .ok (.getfield 9, 3) := by decide +kernel
theorem dX6_init_48 : decode cX6_init 48 = .ok (.iconst 3, 1) := by decide +kernel
theorem dX6_init_49 : decode cX6_init 49 = .ok (.lload 4, 2) := by decide +kernel
theorem dX6_init_51 : decode cX6_init 51 = .ok (.lastore, 1) := by decide +kernel
theorem dX6_init_52 : decode cX6_init 52 = .ok (.aload_n 0, 1) := by decide +kernel
theorem dX6_init_53 : decode cX6_init 53 = .ok (.getfield 9, 3) := by decide +kernel
theorem dX6_init_56 : decode cX6_init 56 = .ok (.iconst 4, 1) := by decide +kernel
theorem dX6_init_57 : decode cX6_init 57 = .ok (.lload 6, 2) := by decide +kernel
theorem dX6_init_59 : decode cX6_init 59 = .ok (.lastore, 1) := by decide +kernel
theorem dX6_init_60 : decode cX6_init 60 = .ok (.aload_n 0, 1) := by decide +kernel
theorem dX6_init_61 : decode cX6_init 61 = .ok (.getfield 9, 3) := by decide +kernel
theorem dX6_init_64 : decode cX6_init 64 = .ok (.iconst 5, 1) := by decide +kernel
theorem dX6_init_65 : decode cX6_init 65 = .ok (.lload 4, 2) := by decide +kernel
theorem dX6_init_67 : decode cX6_init 67 = .ok (.lload 6, 2) := by decide +kernel
theorem dX6_init_69 : decode cX6_init 69 = .ok (.lsub, 1) := by decide +kernel
theorem dX6_init_70 : decode cX6_init 70 = .ok (.lastore, 1) := by decide +kernel
theorem dX6_init_71 : decode cX6_init 71 = .ok (.aload_n 0, 1) := by decide +kernel
theorem dX6_init_72 : decode cX6_init 72 = .ok (.getfield 9, 3) := by decide +kernel
theorem dX6_init_75 : decode cX6_init 75 = .ok (.bipush 6, 2) := by decide +kernel
theorem dX6_init_77 : decode cX6_init 77 = .ok (.lload 8, 2) := by decide +kernel
theorem dX6_init_79 : decode cX6_init 79 = .ok (.lastore, 1) := by decide +kernel
theorem dX6_init_80 : decode cX6_init 80 = .ok (.aload_n 0, 1) := by decide +kernel
theorem dX6_init_81 : decode cX6_init 81 = .ok (.getfield 9, 3) := by decide +kernel
theorem dX6_init_84 : decode cX6_init 84 = .ok (.bipush 7, 2) := by decide +kernel
theorem dX6_init_86 : decode cX6_init 86 = .ok (.iload 10, 2) := by decide +kernel
theorem dX6_init_88 : decode cX6_init 88 = .ok (.i2l, 1) := by decide +kernel
theorem dX6_init_89 : decode cX6_init 89 = .ok (.lastore, 1) := by decide +kernel
theorem dX6_init_90 : decode cX6_init 90 = .ok (.return_, 1) := by decide +kernel
theorem dX6_field_0 : decode cX6_field 0 = .ok (.iload_n 1, 1) := by decide +kernel
theorem dX6_field_1 : decode cX6_field 1 = .ok (.ifCond .lt 21, 3) := by decide +kernel
theorem dX6_field_4 : decode cX6_field 4 = .ok (.iload_n 1, 1) := by decide +kernel
theorem dX6_field_5 : decode cX6_field 5 = .ok (.aload_n 0, 1) := by decide +kernel
theorem dX6_field_6 : decode cX6_field 6 = .ok (.getfield 9, 3) := by decide +kernel
theorem dX6_field_9 : decode cX6_field 9 = .ok (.arraylength, 1) := by decide +kernel
theorem dX6_field_10 : decode cX6_field 10 = .ok (.if_icmp .ge 12, 3) := by decide +kernel
theorem dX6_field_13 : decode cX6_field 13 = .ok (.aload_n 0, 1) := by decide +kernel
theorem dX6_field_14 : decode cX6_field 14 = .ok (.getfield 9, 3) := by decide +kernel
theorem dX6_field_17 : decode cX6_field 17 = .ok (.iload_n 1, 1) := by decide +kernel
theorem dX6_field_18 : decode cX6_field 18 = .ok (.laload, 1) := by decide +kernel
theorem dX6_field_19 : decode cX6_field 19 = .ok (.goto 6, 3) := by decide +kernel
theorem dX6_field_22 : decode cX6_field 22 = .ok (.ldc2_w 18, 3) := by decide +kernel
theorem dX6_field_25 : decode cX6_field 25 = .ok (.lreturn, 1) := by decide +kernel
theorem dX6_isVoid_0 : decode cX6_isVoid 0 = .ok (.aload_n 0, 1) := by decide +kernel
theorem dX6_isVoid_1 : decode cX6_isVoid 1 = .ok (.getfield 9, 3) := by decide +kernel
theorem dX6_isVoid_4 : decode cX6_isVoid 4 = .ok (.bipush 8, 2) := by decide +kernel
theorem dX6_isVoid_6 : decode cX6_isVoid 6 = .ok (.laload, 1) := by decide +kernel
theorem dX6_isVoid_7 : decode cX6_isVoid 7 = .ok (.lconst 0, 1) := by decide +kernel
theorem dX6_isVoid_8 : decode cX6_isVoid 8 = .ok (.lcmp, 1) := by decide +kernel
theorem dX6_isVoid_9 : decode cX6_isVoid 9 = .ok (.ifCond .eq 7, 3) := by decide +kernel
theorem dX6_isVoid_12 : decode cX6_isVoid 12 = .ok (.iconst 1, 1) := by decide +kernel
theorem dX6_isVoid_13 : decode cX6_isVoid 13 = .ok (.goto 4, 3) := by decide +kernel
theorem dX6_isVoid_16 : decode cX6_isVoid 16 = .ok (.iconst 0, 1) := by decide +kernel
theorem dX6_isVoid_17 : decode cX6_isVoid 17 = .ok (.ireturn, 1) := by decide +kernel
theorem dX6_keepsNet_0 : decode cX6_keepsNet 0 = .ok (.iload_n 1, 1) := by decide +kernel
theorem dX6_keepsNet_1 : decode cX6_keepsNet 1 = .ok (.iconst 3, 1) := by decide +kernel
theorem dX6_keepsNet_2 : decode cX6_keepsNet 2 = .ok (.if_icmp .ne 7, 3) := by decide +kernel
theorem dX6_keepsNet_5 : decode cX6_keepsNet 5 = .ok (.lload_n 2, 1) := by decide +kernel
theorem dX6_keepsNet_6 : decode cX6_keepsNet 6 = .ok (.goto 9, 3) := by decide +kernel
theorem dX6_keepsNet_9 : decode cX6_keepsNet 9 = .ok (.aload_n 0, 1) := by decide +kernel
theorem dX6_keepsNet_10 : decode cX6_keepsNet 10 = .ok (.getfield 9, 3) := by decide +kernel
theorem dX6_keepsNet_13 : decode cX6_keepsNet 13 = .ok (.iconst 3, 1) := by decide +kernel
theorem dX6_keepsNet_14 : decode cX6_keepsNet 14 = .ok (.laload, 1) := by decide +kernel
theorem dX6_keepsNet_15 : decode cX6_keepsNet 15 = .ok (.lstore 4, 2) := by decide +kernel
theorem dX6_keepsNet_17 : decode cX6_keepsNet 17 = .ok (.iload_n 1, 1) := by decide +kernel
theorem dX6_keepsNet_18 : decode cX6_keepsNet 18 = .ok (.iconst 4, 1) := by decide +kernel
theorem dX6_keepsNet_19 : decode cX6_keepsNet 19 = .ok (.if_icmp .ne 7, 3) := by decide +kernel
theorem dX6_keepsNet_22 : decode cX6_keepsNet 22 = .ok (.lload_n 2, 1) := by decide +kernel
theorem dX6_keepsNet_23 : decode cX6_keepsNet 23 = .ok (.goto 9, 3) := by decide +kernel
theorem dX6_keepsNet_26 : decode cX6_keepsNet 26 = .ok (.aload_n 0, 1) := by decide +kernel
theorem dX6_keepsNet_27 : decode cX6_keepsNet 27 = .ok (.getfield 9, 3) := by decide +kernel
theorem dX6_keepsNet_30 : decode cX6_keepsNet 30 = .ok (.iconst 4, 1) := by decide +kernel
theorem dX6_keepsNet_31 : decode cX6_keepsNet 31 = .ok (.laload, 1) := by decide +kernel
theorem dX6_keepsNet_32 : decode cX6_keepsNet 32 = .ok (.lstore 6, 2) := by decide +kernel
theorem dX6_keepsNet_34 : decode cX6_keepsNet 34 = .ok (.lload 4, 2) := by decide +kernel
theorem dX6_keepsNet_36 : decode cX6_keepsNet 36 = .ok (.lload 6, 2) := by decide +kernel
theorem dX6_keepsNet_38 : decode cX6_keepsNet 38 = .ok (.lcmp, 1) := by decide +kernel
theorem dX6_keepsNet_39 : decode cX6_keepsNet 39 = .ok (.ifCond .lt 7, 3) := by decide +kernel
theorem dX6_keepsNet_42 : decode cX6_keepsNet 42 = .ok (.iconst 1, 1) := by decide +kernel
theorem dX6_keepsNet_43 : decode cX6_keepsNet 43 = .ok (.goto 4, 3) := by decide +kernel
theorem dX6_keepsNet_46 : decode cX6_keepsNet 46 = .ok (.iconst 0, 1) := by decide +kernel
theorem dX6_keepsNet_47 : decode cX6_keepsNet 47 = .ok (.ireturn, 1) := by decide +kernel
theorem dX6_put_0 : decode cX6_put 0 = .ok (.iload_n 1, 1) := by decide +kernel
theorem dX6_put_1 : decode cX6_put 1 = .ok (.ifCond .lt 38, 3) := by decide +kernel
theorem dX6_put_4 : decode cX6_put 4 = .ok (.iload_n 1, 1) := by decide +kernel
theorem dX6_put_5 : decode cX6_put 5 = .ok (.aload_n 0, 1) := by decide +kernel
theorem dX6_put_6 : decode cX6_put 6 = .ok (.getfield 9, 3) := by decide +kernel
theorem dX6_put_9 : decode cX6_put 9 = .ok (.arraylength, 1) := by decide +kernel
theorem dX6_put_10 : decode cX6_put 10 = .ok (.if_icmp .ge 29, 3) := by decide +kernel
theorem dX6_put_13 : decode cX6_put 13 = .ok (.aload_n 0, 1) := by decide +kernel
theorem dX6_put_14 : decode cX6_put 14 = .ok (.getfield 9, 3) := by decide +kernel
theorem dX6_put_17 : decode cX6_put 17 = .ok (.iload_n 1, 1) := by decide +kernel
theorem dX6_put_18 : decode cX6_put 18 = .ok (.lload_n 2, 1) := by decide +kernel
theorem dX6_put_19 : decode cX6_put 19 = .ok (.lastore, 1) := by decide +kernel
theorem dX6_put_20 : decode cX6_put 20 = .ok (.aload_n 0, 1) := by decide +kernel
theorem dX6_put_21 : decode cX6_put 21 = .ok (.getfield 9, 3) := by decide +kernel
theorem dX6_put_24 : decode cX6_put 24 = .ok (.iconst 5, 1) := by decide +kernel
theorem dX6_put_25 : decode cX6_put 25 = .ok (.aload_n 0, 1) := by decide +kernel
theorem dX6_put_26 : decode cX6_put 26 = .ok (.getfield 9, 3) := by decide +kernel
theorem dX6_put_29 : decode cX6_put 29 = .ok (.iconst 3, 1) := by decide +kernel
theorem dX6_put_30 : decode cX6_put 30 = .ok (.laload, 1) := by decide +kernel
theorem dX6_put_31 : decode cX6_put 31 = .ok (.aload_n 0, 1) := by decide +kernel
theorem dX6_put_32 : decode cX6_put 32 = .ok (.getfield 9, 3) := by decide +kernel
theorem dX6_put_35 : decode cX6_put 35 = .ok (.iconst 4, 1) := by decide +kernel
theorem dX6_put_36 : decode cX6_put 36 = .ok (.laload, 1) := by decide +kernel
theorem dX6_put_37 : decode cX6_put 37 = .ok (.lsub, 1) := by decide +kernel
theorem dX6_put_38 : decode cX6_put 38 = .ok (.lastore, 1) := by decide +kernel
theorem dX6_put_39 : decode cX6_put 39 = .ok (.return_, 1) := by decide +kernel
theorem dX6_weigh_0 : decode cX6_weigh 0 = .ok (.iload_n 1, 1) := by decide +kernel
theorem dX6_weigh_1 : decode cX6_weigh 1 = .ok (.ifCond .lt 12, 3) := by decide +kernel
theorem dX6_weigh_4 : decode cX6_weigh 4 = .ok (.iload_n 1, 1) := by decide +kernel
theorem dX6_weigh_5 : decode cX6_weigh 5 = .ok (.aload_n 0, 1) := by decide +kernel
theorem dX6_weigh_6 : decode cX6_weigh 6 = .ok (.getfield 15, 3) := by decide +kernel
theorem dX6_weigh_9 : decode cX6_weigh 9 = .ok (.arraylength, 1) := by decide +kernel
theorem dX6_weigh_10 : decode cX6_weigh 10 = .ok (.if_icmp .lt 5, 3) := by decide +kernel
theorem dX6_weigh_13 : decode cX6_weigh 13 = .ok (.iconst 0, 1) := by decide +kernel
theorem dX6_weigh_14 : decode cX6_weigh 14 = .ok (.ireturn, 1) := by decide +kernel
theorem dX6_weigh_15 : decode cX6_weigh 15 = .ok (.aload_n 0, 1) := by decide +kernel
theorem dX6_weigh_16 : decode cX6_weigh 16 = .ok (.getfield 15, 3) := by decide +kernel
theorem dX6_weigh_19 : decode cX6_weigh 19 = .ok (.iload_n 1, 1) := by decide +kernel
theorem dX6_weigh_20 : decode cX6_weigh 20 = .ok (.lload_n 2, 1) := by decide +kernel
theorem dX6_weigh_21 : decode cX6_weigh 21 = .ok (.lastore, 1) := by decide +kernel
theorem dX6_weigh_22 : decode cX6_weigh 22 = .ok (.iconst 1, 1) := by decide +kernel
theorem dX6_weigh_23 : decode cX6_weigh 23 = .ok (.ireturn, 1) := by decide +kernel
theorem dX6_shareOf_0 : decode cX6_shareOf 0 = .ok (.aload_n 0, 1) := by decide +kernel
theorem dX6_shareOf_1 : decode cX6_shareOf 1 = .ok (.invokevirtual 20, 3) := by decide +kernel
theorem dX6_shareOf_4 : decode cX6_shareOf 4 = .ok (.lstore_n 2, 1) := by decide +kernel
theorem dX6_shareOf_5 : decode cX6_shareOf 5 = .ok (.iload_n 1, 1) := by decide +kernel
theorem dX6_shareOf_6 : decode cX6_shareOf 6 = .ok (.ifCond .lt 18, 3) := by decide +kernel
theorem dX6_shareOf_9 : decode cX6_shareOf 9 = .ok (.iload_n 1, 1) := by decide +kernel
theorem dX6_shareOf_10 : decode cX6_shareOf 10 = .ok (.aload_n 0, 1) := by decide +kernel
theorem dX6_shareOf_11 : decode cX6_shareOf 11 = .ok (.getfield 15, 3) := by decide +kernel
theorem dX6_shareOf_14 : decode cX6_shareOf 14 = .ok (.arraylength, 1) := by decide +kernel
theorem dX6_shareOf_15 : decode cX6_shareOf 15 = .ok (.if_icmp .ge 9, 3) := by decide +kernel
theorem dX6_shareOf_18 : decode cX6_shareOf 18 = .ok (.lload_n 2, 1) := by decide +kernel
theorem dX6_shareOf_19 : decode cX6_shareOf 19 = .ok (.lconst 0, 1) := by decide +kernel
theorem dX6_shareOf_20 : decode cX6_shareOf 20 = .ok (.lcmp, 1) := by decide +kernel
theorem dX6_shareOf_21 : decode cX6_shareOf 21 = .ok (.ifCond .gt 7, 3) := by decide +kernel
theorem dX6_shareOf_24 : decode cX6_shareOf 24 = .ok (.ldc2_w 18, 3) := by decide +kernel
theorem dX6_shareOf_27 : decode cX6_shareOf 27 = .ok (.lreturn, 1) := by decide +kernel
theorem dX6_shareOf_28 : decode cX6_shareOf 28 = .ok (.aload_n 0, 1) := by decide +kernel
theorem dX6_shareOf_29 : decode cX6_shareOf 29 = .ok (.invokevirtual 24, 3) := by decide +kernel
theorem dX6_shareOf_32 : decode cX6_shareOf 32 = .ok (.ifCond .eq 7, 3) := by decide +kernel
theorem dX6_shareOf_35 : decode cX6_shareOf 35 = .ok (.lconst 0, 1) := by decide +kernel
theorem dX6_shareOf_36 : decode cX6_shareOf 36 = .ok (.goto 9, 3) := by decide +kernel
theorem dX6_shareOf_39 : decode cX6_shareOf 39 = .ok (.aload_n 0, 1) := by decide +kernel
theorem dX6_shareOf_40 : decode cX6_shareOf 40 = .ok (.getfield 9, 3) := by decide +kernel
theorem dX6_shareOf_43 : decode cX6_shareOf 43 = .ok (.iconst 5, 1) := by decide +kernel
theorem dX6_shareOf_44 : decode cX6_shareOf 44 = .ok (.laload, 1) := by decide +kernel
theorem dX6_shareOf_45 : decode cX6_shareOf 45 = .ok (.lstore 4, 2) := by decide +kernel
theorem dX6_shareOf_47 : decode cX6_shareOf 47 = .ok (.lload 4, 2) := by decide +kernel
theorem dX6_shareOf_49 : decode cX6_shareOf 49 = .ok (.lstore 6, 2) := by decide +kernel
theorem dX6_shareOf_51 : decode cX6_shareOf 51 = .ok (.iconst 0, 1) := by decide +kernel
theorem dX6_shareOf_52 : decode cX6_shareOf 52 = .ok (.istore 8, 2) := by decide +kernel
theorem dX6_shareOf_54 : decode cX6_shareOf 54 = .ok (.lload 4, 2) := by decide +kernel
theorem dX6_shareOf_56 : decode cX6_shareOf 56 = .ok (.aload_n 0, 1) := by decide +kernel
theorem dX6_shareOf_57 : decode cX6_shareOf 57 = .ok (.getfield 15, 3) := by decide +kernel
theorem dX6_shareOf_60 : decode cX6_shareOf 60 = .ok (.iload_n 1, 1) := by decide +kernel
theorem dX6_shareOf_61 : decode cX6_shareOf 61 = .ok (.laload, 1) := by decide +kernel
theorem dX6_shareOf_62 : decode cX6_shareOf 62 = .ok (.lmul, 1) := by decide +kernel
theorem dX6_shareOf_63 : decode cX6_shareOf 63 = .ok (.lload_n 2, 1) := by decide +kernel
theorem dX6_shareOf_64 : decode cX6_shareOf 64 = .ok (.lrem, 1) := by decide +kernel
theorem dX6_shareOf_65 : decode cX6_shareOf 65 = .ok (.lstore 9, 2) := by decide +kernel
theorem dX6_shareOf_67 : decode cX6_shareOf 67 = .ok (.iconst 0, 1) := by decide +kernel
theorem dX6_shareOf_68 : decode cX6_shareOf 68 = .ok (.istore 11, 2) := by decide +kernel
theorem dX6_shareOf_70 : decode cX6_shareOf 70 = .ok (.iload 11, 2) := by decide +kernel
theorem dX6_shareOf_72 : decode cX6_shareOf 72 = .ok (.aload_n 0, 1) := by decide +kernel
theorem dX6_shareOf_73 : decode cX6_shareOf 73 = .ok (.getfield 15, 3) := by decide +kernel
theorem dX6_shareOf_76 : decode cX6_shareOf 76 = .ok (.arraylength, 1) := by decide +kernel
theorem dX6_shareOf_77 : decode cX6_shareOf 77 = .ok (.if_icmp .ge 65, 3) := by decide +kernel
theorem dX6_shareOf_80 : decode cX6_shareOf 80 = .ok (.lload 6, 2) := by decide +kernel
theorem dX6_shareOf_82 : decode cX6_shareOf 82 = .ok (.lload 4, 2) := by decide +kernel
theorem dX6_shareOf_84 : decode cX6_shareOf 84 = .ok (.aload_n 0, 1) := by decide +kernel
theorem dX6_shareOf_85 : decode cX6_shareOf 85 = .ok (.getfield 15, 3) := by decide +kernel
theorem dX6_shareOf_88 : decode cX6_shareOf 88 = .ok (.iload 11, 2) := by decide +kernel
theorem dX6_shareOf_90 : decode cX6_shareOf 90 = .ok (.laload, 1) := by decide +kernel
theorem dX6_shareOf_91 : decode cX6_shareOf 91 = .ok (.lmul, 1) := by decide +kernel
theorem dX6_shareOf_92 : decode cX6_shareOf 92 = .ok (.lload_n 2, 1) := by decide +kernel
theorem dX6_shareOf_93 : decode cX6_shareOf 93 = .ok (.ldiv, 1) := by decide +kernel
theorem dX6_shareOf_94 : decode cX6_shareOf 94 = .ok (.lsub, 1) := by decide +kernel
theorem dX6_shareOf_95 : decode cX6_shareOf 95 = .ok (.lstore 6, 2) := by decide +kernel
theorem dX6_shareOf_97 : decode cX6_shareOf 97 = .ok (.lload 4, 2) := by decide +kernel
theorem dX6_shareOf_99 : decode cX6_shareOf 99 = .ok (.aload_n 0, 1) := by decide +kernel
theorem dX6_shareOf_100 : decode cX6_shareOf 100 = .ok (.getfield 15, 3) := by decide +kernel
theorem dX6_shareOf_103 : decode cX6_shareOf 103 = .ok (.iload 11, 2) := by decide +kernel
theorem dX6_shareOf_105 : decode cX6_shareOf 105 = .ok (.laload, 1) := by decide +kernel
theorem dX6_shareOf_106 : decode cX6_shareOf 106 = .ok (.lmul, 1) := by decide +kernel
theorem dX6_shareOf_107 : decode cX6_shareOf 107 = .ok (.lload_n 2, 1) := by decide +kernel
theorem dX6_shareOf_108 : decode cX6_shareOf 108 = .ok (.lrem, 1) := by decide +kernel
theorem dX6_shareOf_109 : decode cX6_shareOf 109 = .ok (.lstore 12, 2) := by decide +kernel
theorem dX6_shareOf_111 : decode cX6_shareOf 111 = .ok (.lload 12, 2) := by decide +kernel
theorem dX6_shareOf_113 : decode cX6_shareOf 113 = .ok (.lload 9, 2) := by decide +kernel
theorem dX6_shareOf_115 : decode cX6_shareOf 115 = .ok (.lcmp, 1) := by decide +kernel
theorem dX6_shareOf_116 : decode cX6_shareOf 116 = .ok (.ifCond .gt 17, 3) := by decide +kernel
theorem dX6_shareOf_119 : decode cX6_shareOf 119 = .ok (.lload 12, 2) := by decide +kernel
theorem dX6_shareOf_121 : decode cX6_shareOf 121 = .ok (.lload 9, 2) := by decide +kernel
theorem dX6_shareOf_123 : decode cX6_shareOf 123 = .ok (.lcmp, 1) := by decide +kernel
theorem dX6_shareOf_124 : decode cX6_shareOf 124 = .ok (.ifCond .ne 12, 3) := by decide +kernel
theorem dX6_shareOf_127 : decode cX6_shareOf 127 = .ok (.iload 11, 2) := by decide +kernel
theorem dX6_shareOf_129 : decode cX6_shareOf 129 = .ok (.iload_n 1, 1) := by decide +kernel
theorem dX6_shareOf_130 : decode cX6_shareOf 130 = .ok (.if_icmp .ge 6, 3) := by decide +kernel
theorem dX6_shareOf_133 : decode cX6_shareOf 133 = .ok (.iinc 8 1, 3) := by decide +kernel
theorem dX6_shareOf_136 : decode cX6_shareOf 136 = .ok (.iinc 11 1, 3) := by decide +kernel
theorem dX6_shareOf_139 : decode cX6_shareOf 139 = .ok (.goto (-69), 3) := by decide +kernel
theorem dX6_shareOf_142 : decode cX6_shareOf 142 = .ok (.lload 4, 2) := by decide +kernel
theorem dX6_shareOf_144 : decode cX6_shareOf 144 = .ok (.aload_n 0, 1) := by decide +kernel
theorem dX6_shareOf_145 : decode cX6_shareOf 145 = .ok (.getfield 15, 3) := by decide +kernel
theorem dX6_shareOf_148 : decode cX6_shareOf 148 = .ok (.iload_n 1, 1) := by decide +kernel
theorem dX6_shareOf_149 : decode cX6_shareOf 149 = .ok (.laload, 1) := by decide +kernel
theorem dX6_shareOf_150 : decode cX6_shareOf 150 = .ok (.lmul, 1) := by decide +kernel
theorem dX6_shareOf_151 : decode cX6_shareOf 151 = .ok (.lload_n 2, 1) := by decide +kernel
theorem dX6_shareOf_152 : decode cX6_shareOf 152 = .ok (.ldiv, 1) := by decide +kernel
theorem dX6_shareOf_153 : decode cX6_shareOf 153 = .ok (.lstore 11, 2) := by decide +kernel
theorem dX6_shareOf_155 : decode cX6_shareOf 155 = .ok (.iload 8, 2) := by decide +kernel
theorem dX6_shareOf_157 : decode cX6_shareOf 157 = .ok (.i2l, 1) := by decide +kernel
theorem dX6_shareOf_158 : decode cX6_shareOf 158 = .ok (.lload 6, 2) := by decide +kernel
theorem dX6_shareOf_160 : decode cX6_shareOf 160 = .ok (.lcmp, 1) := by decide +kernel
theorem dX6_shareOf_161 : decode cX6_shareOf 161 = .ok (.ifCond .ge 10, 3) := by decide +kernel
theorem dX6_shareOf_164 : decode cX6_shareOf 164 = .ok (.lload 11, 2) := by decide +kernel
theorem dX6_shareOf_166 : decode cX6_shareOf 166 = .ok (.lconst 1, 1) := by decide +kernel
theorem dX6_shareOf_167 : decode cX6_shareOf 167 = .ok (.ladd, 1) := by decide +kernel
theorem dX6_shareOf_168 : decode cX6_shareOf 168 = .ok (.goto 5, 3) := by decide +kernel
theorem dX6_shareOf_171 : decode cX6_shareOf 171 = .ok (.lload 11, 2) := by decide +kernel
theorem dX6_shareOf_173 : decode cX6_shareOf 173 = .ok (.lreturn, 1) := by decide +kernel
theorem dX6_totalWeight_0 : decode cX6_totalWeight 0 = .ok (.lconst 0, 1) := by decide +kernel
theorem dX6_totalWeight_1 : decode cX6_totalWeight 1 = .ok (.lstore_n 1, 1) := by decide +kernel
theorem dX6_totalWeight_2 : decode cX6_totalWeight 2 = .ok (.aload_n 0, 1) := by decide +kernel
theorem dX6_totalWeight_3 : decode cX6_totalWeight 3 = .ok (.getfield 15, 3) := by decide +kernel
theorem dX6_totalWeight_6 : decode cX6_totalWeight 6 = .ok (.astore_n 3, 1) := by decide +kernel
theorem dX6_totalWeight_7 : decode cX6_totalWeight 7 = .ok (.aload_n 3, 1) := by decide +kernel
theorem dX6_totalWeight_8 : decode cX6_totalWeight 8 = .ok (.arraylength, 1) := by decide +kernel
theorem dX6_totalWeight_9 : decode cX6_totalWeight 9 = .ok (.istore 4, 2) := by decide +kernel
theorem dX6_totalWeight_11 : decode cX6_totalWeight 11 = .ok (.iconst 0, 1) := by decide +kernel
theorem dX6_totalWeight_12 : decode cX6_totalWeight 12 = .ok (.istore 5, 2) := by decide +kernel
theorem dX6_totalWeight_14 : decode cX6_totalWeight 14 = .ok (.iload 5, 2) := by decide +kernel
theorem dX6_totalWeight_16 : decode cX6_totalWeight 16 = .ok (.iload 4, 2) := by decide +kernel
theorem dX6_totalWeight_18 : decode cX6_totalWeight 18 = .ok (.if_icmp .ge 20, 3) := by decide +kernel
theorem dX6_totalWeight_21 : decode cX6_totalWeight 21 = .ok (.aload_n 3, 1) := by decide +kernel
theorem dX6_totalWeight_22 : decode cX6_totalWeight 22 = .ok (.iload 5, 2) := by decide +kernel
theorem dX6_totalWeight_24 : decode cX6_totalWeight 24 = .ok (.laload, 1) := by decide +kernel
theorem dX6_totalWeight_25 : decode cX6_totalWeight 25 = .ok (.lstore 6, 2) := by decide +kernel
theorem dX6_totalWeight_27 : decode cX6_totalWeight 27 = .ok (.lload_n 1, 1) := by decide +kernel
theorem dX6_totalWeight_28 : decode cX6_totalWeight 28 = .ok (.lload 6, 2) := by decide +kernel
theorem dX6_totalWeight_30 : decode cX6_totalWeight 30 = .ok (.ladd, 1) := by decide +kernel
theorem dX6_totalWeight_31 : decode cX6_totalWeight 31 = .ok (.lstore_n 1, 1) := by decide +kernel
theorem dX6_totalWeight_32 : decode cX6_totalWeight 32 = .ok (.iinc 5 1, 3) := by decide +kernel
theorem dX6_totalWeight_35 : decode cX6_totalWeight 35 = .ok (.goto (-21), 3) := by decide +kernel
theorem dX6_totalWeight_38 : decode cX6_totalWeight 38 = .ok (.lload_n 1, 1) := by decide +kernel
theorem dX6_totalWeight_39 : decode cX6_totalWeight 39 = .ok (.lreturn, 1) := by decide +kernel
theorem dX7_init_0 : decode cX7_init 0 = .ok (.aload_n 0, 1) := by decide +kernel
theorem dX7_init_1 : decode cX7_init 1 = .ok (.invokespecial 3, 3) := by decide +kernel
theorem dX7_init_4 : decode cX7_init 4 = .ok (.aload_n 0, 1) := by decide +kernel
theorem dX7_init_5 : decode cX7_init 5 = .ok (.new 9, 3) := by decide +kernel
theorem dX7_init_8 : decode cX7_init 8 = .ok (.dup, 1) := by decide +kernel
theorem dX7_init_9 : decode cX7_init 9 = .ok (.invokespecial 11, 3) := by decide +kernel
theorem dX7_init_12 : decode cX7_init 12 = .ok (.putfield 12, 3) := by decide +kernel
theorem dX7_init_15 : decode cX7_init 15 = .ok (.aload_n 0, 1) := by decide +kernel
theorem dX7_init_16 : decode cX7_init 16 = .ok (.new 16, 3) := by decide +kernel
theorem dX7_init_19 : decode cX7_init 19 = .ok (.dup, 1) := by decide +kernel
theorem dX7_init_20 : decode cX7_init 20 = .ok (.invokespecial 18, 3) := by decide +kernel
theorem dX7_init_23 : decode cX7_init 23 = .ok (.putfield 19, 3) := by decide +kernel
theorem dX7_init_26 : decode cX7_init 26 = .ok (.aload_n 0, 1) := by decide +kernel
theorem dX7_init_27 : decode cX7_init 27 = .ok (.sipush 400, 3) := by decide +kernel
theorem dX7_init_30 : decode cX7_init 30 = .ok (.newarray .int, 2) := by decide +kernel
theorem dX7_init_32 : decode cX7_init 32 = .ok (.putfield 23, 3) := by decide +kernel
theorem dX7_init_35 : decode cX7_init 35 = .ok (.aload_n 0, 1) := by decide +kernel
theorem dX7_init_36 : decode cX7_init 36 = .ok (.iconst 0, 1) := by decide +kernel
theorem dX7_init_37 : decode cX7_init 37 = .ok (.putfield 27, 3) := by decide +kernel
theorem dX7_init_40 : decode cX7_init 40 = .ok (.aload_n 0, 1) := by decide +kernel
theorem dX7_init_41 : decode cX7_init 41 = .ok (.iconst 0, 1) := by decide +kernel
theorem dX7_init_42 : decode cX7_init 42 = .ok (.putfield 31, 3) := by decide +kernel
theorem dX7_init_45 : decode cX7_init 45 = .ok (.aload_n 0, 1) := by decide +kernel
theorem dX7_init_46 : decode cX7_init 46 = .ok (.new 34, 3) := by decide +kernel
theorem dX7_init_49 : decode cX7_init 49 = .ok (.dup, 1) := by decide +kernel
theorem dX7_init_50 : decode cX7_init 50 = .ok (.invokespecial 36, 3) := by decide +kernel
theorem dX7_init_53 : decode cX7_init 53 = .ok (.putfield 37, 3) := by decide +kernel
theorem dX7_init_56 : decode cX7_init 56 = .ok (.aload_n 0, 1) := by decide +kernel
theorem dX7_init_57 : decode cX7_init 57 = .ok (.new 41, 3) := by decide +kernel
theorem dX7_init_60 : decode cX7_init 60 = .ok (.dup, 1) := by decide +kernel
theorem dX7_init_61 : decode cX7_init 61 = .ok (.invokespecial 43, 3) := by decide +kernel
theorem dX7_init_64 : decode cX7_init 64 = .ok (.putfield 44, 3) := by decide +kernel
theorem dX7_init_67 : decode cX7_init 67 = .ok (.return_, 1) := by decide +kernel
theorem dX7_follows_0 : decode cX7_follows 0 = .ok (.iload_n 1, 1) := by decide +kernel
theorem dX7_follows_1 : decode cX7_follows 1 = .ok (.ifCond .lt 26, 3) := by decide +kernel
theorem dX7_follows_4 : decode cX7_follows 4 = .ok (.iload_n 1, 1) := by decide +kernel
theorem dX7_follows_5 : decode cX7_follows 5 = .ok (.ldc 48, 2) := by decide +kernel
theorem dX7_follows_7 : decode cX7_follows 7 = .ok (.if_icmp .gt 20, 3) := by decide +kernel
theorem dX7_follows_10 : decode cX7_follows 10 = .ok (.iconst 1, 1) := by decide +kernel
theorem dX7_follows_11 : decode cX7_follows 11 = .ok (.iload_n 2, 1) := by decide +kernel
theorem dX7_follows_12 : decode cX7_follows 12 = .ok (.i2l, 1) := by decide +kernel
theorem dX7_follows_13 : decode cX7_follows 13 = .ok (.invokestatic 49, 3) := by decide +kernel
theorem dX7_follows_16 : decode cX7_follows 16 = .ok (.ifCond .eq 11, 3) := by decide +kernel
theorem dX7_follows_19 : decode cX7_follows 19 = .ok (.iconst 4, 1) := by decide +kernel
theorem dX7_follows_20 : decode cX7_follows 20 = .ok (.lload_n 3, 1) := by decide +kernel
theorem dX7_follows_21 : decode cX7_follows 21 = .ok (.invokestatic 49, 3) := by decide +kernel
theorem dX7_follows_24 : decode cX7_follows 24 = .ok (.ifCond .ne 5, 3) := by decide +kernel
theorem dX7_follows_27 : decode cX7_follows 27 = .ok (.iconst 0, 1) := by decide +kernel
theorem dX7_follows_28 : decode cX7_follows 28 = .ok (.ireturn, 1) := by decide +kernel
theorem dX7_follows_29 : decode cX7_follows 29 = .ok (.aload_n 0, 1) := by decide +kernel
theorem dX7_follows_30 : decode cX7_follows 30 = .ok (.getfield 12, 3) := by decide +kernel
theorem dX7_follows_33 : decode cX7_follows 33 = .ok (.iload_n 1, 1) := by decide +kernel
theorem dX7_follows_34 : decode cX7_follows 34 = .ok (.iload_n 2, 1) := by decide +kernel
theorem dX7_follows_35 : decode cX7_follows 35 = .ok (.lload_n 3, 1) := by decide +kernel
theorem dX7_follows_36 : decode cX7_follows 36 = .ok (.invokevirtual 53, 3) := by decide +kernel
theorem dX7_follows_39 : decode cX7_follows 39 = .ok (.ireturn, 1) := by decide +kernel
theorem dX7_ticket_0 : decode cX7_ticket 0 = .ok (.iconst 1, 1) := by decide +kernel
theorem dX7_ticket_1 : decode cX7_ticket 1 = .ok (.iload_n 1, 1) := by decide +kernel
theorem dX7_ticket_2 : decode cX7_ticket 2 = .ok (.i2l, 1) := by decide +kernel
theorem dX7_ticket_3 : decode cX7_ticket 3 = .ok (.invokestatic 49, 3) := by decide +kernel
theorem dX7_ticket_6 : decode cX7_ticket 6 = .ok (.ifCond .eq 41, 3) := by decide +kernel
theorem dX7_ticket_9 : decode cX7_ticket 9 = .ok (.iconst 2, 1) := by decide +kernel
theorem dX7_ticket_10 : decode cX7_ticket 10 = .ok (.iload_n 2, 1) := by decide +kernel
theorem dX7_ticket_11 : decode cX7_ticket 11 = .ok (.i2l, 1) := by decide +kernel
theorem dX7_ticket_12 : decode cX7_ticket 12 = .ok (.invokestatic 49, 3) := by decide +kernel
theorem dX7_ticket_15 : decode cX7_ticket 15 = .ok (.ifCond .eq 32, 3) := by decide +kernel
theorem dX7_ticket_18 : decode cX7_ticket 18 = .ok (.iconst 3, 1) := by decide +kernel
theorem dX7_ticket_19 : decode cX7_ticket 19 = .ok (.lload_n 3, 1) := by decide +kernel
theorem dX7_ticket_20 : decode cX7_ticket 20 = .ok (.invokestatic 49, 3) := by decide +kernel
theorem dX7_ticket_23 : decode cX7_ticket 23 = .ok (.ifCond .eq 24, 3) := by decide +kernel
theorem dX7_ticket_26 : decode cX7_ticket 26 = .ok (.bipush 6, 2) := by decide +kernel
theorem dX7_ticket_28 : decode cX7_ticket 28 = .ok (.lload 7, 2) := by decide +kernel
theorem dX7_ticket_30 : decode cX7_ticket 30 = .ok (.invokestatic 49, 3) := by decide +kernel
theorem dX7_ticket_33 : decode cX7_ticket 33 = .ok (.ifCond .eq 14, 3) := by decide +kernel
theorem dX7_ticket_36 : decode cX7_ticket 36 = .ok (.bipush 7, 2) := by decide +kernel
theorem dX7_ticket_38 : decode cX7_ticket 38 = .ok (.iload 9, 2) := by decide +kernel
theorem dX7_ticket_40 : decode cX7_ticket 40 = .ok (.i2l, 1) := by decide +kernel
theorem dX7_ticket_41 : decode cX7_ticket 41 = .ok (.invokestatic 49, 3) := by decide +kernel
theorem dX7_ticket_44 : decode cX7_ticket 44 = .ok (.ifCond .ne 5, 3) := by decide +kernel
theorem dX7_ticket_47 : decode cX7_ticket 47 = .ok (.iconst (-1), 1) := by decide +kernel
theorem dX7_ticket_48 : decode cX7_ticket 48 = .ok (.ireturn, 1) := by decide +kernel
theorem dX7_ticket_49 : decode cX7_ticket 49 = .ok (.lload 5, 2) := by decide +kernel
theorem dX7_ticket_51 : decode cX7_ticket 51 = .ok (.ldc2_w 57, 3) := by decide +kernel
theorem dX7_ticket_54 : decode cX7_ticket 54 = .ok (.lcmp, 1) := by decide +kernel
theorem dX7_ticket_55 : decode cX7_ticket 55 = .ok (.ifCond .ne 19, 3) := by decide +kernel
theorem dX7_ticket_58 : decode cX7_ticket 58 = .ok (.aload_n 0, 1) := by decide +kernel
theorem dX7_ticket_59 : decode cX7_ticket 59 = .ok (.getfield 12, 3) := by decide +kernel
theorem dX7_ticket_62 : decode cX7_ticket 62 = .ok (.lload 7, 2) := by decide +kernel
theorem dX7_ticket_64 : decode cX7_ticket 64 = .ok (.invokestatic 59, 3) := by decide +kernel
theorem dX7_ticket_67 : decode cX7_ticket 67 = .ok (.iload_n 1, 1) := by decide +kernel
theorem dX7_ticket_68 : decode cX7_ticket 68 = .ok (.invokevirtual 63, 3) := by decide +kernel
theorem dX7_ticket_71 : decode cX7_ticket 71 = .ok (.goto 5, 3) := by decide +kernel
theorem dX7_ticket_74 : decode cX7_ticket 74 = .ok (.lload 5, 2) := by decide +kernel
theorem dX7_ticket_76 : decode cX7_ticket 76 = .ok (.lstore 10, 2) := by decide +kernel
theorem dX7_ticket_78 : decode cX7_ticket 78 = .ok (.iconst 4, 1) := by decide +kernel
theorem dX7_ticket_79 : decode cX7_ticket 79 = .ok (.lload 10, 2) := by decide +kernel
theorem dX7_ticket_81 : decode cX7_ticket 81 = .ok (.invokestatic 49, 3) := by decide +kernel
theorem dX7_ticket_84 : decode cX7_ticket 84 = .ok (.ifCond .eq 23, 3) := by decide +kernel
theorem dX7_ticket_87 : decode cX7_ticket 87 = .ok (.aload_n 0, 1) := by decide +kernel
theorem dX7_ticket_88 : decode cX7_ticket 88 = .ok (.getfield 37, 3) := by decide +kernel
theorem dX7_ticket_91 : decode cX7_ticket 91 = .ok (.invokevirtual 67, 3) := by decide +kernel
theorem dX7_ticket_94 : decode cX7_ticket 94 = .ok (.ifCond .ne 13, 3) := by decide +kernel
theorem dX7_ticket_97 : decode cX7_ticket 97 = .ok (.aload_n 0, 1) := by decide +kernel
theorem dX7_ticket_98 : decode cX7_ticket 98 = .ok (.getfield 31, 3) := by decide +kernel
theorem dX7_ticket_101 : decode cX7_ticket 101 = .ok (.sipush 400, 3) := by decide +kernel
theorem dX7_ticket_104 : decode cX7_ticket 104 = .ok (.if_icmp .lt 5, 3) := by decide +kernel
theorem dX7_ticket_107 : decode cX7_ticket 107 = .ok (.iconst (-1), 1) := by decide +kernel
theorem dX7_ticket_108 : decode cX7_ticket 108 = .ok (.ireturn, 1) := by decide +kernel
theorem dX7_ticket_109 : decode cX7_ticket 109 = .ok (.lload_n 3, 1) := by decide +kernel
theorem dX7_ticket_110 : decode cX7_ticket 110 = .ok (.lload 10, 2) := by decide +kernel
theorem dX7_ticket_112 : decode cX7_ticket 112 = .ok (.lcmp, 1) := by decide +kernel
theorem dX7_ticket_113 : decode cX7_ticket 113 = .ok (.ifCond .ge 8, 3) := by decide +kernel
theorem dX7_ticket_116 : decode cX7_ticket 116 = .ok (.aload_n 0, 1) := by decide +kernel
theorem dX7_ticket_117 : decode cX7_ticket 117 = .ok (.invokevirtual 71, 3) := by decide +kernel
theorem dX7_ticket_120 : decode cX7_ticket 120 = .ok (.ireturn, 1) := by decide +kernel
theorem dX7_ticket_121 : decode cX7_ticket 121 = .ok (.new 75, 3) := by decide +kernel
theorem dX7_ticket_124 : decode cX7_ticket 124 = .ok (.dup, 1) := by decide +kernel
theorem dX7_ticket_125 : decode cX7_ticket 125 = .ok (.aload_n 0, 1) := by decide +kernel
theorem dX7_ticket_126 : decode cX7_ticket 126 = .ok (.getfield 31, 3) := by decide +kernel
theorem dX7_ticket_129 : decode cX7_ticket 129 = .ok (.iload_n 1, 1) := by decide +kernel
theorem dX7_ticket_130 : decode cX7_ticket 130 = .ok (.iload_n 2, 1) := by decide +kernel
theorem dX7_ticket_131 : decode cX7_ticket 131 = .ok (.lload_n 3, 1) := by decide +kernel
theorem dX7_ticket_132 : decode cX7_ticket 132 = .ok (.lload 10, 2) := by decide +kernel
theorem dX7_ticket_134 : decode cX7_ticket 134 = .ok (.lload 7, 2) := by decide +kernel
theorem dX7_ticket_136 : decode cX7_ticket 136 = .ok (.iload 9, 2) := by decide +kernel
theorem dX7_ticket_138 : decode cX7_ticket 138 = .ok (.invokespecial 77, 3) := by decide +kernel
theorem dX7_ticket_141 : decode cX7_ticket 141 = .ok (.astore 12, 2) := by decide +kernel
theorem dX7_ticket_143 : decode cX7_ticket 143 = .ok (.aload_n 0, 1) := by decide +kernel
theorem dX7_ticket_144 : decode cX7_ticket 144 = .ok (.dup, 1) := by decide +kernel
theorem dX7_ticket_145 : decode cX7_ticket 145 = .ok (.getfield 31, 3) := by decide +kernel
theorem dX7_ticket_148 : decode cX7_ticket 148 = .ok (.iconst 1, 1) := by decide +kernel
theorem dX7_ticket_149 : decode cX7_ticket 149 = .ok (.iadd, 1) := by decide +kernel
theorem dX7_ticket_150 : decode cX7_ticket 150 = .ok (.putfield 31, 3) := by decide +kernel
theorem dX7_ticket_153 : decode cX7_ticket 153 = .ok (.aload_n 0, 1) := by decide +kernel
theorem dX7_ticket_154 : decode cX7_ticket 154 = .ok (.getfield 19, 3) := by decide +kernel
theorem dX7_ticket_157 : decode cX7_ticket 157 = .ok (.aload 12, 2) := by decide +kernel
theorem dX7_ticket_159 : decode cX7_ticket 159 = .ok (.invokevirtual 80, 3) := by decide +kernel
theorem dX7_ticket_162 : decode cX7_ticket 162 = .ok (.pop, 1) := by decide +kernel
theorem dX7_ticket_163 : decode cX7_ticket 163 = .ok (.aload_n 0, 1) := by decide +kernel
theorem dX7_ticket_164 : decode cX7_ticket 164 = .ok (.getfield 37, 3) := by decide +kernel
theorem dX7_ticket_167 : decode cX7_ticket 167 = .ok (.aload 12, 2) := by decide +kernel
theorem dX7_ticket_169 : decode cX7_ticket 169 = .ok (.invokestatic 84, 3) := by decide +kernel
theorem dX7_ticket_172 : decode cX7_ticket 172 = .ok (.invokevirtual 88, 3) := by decide +kernel
theorem dX7_ticket_175 : decode cX7_ticket 175 = .ok (.pop, 1) := by decide +kernel
theorem dX7_ticket_176 : decode cX7_ticket 176 = .ok (.aload_n 0, 1) := by decide +kernel
theorem dX7_ticket_177 : decode cX7_ticket 177 = .ok (.getfield 19, 3) := by decide +kernel
theorem dX7_ticket_180 : decode cX7_ticket 180 = .ok (.invokevirtual 92, 3) := by decide +kernel
theorem dX7_ticket_183 : decode cX7_ticket 183 = .ok (.iconst 1, 1) := by decide +kernel
theorem dX7_ticket_184 : decode cX7_ticket 184 = .ok (.isub, 1) := by decide +kernel
theorem dX7_ticket_185 : decode cX7_ticket 185 = .ok (.ireturn, 1) := by decide +kernel
theorem dX7_correct_0 : decode cX7_correct 0 = .ok (.aload_n 0, 1) := by decide +kernel
theorem dX7_correct_1 : decode cX7_correct 1 = .ok (.iload_n 1, 1) := by decide +kernel
theorem dX7_correct_2 : decode cX7_correct 2 = .ok (.invokevirtual 95, 3) := by decide +kernel
theorem dX7_correct_5 : decode cX7_correct 5 = .ok (.astore 6, 2) := by decide +kernel
theorem dX7_correct_7 : decode cX7_correct 7 = .ok (.aload 6, 2) := by decide +kernel
theorem dX7_correct_9 : decode cX7_correct 9 = .ok (.ifnull 22, 3) := by decide +kernel
theorem dX7_correct_12 : decode cX7_correct 12 = .ok (.iload_n 2, 1) := by decide +kernel
theorem dX7_correct_13 : decode cX7_correct 13 = .ok (.lload_n 3, 1) := by decide +kernel
theorem dX7_correct_14 : decode cX7_correct 14 = .ok (.invokestatic 49, 3) := by decide +kernel
theorem dX7_correct_17 : decode cX7_correct 17 = .ok (.ifCond .eq 14, 3) := by decide +kernel
theorem dX7_correct_20 : decode cX7_correct 20 = .ok (.bipush 7, 2) := by decide +kernel
theorem dX7_correct_22 : decode cX7_correct 22 = .ok (.iload 5, 2) := by decide +kernel
theorem dX7_correct_24 : decode cX7_correct 24 = .ok (.i2l, 1) := by decide +kernel
theorem dX7_correct_25 : decode cX7_correct 25 = .ok (.invokestatic 49, 3) := by decide +kernel
theorem dX7_correct_28 : decode cX7_correct 28 = .ok (.ifCond .ne 5, 3) := by decide +kernel
theorem dX7_correct_31 : decode cX7_correct 31 = .ok (.iconst (-1), 1) := by decide +kernel
theorem dX7_correct_32 : decode cX7_correct 32 = .ok (.ireturn, 1) := by decide +kernel
theorem dX7_correct_33 : decode cX7_correct 33 = .ok (.aload 6, 2) := by decide +kernel
theorem dX7_correct_35 : decode cX7_correct 35 = .ok (.invokevirtual 99, 3) := by decide +kernel
theorem dX7_correct_38 : decode cX7_correct 38 = .ok (.ifCond .ne 23, 3) := by decide +kernel
theorem dX7_correct_41 : decode cX7_correct 41 = .ok (.aload 6, 2) := by decide +kernel
theorem dX7_correct_43 : decode cX7_correct 43 = .ok (.iload_n 2, 1) := by decide +kernel
theorem dX7_correct_44 : decode cX7_correct 44 = .ok (.lload_n 3, 1) := by decide +kernel
theorem dX7_correct_45 : decode cX7_correct 45 = .ok (.invokevirtual 102, 3) := by decide +kernel
theorem dX7_correct_48 : decode cX7_correct 48 = .ok (.ifCond .eq 13, 3) := by decide +kernel
theorem dX7_correct_51 : decode cX7_correct 51 = .ok (.aload_n 0, 1) := by decide +kernel
theorem dX7_correct_52 : decode cX7_correct 52 = .ok (.getfield 37, 3) := by decide +kernel
theorem dX7_correct_55 : decode cX7_correct 55 = .ok (.invokevirtual 67, 3) := by decide +kernel
theorem dX7_correct_58 : decode cX7_correct 58 = .ok (.ifCond .eq 5, 3) := by decide +kernel
theorem dX7_correct_61 : decode cX7_correct 61 = .ok (.iconst (-1), 1) := by decide +kernel
theorem dX7_correct_62 : decode cX7_correct 62 = .ok (.ireturn, 1) := by decide +kernel
theorem dX7_correct_63 : decode cX7_correct 63 = .ok (.aload 6, 2) := by decide +kernel
theorem dX7_correct_65 : decode cX7_correct 65 = .ok (.iload_n 2, 1) := by decide +kernel
theorem dX7_correct_66 : decode cX7_correct 66 = .ok (.lload_n 3, 1) := by decide +kernel
theorem dX7_correct_67 : decode cX7_correct 67 = .ok (.invokevirtual 105, 3) := by decide +kernel
theorem dX7_correct_70 : decode cX7_correct 70 = .ok (.aload_n 0, 1) := by decide +kernel
theorem dX7_correct_71 : decode cX7_correct 71 = .ok (.getfield 37, 3) := by decide +kernel
theorem dX7_correct_74 : decode cX7_correct 74 = .ok (.aload 6, 2) := by decide +kernel
theorem dX7_correct_76 : decode cX7_correct 76 = .ok (.iload_n 2, 1) := by decide +kernel
theorem dX7_correct_77 : decode cX7_correct 77 = .ok (.lload_n 3, 1) := by decide +kernel
theorem dX7_correct_78 : decode cX7_correct 78 = .ok (.iload 5, 2) := by decide +kernel
theorem dX7_correct_80 : decode cX7_correct 80 = .ok (.invokestatic 109, 3) := by decide +kernel
theorem dX7_correct_83 : decode cX7_correct 83 = .ok (.invokevirtual 88, 3) := by decide +kernel
theorem dX7_correct_86 : decode cX7_correct 86 = .ok (.ireturn, 1) := by decide +kernel
theorem dX7_voids_0 : decode cX7_voids 0 = .ok (.aload_n 0, 1) := by decide +kernel
theorem dX7_voids_1 : decode cX7_voids 1 = .ok (.iload_n 1, 1) := by decide +kernel
theorem dX7_voids_2 : decode cX7_voids 2 = .ok (.invokevirtual 95, 3) := by decide +kernel
theorem dX7_voids_5 : decode cX7_voids 5 = .ok (.astore_n 3, 1) := by decide +kernel
theorem dX7_voids_6 : decode cX7_voids 6 = .ok (.aload_n 3, 1) := by decide +kernel
theorem dX7_voids_7 : decode cX7_voids 7 = .ok (.ifnull 31, 3) := by decide +kernel
theorem dX7_voids_10 : decode cX7_voids 10 = .ok (.iload_n 2, 1) := by decide +kernel
theorem dX7_voids_11 : decode cX7_voids 11 = .ok (.iconst 1, 1) := by decide +kernel
theorem dX7_voids_12 : decode cX7_voids 12 = .ok (.if_icmp .lt 26, 3) := by decide +kernel
theorem dX7_voids_15 : decode cX7_voids 15 = .ok (.iload_n 2, 1) := by decide +kernel
theorem dX7_voids_16 : decode cX7_voids 16 = .ok (.bipush 99, 2) := by decide +kernel
theorem dX7_voids_18 : decode cX7_voids 18 = .ok (.if_icmp .gt 20, 3) := by decide +kernel
theorem dX7_voids_21 : decode cX7_voids 21 = .ok (.aload_n 3, 1) := by decide +kernel
theorem dX7_voids_22 : decode cX7_voids 22 = .ok (.invokevirtual 99, 3) := by decide +kernel
theorem dX7_voids_25 : decode cX7_voids 25 = .ok (.ifCond .ne 13, 3) := by decide +kernel
theorem dX7_voids_28 : decode cX7_voids 28 = .ok (.aload_n 0, 1) := by decide +kernel
theorem dX7_voids_29 : decode cX7_voids 29 = .ok (.getfield 37, 3) := by decide +kernel
theorem dX7_voids_32 : decode cX7_voids 32 = .ok (.invokevirtual 67, 3) := by decide +kernel
theorem dX7_voids_35 : decode cX7_voids 35 = .ok (.ifCond .eq 5, 3) := by decide +kernel
theorem dX7_voids_38 : decode cX7_voids 38 = .ok (.iconst (-1), 1) := by decide +kernel
theorem dX7_voids_39 : decode cX7_voids 39 = .ok (.ireturn, 1) := by decide +kernel
theorem dX7_voids_40 : decode cX7_voids 40 = .ok (.aload_n 3, 1) := by decide +kernel
theorem dX7_voids_41 : decode cX7_voids 41 = .ok (.bipush 8, 2) := by decide +kernel
theorem dX7_voids_43 : decode cX7_voids 43 = .ok (.iload_n 2, 1) := by decide +kernel
theorem dX7_voids_44 : decode cX7_voids 44 = .ok (.i2l, 1) := by decide +kernel
theorem dX7_voids_45 : decode cX7_voids 45 = .ok (.invokevirtual 105, 3) := by decide +kernel
theorem dX7_voids_48 : decode cX7_voids 48 = .ok (.aload_n 0, 1) := by decide +kernel
theorem dX7_voids_49 : decode cX7_voids 49 = .ok (.getfield 37, 3) := by decide +kernel
theorem dX7_voids_52 : decode cX7_voids 52 = .ok (.aload_n 3, 1) := by decide +kernel
theorem dX7_voids_53 : decode cX7_voids 53 = .ok (.iload_n 2, 1) := by decide +kernel
theorem dX7_voids_54 : decode cX7_voids 54 = .ok (.invokestatic 113, 3) := by decide +kernel
theorem dX7_voids_57 : decode cX7_voids 57 = .ok (.invokevirtual 88, 3) := by decide +kernel
theorem dX7_voids_60 : decode cX7_voids 60 = .ok (.ireturn, 1) := by decide +kernel
theorem dX7_at_0 : decode cX7_at 0 = .ok (.aload_n 0, 1) := by decide +kernel
theorem dX7_at_1 : decode cX7_at 1 = .ok (.iload_n 1, 1) := by decide +kernel
theorem dX7_at_2 : decode cX7_at 2 = .ok (.invokevirtual 95, 3) := by decide +kernel
theorem dX7_at_5 : decode cX7_at 5 = .ok (.astore_n 3, 1) := by decide +kernel
theorem dX7_at_6 : decode cX7_at 6 = .ok (.aload_n 3, 1) := by decide +kernel
theorem dX7_at_7 : decode cX7_at 7 = .ok (.ifnonnull 9, 3) := by decide +kernel
theorem dX7_at_10 : decode cX7_at 10 = .ok (.ldc2_w 57, 3) := by decide +kernel
theorem dX7_at_13 : decode cX7_at 13 = .ok (.goto 8, 3) := by decide +kernel
theorem dX7_at_16 : decode cX7_at 16 = .ok (.aload_n 3, 1) := by decide +kernel
theorem dX7_at_17 : decode cX7_at 17 = .ok (.iload_n 2, 1) := by decide +kernel
theorem dX7_at_18 : decode cX7_at 18 = .ok (.invokevirtual 117, 3) := by decide +kernel
theorem dX7_at_21 : decode cX7_at 21 = .ok (.lreturn, 1) := by decide +kernel
theorem dX7_number_0 : decode cX7_number 0 = .ok (.aload_n 0, 1) := by decide +kernel
theorem dX7_number_1 : decode cX7_number 1 = .ok (.iload_n 1, 1) := by decide +kernel
theorem dX7_number_2 : decode cX7_number 2 = .ok (.invokevirtual 95, 3) := by decide +kernel
theorem dX7_number_5 : decode cX7_number 5 = .ok (.astore_n 2, 1) := by decide +kernel
theorem dX7_number_6 : decode cX7_number 6 = .ok (.aload_n 2, 1) := by decide +kernel
theorem dX7_number_7 : decode cX7_number 7 = .ok (.ifnonnull 7, 3) := by decide +kernel
theorem dX7_number_10 : decode cX7_number 10 = .ok (.iconst (-1), 1) := by decide +kernel
theorem dX7_number_11 : decode cX7_number 11 = .ok (.goto 9, 3) := by decide +kernel
theorem dX7_number_14 : decode cX7_number 14 = .ok (.aload_n 2, 1) := by decide +kernel
theorem dX7_number_15 : decode cX7_number 15 = .ok (.iconst 0, 1) := by decide +kernel
theorem dX7_number_16 : decode cX7_number 16 = .ok (.invokevirtual 117, 3) := by decide +kernel
theorem dX7_number_19 : decode cX7_number 19 = .ok (.l2i, 1) := by decide +kernel
theorem dX7_number_20 : decode cX7_number 20 = .ok (.ireturn, 1) := by decide +kernel
theorem dX7_gap_0 : decode cX7_gap 0 = .ok (.iload_n 1, 1) := by decide +kernel
theorem dX7_gap_1 : decode cX7_gap 1 = .ok (.ifCond .lt 29, 3) := by decide +kernel
theorem dX7_gap_4 : decode cX7_gap 4 = .ok (.iload_n 1, 1) := by decide +kernel
theorem dX7_gap_5 : decode cX7_gap 5 = .ok (.aload_n 0, 1) := by decide +kernel
theorem dX7_gap_6 : decode cX7_gap 6 = .ok (.getfield 27, 3) := by decide +kernel
theorem dX7_gap_9 : decode cX7_gap 9 = .ok (.if_icmp .ge 21, 3) := by decide +kernel
theorem dX7_gap_12 : decode cX7_gap 12 = .ok (.iload_n 1, 1) := by decide +kernel
theorem dX7_gap_13 : decode cX7_gap 13 = .ok (.aload_n 0, 1) := by decide +kernel
theorem dX7_gap_14 : decode cX7_gap 14 = .ok (.getfield 23, 3) := by decide +kernel
theorem dX7_gap_17 : decode cX7_gap 17 = .ok (.arraylength, 1) := by decide +kernel
theorem dX7_gap_18 : decode cX7_gap 18 = .ok (.if_icmp .ge 12, 3) := by decide +kernel
theorem dX7_gap_21 : decode cX7_gap 21 = .ok (.aload_n 0, 1) := by decide +kernel
theorem dX7_gap_22 : decode cX7_gap 22 = .ok (.getfield 23, 3) := by decide +kernel
theorem dX7_gap_25 : decode cX7_gap 25 = .ok (.iload_n 1, 1) := by decide +kernel
theorem dX7_gap_26 : decode cX7_gap 26 = .ok (.iaload, 1) := by decide +kernel
theorem dX7_gap_27 : decode cX7_gap 27 = .ok (.goto 4, 3) := by decide +kernel
theorem dX7_gap_30 : decode cX7_gap 30 = .ok (.iconst (-1), 1) := by decide +kernel
theorem dX7_gap_31 : decode cX7_gap 31 = .ok (.ireturn, 1) := by decide +kernel
theorem dX7_rows_0 : decode cX7_rows 0 = .ok (.aload_n 0, 1) := by decide +kernel
theorem dX7_rows_1 : decode cX7_rows 1 = .ok (.getfield 37, 3) := by decide +kernel
theorem dX7_rows_4 : decode cX7_rows 4 = .ok (.invokevirtual 121, 3) := by decide +kernel
theorem dX7_rows_7 : decode cX7_rows 7 = .ok (.ireturn, 1) := by decide +kernel
theorem dX7_made_0 : decode cX7_made 0 = .ok (.aload_n 0, 1) := by decide +kernel
theorem dX7_made_1 : decode cX7_made 1 = .ok (.getfield 31, 3) := by decide +kernel
theorem dX7_made_4 : decode cX7_made 4 = .ok (.ireturn, 1) := by decide +kernel
theorem dX7_split_0 : decode cX7_split 0 = .ok (.aload_n 0, 1) := by decide +kernel
theorem dX7_split_1 : decode cX7_split 1 = .ok (.iload_n 1, 1) := by decide +kernel
theorem dX7_split_2 : decode cX7_split 2 = .ok (.invokevirtual 95, 3) := by decide +kernel
theorem dX7_split_5 : decode cX7_split 5 = .ok (.astore 5, 2) := by decide +kernel
theorem dX7_split_7 : decode cX7_split 7 = .ok (.aload 5, 2) := by decide +kernel
theorem dX7_split_9 : decode cX7_split 9 = .ok (.ifnull 17, 3) := by decide +kernel
theorem dX7_split_12 : decode cX7_split 12 = .ok (.lload_n 3, 1) := by decide +kernel
theorem dX7_split_13 : decode cX7_split 13 = .ok (.lconst 0, 1) := by decide +kernel
theorem dX7_split_14 : decode cX7_split 14 = .ok (.lcmp, 1) := by decide +kernel
theorem dX7_split_15 : decode cX7_split 15 = .ok (.ifCond .lt 11, 3) := by decide +kernel
theorem dX7_split_18 : decode cX7_split 18 = .ok (.lload_n 3, 1) := by decide +kernel
theorem dX7_split_19 : decode cX7_split 19 = .ok (.ldc2_w 124, 3) := by decide +kernel
theorem dX7_split_22 : decode cX7_split 22 = .ok (.lcmp, 1) := by decide +kernel
theorem dX7_split_23 : decode cX7_split 23 = .ok (.ifCond .le 5, 3) := by decide +kernel
theorem dX7_split_26 : decode cX7_split 26 = .ok (.iconst 0, 1) := by decide +kernel
theorem dX7_split_27 : decode cX7_split 27 = .ok (.ireturn, 1) := by decide +kernel
theorem dX7_split_28 : decode cX7_split 28 = .ok (.aload 5, 2) := by decide +kernel
theorem dX7_split_30 : decode cX7_split 30 = .ok (.iload_n 2, 1) := by decide +kernel
theorem dX7_split_31 : decode cX7_split 31 = .ok (.lload_n 3, 1) := by decide +kernel
theorem dX7_split_32 : decode cX7_split 32 = .ok (.invokevirtual 126, 3) := by decide +kernel
theorem dX7_split_35 : decode cX7_split 35 = .ok (.ireturn, 1) := by decide +kernel
theorem dX7_share_0 : decode cX7_share 0 = .ok (.aload_n 0, 1) := by decide +kernel
theorem dX7_share_1 : decode cX7_share 1 = .ok (.iload_n 1, 1) := by decide +kernel
theorem dX7_share_2 : decode cX7_share 2 = .ok (.invokevirtual 95, 3) := by decide +kernel
theorem dX7_share_5 : decode cX7_share 5 = .ok (.astore_n 3, 1) := by decide +kernel
theorem dX7_share_6 : decode cX7_share 6 = .ok (.aload_n 3, 1) := by decide +kernel
theorem dX7_share_7 : decode cX7_share 7 = .ok (.ifnonnull 9, 3) := by decide +kernel
theorem dX7_share_10 : decode cX7_share 10 = .ok (.ldc2_w 57, 3) := by decide +kernel
theorem dX7_share_13 : decode cX7_share 13 = .ok (.goto 8, 3) := by decide +kernel
theorem dX7_share_16 : decode cX7_share 16 = .ok (.aload_n 3, 1) := by decide +kernel
theorem dX7_share_17 : decode cX7_share 17 = .ok (.iload_n 2, 1) := by decide +kernel
theorem dX7_share_18 : decode cX7_share 18 = .ok (.invokevirtual 129, 3) := by decide +kernel
theorem dX7_share_21 : decode cX7_share 21 = .ok (.lreturn, 1) := by decide +kernel
theorem dX7_print_0 : decode cX7_print 0 = .ok (.aload_n 0, 1) := by decide +kernel
theorem dX7_print_1 : decode cX7_print 1 = .ok (.iload_n 1, 1) := by decide +kernel
theorem dX7_print_2 : decode cX7_print 2 = .ok (.invokevirtual 95, 3) := by decide +kernel
theorem dX7_print_5 : decode cX7_print 5 = .ok (.astore_n 3, 1) := by decide +kernel
theorem dX7_print_6 : decode cX7_print 6 = .ok (.aload_n 3, 1) := by decide +kernel
theorem dX7_print_7 : decode cX7_print 7 = .ok (.ifnonnull 5, 3) := by decide +kernel
theorem dX7_print_10 : decode cX7_print 10 = .ok (.iconst (-1), 1) := by decide +kernel
theorem dX7_print_11 : decode cX7_print 11 = .ok (.ireturn, 1) := by decide +kernel
theorem dX7_print_12 : decode cX7_print 12 = .ok (.aload_n 0, 1) := by decide +kernel
theorem dX7_print_13 : decode cX7_print 13 = .ok (.getfield 44, 3) := by decide +kernel
theorem dX7_print_16 : decode cX7_print 16 = .ok (.aload_n 3, 1) := by decide +kernel
theorem dX7_print_17 : decode cX7_print 17 = .ok (.invokevirtual 132, 3) := by decide +kernel
theorem dX7_print_20 : decode cX7_print 20 = .ok (.aload_n 0, 1) := by decide +kernel
theorem dX7_print_21 : decode cX7_print 21 = .ok (.getfield 44, 3) := by decide +kernel
theorem dX7_print_24 : decode cX7_print 24 = .ok (.iload_n 2, 1) := by decide +kernel
theorem dX7_print_25 : decode cX7_print 25 = .ok (.invokevirtual 136, 3) := by decide +kernel
theorem dX7_print_28 : decode cX7_print 28 = .ok (.ireturn, 1) := by decide +kernel
theorem dX7_poke_0 : decode cX7_poke 0 = .ok (.aload_n 0, 1) := by decide +kernel
theorem dX7_poke_1 : decode cX7_poke 1 = .ok (.getfield 37, 3) := by decide +kernel
theorem dX7_poke_4 : decode cX7_poke 4 = .ok (.iload_n 1, 1) := by decide +kernel
theorem dX7_poke_5 : decode cX7_poke 5 = .ok (.invokevirtual 140, 3) := by decide +kernel
theorem dX7_poke_8 : decode cX7_poke 8 = .ok (.astore 4, 2) := by decide +kernel
theorem dX7_poke_10 : decode cX7_poke 10 = .ok (.aload 4, 2) := by decide +kernel
theorem dX7_poke_12 : decode cX7_poke 12 = .ok (.ifnull 15, 3) := by decide +kernel
theorem dX7_poke_15 : decode cX7_poke 15 = .ok (.iload_n 3, 1) := by decide +kernel
theorem dX7_poke_16 : decode cX7_poke 16 = .ok (.iconst 1, 1) := by decide +kernel
theorem dX7_poke_17 : decode cX7_poke 17 = .ok (.if_icmp .lt 10, 3) := by decide +kernel
theorem dX7_poke_20 : decode cX7_poke 20 = .ok (.iload_n 3, 1) := by decide +kernel
theorem dX7_poke_21 : decode cX7_poke 21 = .ok (.sipush 255, 3) := by decide +kernel
theorem dX7_poke_24 : decode cX7_poke 24 = .ok (.if_icmp .le 5, 3) := by decide +kernel
theorem dX7_poke_27 : decode cX7_poke 27 = .ok (.iconst 0, 1) := by decide +kernel
theorem dX7_poke_28 : decode cX7_poke 28 = .ok (.ireturn, 1) := by decide +kernel
theorem dX7_poke_29 : decode cX7_poke 29 = .ok (.aload 4, 2) := by decide +kernel
theorem dX7_poke_31 : decode cX7_poke 31 = .ok (.iload_n 2, 1) := by decide +kernel
theorem dX7_poke_32 : decode cX7_poke 32 = .ok (.iload_n 3, 1) := by decide +kernel
theorem dX7_poke_33 : decode cX7_poke 33 = .ok (.invokevirtual 143, 3) := by decide +kernel
theorem dX7_poke_36 : decode cX7_poke 36 = .ok (.ireturn, 1) := by decide +kernel
theorem dX7_byteAt_0 : decode cX7_byteAt 0 = .ok (.aload_n 0, 1) := by decide +kernel
theorem dX7_byteAt_1 : decode cX7_byteAt 1 = .ok (.getfield 37, 3) := by decide +kernel
theorem dX7_byteAt_4 : decode cX7_byteAt 4 = .ok (.iload_n 1, 1) := by decide +kernel
theorem dX7_byteAt_5 : decode cX7_byteAt 5 = .ok (.invokevirtual 140, 3) := by decide +kernel
theorem dX7_byteAt_8 : decode cX7_byteAt 8 = .ok (.astore_n 3, 1) := by decide +kernel
theorem dX7_byteAt_9 : decode cX7_byteAt 9 = .ok (.aload_n 3, 1) := by decide +kernel
theorem dX7_byteAt_10 : decode cX7_byteAt 10 = .ok (.ifnull 11, 3) := by decide +kernel
theorem dX7_byteAt_13 : decode cX7_byteAt 13 = .ok (.aload_n 3, 1) := by decide +kernel
theorem dX7_byteAt_14 : decode cX7_byteAt 14 = .ok (.iload_n 2, 1) := by decide +kernel
theorem dX7_byteAt_15 : decode cX7_byteAt 15 = .ok (.invokevirtual 149, 3) := by decide +kernel
theorem dX7_byteAt_18 : decode cX7_byteAt 18 = .ok (.ifCond .ne 13, 3) := by decide +kernel
theorem dX7_byteAt_21 : decode cX7_byteAt 21 = .ok (.new 153, 3) := by decide +kernel
theorem dX7_byteAt_24 : decode cX7_byteAt 24 = .ok (.dup, 1) := by decide +kernel
theorem dX7_byteAt_25 : decode cX7_byteAt 25 = .ok (.ldc 155, 2) := by decide +kernel
theorem dX7_byteAt_27 : decode cX7_byteAt 27 = .ok (.invokespecial 157, 3) := by decide +kernel
theorem dX7_byteAt_30 : decode cX7_byteAt 30 = .ok (.athrow, 1) := by decide +kernel
theorem dX7_byteAt_31 : decode cX7_byteAt 31 = .ok (.aload_n 3, 1) := by decide +kernel
theorem dX7_byteAt_32 : decode cX7_byteAt 32 = .ok (.iload_n 2, 1) := by decide +kernel
theorem dX7_byteAt_33 : decode cX7_byteAt 33 = .ok (.invokevirtual 160, 3) := by decide +kernel
theorem dX7_byteAt_36 : decode cX7_byteAt 36 = .ok (.ireturn, 1) := by decide +kernel
theorem dX7_digest_0 : decode cX7_digest 0 = .ok (.aload_n 0, 1) := by decide +kernel
theorem dX7_digest_1 : decode cX7_digest 1 = .ok (.getfield 37, 3) := by decide +kernel
theorem dX7_digest_4 : decode cX7_digest 4 = .ok (.iload_n 1, 1) := by decide +kernel
theorem dX7_digest_5 : decode cX7_digest 5 = .ok (.invokevirtual 140, 3) := by decide +kernel
theorem dX7_digest_8 : decode cX7_digest 8 = .ok (.astore_n 3, 1) := by decide +kernel
theorem dX7_digest_9 : decode cX7_digest 9 = .ok (.aload_n 3, 1) := by decide +kernel
theorem dX7_digest_10 : decode cX7_digest 10 = .ok (.ifnull 13, 3) := by decide +kernel
theorem dX7_digest_13 : decode cX7_digest 13 = .ok (.iload_n 2, 1) := by decide +kernel
theorem dX7_digest_14 : decode cX7_digest 14 = .ok (.ifCond .lt 9, 3) := by decide +kernel
theorem dX7_digest_17 : decode cX7_digest 17 = .ok (.iload_n 2, 1) := by decide +kernel
theorem dX7_digest_18 : decode cX7_digest 18 = .ok (.bipush 32, 2) := by decide +kernel
theorem dX7_digest_20 : decode cX7_digest 20 = .ok (.if_icmp .lt 5, 3) := by decide +kernel
theorem dX7_digest_23 : decode cX7_digest 23 = .ok (.iconst (-1), 1) := by decide +kernel
theorem dX7_digest_24 : decode cX7_digest 24 = .ok (.ireturn, 1) := by decide +kernel
theorem dX7_digest_25 : decode cX7_digest 25 = .ok (.aload_n 3, 1) := by decide +kernel
theorem dX7_digest_26 : decode cX7_digest 26 = .ok (.bipush 41, 2) := by decide +kernel
theorem dX7_digest_28 : decode cX7_digest 28 = .ok (.iload_n 2, 1) := by decide +kernel
theorem dX7_digest_29 : decode cX7_digest 29 = .ok (.iadd, 1) := by decide +kernel
theorem dX7_digest_30 : decode cX7_digest 30 = .ok (.invokevirtual 160, 3) := by decide +kernel
theorem dX7_digest_33 : decode cX7_digest 33 = .ok (.ireturn, 1) := by decide +kernel
theorem dX7_check_0 : decode cX7_check 0 = .ok (.iload_n 1, 1) := by decide +kernel
theorem dX7_check_1 : decode cX7_check 1 = .ok (.ifCond .lt 14, 3) := by decide +kernel
theorem dX7_check_4 : decode cX7_check 4 = .ok (.iload_n 1, 1) := by decide +kernel
theorem dX7_check_5 : decode cX7_check 5 = .ok (.aload_n 0, 1) := by decide +kernel
theorem dX7_check_6 : decode cX7_check 6 = .ok (.getfield 37, 3) := by decide +kernel
theorem dX7_check_9 : decode cX7_check 9 = .ok (.invokevirtual 121, 3) := by decide +kernel
theorem dX7_check_12 : decode cX7_check 12 = .ok (.if_icmp .le 5, 3) := by decide +kernel
theorem dX7_check_15 : decode cX7_check 15 = .ok (.iconst (-1), 1) := by decide +kernel
theorem dX7_check_16 : decode cX7_check 16 = .ok (.ireturn, 1) := by decide +kernel
theorem dX7_check_17 : decode cX7_check 17 = .ok (.aload_n 0, 1) := by decide +kernel
theorem dX7_check_18 : decode cX7_check 18 = .ok (.getfield 37, 3) := by decide +kernel
theorem dX7_check_21 : decode cX7_check 21 = .ok (.iload_n 1, 1) := by decide +kernel
theorem dX7_check_22 : decode cX7_check 22 = .ok (.invokevirtual 163, 3) := by decide +kernel
theorem dX7_check_25 : decode cX7_check 25 = .ok (.istore_n 2, 1) := by decide +kernel
theorem dX7_check_26 : decode cX7_check 26 = .ok (.iload_n 2, 1) := by decide +kernel
theorem dX7_check_27 : decode cX7_check 27 = .ok (.iconst (-1), 1) := by decide +kernel
theorem dX7_check_28 : decode cX7_check 28 = .ok (.if_icmp .ne 7, 3) := by decide +kernel
theorem dX7_check_31 : decode cX7_check 31 = .ok (.iconst 0, 1) := by decide +kernel
theorem dX7_check_32 : decode cX7_check 32 = .ok (.goto 6, 3) := by decide +kernel
theorem dX7_check_35 : decode cX7_check 35 = .ok (.iconst 1, 1) := by decide +kernel
theorem dX7_check_36 : decode cX7_check 36 = .ok (.iload_n 2, 1) := by decide +kernel
theorem dX7_check_37 : decode cX7_check 37 = .ok (.iadd, 1) := by decide +kernel
theorem dX7_check_38 : decode cX7_check 38 = .ok (.ireturn, 1) := by decide +kernel
theorem dX7_root_0 : decode cX7_root 0 = .ok (.aload_n 0, 1) := by decide +kernel
theorem dX7_root_1 : decode cX7_root 1 = .ok (.getfield 37, 3) := by decide +kernel
theorem dX7_root_4 : decode cX7_root 4 = .ok (.iload_n 1, 1) := by decide +kernel
theorem dX7_root_5 : decode cX7_root 5 = .ok (.iload_n 2, 1) := by decide +kernel
theorem dX7_root_6 : decode cX7_root 6 = .ok (.invokevirtual 166, 3) := by decide +kernel
theorem dX7_root_9 : decode cX7_root 9 = .ok (.ireturn, 1) := by decide +kernel
theorem dX7_find_0 : decode cX7_find 0 = .ok (.iload_n 1, 1) := by decide +kernel
theorem dX7_find_1 : decode cX7_find 1 = .ok (.ifCond .lt 28, 3) := by decide +kernel
theorem dX7_find_4 : decode cX7_find 4 = .ok (.iload_n 1, 1) := by decide +kernel
theorem dX7_find_5 : decode cX7_find 5 = .ok (.aload_n 0, 1) := by decide +kernel
theorem dX7_find_6 : decode cX7_find 6 = .ok (.getfield 19, 3) := by decide +kernel
theorem dX7_find_9 : decode cX7_find 9 = .ok (.invokevirtual 92, 3) := by decide +kernel
theorem dX7_find_12 : decode cX7_find 12 = .ok (.if_icmp .ge 17, 3) := by decide +kernel
theorem dX7_find_15 : decode cX7_find 15 = .ok (.aload_n 0, 1) := by decide +kernel
theorem dX7_find_16 : decode cX7_find 16 = .ok (.getfield 19, 3) := by decide +kernel
theorem dX7_find_19 : decode cX7_find 19 = .ok (.iload_n 1, 1) := by decide +kernel
theorem dX7_find_20 : decode cX7_find 20 = .ok (.invokevirtual 170, 3) := by decide +kernel
theorem dX7_find_23 : decode cX7_find 23 = .ok (.checkcast 75, 3) := by decide +kernel
theorem dX7_find_26 : decode cX7_find 26 = .ok (.goto 4, 3) := by decide +kernel
theorem dX7_find_29 : decode cX7_find 29 = .ok (.aconst_null, 1) := by decide +kernel
theorem dX7_find_30 : decode cX7_find 30 = .ok (.areturn, 1) := by decide +kernel
theorem dX7_spoilNumber_0 : decode cX7_spoilNumber 0 = .ok (.aload_n 0, 1) := by decide +kernel
theorem dX7_spoilNumber_1 : decode cX7_spoilNumber 1 = .ok (.getfield 27, 3) := by decide +kernel
theorem dX7_spoilNumber_4 : decode cX7_spoilNumber 4 = .ok (.aload_n 0, 1) := by decide +kernel
theorem dX7_spoilNumber_5 : decode cX7_spoilNumber 5 = .ok (.getfield 23, 3) := by decide +kernel
theorem dX7_spoilNumber_8 : decode cX7_spoilNumber 8 = .ok (.arraylength, 1) := by decide +kernel
theorem dX7_spoilNumber_9 : decode cX7_spoilNumber 9 = .ok (.if_icmp .ge 26, 3) := by decide +kernel
theorem dX7_spoilNumber_12 : decode cX7_spoilNumber 12 = .ok (.aload_n 0, 1) := by decide +kernel
theorem dX7_spoilNumber_13 : decode cX7_spoilNumber 13 = .ok (.getfield 23, 3) := by decide +kernel
theorem dX7_spoilNumber_16 : decode cX7_spoilNumber 16 = .ok (.aload_n 0, 1) := by decide +kernel
theorem dX7_spoilNumber_17 : decode cX7_spoilNumber 17 = .ok (.getfield 27, 3) := by decide +kernel
theorem dX7_spoilNumber_20 : decode cX7_spoilNumber 20 = .ok (.aload_n 0, 1) := by decide +kernel
theorem dX7_spoilNumber_21 : decode cX7_spoilNumber 21 = .ok (.getfield 31, 3) := by decide +kernel
theorem dX7_spoilNumber_24 : decode cX7_spoilNumber 24 = .ok (.iastore, 1) := by decide +kernel
theorem dX7_spoilNumber_25 : decode cX7_spoilNumber 25 = .ok (.aload_n 0, 1) := by decide +kernel
theorem dX7_spoilNumber_26 : decode cX7_spoilNumber 26 = .ok (.dup, 1) := by decide +kernel
theorem dX7_spoilNumber_27 : decode cX7_spoilNumber 27 = .ok (.getfield 27, 3) := by decide +kernel
theorem dX7_spoilNumber_30 : decode cX7_spoilNumber 30 = .ok (.iconst 1, 1) := by decide +kernel
theorem dX7_spoilNumber_31 : decode cX7_spoilNumber 31 = .ok (.iadd, 1) := by decide +kernel
theorem dX7_spoilNumber_32 : decode cX7_spoilNumber 32 = .ok (.putfield 27, 3) := by decide +kernel
theorem dX7_spoilNumber_35 : decode cX7_spoilNumber 35 = .ok (.aload_n 0, 1) := by decide +kernel
theorem dX7_spoilNumber_36 : decode cX7_spoilNumber 36 = .ok (.dup, 1) := by decide +kernel
theorem dX7_spoilNumber_37 : decode cX7_spoilNumber 37 = .ok (.getfield 31, 3) := by decide +kernel
theorem dX7_spoilNumber_40 : decode cX7_spoilNumber 40 = .ok (.iconst 1, 1) := by decide +kernel
theorem dX7_spoilNumber_41 : decode cX7_spoilNumber 41 = .ok (.iadd, 1) := by decide +kernel
theorem dX7_spoilNumber_42 : decode cX7_spoilNumber 42 = .ok (.putfield 31, 3) := by decide +kernel
theorem dX7_spoilNumber_45 : decode cX7_spoilNumber 45 = .ok (.bipush (-2), 2) := by decide +kernel
theorem dX7_spoilNumber_47 : decode cX7_spoilNumber 47 = .ok (.ireturn, 1) := by decide +kernel
theorem dX7_fits_0 : decode cX7_fits 0 = .ok (.lload_n 1, 1) := by decide +kernel
theorem dX7_fits_1 : decode cX7_fits 1 = .ok (.lconst 0, 1) := by decide +kernel
theorem dX7_fits_2 : decode cX7_fits 2 = .ok (.lcmp, 1) := by decide +kernel
theorem dX7_fits_3 : decode cX7_fits 3 = .ok (.ifCond .lt 16, 3) := by decide +kernel
theorem dX7_fits_6 : decode cX7_fits 6 = .ok (.lload_n 1, 1) := by decide +kernel
theorem dX7_fits_7 : decode cX7_fits 7 = .ok (.iload_n 0, 1) := by decide +kernel
theorem dX7_fits_8 : decode cX7_fits 8 = .ok (.invokestatic 174, 3) := by decide +kernel
theorem dX7_fits_11 : decode cX7_fits 11 = .ok (.lcmp, 1) := by decide +kernel
theorem dX7_fits_12 : decode cX7_fits 12 = .ok (.ifCond .gt 7, 3) := by decide +kernel
theorem dX7_fits_15 : decode cX7_fits 15 = .ok (.iconst 1, 1) := by decide +kernel
theorem dX7_fits_16 : decode cX7_fits 16 = .ok (.goto 4, 3) := by decide +kernel
theorem dX7_fits_19 : decode cX7_fits 19 = .ok (.iconst 0, 1) := by decide +kernel
theorem dX7_fits_20 : decode cX7_fits 20 = .ok (.ireturn, 1) := by decide +kernel
theorem dX7_greatest_0 : decode cX7_greatest 0 = .ok (.iload_n 0, 1) := by decide +kernel
theorem dX7_greatest_1 : decode cX7_greatest 1 = .ok (.tableswitch 63 1 7 #[43, 47, 51, 51, 63, 55, 59], 43) := by decide +kernel
theorem dX7_greatest_44 : decode cX7_greatest 44 = .ok (.ldc2_w 177, 3) := by decide +kernel
theorem dX7_greatest_47 : decode cX7_greatest 47 = .ok (.lreturn, 1) := by decide +kernel
theorem dX7_greatest_48 : decode cX7_greatest 48 = .ok (.ldc2_w 179, 3) := by decide +kernel
theorem dX7_greatest_51 : decode cX7_greatest 51 = .ok (.lreturn, 1) := by decide +kernel
theorem dX7_greatest_52 : decode cX7_greatest 52 = .ok (.ldc2_w 181, 3) := by decide +kernel
theorem dX7_greatest_55 : decode cX7_greatest 55 = .ok (.lreturn, 1) := by decide +kernel
theorem dX7_greatest_56 : decode cX7_greatest 56 = .ok (.ldc2_w 183, 3) := by decide +kernel
theorem dX7_greatest_59 : decode cX7_greatest 59 = .ok (.lreturn, 1) := by decide +kernel
theorem dX7_greatest_60 : decode cX7_greatest 60 = .ok (.ldc2_w 185, 3) := by decide +kernel
theorem dX7_greatest_63 : decode cX7_greatest 63 = .ok (.lreturn, 1) := by decide +kernel
theorem dX7_greatest_64 : decode cX7_greatest 64 = .ok (.ldc2_w 57, 3) := by decide +kernel
theorem dX7_greatest_67 : decode cX7_greatest 67 = .ok (.lreturn, 1) := by decide +kernel
theorem dX7_dayOf_0 : decode cX7_dayOf 0 = .ok (.lload_n 0, 1) := by decide +kernel
theorem dX7_dayOf_1 : decode cX7_dayOf 1 = .ok (.ldc2_w 187, 3) := by decide +kernel
theorem dX7_dayOf_4 : decode cX7_dayOf 4 = .ok (.ldiv, 1) := by decide +kernel
theorem dX7_dayOf_5 : decode cX7_dayOf 5 = .ok (.l2i, 1) := by decide +kernel
theorem dX7_dayOf_6 : decode cX7_dayOf 6 = .ok (.ireturn, 1) := by decide +kernel
theorem dX7_ticketRow_0 : decode cX7_ticketRow 0 = .ok (.new 144, 3) := by decide +kernel
theorem dX7_ticketRow_3 : decode cX7_ticketRow 3 = .ok (.dup, 1) := by decide +kernel
theorem dX7_ticketRow_4 : decode cX7_ticketRow 4 = .ok (.aload_n 0, 1) := by decide +kernel
theorem dX7_ticketRow_5 : decode cX7_ticketRow 5 = .ok (.bipush 6, 2) := by decide +kernel
theorem dX7_ticketRow_7 : decode cX7_ticketRow 7 = .ok (.invokevirtual 117, 3) := by decide +kernel
theorem dX7_ticketRow_10 : decode cX7_ticketRow 10 = .ok (.invokestatic 59, 3) := by decide +kernel
theorem dX7_ticketRow_13 : decode cX7_ticketRow 13 = .ok (.invokespecial 189, 3) := by decide +kernel
theorem dX7_ticketRow_16 : decode cX7_ticketRow 16 = .ok (.astore_n 1, 1) := by decide +kernel
theorem dX7_ticketRow_17 : decode cX7_ticketRow 17 = .ok (.aload_n 1, 1) := by decide +kernel
theorem dX7_ticketRow_18 : decode cX7_ticketRow 18 = .ok (.lconst 1, 1) := by decide +kernel
theorem dX7_ticketRow_19 : decode cX7_ticketRow 19 = .ok (.iconst 1, 1) := by decide +kernel
theorem dX7_ticketRow_20 : decode cX7_ticketRow 20 = .ok (.invokevirtual 192, 3) := by decide +kernel
theorem dX7_ticketRow_23 : decode cX7_ticketRow 23 = .ok (.aload_n 1, 1) := by decide +kernel
theorem dX7_ticketRow_24 : decode cX7_ticketRow 24 = .ok (.aload_n 0, 1) := by decide +kernel
theorem dX7_ticketRow_25 : decode cX7_ticketRow 25 = .ok (.iconst 0, 1) := by decide +kernel
theorem dX7_ticketRow_26 : decode cX7_ticketRow 26 = .ok (.invokevirtual 117, 3) := by decide +kernel
theorem dX7_ticketRow_29 : decode cX7_ticketRow 29 = .ok (.iconst 4, 1) := by decide +kernel
theorem dX7_ticketRow_30 : decode cX7_ticketRow 30 = .ok (.invokevirtual 192, 3) := by decide +kernel
theorem dX7_ticketRow_33 : decode cX7_ticketRow 33 = .ok (.aload_n 1, 1) := by decide +kernel
theorem dX7_ticketRow_34 : decode cX7_ticketRow 34 = .ok (.aload_n 0, 1) := by decide +kernel
theorem dX7_ticketRow_35 : decode cX7_ticketRow 35 = .ok (.iconst 1, 1) := by decide +kernel
theorem dX7_ticketRow_36 : decode cX7_ticketRow 36 = .ok (.invokevirtual 117, 3) := by decide +kernel
theorem dX7_ticketRow_39 : decode cX7_ticketRow 39 = .ok (.iconst 4, 1) := by decide +kernel
theorem dX7_ticketRow_40 : decode cX7_ticketRow 40 = .ok (.invokevirtual 192, 3) := by decide +kernel
theorem dX7_ticketRow_43 : decode cX7_ticketRow 43 = .ok (.aload_n 1, 1) := by decide +kernel
theorem dX7_ticketRow_44 : decode cX7_ticketRow 44 = .ok (.aload_n 0, 1) := by decide +kernel
theorem dX7_ticketRow_45 : decode cX7_ticketRow 45 = .ok (.iconst 2, 1) := by decide +kernel
theorem dX7_ticketRow_46 : decode cX7_ticketRow 46 = .ok (.invokevirtual 117, 3) := by decide +kernel
theorem dX7_ticketRow_49 : decode cX7_ticketRow 49 = .ok (.iconst 4, 1) := by decide +kernel
theorem dX7_ticketRow_50 : decode cX7_ticketRow 50 = .ok (.invokevirtual 192, 3) := by decide +kernel
theorem dX7_ticketRow_53 : decode cX7_ticketRow 53 = .ok (.aload_n 1, 1) := by decide +kernel
theorem dX7_ticketRow_54 : decode cX7_ticketRow 54 = .ok (.aload_n 0, 1) := by decide +kernel
theorem dX7_ticketRow_55 : decode cX7_ticketRow 55 = .ok (.iconst 3, 1) := by decide +kernel
theorem dX7_ticketRow_56 : decode cX7_ticketRow 56 = .ok (.invokevirtual 117, 3) := by decide +kernel
theorem dX7_ticketRow_59 : decode cX7_ticketRow 59 = .ok (.bipush 8, 2) := by decide +kernel
theorem dX7_ticketRow_61 : decode cX7_ticketRow 61 = .ok (.invokevirtual 192, 3) := by decide +kernel
theorem dX7_ticketRow_64 : decode cX7_ticketRow 64 = .ok (.aload_n 1, 1) := by decide +kernel
theorem dX7_ticketRow_65 : decode cX7_ticketRow 65 = .ok (.aload_n 0, 1) := by decide +kernel
theorem dX7_ticketRow_66 : decode cX7_ticketRow 66 = .ok (.iconst 4, 1) := by decide +kernel
theorem dX7_ticketRow_67 : decode cX7_ticketRow 67 = .ok (.invokevirtual 117, 3) := by decide +kernel
theorem dX7_ticketRow_70 : decode cX7_ticketRow 70 = .ok (.bipush 8, 2) := by decide +kernel
theorem dX7_ticketRow_72 : decode cX7_ticketRow 72 = .ok (.invokevirtual 192, 3) := by decide +kernel
theorem dX7_ticketRow_75 : decode cX7_ticketRow 75 = .ok (.aload_n 1, 1) := by decide +kernel
theorem dX7_ticketRow_76 : decode cX7_ticketRow 76 = .ok (.aload_n 0, 1) := by decide +kernel
theorem dX7_ticketRow_77 : decode cX7_ticketRow 77 = .ok (.bipush 6, 2) := by decide +kernel
theorem dX7_ticketRow_79 : decode cX7_ticketRow 79 = .ok (.invokevirtual 117, 3) := by decide +kernel
theorem dX7_ticketRow_82 : decode cX7_ticketRow 82 = .ok (.bipush 8, 2) := by decide +kernel
theorem dX7_ticketRow_84 : decode cX7_ticketRow 84 = .ok (.invokevirtual 192, 3) := by decide +kernel
theorem dX7_ticketRow_87 : decode cX7_ticketRow 87 = .ok (.aload_n 1, 1) := by decide +kernel
theorem dX7_ticketRow_88 : decode cX7_ticketRow 88 = .ok (.aload_n 0, 1) := by decide +kernel
theorem dX7_ticketRow_89 : decode cX7_ticketRow 89 = .ok (.bipush 7, 2) := by decide +kernel
theorem dX7_ticketRow_91 : decode cX7_ticketRow 91 = .ok (.invokevirtual 117, 3) := by decide +kernel
theorem dX7_ticketRow_94 : decode cX7_ticketRow 94 = .ok (.iconst 4, 1) := by decide +kernel
theorem dX7_ticketRow_95 : decode cX7_ticketRow 95 = .ok (.invokevirtual 192, 3) := by decide +kernel
theorem dX7_ticketRow_98 : decode cX7_ticketRow 98 = .ok (.aload_n 1, 1) := by decide +kernel
theorem dX7_ticketRow_99 : decode cX7_ticketRow 99 = .ok (.areturn, 1) := by decide +kernel
theorem dX7_correctionRow_0 : decode cX7_correctionRow 0 = .ok (.new 144, 3) := by decide +kernel
theorem dX7_correctionRow_3 : decode cX7_correctionRow 3 = .ok (.dup, 1) := by decide +kernel
theorem dX7_correctionRow_4 : decode cX7_correctionRow 4 = .ok (.aload_n 0, 1) := by decide +kernel
theorem dX7_correctionRow_5 : decode cX7_correctionRow 5 = .ok (.bipush 6, 2) := by decide +kernel
theorem dX7_correctionRow_7 : decode cX7_correctionRow 7 = .ok (.invokevirtual 117, 3) := by decide +kernel
theorem dX7_correctionRow_10 : decode cX7_correctionRow 10 = .ok (.invokestatic 59, 3) := by decide +kernel
theorem dX7_correctionRow_13 : decode cX7_correctionRow 13 = .ok (.invokespecial 189, 3) := by decide +kernel
theorem dX7_correctionRow_16 : decode cX7_correctionRow 16 = .ok (.astore 5, 2) := by decide +kernel
theorem dX7_correctionRow_18 : decode cX7_correctionRow 18 = .ok (.aload 5, 2) := by decide +kernel
theorem dX7_correctionRow_20 : decode cX7_correctionRow 20 = .ok (.ldc2_w 196, 3) := by decide +kernel
theorem dX7_correctionRow_23 : decode cX7_correctionRow 23 = .ok (.iconst 1, 1) := by decide +kernel
theorem dX7_correctionRow_24 : decode cX7_correctionRow 24 = .ok (.invokevirtual 192, 3) := by decide +kernel
theorem dX7_correctionRow_27 : decode cX7_correctionRow 27 = .ok (.aload 5, 2) := by decide +kernel
theorem dX7_correctionRow_29 : decode cX7_correctionRow 29 = .ok (.aload_n 0, 1) := by decide +kernel
theorem dX7_correctionRow_30 : decode cX7_correctionRow 30 = .ok (.iconst 0, 1) := by decide +kernel
theorem dX7_correctionRow_31 : decode cX7_correctionRow 31 = .ok (.invokevirtual 117, 3) := by decide +kernel
theorem dX7_correctionRow_34 : decode cX7_correctionRow 34 = .ok (.iconst 4, 1) := by decide +kernel
theorem dX7_correctionRow_35 : decode cX7_correctionRow 35 = .ok (.invokevirtual 192, 3) := by decide +kernel
theorem dX7_correctionRow_38 : decode cX7_correctionRow 38 = .ok (.aload 5, 2) := by decide +kernel
theorem dX7_correctionRow_40 : decode cX7_correctionRow 40 = .ok (.iload_n 1, 1) := by decide +kernel
theorem dX7_correctionRow_41 : decode cX7_correctionRow 41 = .ok (.i2l, 1) := by decide +kernel
theorem dX7_correctionRow_42 : decode cX7_correctionRow 42 = .ok (.iconst 4, 1) := by decide +kernel
theorem dX7_correctionRow_43 : decode cX7_correctionRow 43 = .ok (.invokevirtual 192, 3) := by decide +kernel
theorem dX7_correctionRow_46 : decode cX7_correctionRow 46 = .ok (.aload 5, 2) := by decide +kernel
theorem dX7_correctionRow_48 : decode cX7_correctionRow 48 = .ok (.lload_n 2, 1) := by decide +kernel
theorem dX7_correctionRow_49 : decode cX7_correctionRow 49 = .ok (.bipush 8, 2) := by decide +kernel
theorem dX7_correctionRow_51 : decode cX7_correctionRow 51 = .ok (.invokevirtual 192, 3) := by decide +kernel
theorem dX7_correctionRow_54 : decode cX7_correctionRow 54 = .ok (.aload 5, 2) := by decide +kernel
theorem dX7_correctionRow_56 : decode cX7_correctionRow 56 = .ok (.iload 4, 2) := by decide +kernel
theorem dX7_correctionRow_58 : decode cX7_correctionRow 58 = .ok (.i2l, 1) := by decide +kernel
theorem dX7_correctionRow_59 : decode cX7_correctionRow 59 = .ok (.iconst 4, 1) := by decide +kernel
theorem dX7_correctionRow_60 : decode cX7_correctionRow 60 = .ok (.invokevirtual 192, 3) := by decide +kernel
theorem dX7_correctionRow_63 : decode cX7_correctionRow 63 = .ok (.aload 5, 2) := by decide +kernel
theorem dX7_correctionRow_65 : decode cX7_correctionRow 65 = .ok (.areturn, 1) := by decide +kernel
theorem dX7_voidRow_0 : decode cX7_voidRow 0 = .ok (.new 144, 3) := by decide +kernel
theorem dX7_voidRow_3 : decode cX7_voidRow 3 = .ok (.dup, 1) := by decide +kernel
theorem dX7_voidRow_4 : decode cX7_voidRow 4 = .ok (.aload_n 0, 1) := by decide +kernel
theorem dX7_voidRow_5 : decode cX7_voidRow 5 = .ok (.bipush 6, 2) := by decide +kernel
theorem dX7_voidRow_7 : decode cX7_voidRow 7 = .ok (.invokevirtual 117, 3) := by decide +kernel
theorem dX7_voidRow_10 : decode cX7_voidRow 10 = .ok (.invokestatic 59, 3) := by decide +kernel
theorem dX7_voidRow_13 : decode cX7_voidRow 13 = .ok (.invokespecial 189, 3) := by decide +kernel
theorem dX7_voidRow_16 : decode cX7_voidRow 16 = .ok (.astore_n 2, 1) := by decide +kernel
theorem dX7_voidRow_17 : decode cX7_voidRow 17 = .ok (.aload_n 2, 1) := by decide +kernel
theorem dX7_voidRow_18 : decode cX7_voidRow 18 = .ok (.ldc2_w 198, 3) := by decide +kernel
theorem dX7_voidRow_21 : decode cX7_voidRow 21 = .ok (.iconst 1, 1) := by decide +kernel
theorem dX7_voidRow_22 : decode cX7_voidRow 22 = .ok (.invokevirtual 192, 3) := by decide +kernel
theorem dX7_voidRow_25 : decode cX7_voidRow 25 = .ok (.aload_n 2, 1) := by decide +kernel
theorem dX7_voidRow_26 : decode cX7_voidRow 26 = .ok (.aload_n 0, 1) := by decide +kernel
theorem dX7_voidRow_27 : decode cX7_voidRow 27 = .ok (.iconst 0, 1) := by decide +kernel
theorem dX7_voidRow_28 : decode cX7_voidRow 28 = .ok (.invokevirtual 117, 3) := by decide +kernel
theorem dX7_voidRow_31 : decode cX7_voidRow 31 = .ok (.iconst 4, 1) := by decide +kernel
theorem dX7_voidRow_32 : decode cX7_voidRow 32 = .ok (.invokevirtual 192, 3) := by decide +kernel
theorem dX7_voidRow_35 : decode cX7_voidRow 35 = .ok (.aload_n 2, 1) := by decide +kernel
theorem dX7_voidRow_36 : decode cX7_voidRow 36 = .ok (.iload_n 1, 1) := by decide +kernel
theorem dX7_voidRow_37 : decode cX7_voidRow 37 = .ok (.i2l, 1) := by decide +kernel
theorem dX7_voidRow_38 : decode cX7_voidRow 38 = .ok (.iconst 4, 1) := by decide +kernel
theorem dX7_voidRow_39 : decode cX7_voidRow 39 = .ok (.invokevirtual 192, 3) := by decide +kernel
theorem dX7_voidRow_42 : decode cX7_voidRow 42 = .ok (.aload_n 2, 1) := by decide +kernel
theorem dX7_voidRow_43 : decode cX7_voidRow 43 = .ok (.areturn, 1) := by decide +kernel
