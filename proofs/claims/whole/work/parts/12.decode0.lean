theorem dX1_init_0 : decode cX1_init 0 = .ok (.aload_n 0, 1) := by decide +kernel
theorem dX1_init_1 : decode cX1_init 1 = .ok (.invokespecial 3, 3) := by decide +kernel
theorem dX1_init_4 : decode cX1_init 4 = .ok (.aload_n 0, 1) := by decide +kernel
theorem dX1_init_5 : decode cX1_init 5 = .ok (.bipush 14, 2) := by decide +kernel
theorem dX1_init_7 : decode cX1_init 7 = .ok (.newarray .int, 2) := by decide +kernel
theorem dX1_init_9 : decode cX1_init 9 = .ok (.putfield 9, 3) := by decide +kernel
theorem dX1_init_12 : decode cX1_init 12 = .ok (.aload_n 0, 1) := by decide +kernel
theorem dX1_init_13 : decode cX1_init 13 = .ok (.bipush 14, 2) := by decide +kernel
theorem dX1_init_15 : decode cX1_init 15 = .ok (.newarray .int, 2) := by decide +kernel
theorem dX1_init_17 : decode cX1_init 17 = .ok (.putfield 15, 3) := by decide +kernel
theorem dX1_init_20 : decode cX1_init 20 = .ok (.aload_n 0, 1) := by decide +kernel
theorem dX1_init_21 : decode cX1_init 21 = .ok (.iconst 1, 1) := by decide +kernel
theorem dX1_init_22 : decode cX1_init 22 = .ok (.putfield 18, 3) := by decide +kernel
theorem dX1_init_25 : decode cX1_init 25 = .ok (.aload_n 0, 1) := by decide +kernel
theorem dX1_init_26 : decode cX1_init 26 = .ok (.iconst 0, 1) := by decide +kernel
theorem dX1_init_27 : decode cX1_init 27 = .ok (.putfield 22, 3) := by decide +kernel
theorem dX1_init_30 : decode cX1_init 30 = .ok (.return_, 1) := by decide +kernel
theorem dX0_init_0 : decode cX0_init 0 = .ok (.aload_n 0, 1) := by decide +kernel
theorem dX0_init_1 : decode cX0_init 1 = .ok (.invokespecial 3, 3) := by decide +kernel
theorem dX0_init_4 : decode cX0_init 4 = .ok (.aload_n 0, 1) := by decide +kernel
theorem dX0_init_5 : decode cX0_init 5 = .ok (.iconst 3, 1) := by decide +kernel
theorem dX0_init_6 : decode cX0_init 6 = .ok (.newarray .int, 2) := by decide +kernel
theorem dX0_init_8 : decode cX0_init 8 = .ok (.putfield 9, 3) := by decide +kernel
theorem dX0_init_11 : decode cX0_init 11 = .ok (.aload_n 0, 1) := by decide +kernel
theorem dX0_init_12 : decode cX0_init 12 = .ok (.iconst 0, 1) := by decide +kernel
theorem dX0_init_13 : decode cX0_init 13 = .ok (.putfield 15, 3) := by decide +kernel
theorem dX0_init_16 : decode cX0_init 16 = .ok (.return_, 1) := by decide +kernel
theorem dX2_init_0 : decode cX2_init 0 = .ok (.aload_n 0, 1) := by decide +kernel
theorem dX2_init_1 : decode cX2_init 1 = .ok (.invokespecial 3, 3) := by decide +kernel
theorem dX2_init_4 : decode cX2_init 4 = .ok (.aload_n 0, 1) := by decide +kernel
theorem dX2_init_5 : decode cX2_init 5 = .ok (.bipush 14, 2) := by decide +kernel
theorem dX2_init_7 : decode cX2_init 7 = .ok (.newarray .int, 2) := by decide +kernel
theorem dX2_init_9 : decode cX2_init 9 = .ok (.putfield 9, 3) := by decide +kernel
theorem dX2_init_12 : decode cX2_init 12 = .ok (.aload_n 0, 1) := by decide +kernel
theorem dX2_init_13 : decode cX2_init 13 = .ok (.sipush 128, 3) := by decide +kernel
theorem dX2_init_16 : decode cX2_init 16 = .ok (.newarray .int, 2) := by decide +kernel
theorem dX2_init_18 : decode cX2_init 18 = .ok (.putfield 15, 3) := by decide +kernel
theorem dX2_init_21 : decode cX2_init 21 = .ok (.aload_n 0, 1) := by decide +kernel
theorem dX2_init_22 : decode cX2_init 22 = .ok (.iconst 1, 1) := by decide +kernel
theorem dX2_init_23 : decode cX2_init 23 = .ok (.putfield 18, 3) := by decide +kernel
theorem dX2_init_26 : decode cX2_init 26 = .ok (.return_, 1) := by decide +kernel
theorem dX1_restart_0 : decode cX1_restart 0 = .ok (.aload_n 0, 1) := by decide +kernel
theorem dX1_restart_1 : decode cX1_restart 1 = .ok (.iload_n 1, 1) := by decide +kernel
theorem dX1_restart_2 : decode cX1_restart 2 = .ok (.putfield 18, 3) := by decide +kernel
theorem dX1_restart_5 : decode cX1_restart 5 = .ok (.aload_n 0, 1) := by decide +kernel
theorem dX1_restart_6 : decode cX1_restart 6 = .ok (.iconst 0, 1) := by decide +kernel
theorem dX1_restart_7 : decode cX1_restart 7 = .ok (.putfield 22, 3) := by decide +kernel
theorem dX1_restart_10 : decode cX1_restart 10 = .ok (.return_, 1) := by decide +kernel
theorem dX1_hasVertex_0 : decode cX1_hasVertex 0 = .ok (.iload_n 1, 1) := by decide +kernel
theorem dX1_hasVertex_1 : decode cX1_hasVertex 1 = .ok (.ifCond .lt 15, 3) := by decide +kernel
theorem dX1_hasVertex_4 : decode cX1_hasVertex 4 = .ok (.iload_n 1, 1) := by decide +kernel
theorem dX1_hasVertex_5 : decode cX1_hasVertex 5 = .ok (.aload_n 0, 1) := by decide +kernel
theorem dX1_hasVertex_6 : decode cX1_hasVertex 6 = .ok (.getfield 18, 3) := by decide +kernel
theorem dX1_hasVertex_9 : decode cX1_hasVertex 9 = .ok (.if_icmp .ge 7, 3) := by decide +kernel
theorem dX1_hasVertex_12 : decode cX1_hasVertex 12 = .ok (.iconst 1, 1) := by decide +kernel
theorem dX1_hasVertex_13 : decode cX1_hasVertex 13 = .ok (.goto 4, 3) := by decide +kernel
theorem dX1_hasVertex_16 : decode cX1_hasVertex 16 = .ok (.iconst 0, 1) := by decide +kernel
theorem dX1_hasVertex_17 : decode cX1_hasVertex 17 = .ok (.ireturn, 1) := by decide +kernel
theorem dX1_addArc_0 : decode cX1_addArc 0 = .ok (.aload_n 0, 1) := by decide +kernel
theorem dX1_addArc_1 : decode cX1_addArc 1 = .ok (.getfield 9, 3) := by decide +kernel
theorem dX1_addArc_4 : decode cX1_addArc 4 = .ok (.aload_n 0, 1) := by decide +kernel
theorem dX1_addArc_5 : decode cX1_addArc 5 = .ok (.getfield 22, 3) := by decide +kernel
theorem dX1_addArc_8 : decode cX1_addArc 8 = .ok (.iload_n 1, 1) := by decide +kernel
theorem dX1_addArc_9 : decode cX1_addArc 9 = .ok (.iastore, 1) := by decide +kernel
theorem dX1_addArc_10 : decode cX1_addArc 10 = .ok (.aload_n 0, 1) := by decide +kernel
theorem dX1_addArc_11 : decode cX1_addArc 11 = .ok (.getfield 15, 3) := by decide +kernel
theorem dX1_addArc_14 : decode cX1_addArc 14 = .ok (.aload_n 0, 1) := by decide +kernel
theorem dX1_addArc_15 : decode cX1_addArc 15 = .ok (.getfield 22, 3) := by decide +kernel
theorem dX1_addArc_18 : decode cX1_addArc 18 = .ok (.iload_n 2, 1) := by decide +kernel
theorem dX1_addArc_19 : decode cX1_addArc 19 = .ok (.iastore, 1) := by decide +kernel
theorem dX1_addArc_20 : decode cX1_addArc 20 = .ok (.aload_n 0, 1) := by decide +kernel
theorem dX1_addArc_21 : decode cX1_addArc 21 = .ok (.dup, 1) := by decide +kernel
theorem dX1_addArc_22 : decode cX1_addArc 22 = .ok (.getfield 22, 3) := by decide +kernel
theorem dX1_addArc_25 : decode cX1_addArc 25 = .ok (.iconst 1, 1) := by decide +kernel
theorem dX1_addArc_26 : decode cX1_addArc 26 = .ok (.iadd, 1) := by decide +kernel
theorem dX1_addArc_27 : decode cX1_addArc 27 = .ok (.putfield 22, 3) := by decide +kernel
theorem dX1_addArc_30 : decode cX1_addArc 30 = .ok (.return_, 1) := by decide +kernel
theorem dX1_hasArc_0 : decode cX1_hasArc 0 = .ok (.iload_n 1, 1) := by decide +kernel
theorem dX1_hasArc_1 : decode cX1_hasArc 1 = .ok (.ifCond .lt 15, 3) := by decide +kernel
theorem dX1_hasArc_4 : decode cX1_hasArc 4 = .ok (.iload_n 1, 1) := by decide +kernel
theorem dX1_hasArc_5 : decode cX1_hasArc 5 = .ok (.aload_n 0, 1) := by decide +kernel
theorem dX1_hasArc_6 : decode cX1_hasArc 6 = .ok (.getfield 22, 3) := by decide +kernel
theorem dX1_hasArc_9 : decode cX1_hasArc 9 = .ok (.if_icmp .ge 7, 3) := by decide +kernel
theorem dX1_hasArc_12 : decode cX1_hasArc 12 = .ok (.iconst 1, 1) := by decide +kernel
theorem dX1_hasArc_13 : decode cX1_hasArc 13 = .ok (.goto 4, 3) := by decide +kernel
theorem dX1_hasArc_16 : decode cX1_hasArc 16 = .ok (.iconst 0, 1) := by decide +kernel
theorem dX1_hasArc_17 : decode cX1_hasArc 17 = .ok (.ireturn, 1) := by decide +kernel
theorem dX1_removeArc_0 : decode cX1_removeArc 0 = .ok (.aload_n 0, 1) := by decide +kernel
theorem dX1_removeArc_1 : decode cX1_removeArc 1 = .ok (.dup, 1) := by decide +kernel
theorem dX1_removeArc_2 : decode cX1_removeArc 2 = .ok (.getfield 22, 3) := by decide +kernel
theorem dX1_removeArc_5 : decode cX1_removeArc 5 = .ok (.iconst 1, 1) := by decide +kernel
theorem dX1_removeArc_6 : decode cX1_removeArc 6 = .ok (.isub, 1) := by decide +kernel
theorem dX1_removeArc_7 : decode cX1_removeArc 7 = .ok (.putfield 22, 3) := by decide +kernel
theorem dX1_removeArc_10 : decode cX1_removeArc 10 = .ok (.iload_n 1, 1) := by decide +kernel
theorem dX1_removeArc_11 : decode cX1_removeArc 11 = .ok (.istore_n 2, 1) := by decide +kernel
theorem dX1_removeArc_12 : decode cX1_removeArc 12 = .ok (.iload_n 2, 1) := by decide +kernel
theorem dX1_removeArc_13 : decode cX1_removeArc 13 = .ok (.aload_n 0, 1) := by decide +kernel
theorem dX1_removeArc_14 : decode cX1_removeArc 14 = .ok (.getfield 22, 3) := by decide +kernel
theorem dX1_removeArc_17 : decode cX1_removeArc 17 = .ok (.if_icmp .ge 37, 3) := by decide +kernel
theorem dX1_removeArc_20 : decode cX1_removeArc 20 = .ok (.aload_n 0, 1) := by decide +kernel
theorem dX1_removeArc_21 : decode cX1_removeArc 21 = .ok (.getfield 9, 3) := by decide +kernel
theorem dX1_removeArc_24 : decode cX1_removeArc 24 = .ok (.iload_n 2, 1) := by decide +kernel
theorem dX1_removeArc_25 : decode cX1_removeArc 25 = .ok (.aload_n 0, 1) := by decide +kernel
theorem dX1_removeArc_26 : decode cX1_removeArc 26 = .ok (.getfield 9, 3) := by decide +kernel
theorem dX1_removeArc_29 : decode cX1_removeArc 29 = .ok (.iload_n 2, 1) := by decide +kernel
theorem dX1_removeArc_30 : decode cX1_removeArc 30 = .ok (.iconst 1, 1) := by decide +kernel
theorem dX1_removeArc_31 : decode cX1_removeArc 31 = .ok (.iadd, 1) := by decide +kernel
theorem dX1_removeArc_32 : decode cX1_removeArc 32 = .ok (.iaload, 1) := by decide +kernel
theorem dX1_removeArc_33 : decode cX1_removeArc 33 = .ok (.iastore, 1) := by decide +kernel
theorem dX1_removeArc_34 : decode cX1_removeArc 34 = .ok (.aload_n 0, 1) := by decide +kernel
theorem dX1_removeArc_35 : decode cX1_removeArc 35 = .ok (.getfield 15, 3) := by decide +kernel
theorem dX1_removeArc_38 : decode cX1_removeArc 38 = .ok (.iload_n 2, 1) := by decide +kernel
theorem dX1_removeArc_39 : decode cX1_removeArc 39 = .ok (.aload_n 0, 1) := by decide +kernel
theorem dX1_removeArc_40 : decode cX1_removeArc 40 = .ok (.getfield 15, 3) := by decide +kernel
theorem dX1_removeArc_43 : decode cX1_removeArc 43 = .ok (.iload_n 2, 1) := by decide +kernel
theorem dX1_removeArc_44 : decode cX1_removeArc 44 = .ok (.iconst 1, 1) := by decide +kernel
theorem dX1_removeArc_45 : decode cX1_removeArc 45 = .ok (.iadd, 1) := by decide +kernel
theorem dX1_removeArc_46 : decode cX1_removeArc 46 = .ok (.iaload, 1) := by decide +kernel
theorem dX1_removeArc_47 : decode cX1_removeArc 47 = .ok (.iastore, 1) := by decide +kernel
theorem dX1_removeArc_48 : decode cX1_removeArc 48 = .ok (.iinc 2 1, 3) := by decide +kernel
theorem dX1_removeArc_51 : decode cX1_removeArc 51 = .ok (.goto (-39), 3) := by decide +kernel
theorem dX1_removeArc_54 : decode cX1_removeArc 54 = .ok (.return_, 1) := by decide +kernel
theorem dX1_hasSet_0 : decode cX1_hasSet 0 = .ok (.iload_n 1, 1) := by decide +kernel
theorem dX1_hasSet_1 : decode cX1_hasSet 1 = .ok (.ifCond .lt 15, 3) := by decide +kernel
theorem dX1_hasSet_4 : decode cX1_hasSet 4 = .ok (.iload_n 1, 1) := by decide +kernel
theorem dX1_hasSet_5 : decode cX1_hasSet 5 = .ok (.aload_n 0, 1) := by decide +kernel
theorem dX1_hasSet_6 : decode cX1_hasSet 6 = .ok (.invokevirtual 25, 3) := by decide +kernel
theorem dX1_hasSet_9 : decode cX1_hasSet 9 = .ok (.if_icmp .gt 7, 3) := by decide +kernel
theorem dX1_hasSet_12 : decode cX1_hasSet 12 = .ok (.iconst 1, 1) := by decide +kernel
theorem dX1_hasSet_13 : decode cX1_hasSet 13 = .ok (.goto 4, 3) := by decide +kernel
theorem dX1_hasSet_16 : decode cX1_hasSet 16 = .ok (.iconst 0, 1) := by decide +kernel
theorem dX1_hasSet_17 : decode cX1_hasSet 17 = .ok (.ireturn, 1) := by decide +kernel
theorem dX1_allVertices_0 : decode cX1_allVertices 0 = .ok (.iconst 1, 1) := by decide +kernel
theorem dX1_allVertices_1 : decode cX1_allVertices 1 = .ok (.aload_n 0, 1) := by decide +kernel
theorem dX1_allVertices_2 : decode cX1_allVertices 2 = .ok (.getfield 18, 3) := by decide +kernel
theorem dX1_allVertices_5 : decode cX1_allVertices 5 = .ok (.ishl, 1) := by decide +kernel
theorem dX1_allVertices_6 : decode cX1_allVertices 6 = .ok (.iconst 1, 1) := by decide +kernel
theorem dX1_allVertices_7 : decode cX1_allVertices 7 = .ok (.isub, 1) := by decide +kernel
theorem dX1_allVertices_8 : decode cX1_allVertices 8 = .ok (.ireturn, 1) := by decide +kernel
theorem dX0_add_0 : decode cX0_add 0 = .ok (.aload_n 0, 1) := by decide +kernel
theorem dX0_add_1 : decode cX0_add 1 = .ok (.getfield 9, 3) := by decide +kernel
theorem dX0_add_4 : decode cX0_add 4 = .ok (.aload_n 0, 1) := by decide +kernel
theorem dX0_add_5 : decode cX0_add 5 = .ok (.getfield 15, 3) := by decide +kernel
theorem dX0_add_8 : decode cX0_add 8 = .ok (.iload_n 1, 1) := by decide +kernel
theorem dX0_add_9 : decode cX0_add 9 = .ok (.iastore, 1) := by decide +kernel
theorem dX0_add_10 : decode cX0_add 10 = .ok (.aload_n 0, 1) := by decide +kernel
theorem dX0_add_11 : decode cX0_add 11 = .ok (.dup, 1) := by decide +kernel
theorem dX0_add_12 : decode cX0_add 12 = .ok (.getfield 15, 3) := by decide +kernel
theorem dX0_add_15 : decode cX0_add 15 = .ok (.iconst 1, 1) := by decide +kernel
theorem dX0_add_16 : decode cX0_add 16 = .ok (.iadd, 1) := by decide +kernel
theorem dX0_add_17 : decode cX0_add 17 = .ok (.putfield 15, 3) := by decide +kernel
theorem dX0_add_20 : decode cX0_add 20 = .ok (.return_, 1) := by decide +kernel
theorem dX1_entrySize_0 : decode cX1_entrySize 0 = .ok (.iconst 0, 1) := by decide +kernel
theorem dX1_entrySize_1 : decode cX1_entrySize 1 = .ok (.istore_n 2, 1) := by decide +kernel
theorem dX1_entrySize_2 : decode cX1_entrySize 2 = .ok (.iconst 0, 1) := by decide +kernel
theorem dX1_entrySize_3 : decode cX1_entrySize 3 = .ok (.istore_n 3, 1) := by decide +kernel
theorem dX1_entrySize_4 : decode cX1_entrySize 4 = .ok (.iload_n 3, 1) := by decide +kernel
theorem dX1_entrySize_5 : decode cX1_entrySize 5 = .ok (.aload_n 0, 1) := by decide +kernel
theorem dX1_entrySize_6 : decode cX1_entrySize 6 = .ok (.getfield 22, 3) := by decide +kernel
theorem dX1_entrySize_9 : decode cX1_entrySize 9 = .ok (.if_icmp .ge 21, 3) := by decide +kernel
theorem dX1_entrySize_12 : decode cX1_entrySize 12 = .ok (.aload_n 0, 1) := by decide +kernel
theorem dX1_entrySize_13 : decode cX1_entrySize 13 = .ok (.iload_n 3, 1) := by decide +kernel
theorem dX1_entrySize_14 : decode cX1_entrySize 14 = .ok (.iload_n 1, 1) := by decide +kernel
theorem dX1_entrySize_15 : decode cX1_entrySize 15 = .ok (.invokevirtual 29, 3) := by decide +kernel
theorem dX1_entrySize_18 : decode cX1_entrySize 18 = .ok (.ifCond .eq 6, 3) := by decide +kernel
theorem dX1_entrySize_21 : decode cX1_entrySize 21 = .ok (.iinc 2 1, 3) := by decide +kernel
theorem dX1_entrySize_24 : decode cX1_entrySize 24 = .ok (.iinc 3 1, 3) := by decide +kernel
theorem dX1_entrySize_27 : decode cX1_entrySize 27 = .ok (.goto (-23), 3) := by decide +kernel
theorem dX1_entrySize_30 : decode cX1_entrySize 30 = .ok (.iload_n 2, 1) := by decide +kernel
theorem dX1_entrySize_31 : decode cX1_entrySize 31 = .ok (.ireturn, 1) := by decide +kernel
theorem dX1_enters_0 : decode cX1_enters 0 = .ok (.iload_n 2, 1) := by decide +kernel
theorem dX1_enters_1 : decode cX1_enters 1 = .ok (.iconst 1, 1) := by decide +kernel
theorem dX1_enters_2 : decode cX1_enters 2 = .ok (.aload_n 0, 1) := by decide +kernel
theorem dX1_enters_3 : decode cX1_enters 3 = .ok (.getfield 15, 3) := by decide +kernel
theorem dX1_enters_6 : decode cX1_enters 6 = .ok (.iload_n 1, 1) := by decide +kernel
theorem dX1_enters_7 : decode cX1_enters 7 = .ok (.iaload, 1) := by decide +kernel
theorem dX1_enters_8 : decode cX1_enters 8 = .ok (.ishl, 1) := by decide +kernel
theorem dX1_enters_9 : decode cX1_enters 9 = .ok (.iand, 1) := by decide +kernel
theorem dX1_enters_10 : decode cX1_enters 10 = .ok (.ifCond .eq 20, 3) := by decide +kernel
theorem dX1_enters_13 : decode cX1_enters 13 = .ok (.iload_n 2, 1) := by decide +kernel
theorem dX1_enters_14 : decode cX1_enters 14 = .ok (.iconst 1, 1) := by decide +kernel
theorem dX1_enters_15 : decode cX1_enters 15 = .ok (.aload_n 0, 1) := by decide +kernel
theorem dX1_enters_16 : decode cX1_enters 16 = .ok (.getfield 9, 3) := by decide +kernel
theorem dX1_enters_19 : decode cX1_enters 19 = .ok (.iload_n 1, 1) := by decide +kernel
theorem dX1_enters_20 : decode cX1_enters 20 = .ok (.iaload, 1) := by decide +kernel
theorem dX1_enters_21 : decode cX1_enters 21 = .ok (.ishl, 1) := by decide +kernel
theorem dX1_enters_22 : decode cX1_enters 22 = .ok (.iand, 1) := by decide +kernel
theorem dX1_enters_23 : decode cX1_enters 23 = .ok (.ifCond .ne 7, 3) := by decide +kernel
theorem dX1_enters_26 : decode cX1_enters 26 = .ok (.iconst 1, 1) := by decide +kernel
theorem dX1_enters_27 : decode cX1_enters 27 = .ok (.goto 4, 3) := by decide +kernel
theorem dX1_enters_30 : decode cX1_enters 30 = .ok (.iconst 0, 1) := by decide +kernel
theorem dX1_enters_31 : decode cX1_enters 31 = .ok (.ireturn, 1) := by decide +kernel
theorem dX0_missing_0 : decode cX0_missing 0 = .ok (.iconst 0, 1) := by decide +kernel
theorem dX0_missing_1 : decode cX0_missing 1 = .ok (.istore_n 2, 1) := by decide +kernel
theorem dX0_missing_2 : decode cX0_missing 2 = .ok (.iconst 0, 1) := by decide +kernel
theorem dX0_missing_3 : decode cX0_missing 3 = .ok (.istore_n 3, 1) := by decide +kernel
theorem dX0_missing_4 : decode cX0_missing 4 = .ok (.iload_n 3, 1) := by decide +kernel
theorem dX0_missing_5 : decode cX0_missing 5 = .ok (.aload_n 0, 1) := by decide +kernel
theorem dX0_missing_6 : decode cX0_missing 6 = .ok (.getfield 15, 3) := by decide +kernel
theorem dX0_missing_9 : decode cX0_missing 9 = .ok (.if_icmp .ge 23, 3) := by decide +kernel
theorem dX0_missing_12 : decode cX0_missing 12 = .ok (.aload_n 0, 1) := by decide +kernel
theorem dX0_missing_13 : decode cX0_missing 13 = .ok (.getfield 9, 3) := by decide +kernel
theorem dX0_missing_16 : decode cX0_missing 16 = .ok (.iload_n 3, 1) := by decide +kernel
theorem dX0_missing_17 : decode cX0_missing 17 = .ok (.iaload, 1) := by decide +kernel
theorem dX0_missing_18 : decode cX0_missing 18 = .ok (.iload_n 1, 1) := by decide +kernel
theorem dX0_missing_19 : decode cX0_missing 19 = .ok (.iand, 1) := by decide +kernel
theorem dX0_missing_20 : decode cX0_missing 20 = .ok (.ifCond .ne 6, 3) := by decide +kernel
theorem dX0_missing_23 : decode cX0_missing 23 = .ok (.iinc 2 1, 3) := by decide +kernel
theorem dX0_missing_26 : decode cX0_missing 26 = .ok (.iinc 3 1, 3) := by decide +kernel
theorem dX0_missing_29 : decode cX0_missing 29 = .ok (.goto (-25), 3) := by decide +kernel
theorem dX0_missing_32 : decode cX0_missing 32 = .ok (.iload_n 2, 1) := by decide +kernel
theorem dX0_missing_33 : decode cX0_missing 33 = .ok (.ireturn, 1) := by decide +kernel
theorem dX2_refresh_0 : decode cX2_refresh 0 = .ok (.aload_n 0, 1) := by decide +kernel
theorem dX2_refresh_1 : decode cX2_refresh 1 = .ok (.getfield 18, 3) := by decide +kernel
theorem dX2_refresh_4 : decode cX2_refresh 4 = .ok (.ifCond .ne 4, 3) := by decide +kernel
theorem dX2_refresh_7 : decode cX2_refresh 7 = .ok (.return_, 1) := by decide +kernel
theorem dX2_refresh_8 : decode cX2_refresh 8 = .ok (.aload_n 0, 1) := by decide +kernel
theorem dX2_refresh_9 : decode cX2_refresh 9 = .ok (.iconst 0, 1) := by decide +kernel
theorem dX2_refresh_10 : decode cX2_refresh 10 = .ok (.putfield 18, 3) := by decide +kernel
theorem dX2_refresh_13 : decode cX2_refresh 13 = .ok (.aload_n 0, 1) := by decide +kernel
theorem dX2_refresh_14 : decode cX2_refresh 14 = .ok (.getfield 9, 3) := by decide +kernel
theorem dX2_refresh_17 : decode cX2_refresh 17 = .ok (.iconst (-1), 1) := by decide +kernel
theorem dX2_refresh_18 : decode cX2_refresh 18 = .ok (.invokestatic 22, 3) := by decide +kernel
theorem dX2_refresh_21 : decode cX2_refresh 21 = .ok (.aload_n 0, 1) := by decide +kernel
theorem dX2_refresh_22 : decode cX2_refresh 22 = .ok (.aload_n 1, 1) := by decide +kernel
theorem dX2_refresh_23 : decode cX2_refresh 23 = .ok (.aload_n 2, 1) := by decide +kernel
theorem dX2_refresh_24 : decode cX2_refresh 24 = .ok (.invokevirtual 28, 3) := by decide +kernel
theorem dX2_refresh_27 : decode cX2_refresh 27 = .ok (.ifCond .ne 4, 3) := by decide +kernel
theorem dX2_refresh_30 : decode cX2_refresh 30 = .ok (.return_, 1) := by decide +kernel
theorem dX2_refresh_31 : decode cX2_refresh 31 = .ok (.iconst 0, 1) := by decide +kernel
theorem dX2_refresh_32 : decode cX2_refresh 32 = .ok (.istore_n 3, 1) := by decide +kernel
theorem dX2_refresh_33 : decode cX2_refresh 33 = .ok (.iload_n 3, 1) := by decide +kernel
theorem dX2_refresh_34 : decode cX2_refresh 34 = .ok (.aload_n 2, 1) := by decide +kernel
theorem dX2_refresh_35 : decode cX2_refresh 35 = .ok (.getfield 32, 3) := by decide +kernel
theorem dX2_refresh_38 : decode cX2_refresh 38 = .ok (.if_icmp .ge 21, 3) := by decide +kernel
theorem dX2_refresh_41 : decode cX2_refresh 41 = .ok (.aload_n 0, 1) := by decide +kernel
theorem dX2_refresh_42 : decode cX2_refresh 42 = .ok (.aload_n 1, 1) := by decide +kernel
theorem dX2_refresh_43 : decode cX2_refresh 43 = .ok (.iload_n 3, 1) := by decide +kernel
theorem dX2_refresh_44 : decode cX2_refresh 44 = .ok (.aload_n 2, 1) := by decide +kernel
theorem dX2_refresh_45 : decode cX2_refresh 45 = .ok (.getfield 38, 3) := by decide +kernel
theorem dX2_refresh_48 : decode cX2_refresh 48 = .ok (.iload_n 3, 1) := by decide +kernel
theorem dX2_refresh_49 : decode cX2_refresh 49 = .ok (.iaload, 1) := by decide +kernel
theorem dX2_refresh_50 : decode cX2_refresh 50 = .ok (.invokevirtual 41, 3) := by decide +kernel
theorem dX2_refresh_53 : decode cX2_refresh 53 = .ok (.iinc 3 1, 3) := by decide +kernel
theorem dX2_refresh_56 : decode cX2_refresh 56 = .ok (.goto (-23), 3) := by decide +kernel
theorem dX2_refresh_59 : decode cX2_refresh 59 = .ok (.return_, 1) := by decide +kernel
theorem dX2_measureSurplus_0 : decode cX2_measureSurplus 0 = .ok (.iconst 1, 1) := by decide +kernel
theorem dX2_measureSurplus_1 : decode cX2_measureSurplus 1 = .ok (.istore_n 3, 1) := by decide +kernel
theorem dX2_measureSurplus_2 : decode cX2_measureSurplus 2 = .ok (.iload_n 3, 1) := by decide +kernel
theorem dX2_measureSurplus_3 : decode cX2_measureSurplus 3 = .ok (.aload_n 1, 1) := by decide +kernel
theorem dX2_measureSurplus_4 : decode cX2_measureSurplus 4 = .ok (.invokevirtual 45, 3) := by decide +kernel
theorem dX2_measureSurplus_7 : decode cX2_measureSurplus 7 = .ok (.if_icmp .gt 37, 3) := by decide +kernel
theorem dX2_measureSurplus_10 : decode cX2_measureSurplus 10 = .ok (.aload_n 0, 1) := by decide +kernel
theorem dX2_measureSurplus_11 : decode cX2_measureSurplus 11 = .ok (.getfield 15, 3) := by decide +kernel
theorem dX2_measureSurplus_14 : decode cX2_measureSurplus 14 = .ok (.iload_n 3, 1) := by decide +kernel
theorem dX2_measureSurplus_15 : decode cX2_measureSurplus 15 = .ok (.aload_n 1, 1) := by decide +kernel
theorem dX2_measureSurplus_16 : decode cX2_measureSurplus 16 = .ok (.iload_n 3, 1) := by decide +kernel
theorem dX2_measureSurplus_17 : decode cX2_measureSurplus 17 = .ok (.invokevirtual 51, 3) := by decide +kernel
theorem dX2_measureSurplus_20 : decode cX2_measureSurplus 20 = .ok (.aload_n 2, 1) := by decide +kernel
theorem dX2_measureSurplus_21 : decode cX2_measureSurplus 21 = .ok (.iload_n 3, 1) := by decide +kernel
theorem dX2_measureSurplus_22 : decode cX2_measureSurplus 22 = .ok (.invokevirtual 55, 3) := by decide +kernel
theorem dX2_measureSurplus_25 : decode cX2_measureSurplus 25 = .ok (.isub, 1) := by decide +kernel
theorem dX2_measureSurplus_26 : decode cX2_measureSurplus 26 = .ok (.iastore, 1) := by decide +kernel
theorem dX2_measureSurplus_27 : decode cX2_measureSurplus 27 = .ok (.aload_n 0, 1) := by decide +kernel
theorem dX2_measureSurplus_28 : decode cX2_measureSurplus 28 = .ok (.getfield 15, 3) := by decide +kernel
theorem dX2_measureSurplus_31 : decode cX2_measureSurplus 31 = .ok (.iload_n 3, 1) := by decide +kernel
theorem dX2_measureSurplus_32 : decode cX2_measureSurplus 32 = .ok (.iaload, 1) := by decide +kernel
theorem dX2_measureSurplus_33 : decode cX2_measureSurplus 33 = .ok (.ifCond .ge 5, 3) := by decide +kernel
theorem dX2_measureSurplus_36 : decode cX2_measureSurplus 36 = .ok (.iconst 0, 1) := by decide +kernel
theorem dX2_measureSurplus_37 : decode cX2_measureSurplus 37 = .ok (.ireturn, 1) := by decide +kernel
theorem dX2_measureSurplus_38 : decode cX2_measureSurplus 38 = .ok (.iinc 3 1, 3) := by decide +kernel
theorem dX2_measureSurplus_41 : decode cX2_measureSurplus 41 = .ok (.goto (-39), 3) := by decide +kernel
theorem dX2_measureSurplus_44 : decode cX2_measureSurplus 44 = .ok (.iconst 1, 1) := by decide +kernel
theorem dX2_measureSurplus_45 : decode cX2_measureSurplus 45 = .ok (.ireturn, 1) := by decide +kernel
theorem dX2_growToAll_0 : decode cX2_growToAll 0 = .ok (.iload_n 3, 1) := by decide +kernel
theorem dX2_growToAll_1 : decode cX2_growToAll 1 = .ok (.istore 4, 2) := by decide +kernel
theorem dX2_growToAll_3 : decode cX2_growToAll 3 = .ok (.iconst 1, 1) := by decide +kernel
theorem dX2_growToAll_4 : decode cX2_growToAll 4 = .ok (.istore 5, 2) := by decide +kernel
theorem dX2_growToAll_6 : decode cX2_growToAll 6 = .ok (.iload 5, 2) := by decide +kernel
theorem dX2_growToAll_8 : decode cX2_growToAll 8 = .ok (.aload_n 1, 1) := by decide +kernel
theorem dX2_growToAll_9 : decode cX2_growToAll 9 = .ok (.getfield 58, 3) := by decide +kernel
theorem dX2_growToAll_12 : decode cX2_growToAll 12 = .ok (.if_icmp .ge 49, 3) := by decide +kernel
theorem dX2_growToAll_15 : decode cX2_growToAll 15 = .ok (.aload_n 0, 1) := by decide +kernel
theorem dX2_growToAll_16 : decode cX2_growToAll 16 = .ok (.aload_n 1, 1) := by decide +kernel
theorem dX2_growToAll_17 : decode cX2_growToAll 17 = .ok (.iload 4, 2) := by decide +kernel
theorem dX2_growToAll_19 : decode cX2_growToAll 19 = .ok (.invokevirtual 61, 3) := by decide +kernel
theorem dX2_growToAll_22 : decode cX2_growToAll 22 = .ok (.istore 6, 2) := by decide +kernel
theorem dX2_growToAll_24 : decode cX2_growToAll 24 = .ok (.iload 6, 2) := by decide +kernel
theorem dX2_growToAll_26 : decode cX2_growToAll 26 = .ok (.iconst (-1), 1) := by decide +kernel
theorem dX2_growToAll_27 : decode cX2_growToAll 27 = .ok (.if_icmp .ne 4, 3) := by decide +kernel
theorem dX2_growToAll_30 : decode cX2_growToAll 30 = .ok (.return_, 1) := by decide +kernel
theorem dX2_growToAll_31 : decode cX2_growToAll 31 = .ok (.aload_n 0, 1) := by decide +kernel
theorem dX2_growToAll_32 : decode cX2_growToAll 32 = .ok (.aload_n 1, 1) := by decide +kernel
theorem dX2_growToAll_33 : decode cX2_growToAll 33 = .ok (.iload 6, 2) := by decide +kernel
theorem dX2_growToAll_35 : decode cX2_growToAll 35 = .ok (.iload_n 2, 1) := by decide +kernel
theorem dX2_growToAll_36 : decode cX2_growToAll 36 = .ok (.iload 4, 2) := by decide +kernel
theorem dX2_growToAll_38 : decode cX2_growToAll 38 = .ok (.invokevirtual 65, 3) := by decide +kernel
theorem dX2_growToAll_41 : decode cX2_growToAll 41 = .ok (.iload 4, 2) := by decide +kernel
theorem dX2_growToAll_43 : decode cX2_growToAll 43 = .ok (.iconst 1, 1) := by decide +kernel
theorem dX2_growToAll_44 : decode cX2_growToAll 44 = .ok (.aload_n 1, 1) := by decide +kernel
theorem dX2_growToAll_45 : decode cX2_growToAll 45 = .ok (.getfield 69, 3) := by decide +kernel
theorem dX2_growToAll_48 : decode cX2_growToAll 48 = .ok (.iload 6, 2) := by decide +kernel
theorem dX2_growToAll_50 : decode cX2_growToAll 50 = .ok (.iaload, 1) := by decide +kernel
theorem dX2_growToAll_51 : decode cX2_growToAll 51 = .ok (.ishl, 1) := by decide +kernel
theorem dX2_growToAll_52 : decode cX2_growToAll 52 = .ok (.ior, 1) := by decide +kernel
theorem dX2_growToAll_53 : decode cX2_growToAll 53 = .ok (.istore 4, 2) := by decide +kernel
theorem dX2_growToAll_55 : decode cX2_growToAll 55 = .ok (.iinc 5 1, 3) := by decide +kernel
theorem dX2_growToAll_58 : decode cX2_growToAll 58 = .ok (.goto (-52), 3) := by decide +kernel
theorem dX2_growToAll_61 : decode cX2_growToAll 61 = .ok (.return_, 1) := by decide +kernel
theorem dX2_leastSafeArc_0 : decode cX2_leastSafeArc 0 = .ok (.iconst 0, 1) := by decide +kernel
theorem dX2_leastSafeArc_1 : decode cX2_leastSafeArc 1 = .ok (.istore_n 3, 1) := by decide +kernel
theorem dX2_leastSafeArc_2 : decode cX2_leastSafeArc 2 = .ok (.iload_n 3, 1) := by decide +kernel
theorem dX2_leastSafeArc_3 : decode cX2_leastSafeArc 3 = .ok (.aload_n 1, 1) := by decide +kernel
theorem dX2_leastSafeArc_4 : decode cX2_leastSafeArc 4 = .ok (.getfield 72, 3) := by decide +kernel
theorem dX2_leastSafeArc_7 : decode cX2_leastSafeArc 7 = .ok (.if_icmp .ge 40, 3) := by decide +kernel
theorem dX2_leastSafeArc_10 : decode cX2_leastSafeArc 10 = .ok (.aload_n 0, 1) := by decide +kernel
theorem dX2_leastSafeArc_11 : decode cX2_leastSafeArc 11 = .ok (.getfield 9, 3) := by decide +kernel
theorem dX2_leastSafeArc_14 : decode cX2_leastSafeArc 14 = .ok (.iload_n 3, 1) := by decide +kernel
theorem dX2_leastSafeArc_15 : decode cX2_leastSafeArc 15 = .ok (.iaload, 1) := by decide +kernel
theorem dX2_leastSafeArc_16 : decode cX2_leastSafeArc 16 = .ok (.iconst (-1), 1) := by decide +kernel
theorem dX2_leastSafeArc_17 : decode cX2_leastSafeArc 17 = .ok (.if_icmp .ne 24, 3) := by decide +kernel
theorem dX2_leastSafeArc_20 : decode cX2_leastSafeArc 20 = .ok (.aload_n 1, 1) := by decide +kernel
theorem dX2_leastSafeArc_21 : decode cX2_leastSafeArc 21 = .ok (.iload_n 3, 1) := by decide +kernel
theorem dX2_leastSafeArc_22 : decode cX2_leastSafeArc 22 = .ok (.iload_n 2, 1) := by decide +kernel
theorem dX2_leastSafeArc_23 : decode cX2_leastSafeArc 23 = .ok (.invokestatic 75, 3) := by decide +kernel
theorem dX2_leastSafeArc_26 : decode cX2_leastSafeArc 26 = .ok (.ifCond .eq 15, 3) := by decide +kernel
theorem dX2_leastSafeArc_29 : decode cX2_leastSafeArc 29 = .ok (.aload_n 0, 1) := by decide +kernel
theorem dX2_leastSafeArc_30 : decode cX2_leastSafeArc 30 = .ok (.aload_n 1, 1) := by decide +kernel
theorem dX2_leastSafeArc_31 : decode cX2_leastSafeArc 31 = .ok (.iload_n 3, 1) := by decide +kernel
theorem dX2_leastSafeArc_32 : decode cX2_leastSafeArc 32 = .ok (.iload_n 2, 1) := by decide +kernel
theorem dX2_leastSafeArc_33 : decode cX2_leastSafeArc 33 = .ok (.invokevirtual 79, 3) := by decide +kernel
theorem dX2_leastSafeArc_36 : decode cX2_leastSafeArc 36 = .ok (.ifCond .eq 5, 3) := by decide +kernel
theorem dX2_leastSafeArc_39 : decode cX2_leastSafeArc 39 = .ok (.iload_n 3, 1) := by decide +kernel
theorem dX2_leastSafeArc_40 : decode cX2_leastSafeArc 40 = .ok (.ireturn, 1) := by decide +kernel
theorem dX2_leastSafeArc_41 : decode cX2_leastSafeArc 41 = .ok (.iinc 3 1, 3) := by decide +kernel
theorem dX2_leastSafeArc_44 : decode cX2_leastSafeArc 44 = .ok (.goto (-42), 3) := by decide +kernel
theorem dX2_leastSafeArc_47 : decode cX2_leastSafeArc 47 = .ok (.iconst (-1), 1) := by decide +kernel
theorem dX2_leastSafeArc_48 : decode cX2_leastSafeArc 48 = .ok (.ireturn, 1) := by decide +kernel
theorem dX2_leadsOut_0 : decode cX2_leadsOut 0 = .ok (.iload_n 2, 1) := by decide +kernel
theorem dX2_leadsOut_1 : decode cX2_leadsOut 1 = .ok (.iconst 1, 1) := by decide +kernel
theorem dX2_leadsOut_2 : decode cX2_leadsOut 2 = .ok (.aload_n 0, 1) := by decide +kernel
theorem dX2_leadsOut_3 : decode cX2_leadsOut 3 = .ok (.getfield 82, 3) := by decide +kernel
theorem dX2_leadsOut_6 : decode cX2_leadsOut 6 = .ok (.iload_n 1, 1) := by decide +kernel
theorem dX2_leadsOut_7 : decode cX2_leadsOut 7 = .ok (.iaload, 1) := by decide +kernel
theorem dX2_leadsOut_8 : decode cX2_leadsOut 8 = .ok (.ishl, 1) := by decide +kernel
theorem dX2_leadsOut_9 : decode cX2_leadsOut 9 = .ok (.iand, 1) := by decide +kernel
theorem dX2_leadsOut_10 : decode cX2_leadsOut 10 = .ok (.ifCond .eq 20, 3) := by decide +kernel
theorem dX2_leadsOut_13 : decode cX2_leadsOut 13 = .ok (.iload_n 2, 1) := by decide +kernel
theorem dX2_leadsOut_14 : decode cX2_leadsOut 14 = .ok (.iconst 1, 1) := by decide +kernel
theorem dX2_leadsOut_15 : decode cX2_leadsOut 15 = .ok (.aload_n 0, 1) := by decide +kernel
theorem dX2_leadsOut_16 : decode cX2_leadsOut 16 = .ok (.getfield 69, 3) := by decide +kernel
theorem dX2_leadsOut_19 : decode cX2_leadsOut 19 = .ok (.iload_n 1, 1) := by decide +kernel
theorem dX2_leadsOut_20 : decode cX2_leadsOut 20 = .ok (.iaload, 1) := by decide +kernel
theorem dX2_leadsOut_21 : decode cX2_leadsOut 21 = .ok (.ishl, 1) := by decide +kernel
theorem dX2_leadsOut_22 : decode cX2_leadsOut 22 = .ok (.iand, 1) := by decide +kernel
theorem dX2_leadsOut_23 : decode cX2_leadsOut 23 = .ok (.ifCond .ne 7, 3) := by decide +kernel
theorem dX2_leadsOut_26 : decode cX2_leadsOut 26 = .ok (.iconst 1, 1) := by decide +kernel
theorem dX2_leadsOut_27 : decode cX2_leadsOut 27 = .ok (.goto 4, 3) := by decide +kernel
theorem dX2_leadsOut_30 : decode cX2_leadsOut 30 = .ok (.iconst 0, 1) := by decide +kernel
theorem dX2_leadsOut_31 : decode cX2_leadsOut 31 = .ok (.ireturn, 1) := by decide +kernel
theorem dX2_isSafe_0 : decode cX2_isSafe 0 = .ok (.iconst 1, 1) := by decide +kernel
theorem dX2_isSafe_1 : decode cX2_isSafe 1 = .ok (.istore 4, 2) := by decide +kernel
theorem dX2_isSafe_3 : decode cX2_isSafe 3 = .ok (.iload 4, 2) := by decide +kernel
theorem dX2_isSafe_5 : decode cX2_isSafe 5 = .ok (.aload_n 1, 1) := by decide +kernel
theorem dX2_isSafe_6 : decode cX2_isSafe 6 = .ok (.invokevirtual 45, 3) := by decide +kernel
theorem dX2_isSafe_9 : decode cX2_isSafe 9 = .ok (.if_icmp .gt 33, 3) := by decide +kernel
theorem dX2_isSafe_12 : decode cX2_isSafe 12 = .ok (.aload_n 1, 1) := by decide +kernel
theorem dX2_isSafe_13 : decode cX2_isSafe 13 = .ok (.iload_n 2, 1) := by decide +kernel
theorem dX2_isSafe_14 : decode cX2_isSafe 14 = .ok (.iload_n 3, 1) := by decide +kernel
theorem dX2_isSafe_15 : decode cX2_isSafe 15 = .ok (.iload 4, 2) := by decide +kernel
theorem dX2_isSafe_17 : decode cX2_isSafe 17 = .ok (.invokestatic 85, 3) := by decide +kernel
theorem dX2_isSafe_20 : decode cX2_isSafe 20 = .ok (.ifCond .eq 16, 3) := by decide +kernel
theorem dX2_isSafe_23 : decode cX2_isSafe 23 = .ok (.aload_n 0, 1) := by decide +kernel
theorem dX2_isSafe_24 : decode cX2_isSafe 24 = .ok (.getfield 15, 3) := by decide +kernel
theorem dX2_isSafe_27 : decode cX2_isSafe 27 = .ok (.iload 4, 2) := by decide +kernel
theorem dX2_isSafe_29 : decode cX2_isSafe 29 = .ok (.iaload, 1) := by decide +kernel
theorem dX2_isSafe_30 : decode cX2_isSafe 30 = .ok (.iconst 1, 1) := by decide +kernel
theorem dX2_isSafe_31 : decode cX2_isSafe 31 = .ok (.if_icmp .ge 5, 3) := by decide +kernel
theorem dX2_isSafe_34 : decode cX2_isSafe 34 = .ok (.iconst 0, 1) := by decide +kernel
theorem dX2_isSafe_35 : decode cX2_isSafe 35 = .ok (.ireturn, 1) := by decide +kernel
theorem dX2_isSafe_36 : decode cX2_isSafe 36 = .ok (.iinc 4 1, 3) := by decide +kernel
theorem dX2_isSafe_39 : decode cX2_isSafe 39 = .ok (.goto (-36), 3) := by decide +kernel
theorem dX2_isSafe_42 : decode cX2_isSafe 42 = .ok (.iconst 1, 1) := by decide +kernel
theorem dX2_isSafe_43 : decode cX2_isSafe 43 = .ok (.ireturn, 1) := by decide +kernel
theorem dX2_takesFrom_0 : decode cX2_takesFrom 0 = .ok (.iload_n 3, 1) := by decide +kernel
theorem dX2_takesFrom_1 : decode cX2_takesFrom 1 = .ok (.iload_n 2, 1) := by decide +kernel
theorem dX2_takesFrom_2 : decode cX2_takesFrom 2 = .ok (.iand, 1) := by decide +kernel
theorem dX2_takesFrom_3 : decode cX2_takesFrom 3 = .ok (.ifCond .eq 16, 3) := by decide +kernel
theorem dX2_takesFrom_6 : decode cX2_takesFrom 6 = .ok (.aload_n 0, 1) := by decide +kernel
theorem dX2_takesFrom_7 : decode cX2_takesFrom 7 = .ok (.iload_n 1, 1) := by decide +kernel
theorem dX2_takesFrom_8 : decode cX2_takesFrom 8 = .ok (.iload_n 3, 1) := by decide +kernel
theorem dX2_takesFrom_9 : decode cX2_takesFrom 9 = .ok (.invokevirtual 89, 3) := by decide +kernel
theorem dX2_takesFrom_12 : decode cX2_takesFrom 12 = .ok (.ifCond .eq 7, 3) := by decide +kernel
theorem dX2_takesFrom_15 : decode cX2_takesFrom 15 = .ok (.iconst 1, 1) := by decide +kernel
theorem dX2_takesFrom_16 : decode cX2_takesFrom 16 = .ok (.goto 4, 3) := by decide +kernel
theorem dX2_takesFrom_19 : decode cX2_takesFrom 19 = .ok (.iconst 0, 1) := by decide +kernel
theorem dX2_takesFrom_20 : decode cX2_takesFrom 20 = .ok (.ireturn, 1) := by decide +kernel
theorem dX2_use_0 : decode cX2_use 0 = .ok (.aload_n 0, 1) := by decide +kernel
theorem dX2_use_1 : decode cX2_use 1 = .ok (.getfield 9, 3) := by decide +kernel
theorem dX2_use_4 : decode cX2_use 4 = .ok (.iload_n 2, 1) := by decide +kernel
theorem dX2_use_5 : decode cX2_use 5 = .ok (.iload_n 3, 1) := by decide +kernel
theorem dX2_use_6 : decode cX2_use 6 = .ok (.iastore, 1) := by decide +kernel
theorem dX2_use_7 : decode cX2_use 7 = .ok (.iconst 1, 1) := by decide +kernel
theorem dX2_use_8 : decode cX2_use 8 = .ok (.istore 5, 2) := by decide +kernel
theorem dX2_use_10 : decode cX2_use 10 = .ok (.iload 5, 2) := by decide +kernel
theorem dX2_use_12 : decode cX2_use 12 = .ok (.aload_n 1, 1) := by decide +kernel
theorem dX2_use_13 : decode cX2_use 13 = .ok (.invokevirtual 45, 3) := by decide +kernel
theorem dX2_use_16 : decode cX2_use 16 = .ok (.if_icmp .gt 32, 3) := by decide +kernel
theorem dX2_use_19 : decode cX2_use 19 = .ok (.aload_n 1, 1) := by decide +kernel
theorem dX2_use_20 : decode cX2_use 20 = .ok (.iload_n 2, 1) := by decide +kernel
theorem dX2_use_21 : decode cX2_use 21 = .ok (.iload 4, 2) := by decide +kernel
theorem dX2_use_23 : decode cX2_use 23 = .ok (.iload 5, 2) := by decide +kernel
theorem dX2_use_25 : decode cX2_use 25 = .ok (.invokestatic 85, 3) := by decide +kernel
theorem dX2_use_28 : decode cX2_use 28 = .ok (.ifCond .eq 14, 3) := by decide +kernel
theorem dX2_use_31 : decode cX2_use 31 = .ok (.aload_n 0, 1) := by decide +kernel
theorem dX2_use_32 : decode cX2_use 32 = .ok (.getfield 15, 3) := by decide +kernel
theorem dX2_use_35 : decode cX2_use 35 = .ok (.iload 5, 2) := by decide +kernel
theorem dX2_use_37 : decode cX2_use 37 = .ok (.dup2, 1) := by decide +kernel
theorem dX2_use_38 : decode cX2_use 38 = .ok (.iaload, 1) := by decide +kernel
theorem dX2_use_39 : decode cX2_use 39 = .ok (.iconst 1, 1) := by decide +kernel
theorem dX2_use_40 : decode cX2_use 40 = .ok (.isub, 1) := by decide +kernel
theorem dX2_use_41 : decode cX2_use 41 = .ok (.iastore, 1) := by decide +kernel
theorem dX2_use_42 : decode cX2_use 42 = .ok (.iinc 5 1, 3) := by decide +kernel
theorem dX2_use_45 : decode cX2_use 45 = .ok (.goto (-35), 3) := by decide +kernel
theorem dX2_use_48 : decode cX2_use 48 = .ok (.return_, 1) := by decide +kernel
theorem dJ6_bitCount_0 : decode cJ6_bitCount 0 = .ok (.iload_n 0, 1) := by decide +kernel
theorem dJ6_bitCount_1 : decode cJ6_bitCount 1 = .ok (.iload_n 0, 1) := by decide +kernel
theorem dJ6_bitCount_2 : decode cJ6_bitCount 2 = .ok (.iconst 1, 1) := by decide +kernel
theorem dJ6_bitCount_3 : decode cJ6_bitCount 3 = .ok (.iushr, 1) := by decide +kernel
theorem dJ6_bitCount_4 : decode cJ6_bitCount 4 = .ok (.ldc_w 265, 3) := by decide +kernel
theorem dJ6_bitCount_7 : decode cJ6_bitCount 7 = .ok (.iand, 1) := by decide +kernel
theorem dJ6_bitCount_8 : decode cJ6_bitCount 8 = .ok (.isub, 1) := by decide +kernel
theorem dJ6_bitCount_9 : decode cJ6_bitCount 9 = .ok (.istore_n 0, 1) := by decide +kernel
theorem dJ6_bitCount_10 : decode cJ6_bitCount 10 = .ok (.iload_n 0, 1) := by decide +kernel
theorem dJ6_bitCount_11 : decode cJ6_bitCount 11 = .ok (.ldc_w 266, 3) := by decide +kernel
theorem dJ6_bitCount_14 : decode cJ6_bitCount 14 = .ok (.iand, 1) := by decide +kernel
theorem dJ6_bitCount_15 : decode cJ6_bitCount 15 = .ok (.iload_n 0, 1) := by decide +kernel
theorem dJ6_bitCount_16 : decode cJ6_bitCount 16 = .ok (.iconst 2, 1) := by decide +kernel
theorem dJ6_bitCount_17 : decode cJ6_bitCount 17 = .ok (.iushr, 1) := by decide +kernel
theorem dJ6_bitCount_18 : decode cJ6_bitCount 18 = .ok (.ldc_w 266, 3) := by decide +kernel
theorem dJ6_bitCount_21 : decode cJ6_bitCount 21 = .ok (.iand, 1) := by decide +kernel
theorem dJ6_bitCount_22 : decode cJ6_bitCount 22 = .ok (.iadd, 1) := by decide +kernel
theorem dJ6_bitCount_23 : decode cJ6_bitCount 23 = .ok (.istore_n 0, 1) := by decide +kernel
theorem dJ6_bitCount_24 : decode cJ6_bitCount 24 = .ok (.iload_n 0, 1) := by decide +kernel
theorem dJ6_bitCount_25 : decode cJ6_bitCount 25 = .ok (.iload_n 0, 1) := by decide +kernel
theorem dJ6_bitCount_26 : decode cJ6_bitCount 26 = .ok (.iconst 4, 1) := by decide +kernel
theorem dJ6_bitCount_27 : decode cJ6_bitCount 27 = .ok (.iushr, 1) := by decide +kernel
theorem dJ6_bitCount_28 : decode cJ6_bitCount 28 = .ok (.iadd, 1) := by decide +kernel
theorem dJ6_bitCount_29 : decode cJ6_bitCount 29 = .ok (.ldc_w 267, 3) := by decide +kernel
theorem dJ6_bitCount_32 : decode cJ6_bitCount 32 = .ok (.iand, 1) := by decide +kernel
theorem dJ6_bitCount_33 : decode cJ6_bitCount 33 = .ok (.istore_n 0, 1) := by decide +kernel
theorem dJ6_bitCount_34 : decode cJ6_bitCount 34 = .ok (.iload_n 0, 1) := by decide +kernel
theorem dJ6_bitCount_35 : decode cJ6_bitCount 35 = .ok (.iload_n 0, 1) := by decide +kernel
theorem dJ6_bitCount_36 : decode cJ6_bitCount 36 = .ok (.bipush 8, 2) := by decide +kernel
theorem dJ6_bitCount_38 : decode cJ6_bitCount 38 = .ok (.iushr, 1) := by decide +kernel
theorem dJ6_bitCount_39 : decode cJ6_bitCount 39 = .ok (.iadd, 1) := by decide +kernel
theorem dJ6_bitCount_40 : decode cJ6_bitCount 40 = .ok (.istore_n 0, 1) := by decide +kernel
theorem dJ6_bitCount_41 : decode cJ6_bitCount 41 = .ok (.iload_n 0, 1) := by decide +kernel
theorem dJ6_bitCount_42 : decode cJ6_bitCount 42 = .ok (.iload_n 0, 1) := by decide +kernel
theorem dJ6_bitCount_43 : decode cJ6_bitCount 43 = .ok (.bipush 16, 2) := by decide +kernel
theorem dJ6_bitCount_45 : decode cJ6_bitCount 45 = .ok (.iushr, 1) := by decide +kernel
theorem dJ6_bitCount_46 : decode cJ6_bitCount 46 = .ok (.iadd, 1) := by decide +kernel
theorem dJ6_bitCount_47 : decode cJ6_bitCount 47 = .ok (.istore_n 0, 1) := by decide +kernel
theorem dJ6_bitCount_48 : decode cJ6_bitCount 48 = .ok (.iload_n 0, 1) := by decide +kernel
theorem dJ6_bitCount_49 : decode cJ6_bitCount 49 = .ok (.bipush 63, 2) := by decide +kernel
theorem dJ6_bitCount_51 : decode cJ6_bitCount 51 = .ok (.iand, 1) := by decide +kernel
theorem dJ6_bitCount_52 : decode cJ6_bitCount 52 = .ok (.ireturn, 1) := by decide +kernel
theorem dJ7_fill_0 : decode cJ7_fill 0 = .ok (.iconst 0, 1) := by decide +kernel
theorem dJ7_fill_1 : decode cJ7_fill 1 = .ok (.istore_n 2, 1) := by decide +kernel
theorem dJ7_fill_2 : decode cJ7_fill 2 = .ok (.aload_n 0, 1) := by decide +kernel
theorem dJ7_fill_3 : decode cJ7_fill 3 = .ok (.arraylength, 1) := by decide +kernel
theorem dJ7_fill_4 : decode cJ7_fill 4 = .ok (.istore_n 3, 1) := by decide +kernel
theorem dJ7_fill_5 : decode cJ7_fill 5 = .ok (.iload_n 2, 1) := by decide +kernel
theorem dJ7_fill_6 : decode cJ7_fill 6 = .ok (.iload_n 3, 1) := by decide +kernel
theorem dJ7_fill_7 : decode cJ7_fill 7 = .ok (.if_icmp .ge 13, 3) := by decide +kernel
theorem dJ7_fill_10 : decode cJ7_fill 10 = .ok (.aload_n 0, 1) := by decide +kernel
theorem dJ7_fill_11 : decode cJ7_fill 11 = .ok (.iload_n 2, 1) := by decide +kernel
theorem dJ7_fill_12 : decode cJ7_fill 12 = .ok (.iload_n 1, 1) := by decide +kernel
theorem dJ7_fill_13 : decode cJ7_fill 13 = .ok (.iastore, 1) := by decide +kernel
theorem dJ7_fill_14 : decode cJ7_fill 14 = .ok (.iinc 2 1, 3) := by decide +kernel
theorem dJ7_fill_17 : decode cJ7_fill 17 = .ok (.goto (-12), 3) := by decide +kernel
theorem dJ7_fill_20 : decode cJ7_fill 20 = .ok (.return_, 1) := by decide +kernel
