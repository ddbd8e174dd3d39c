theorem dX4_init_0 : decode cX4_init 0 = .ok (.aload_n 0, 1) := by decide +kernel
theorem dX4_init_1 : decode cX4_init 1 = .ok (.invokespecial 1, 3) := by decide +kernel
theorem dX4_init_4 : decode cX4_init 4 = .ok (.aload_n 0, 1) := by decide +kernel
theorem dX4_init_5 : decode cX4_init 5 = .ok (.iconst 1, 1) := by decide +kernel
theorem dX4_init_6 : decode cX4_init 6 = .ok (.putfield 7, 3) := by decide +kernel
theorem dX4_init_9 : decode cX4_init 9 = .ok (.aload_n 0, 1) := by decide +kernel
theorem dX4_init_10 : decode cX4_init 10 = .ok (.bipush 14, 2) := by decide +kernel
theorem dX4_init_12 : decode cX4_init 12 = .ok (.newarray .int, 2) := by decide +kernel
theorem dX4_init_14 : decode cX4_init 14 = .ok (.putfield 13, 3) := by decide +kernel
theorem dX4_init_17 : decode cX4_init 17 = .ok (.aload_n 0, 1) := by decide +kernel
theorem dX4_init_18 : decode cX4_init 18 = .ok (.bipush 14, 2) := by decide +kernel
theorem dX4_init_20 : decode cX4_init 20 = .ok (.newarray .int, 2) := by decide +kernel
theorem dX4_init_22 : decode cX4_init 22 = .ok (.putfield 17, 3) := by decide +kernel
theorem dX4_init_25 : decode cX4_init 25 = .ok (.aload_n 0, 1) := by decide +kernel
theorem dX4_init_26 : decode cX4_init 26 = .ok (.iconst 3, 1) := by decide +kernel
theorem dX4_init_27 : decode cX4_init 27 = .ok (.newarray .int, 2) := by decide +kernel
theorem dX4_init_29 : decode cX4_init 29 = .ok (.putfield 20, 3) := by decide +kernel
theorem dX4_init_32 : decode cX4_init 32 = .ok (.aload_n 0, 1) := by decide +kernel
theorem dX4_init_33 : decode cX4_init 33 = .ok (.bipush 14, 2) := by decide +kernel
theorem dX4_init_35 : decode cX4_init 35 = .ok (.newarray .int, 2) := by decide +kernel
theorem dX4_init_37 : decode cX4_init 37 = .ok (.putfield 23, 3) := by decide +kernel
theorem dX4_init_40 : decode cX4_init 40 = .ok (.aload_n 0, 1) := by decide +kernel
theorem dX4_init_41 : decode cX4_init 41 = .ok (.bipush 21, 2) := by decide +kernel
theorem dX4_init_43 : decode cX4_init 43 = .ok (.newarray .int, 2) := by decide +kernel
theorem dX4_init_45 : decode cX4_init 45 = .ok (.putfield 26, 3) := by decide +kernel
theorem dX4_init_48 : decode cX4_init 48 = .ok (.aload_n 0, 1) := by decide +kernel
theorem dX4_init_49 : decode cX4_init 49 = .ok (.bipush 16, 2) := by decide +kernel
theorem dX4_init_51 : decode cX4_init 51 = .ok (.newarray .int, 2) := by decide +kernel
theorem dX4_init_53 : decode cX4_init 53 = .ok (.putfield 29, 3) := by decide +kernel
theorem dX4_init_56 : decode cX4_init 56 = .ok (.aload_n 0, 1) := by decide +kernel
theorem dX4_init_57 : decode cX4_init 57 = .ok (.bipush 16, 2) := by decide +kernel
theorem dX4_init_59 : decode cX4_init 59 = .ok (.newarray .int, 2) := by decide +kernel
theorem dX4_init_61 : decode cX4_init 61 = .ok (.putfield 32, 3) := by decide +kernel
theorem dX4_init_64 : decode cX4_init 64 = .ok (.aload_n 0, 1) := by decide +kernel
theorem dX4_init_65 : decode cX4_init 65 = .ok (.bipush 16, 2) := by decide +kernel
theorem dX4_init_67 : decode cX4_init 67 = .ok (.newarray .int, 2) := by decide +kernel
theorem dX4_init_69 : decode cX4_init 69 = .ok (.putfield 35, 3) := by decide +kernel
theorem dX4_init_72 : decode cX4_init 72 = .ok (.aload_n 0, 1) := by decide +kernel
theorem dX4_init_73 : decode cX4_init 73 = .ok (.bipush 16, 2) := by decide +kernel
theorem dX4_init_75 : decode cX4_init 75 = .ok (.newarray .int, 2) := by decide +kernel
theorem dX4_init_77 : decode cX4_init 77 = .ok (.putfield 38, 3) := by decide +kernel
theorem dX4_init_80 : decode cX4_init 80 = .ok (.return_, 1) := by decide +kernel
theorem dX4_begin_0 : decode cX4_begin 0 = .ok (.iload_n 1, 1) := by decide +kernel
theorem dX4_begin_1 : decode cX4_begin 1 = .ok (.iconst 1, 1) := by decide +kernel
theorem dX4_begin_2 : decode cX4_begin 2 = .ok (.if_icmp .lt 9, 3) := by decide +kernel
theorem dX4_begin_5 : decode cX4_begin 5 = .ok (.iload_n 1, 1) := by decide +kernel
theorem dX4_begin_6 : decode cX4_begin 6 = .ok (.bipush 7, 2) := by decide +kernel
theorem dX4_begin_8 : decode cX4_begin 8 = .ok (.if_icmp .le 5, 3) := by decide +kernel
theorem dX4_begin_11 : decode cX4_begin 11 = .ok (.iconst 0, 1) := by decide +kernel
theorem dX4_begin_12 : decode cX4_begin 12 = .ok (.ireturn, 1) := by decide +kernel
theorem dX4_begin_13 : decode cX4_begin 13 = .ok (.aload_n 0, 1) := by decide +kernel
theorem dX4_begin_14 : decode cX4_begin 14 = .ok (.iload_n 1, 1) := by decide +kernel
theorem dX4_begin_15 : decode cX4_begin 15 = .ok (.putfield 7, 3) := by decide +kernel
theorem dX4_begin_18 : decode cX4_begin 18 = .ok (.aload_n 0, 1) := by decide +kernel
theorem dX4_begin_19 : decode cX4_begin 19 = .ok (.iconst 0, 1) := by decide +kernel
theorem dX4_begin_20 : decode cX4_begin 20 = .ok (.putfield 45, 3) := by decide +kernel
theorem dX4_begin_23 : decode cX4_begin 23 = .ok (.aload_n 0, 1) := by decide +kernel
theorem dX4_begin_24 : decode cX4_begin 24 = .ok (.iconst 0, 1) := by decide +kernel
theorem dX4_begin_25 : decode cX4_begin 25 = .ok (.putfield 56, 3) := by decide +kernel
theorem dX4_begin_28 : decode cX4_begin 28 = .ok (.iconst 1, 1) := by decide +kernel
theorem dX4_begin_29 : decode cX4_begin 29 = .ok (.ireturn, 1) := by decide +kernel
theorem dX4_arc_0 : decode cX4_arc 0 = .ok (.aload_n 0, 1) := by decide +kernel
theorem dX4_arc_1 : decode cX4_arc 1 = .ok (.getfield 45, 3) := by decide +kernel
theorem dX4_arc_4 : decode cX4_arc 4 = .ok (.bipush 14, 2) := by decide +kernel
theorem dX4_arc_6 : decode cX4_arc 6 = .ok (.if_icmp .eq 32, 3) := by decide +kernel
theorem dX4_arc_9 : decode cX4_arc 9 = .ok (.iload_n 1, 1) := by decide +kernel
theorem dX4_arc_10 : decode cX4_arc 10 = .ok (.ifCond .lt 28, 3) := by decide +kernel
theorem dX4_arc_13 : decode cX4_arc 13 = .ok (.iload_n 2, 1) := by decide +kernel
theorem dX4_arc_14 : decode cX4_arc 14 = .ok (.ifCond .lt 24, 3) := by decide +kernel
theorem dX4_arc_17 : decode cX4_arc 17 = .ok (.iload_n 1, 1) := by decide +kernel
theorem dX4_arc_18 : decode cX4_arc 18 = .ok (.aload_n 0, 1) := by decide +kernel
theorem dX4_arc_19 : decode cX4_arc 19 = .ok (.getfield 7, 3) := by decide +kernel
theorem dX4_arc_22 : decode cX4_arc 22 = .ok (.if_icmp .ge 16, 3) := by decide +kernel
theorem dX4_arc_25 : decode cX4_arc 25 = .ok (.iload_n 2, 1) := by decide +kernel
theorem dX4_arc_26 : decode cX4_arc 26 = .ok (.aload_n 0, 1) := by decide +kernel
theorem dX4_arc_27 : decode cX4_arc 27 = .ok (.getfield 7, 3) := by decide +kernel
theorem dX4_arc_30 : decode cX4_arc 30 = .ok (.if_icmp .ge 8, 3) := by decide +kernel
theorem dX4_arc_33 : decode cX4_arc 33 = .ok (.iload_n 1, 1) := by decide +kernel
theorem dX4_arc_34 : decode cX4_arc 34 = .ok (.iload_n 2, 1) := by decide +kernel
theorem dX4_arc_35 : decode cX4_arc 35 = .ok (.if_icmp .ne 5, 3) := by decide +kernel
theorem dX4_arc_38 : decode cX4_arc 38 = .ok (.iconst (-1), 1) := by decide +kernel
theorem dX4_arc_39 : decode cX4_arc 39 = .ok (.ireturn, 1) := by decide +kernel
theorem dX4_arc_40 : decode cX4_arc 40 = .ok (.aload_n 0, 1) := by decide +kernel
theorem dX4_arc_41 : decode cX4_arc 41 = .ok (.getfield 13, 3) := by decide +kernel
theorem dX4_arc_44 : decode cX4_arc 44 = .ok (.aload_n 0, 1) := by decide +kernel
theorem dX4_arc_45 : decode cX4_arc 45 = .ok (.getfield 45, 3) := by decide +kernel
theorem dX4_arc_48 : decode cX4_arc 48 = .ok (.iload_n 1, 1) := by decide +kernel
theorem dX4_arc_49 : decode cX4_arc 49 = .ok (.iastore, 1) := by decide +kernel
theorem dX4_arc_50 : decode cX4_arc 50 = .ok (.aload_n 0, 1) := by decide +kernel
theorem dX4_arc_51 : decode cX4_arc 51 = .ok (.getfield 17, 3) := by decide +kernel
theorem dX4_arc_54 : decode cX4_arc 54 = .ok (.aload_n 0, 1) := by decide +kernel
theorem dX4_arc_55 : decode cX4_arc 55 = .ok (.getfield 45, 3) := by decide +kernel
theorem dX4_arc_58 : decode cX4_arc 58 = .ok (.iload_n 2, 1) := by decide +kernel
theorem dX4_arc_59 : decode cX4_arc 59 = .ok (.iastore, 1) := by decide +kernel
theorem dX4_arc_60 : decode cX4_arc 60 = .ok (.aload_n 0, 1) := by decide +kernel
theorem dX4_arc_61 : decode cX4_arc 61 = .ok (.dup, 1) := by decide +kernel
theorem dX4_arc_62 : decode cX4_arc 62 = .ok (.getfield 45, 3) := by decide +kernel
theorem dX4_arc_65 : decode cX4_arc 65 = .ok (.iconst 1, 1) := by decide +kernel
theorem dX4_arc_66 : decode cX4_arc 66 = .ok (.iadd, 1) := by decide +kernel
theorem dX4_arc_67 : decode cX4_arc 67 = .ok (.putfield 45, 3) := by decide +kernel
theorem dX4_arc_70 : decode cX4_arc 70 = .ok (.aload_n 0, 1) := by decide +kernel
theorem dX4_arc_71 : decode cX4_arc 71 = .ok (.getfield 45, 3) := by decide +kernel
theorem dX4_arc_74 : decode cX4_arc 74 = .ok (.iconst 1, 1) := by decide +kernel
theorem dX4_arc_75 : decode cX4_arc 75 = .ok (.isub, 1) := by decide +kernel
theorem dX4_arc_76 : decode cX4_arc 76 = .ok (.ireturn, 1) := by decide +kernel
theorem dX4_drop_0 : decode cX4_drop 0 = .ok (.aload_n 0, 1) := by decide +kernel
theorem dX4_drop_1 : decode cX4_drop 1 = .ok (.iload_n 1, 1) := by decide +kernel
theorem dX4_drop_2 : decode cX4_drop 2 = .ok (.invokevirtual 59, 3) := by decide +kernel
theorem dX4_drop_5 : decode cX4_drop 5 = .ok (.ifCond .ne 5, 3) := by decide +kernel
theorem dX4_drop_8 : decode cX4_drop 8 = .ok (.iconst 0, 1) := by decide +kernel
theorem dX4_drop_9 : decode cX4_drop 9 = .ok (.ireturn, 1) := by decide +kernel
theorem dX4_drop_10 : decode cX4_drop 10 = .ok (.aload_n 0, 1) := by decide +kernel
theorem dX4_drop_11 : decode cX4_drop 11 = .ok (.iload_n 1, 1) := by decide +kernel
theorem dX4_drop_12 : decode cX4_drop 12 = .ok (.invokevirtual 63, 3) := by decide +kernel
theorem dX4_drop_15 : decode cX4_drop 15 = .ok (.iconst 1, 1) := by decide +kernel
theorem dX4_drop_16 : decode cX4_drop 16 = .ok (.ireturn, 1) := by decide +kernel
theorem dX4_isArc_0 : decode cX4_isArc 0 = .ok (.iload_n 1, 1) := by decide +kernel
theorem dX4_isArc_1 : decode cX4_isArc 1 = .ok (.ifCond .lt 15, 3) := by decide +kernel
theorem dX4_isArc_4 : decode cX4_isArc 4 = .ok (.iload_n 1, 1) := by decide +kernel
theorem dX4_isArc_5 : decode cX4_isArc 5 = .ok (.aload_n 0, 1) := by decide +kernel
theorem dX4_isArc_6 : decode cX4_isArc 6 = .ok (.getfield 45, 3) := by decide +kernel
theorem dX4_isArc_9 : decode cX4_isArc 9 = .ok (.if_icmp .ge 7, 3) := by decide +kernel
theorem dX4_isArc_12 : decode cX4_isArc 12 = .ok (.iconst 1, 1) := by decide +kernel
theorem dX4_isArc_13 : decode cX4_isArc 13 = .ok (.goto 4, 3) := by decide +kernel
theorem dX4_isArc_16 : decode cX4_isArc 16 = .ok (.iconst 0, 1) := by decide +kernel
theorem dX4_isArc_17 : decode cX4_isArc 17 = .ok (.ireturn, 1) := by decide +kernel
theorem dX4_remove_0 : decode cX4_remove 0 = .ok (.aload_n 0, 1) := by decide +kernel
theorem dX4_remove_1 : decode cX4_remove 1 = .ok (.dup, 1) := by decide +kernel
theorem dX4_remove_2 : decode cX4_remove 2 = .ok (.getfield 45, 3) := by decide +kernel
theorem dX4_remove_5 : decode cX4_remove 5 = .ok (.iconst 1, 1) := by decide +kernel
theorem dX4_remove_6 : decode cX4_remove 6 = .ok (.isub, 1) := by decide +kernel
theorem dX4_remove_7 : decode cX4_remove 7 = .ok (.putfield 45, 3) := by decide +kernel
theorem dX4_remove_10 : decode cX4_remove 10 = .ok (.iload_n 1, 1) := by decide +kernel
theorem dX4_remove_11 : decode cX4_remove 11 = .ok (.istore_n 2, 1) := by decide +kernel
theorem dX4_remove_12 : decode cX4_remove 12 = .ok (.iload_n 2, 1) := by decide +kernel
theorem dX4_remove_13 : decode cX4_remove 13 = .ok (.aload_n 0, 1) := by decide +kernel
theorem dX4_remove_14 : decode cX4_remove 14 = .ok (.getfield 45, 3) := by decide +kernel
theorem dX4_remove_17 : decode cX4_remove 17 = .ok (.if_icmp .ge 37, 3) := by decide +kernel
theorem dX4_remove_20 : decode cX4_remove 20 = .ok (.aload_n 0, 1) := by decide +kernel
theorem dX4_remove_21 : decode cX4_remove 21 = .ok (.getfield 13, 3) := by decide +kernel
theorem dX4_remove_24 : decode cX4_remove 24 = .ok (.iload_n 2, 1) := by decide +kernel
theorem dX4_remove_25 : decode cX4_remove 25 = .ok (.aload_n 0, 1) := by decide +kernel
theorem dX4_remove_26 : decode cX4_remove 26 = .ok (.getfield 13, 3) := by decide +kernel
theorem dX4_remove_29 : decode cX4_remove 29 = .ok (.iload_n 2, 1) := by decide +kernel
theorem dX4_remove_30 : decode cX4_remove 30 = .ok (.iconst 1, 1) := by decide +kernel
theorem dX4_remove_31 : decode cX4_remove 31 = .ok (.iadd, 1) := by decide +kernel
theorem dX4_remove_32 : decode cX4_remove 32 = .ok (.iaload, 1) := by decide +kernel
theorem dX4_remove_33 : decode cX4_remove 33 = .ok (.iastore, 1) := by decide +kernel
theorem dX4_remove_34 : decode cX4_remove 34 = .ok (.aload_n 0, 1) := by decide +kernel
theorem dX4_remove_35 : decode cX4_remove 35 = .ok (.getfield 17, 3) := by decide +kernel
theorem dX4_remove_38 : decode cX4_remove 38 = .ok (.iload_n 2, 1) := by decide +kernel
theorem dX4_remove_39 : decode cX4_remove 39 = .ok (.aload_n 0, 1) := by decide +kernel
theorem dX4_remove_40 : decode cX4_remove 40 = .ok (.getfield 17, 3) := by decide +kernel
theorem dX4_remove_43 : decode cX4_remove 43 = .ok (.iload_n 2, 1) := by decide +kernel
theorem dX4_remove_44 : decode cX4_remove 44 = .ok (.iconst 1, 1) := by decide +kernel
theorem dX4_remove_45 : decode cX4_remove 45 = .ok (.iadd, 1) := by decide +kernel
theorem dX4_remove_46 : decode cX4_remove 46 = .ok (.iaload, 1) := by decide +kernel
theorem dX4_remove_47 : decode cX4_remove 47 = .ok (.iastore, 1) := by decide +kernel
theorem dX4_remove_48 : decode cX4_remove 48 = .ok (.iinc 2 1, 3) := by decide +kernel
theorem dX4_remove_51 : decode cX4_remove 51 = .ok (.goto (-39), 3) := by decide +kernel
theorem dX4_remove_54 : decode cX4_remove 54 = .ok (.return_, 1) := by decide +kernel
theorem dX4_plant_0 : decode cX4_plant 0 = .ok (.aload_n 0, 1) := by decide +kernel
theorem dX4_plant_1 : decode cX4_plant 1 = .ok (.getfield 56, 3) := by decide +kernel
theorem dX4_plant_4 : decode cX4_plant 4 = .ok (.iconst 3, 1) := by decide +kernel
theorem dX4_plant_5 : decode cX4_plant 5 = .ok (.if_icmp .eq 15, 3) := by decide +kernel
theorem dX4_plant_8 : decode cX4_plant 8 = .ok (.iload_n 1, 1) := by decide +kernel
theorem dX4_plant_9 : decode cX4_plant 9 = .ok (.ifCond .eq 11, 3) := by decide +kernel
theorem dX4_plant_12 : decode cX4_plant 12 = .ok (.aload_n 0, 1) := by decide +kernel
theorem dX4_plant_13 : decode cX4_plant 13 = .ok (.iload_n 1, 1) := by decide +kernel
theorem dX4_plant_14 : decode cX4_plant 14 = .ok (.invokevirtual 67, 3) := by decide +kernel
theorem dX4_plant_17 : decode cX4_plant 17 = .ok (.ifCond .ne 5, 3) := by decide +kernel
theorem dX4_plant_20 : decode cX4_plant 20 = .ok (.iconst (-1), 1) := by decide +kernel
theorem dX4_plant_21 : decode cX4_plant 21 = .ok (.ireturn, 1) := by decide +kernel
theorem dX4_plant_22 : decode cX4_plant 22 = .ok (.aload_n 0, 1) := by decide +kernel
theorem dX4_plant_23 : decode cX4_plant 23 = .ok (.getfield 20, 3) := by decide +kernel
theorem dX4_plant_26 : decode cX4_plant 26 = .ok (.aload_n 0, 1) := by decide +kernel
theorem dX4_plant_27 : decode cX4_plant 27 = .ok (.getfield 56, 3) := by decide +kernel
theorem dX4_plant_30 : decode cX4_plant 30 = .ok (.iload_n 1, 1) := by decide +kernel
theorem dX4_plant_31 : decode cX4_plant 31 = .ok (.iastore, 1) := by decide +kernel
theorem dX4_plant_32 : decode cX4_plant 32 = .ok (.aload_n 0, 1) := by decide +kernel
theorem dX4_plant_33 : decode cX4_plant 33 = .ok (.dup, 1) := by decide +kernel
theorem dX4_plant_34 : decode cX4_plant 34 = .ok (.getfield 56, 3) := by decide +kernel
theorem dX4_plant_37 : decode cX4_plant 37 = .ok (.iconst 1, 1) := by decide +kernel
theorem dX4_plant_38 : decode cX4_plant 38 = .ok (.iadd, 1) := by decide +kernel
theorem dX4_plant_39 : decode cX4_plant 39 = .ok (.putfield 56, 3) := by decide +kernel
theorem dX4_plant_42 : decode cX4_plant 42 = .ok (.aload_n 0, 1) := by decide +kernel
theorem dX4_plant_43 : decode cX4_plant 43 = .ok (.getfield 56, 3) := by decide +kernel
theorem dX4_plant_46 : decode cX4_plant 46 = .ok (.iconst 1, 1) := by decide +kernel
theorem dX4_plant_47 : decode cX4_plant 47 = .ok (.isub, 1) := by decide +kernel
theorem dX4_plant_48 : decode cX4_plant 48 = .ok (.ireturn, 1) := by decide +kernel
theorem dX4_isSet_0 : decode cX4_isSet 0 = .ok (.iload_n 1, 1) := by decide +kernel
theorem dX4_isSet_1 : decode cX4_isSet 1 = .ok (.ifCond .lt 15, 3) := by decide +kernel
theorem dX4_isSet_4 : decode cX4_isSet 4 = .ok (.iload_n 1, 1) := by decide +kernel
theorem dX4_isSet_5 : decode cX4_isSet 5 = .ok (.aload_n 0, 1) := by decide +kernel
theorem dX4_isSet_6 : decode cX4_isSet 6 = .ok (.invokevirtual 41, 3) := by decide +kernel
theorem dX4_isSet_9 : decode cX4_isSet 9 = .ok (.if_icmp .gt 7, 3) := by decide +kernel
theorem dX4_isSet_12 : decode cX4_isSet 12 = .ok (.iconst 1, 1) := by decide +kernel
theorem dX4_isSet_13 : decode cX4_isSet 13 = .ok (.goto 4, 3) := by decide +kernel
theorem dX4_isSet_16 : decode cX4_isSet 16 = .ok (.iconst 0, 1) := by decide +kernel
theorem dX4_isSet_17 : decode cX4_isSet 17 = .ok (.ireturn, 1) := by decide +kernel
theorem dX4_all_0 : decode cX4_all 0 = .ok (.iconst 1, 1) := by decide +kernel
theorem dX4_all_1 : decode cX4_all 1 = .ok (.aload_n 0, 1) := by decide +kernel
theorem dX4_all_2 : decode cX4_all 2 = .ok (.getfield 7, 3) := by decide +kernel
theorem dX4_all_5 : decode cX4_all 5 = .ok (.ishl, 1) := by decide +kernel
theorem dX4_all_6 : decode cX4_all 6 = .ok (.iconst 1, 1) := by decide +kernel
theorem dX4_all_7 : decode cX4_all 7 = .ok (.isub, 1) := by decide +kernel
theorem dX4_all_8 : decode cX4_all 8 = .ok (.ireturn, 1) := by decide +kernel
theorem dX4_fell_0 : decode cX4_fell 0 = .ok (.aload_n 0, 1) := by decide +kernel
theorem dX4_fell_1 : decode cX4_fell 1 = .ok (.getfield 56, 3) := by decide +kernel
theorem dX4_fell_4 : decode cX4_fell 4 = .ok (.ifCond .ne 5, 3) := by decide +kernel
theorem dX4_fell_7 : decode cX4_fell 7 = .ok (.iconst (-1), 1) := by decide +kernel
theorem dX4_fell_8 : decode cX4_fell 8 = .ok (.ireturn, 1) := by decide +kernel
theorem dX4_fell_9 : decode cX4_fell 9 = .ok (.aload_n 0, 1) := by decide +kernel
theorem dX4_fell_10 : decode cX4_fell 10 = .ok (.dup, 1) := by decide +kernel
theorem dX4_fell_11 : decode cX4_fell 11 = .ok (.getfield 56, 3) := by decide +kernel
theorem dX4_fell_14 : decode cX4_fell 14 = .ok (.iconst 1, 1) := by decide +kernel
theorem dX4_fell_15 : decode cX4_fell 15 = .ok (.isub, 1) := by decide +kernel
theorem dX4_fell_16 : decode cX4_fell 16 = .ok (.putfield 56, 3) := by decide +kernel
theorem dX4_fell_19 : decode cX4_fell 19 = .ok (.aload_n 0, 1) := by decide +kernel
theorem dX4_fell_20 : decode cX4_fell 20 = .ok (.getfield 56, 3) := by decide +kernel
theorem dX4_fell_23 : decode cX4_fell 23 = .ok (.ireturn, 1) := by decide +kernel
theorem dX4_count_0 : decode cX4_count 0 = .ok (.iload_n 1, 1) := by decide +kernel
theorem dX4_count_1 : decode cX4_count 1 = .ok (.ifCond .ne 10, 3) := by decide +kernel
theorem dX4_count_4 : decode cX4_count 4 = .ok (.aload_n 0, 1) := by decide +kernel
theorem dX4_count_5 : decode cX4_count 5 = .ok (.getfield 7, 3) := by decide +kernel
theorem dX4_count_8 : decode cX4_count 8 = .ok (.goto 28, 3) := by decide +kernel
theorem dX4_count_11 : decode cX4_count 11 = .ok (.iload_n 1, 1) := by decide +kernel
theorem dX4_count_12 : decode cX4_count 12 = .ok (.iconst 1, 1) := by decide +kernel
theorem dX4_count_13 : decode cX4_count 13 = .ok (.if_icmp .ne 10, 3) := by decide +kernel
theorem dX4_count_16 : decode cX4_count 16 = .ok (.aload_n 0, 1) := by decide +kernel
theorem dX4_count_17 : decode cX4_count 17 = .ok (.getfield 45, 3) := by decide +kernel
theorem dX4_count_20 : decode cX4_count 20 = .ok (.goto 16, 3) := by decide +kernel
theorem dX4_count_23 : decode cX4_count 23 = .ok (.iload_n 1, 1) := by decide +kernel
theorem dX4_count_24 : decode cX4_count 24 = .ok (.iconst 2, 1) := by decide +kernel
theorem dX4_count_25 : decode cX4_count 25 = .ok (.if_icmp .ne 10, 3) := by decide +kernel
theorem dX4_count_28 : decode cX4_count 28 = .ok (.aload_n 0, 1) := by decide +kernel
theorem dX4_count_29 : decode cX4_count 29 = .ok (.getfield 56, 3) := by decide +kernel
theorem dX4_count_32 : decode cX4_count 32 = .ok (.goto 4, 3) := by decide +kernel
theorem dX4_count_35 : decode cX4_count 35 = .ok (.iconst (-1), 1) := by decide +kernel
theorem dX4_count_36 : decode cX4_count 36 = .ok (.ireturn, 1) := by decide +kernel
theorem dX4_end_0 : decode cX4_end 0 = .ok (.aload_n 0, 1) := by decide +kernel
theorem dX4_end_1 : decode cX4_end 1 = .ok (.iload_n 1, 1) := by decide +kernel
theorem dX4_end_2 : decode cX4_end 2 = .ok (.invokevirtual 59, 3) := by decide +kernel
theorem dX4_end_5 : decode cX4_end 5 = .ok (.ifCond .eq 12, 3) := by decide +kernel
theorem dX4_end_8 : decode cX4_end 8 = .ok (.iload_n 2, 1) := by decide +kernel
theorem dX4_end_9 : decode cX4_end 9 = .ok (.ifCond .lt 8, 3) := by decide +kernel
theorem dX4_end_12 : decode cX4_end 12 = .ok (.iload_n 2, 1) := by decide +kernel
theorem dX4_end_13 : decode cX4_end 13 = .ok (.iconst 1, 1) := by decide +kernel
theorem dX4_end_14 : decode cX4_end 14 = .ok (.if_icmp .le 7, 3) := by decide +kernel
theorem dX4_end_17 : decode cX4_end 17 = .ok (.iconst (-1), 1) := by decide +kernel
theorem dX4_end_18 : decode cX4_end 18 = .ok (.goto 22, 3) := by decide +kernel
theorem dX4_end_21 : decode cX4_end 21 = .ok (.iload_n 2, 1) := by decide +kernel
theorem dX4_end_22 : decode cX4_end 22 = .ok (.ifCond .ne 12, 3) := by decide +kernel
theorem dX4_end_25 : decode cX4_end 25 = .ok (.aload_n 0, 1) := by decide +kernel
theorem dX4_end_26 : decode cX4_end 26 = .ok (.getfield 13, 3) := by decide +kernel
theorem dX4_end_29 : decode cX4_end 29 = .ok (.iload_n 1, 1) := by decide +kernel
theorem dX4_end_30 : decode cX4_end 30 = .ok (.iaload, 1) := by decide +kernel
theorem dX4_end_31 : decode cX4_end 31 = .ok (.goto 9, 3) := by decide +kernel
theorem dX4_end_34 : decode cX4_end 34 = .ok (.aload_n 0, 1) := by decide +kernel
theorem dX4_end_35 : decode cX4_end 35 = .ok (.getfield 17, 3) := by decide +kernel
theorem dX4_end_38 : decode cX4_end 38 = .ok (.iload_n 1, 1) := by decide +kernel
theorem dX4_end_39 : decode cX4_end 39 = .ok (.iaload, 1) := by decide +kernel
theorem dX4_end_40 : decode cX4_end 40 = .ok (.ireturn, 1) := by decide +kernel
theorem dX4_entry_0 : decode cX4_entry 0 = .ok (.aload_n 0, 1) := by decide +kernel
theorem dX4_entry_1 : decode cX4_entry 1 = .ok (.iload_n 1, 1) := by decide +kernel
theorem dX4_entry_2 : decode cX4_entry 2 = .ok (.invokevirtual 67, 3) := by decide +kernel
theorem dX4_entry_5 : decode cX4_entry 5 = .ok (.ifCond .eq 12, 3) := by decide +kernel
theorem dX4_entry_8 : decode cX4_entry 8 = .ok (.aload_n 0, 1) := by decide +kernel
theorem dX4_entry_9 : decode cX4_entry 9 = .ok (.iload_n 1, 1) := by decide +kernel
theorem dX4_entry_10 : decode cX4_entry 10 = .ok (.iconst 0, 1) := by decide +kernel
theorem dX4_entry_11 : decode cX4_entry 11 = .ok (.invokevirtual 70, 3) := by decide +kernel
theorem dX4_entry_14 : decode cX4_entry 14 = .ok (.goto 4, 3) := by decide +kernel
theorem dX4_entry_17 : decode cX4_entry 17 = .ok (.iconst (-1), 1) := by decide +kernel
theorem dX4_entry_18 : decode cX4_entry 18 = .ok (.ireturn, 1) := by decide +kernel
theorem dX4_entryOf_0 : decode cX4_entryOf 0 = .ok (.iconst 0, 1) := by decide +kernel
theorem dX4_entryOf_1 : decode cX4_entryOf 1 = .ok (.istore_n 3, 1) := by decide +kernel
theorem dX4_entryOf_2 : decode cX4_entryOf 2 = .ok (.iconst 0, 1) := by decide +kernel
theorem dX4_entryOf_3 : decode cX4_entryOf 3 = .ok (.istore 4, 2) := by decide +kernel
theorem dX4_entryOf_5 : decode cX4_entryOf 5 = .ok (.iload 4, 2) := by decide +kernel
theorem dX4_entryOf_7 : decode cX4_entryOf 7 = .ok (.aload_n 0, 1) := by decide +kernel
theorem dX4_entryOf_8 : decode cX4_entryOf 8 = .ok (.getfield 45, 3) := by decide +kernel
theorem dX4_entryOf_11 : decode cX4_entryOf 11 = .ok (.if_icmp .ge 54, 3) := by decide +kernel
theorem dX4_entryOf_14 : decode cX4_entryOf 14 = .ok (.iload_n 2, 1) := by decide +kernel
theorem dX4_entryOf_15 : decode cX4_entryOf 15 = .ok (.iload 4, 2) := by decide +kernel
theorem dX4_entryOf_17 : decode cX4_entryOf 17 = .ok (.invokestatic 48, 3) := by decide +kernel
theorem dX4_entryOf_20 : decode cX4_entryOf 20 = .ok (.ifCond .ne 37, 3) := by decide +kernel
theorem dX4_entryOf_23 : decode cX4_entryOf 23 = .ok (.iload_n 1, 1) := by decide +kernel
theorem dX4_entryOf_24 : decode cX4_entryOf 24 = .ok (.aload_n 0, 1) := by decide +kernel
theorem dX4_entryOf_25 : decode cX4_entryOf 25 = .ok (.getfield 17, 3) := by decide +kernel
theorem dX4_entryOf_28 : decode cX4_entryOf 28 = .ok (.iload 4, 2) := by decide +kernel
theorem dX4_entryOf_30 : decode cX4_entryOf 30 = .ok (.iaload, 1) := by decide +kernel
theorem dX4_entryOf_31 : decode cX4_entryOf 31 = .ok (.invokestatic 48, 3) := by decide +kernel
theorem dX4_entryOf_34 : decode cX4_entryOf 34 = .ok (.ifCond .eq 23, 3) := by decide +kernel
theorem dX4_entryOf_37 : decode cX4_entryOf 37 = .ok (.iload_n 1, 1) := by decide +kernel
theorem dX4_entryOf_38 : decode cX4_entryOf 38 = .ok (.aload_n 0, 1) := by decide +kernel
theorem dX4_entryOf_39 : decode cX4_entryOf 39 = .ok (.getfield 13, 3) := by decide +kernel
theorem dX4_entryOf_42 : decode cX4_entryOf 42 = .ok (.iload 4, 2) := by decide +kernel
theorem dX4_entryOf_44 : decode cX4_entryOf 44 = .ok (.iaload, 1) := by decide +kernel
theorem dX4_entryOf_45 : decode cX4_entryOf 45 = .ok (.invokestatic 48, 3) := by decide +kernel
theorem dX4_entryOf_48 : decode cX4_entryOf 48 = .ok (.ifCond .ne 9, 3) := by decide +kernel
theorem dX4_entryOf_51 : decode cX4_entryOf 51 = .ok (.iload_n 3, 1) := by decide +kernel
theorem dX4_entryOf_52 : decode cX4_entryOf 52 = .ok (.iconst 1, 1) := by decide +kernel
theorem dX4_entryOf_53 : decode cX4_entryOf 53 = .ok (.iadd, 1) := by decide +kernel
theorem dX4_entryOf_54 : decode cX4_entryOf 54 = .ok (.goto 4, 3) := by decide +kernel
theorem dX4_entryOf_57 : decode cX4_entryOf 57 = .ok (.iload_n 3, 1) := by decide +kernel
theorem dX4_entryOf_58 : decode cX4_entryOf 58 = .ok (.istore_n 3, 1) := by decide +kernel
theorem dX4_entryOf_59 : decode cX4_entryOf 59 = .ok (.iinc 4 1, 3) := by decide +kernel
theorem dX4_entryOf_62 : decode cX4_entryOf 62 = .ok (.goto (-57), 3) := by decide +kernel
theorem dX4_entryOf_65 : decode cX4_entryOf 65 = .ok (.iload_n 3, 1) := by decide +kernel
theorem dX4_entryOf_66 : decode cX4_entryOf 66 = .ok (.ireturn, 1) := by decide +kernel
theorem dX4_has_0 : decode cX4_has 0 = .ok (.iload_n 0, 1) := by decide +kernel
theorem dX4_has_1 : decode cX4_has 1 = .ok (.iload_n 1, 1) := by decide +kernel
theorem dX4_has_2 : decode cX4_has 2 = .ok (.ishr, 1) := by decide +kernel
theorem dX4_has_3 : decode cX4_has 3 = .ok (.iconst 1, 1) := by decide +kernel
theorem dX4_has_4 : decode cX4_has 4 = .ok (.iand, 1) := by decide +kernel
theorem dX4_has_5 : decode cX4_has 5 = .ok (.iconst 1, 1) := by decide +kernel
theorem dX4_has_6 : decode cX4_has 6 = .ok (.if_icmp .ne 7, 3) := by decide +kernel
theorem dX4_has_9 : decode cX4_has 9 = .ok (.iconst 1, 1) := by decide +kernel
theorem dX4_has_10 : decode cX4_has 10 = .ok (.goto 4, 3) := by decide +kernel
theorem dX4_has_13 : decode cX4_has 13 = .ok (.iconst 0, 1) := by decide +kernel
theorem dX4_has_14 : decode cX4_has 14 = .ok (.ireturn, 1) := by decide +kernel
theorem dX4_missed_0 : decode cX4_missed 0 = .ok (.aload_n 0, 1) := by decide +kernel
theorem dX4_missed_1 : decode cX4_missed 1 = .ok (.iload_n 1, 1) := by decide +kernel
theorem dX4_missed_2 : decode cX4_missed 2 = .ok (.invokevirtual 67, 3) := by decide +kernel
theorem dX4_missed_5 : decode cX4_missed 5 = .ok (.ifCond .ne 5, 3) := by decide +kernel
theorem dX4_missed_8 : decode cX4_missed 8 = .ok (.iconst (-1), 1) := by decide +kernel
theorem dX4_missed_9 : decode cX4_missed 9 = .ok (.ireturn, 1) := by decide +kernel
theorem dX4_missed_10 : decode cX4_missed 10 = .ok (.iconst 0, 1) := by decide +kernel
theorem dX4_missed_11 : decode cX4_missed 11 = .ok (.istore_n 2, 1) := by decide +kernel
theorem dX4_missed_12 : decode cX4_missed 12 = .ok (.iconst 0, 1) := by decide +kernel
theorem dX4_missed_13 : decode cX4_missed 13 = .ok (.istore_n 3, 1) := by decide +kernel
theorem dX4_missed_14 : decode cX4_missed 14 = .ok (.iload_n 3, 1) := by decide +kernel
theorem dX4_missed_15 : decode cX4_missed 15 = .ok (.aload_n 0, 1) := by decide +kernel
theorem dX4_missed_16 : decode cX4_missed 16 = .ok (.getfield 56, 3) := by decide +kernel
theorem dX4_missed_19 : decode cX4_missed 19 = .ok (.if_icmp .ge 28, 3) := by decide +kernel
theorem dX4_missed_22 : decode cX4_missed 22 = .ok (.aload_n 0, 1) := by decide +kernel
theorem dX4_missed_23 : decode cX4_missed 23 = .ok (.getfield 20, 3) := by decide +kernel
theorem dX4_missed_26 : decode cX4_missed 26 = .ok (.iload_n 3, 1) := by decide +kernel
theorem dX4_missed_27 : decode cX4_missed 27 = .ok (.iaload, 1) := by decide +kernel
theorem dX4_missed_28 : decode cX4_missed 28 = .ok (.iload_n 1, 1) := by decide +kernel
theorem dX4_missed_29 : decode cX4_missed 29 = .ok (.iand, 1) := by decide +kernel
theorem dX4_missed_30 : decode cX4_missed 30 = .ok (.ifCond .ne 9, 3) := by decide +kernel
theorem dX4_missed_33 : decode cX4_missed 33 = .ok (.iload_n 2, 1) := by decide +kernel
theorem dX4_missed_34 : decode cX4_missed 34 = .ok (.iconst 1, 1) := by decide +kernel
theorem dX4_missed_35 : decode cX4_missed 35 = .ok (.iadd, 1) := by decide +kernel
theorem dX4_missed_36 : decode cX4_missed 36 = .ok (.goto 4, 3) := by decide +kernel
theorem dX4_missed_39 : decode cX4_missed 39 = .ok (.iload_n 2, 1) := by decide +kernel
theorem dX4_missed_40 : decode cX4_missed 40 = .ok (.istore_n 2, 1) := by decide +kernel
theorem dX4_missed_41 : decode cX4_missed 41 = .ok (.iinc 3 1, 3) := by decide +kernel
theorem dX4_missed_44 : decode cX4_missed 44 = .ok (.goto (-30), 3) := by decide +kernel
theorem dX4_missed_47 : decode cX4_missed 47 = .ok (.iload_n 2, 1) := by decide +kernel
theorem dX4_missed_48 : decode cX4_missed 48 = .ok (.ireturn, 1) := by decide +kernel
theorem dX4_stopper_0 : decode cX4_stopper 0 = .ok (.iconst 0, 1) := by decide +kernel
theorem dX4_stopper_1 : decode cX4_stopper 1 = .ok (.istore_n 1, 1) := by decide +kernel
theorem dX4_stopper_2 : decode cX4_stopper 2 = .ok (.iconst 1, 1) := by decide +kernel
theorem dX4_stopper_3 : decode cX4_stopper 3 = .ok (.istore_n 2, 1) := by decide +kernel
theorem dX4_stopper_4 : decode cX4_stopper 4 = .ok (.iload_n 2, 1) := by decide +kernel
theorem dX4_stopper_5 : decode cX4_stopper 5 = .ok (.aload_n 0, 1) := by decide +kernel
theorem dX4_stopper_6 : decode cX4_stopper 6 = .ok (.invokevirtual 41, 3) := by decide +kernel
theorem dX4_stopper_9 : decode cX4_stopper 9 = .ok (.if_icmp .gt 36, 3) := by decide +kernel
theorem dX4_stopper_12 : decode cX4_stopper 12 = .ok (.aload_n 0, 1) := by decide +kernel
theorem dX4_stopper_13 : decode cX4_stopper 13 = .ok (.iload_n 2, 1) := by decide +kernel
theorem dX4_stopper_14 : decode cX4_stopper 14 = .ok (.invokevirtual 74, 3) := by decide +kernel
theorem dX4_stopper_17 : decode cX4_stopper 17 = .ok (.aload_n 0, 1) := by decide +kernel
theorem dX4_stopper_18 : decode cX4_stopper 18 = .ok (.iload_n 2, 1) := by decide +kernel
theorem dX4_stopper_19 : decode cX4_stopper 19 = .ok (.invokevirtual 77, 3) := by decide +kernel
theorem dX4_stopper_22 : decode cX4_stopper 22 = .ok (.if_icmp .ge 17, 3) := by decide +kernel
theorem dX4_stopper_25 : decode cX4_stopper 25 = .ok (.iload_n 1, 1) := by decide +kernel
theorem dX4_stopper_26 : decode cX4_stopper 26 = .ok (.ifCond .eq 11, 3) := by decide +kernel
theorem dX4_stopper_29 : decode cX4_stopper 29 = .ok (.iload_n 2, 1) := by decide +kernel
theorem dX4_stopper_30 : decode cX4_stopper 30 = .ok (.iload_n 1, 1) := by decide +kernel
theorem dX4_stopper_31 : decode cX4_stopper 31 = .ok (.invokestatic 80, 3) := by decide +kernel
theorem dX4_stopper_34 : decode cX4_stopper 34 = .ok (.ifCond .eq 5, 3) := by decide +kernel
theorem dX4_stopper_37 : decode cX4_stopper 37 = .ok (.iload_n 2, 1) := by decide +kernel
theorem dX4_stopper_38 : decode cX4_stopper 38 = .ok (.istore_n 1, 1) := by decide +kernel
theorem dX4_stopper_39 : decode cX4_stopper 39 = .ok (.iinc 2 1, 3) := by decide +kernel
theorem dX4_stopper_42 : decode cX4_stopper 42 = .ok (.goto (-38), 3) := by decide +kernel
theorem dX4_stopper_45 : decode cX4_stopper 45 = .ok (.iload_n 1, 1) := by decide +kernel
theorem dX4_stopper_46 : decode cX4_stopper 46 = .ok (.ireturn, 1) := by decide +kernel
theorem dX4_isBefore_0 : decode cX4_isBefore 0 = .ok (.iload_n 0, 1) := by decide +kernel
theorem dX4_isBefore_1 : decode cX4_isBefore 1 = .ok (.invokestatic 52, 3) := by decide +kernel
theorem dX4_isBefore_4 : decode cX4_isBefore 4 = .ok (.iload_n 1, 1) := by decide +kernel
theorem dX4_isBefore_5 : decode cX4_isBefore 5 = .ok (.invokestatic 52, 3) := by decide +kernel
theorem dX4_isBefore_8 : decode cX4_isBefore 8 = .ok (.if_icmp .eq 20, 3) := by decide +kernel
theorem dX4_isBefore_11 : decode cX4_isBefore 11 = .ok (.iload_n 0, 1) := by decide +kernel
theorem dX4_isBefore_12 : decode cX4_isBefore 12 = .ok (.invokestatic 52, 3) := by decide +kernel
theorem dX4_isBefore_15 : decode cX4_isBefore 15 = .ok (.iload_n 1, 1) := by decide +kernel
theorem dX4_isBefore_16 : decode cX4_isBefore 16 = .ok (.invokestatic 52, 3) := by decide +kernel
theorem dX4_isBefore_19 : decode cX4_isBefore 19 = .ok (.if_icmp .ge 7, 3) := by decide +kernel
theorem dX4_isBefore_22 : decode cX4_isBefore 22 = .ok (.iconst 1, 1) := by decide +kernel
theorem dX4_isBefore_23 : decode cX4_isBefore 23 = .ok (.goto 4, 3) := by decide +kernel
theorem dX4_isBefore_26 : decode cX4_isBefore 26 = .ok (.iconst 0, 1) := by decide +kernel
theorem dX4_isBefore_27 : decode cX4_isBefore 27 = .ok (.ireturn, 1) := by decide +kernel
theorem dX4_isBefore_28 : decode cX4_isBefore 28 = .ok (.iconst 0, 1) := by decide +kernel
theorem dX4_isBefore_29 : decode cX4_isBefore 29 = .ok (.istore_n 2, 1) := by decide +kernel
theorem dX4_isBefore_30 : decode cX4_isBefore 30 = .ok (.iload_n 2, 1) := by decide +kernel
theorem dX4_isBefore_31 : decode cX4_isBefore 31 = .ok (.bipush 7, 2) := by decide +kernel
theorem dX4_isBefore_33 : decode cX4_isBefore 33 = .ok (.if_icmp .ge 22, 3) := by decide +kernel
theorem dX4_isBefore_36 : decode cX4_isBefore 36 = .ok (.iload_n 0, 1) := by decide +kernel
theorem dX4_isBefore_37 : decode cX4_isBefore 37 = .ok (.iload_n 2, 1) := by decide +kernel
theorem dX4_isBefore_38 : decode cX4_isBefore 38 = .ok (.invokestatic 48, 3) := by decide +kernel
theorem dX4_isBefore_41 : decode cX4_isBefore 41 = .ok (.iload_n 1, 1) := by decide +kernel
theorem dX4_isBefore_42 : decode cX4_isBefore 42 = .ok (.iload_n 2, 1) := by decide +kernel
theorem dX4_isBefore_43 : decode cX4_isBefore 43 = .ok (.invokestatic 48, 3) := by decide +kernel
theorem dX4_isBefore_46 : decode cX4_isBefore 46 = .ok (.if_icmp .ne 9, 3) := by decide +kernel
theorem dX4_isBefore_49 : decode cX4_isBefore 49 = .ok (.iinc 2 1, 3) := by decide +kernel
theorem dX4_isBefore_52 : decode cX4_isBefore 52 = .ok (.goto (-22), 3) := by decide +kernel
theorem dX4_isBefore_55 : decode cX4_isBefore 55 = .ok (.iload_n 2, 1) := by decide +kernel
theorem dX4_isBefore_56 : decode cX4_isBefore 56 = .ok (.bipush 7, 2) := by decide +kernel
theorem dX4_isBefore_58 : decode cX4_isBefore 58 = .ok (.if_icmp .ge 15, 3) := by decide +kernel
theorem dX4_isBefore_61 : decode cX4_isBefore 61 = .ok (.iload_n 0, 1) := by decide +kernel
theorem dX4_isBefore_62 : decode cX4_isBefore 62 = .ok (.iload_n 2, 1) := by decide +kernel
theorem dX4_isBefore_63 : decode cX4_isBefore 63 = .ok (.invokestatic 48, 3) := by decide +kernel
theorem dX4_isBefore_66 : decode cX4_isBefore 66 = .ok (.ifCond .eq 7, 3) := by decide +kernel
theorem dX4_isBefore_69 : decode cX4_isBefore 69 = .ok (.iconst 1, 1) := by decide +kernel
theorem dX4_isBefore_70 : decode cX4_isBefore 70 = .ok (.goto 4, 3) := by decide +kernel
theorem dX4_isBefore_73 : decode cX4_isBefore 73 = .ok (.iconst 0, 1) := by decide +kernel
theorem dX4_isBefore_74 : decode cX4_isBefore 74 = .ok (.ireturn, 1) := by decide +kernel
theorem dX4_size_0 : decode cX4_size 0 = .ok (.iconst 0, 1) := by decide +kernel
theorem dX4_size_1 : decode cX4_size 1 = .ok (.istore_n 1, 1) := by decide +kernel
theorem dX4_size_2 : decode cX4_size 2 = .ok (.iconst 0, 1) := by decide +kernel
theorem dX4_size_3 : decode cX4_size 3 = .ok (.istore_n 2, 1) := by decide +kernel
theorem dX4_size_4 : decode cX4_size 4 = .ok (.iload_n 2, 1) := by decide +kernel
theorem dX4_size_5 : decode cX4_size 5 = .ok (.bipush 7, 2) := by decide +kernel
theorem dX4_size_7 : decode cX4_size 7 = .ok (.if_icmp .ge 25, 3) := by decide +kernel
theorem dX4_size_10 : decode cX4_size 10 = .ok (.iload_n 0, 1) := by decide +kernel
theorem dX4_size_11 : decode cX4_size 11 = .ok (.iload_n 2, 1) := by decide +kernel
theorem dX4_size_12 : decode cX4_size 12 = .ok (.invokestatic 48, 3) := by decide +kernel
theorem dX4_size_15 : decode cX4_size 15 = .ok (.ifCond .eq 9, 3) := by decide +kernel
theorem dX4_size_18 : decode cX4_size 18 = .ok (.iload_n 1, 1) := by decide +kernel
theorem dX4_size_19 : decode cX4_size 19 = .ok (.iconst 1, 1) := by decide +kernel
theorem dX4_size_20 : decode cX4_size 20 = .ok (.iadd, 1) := by decide +kernel
theorem dX4_size_21 : decode cX4_size 21 = .ok (.goto 4, 3) := by decide +kernel
theorem dX4_size_24 : decode cX4_size 24 = .ok (.iload_n 1, 1) := by decide +kernel
theorem dX4_size_25 : decode cX4_size 25 = .ok (.istore_n 1, 1) := by decide +kernel
theorem dX4_size_26 : decode cX4_size 26 = .ok (.iinc 2 1, 3) := by decide +kernel
theorem dX4_size_29 : decode cX4_size 29 = .ok (.goto (-25), 3) := by decide +kernel
theorem dX4_size_32 : decode cX4_size 32 = .ok (.iload_n 1, 1) := by decide +kernel
theorem dX4_size_33 : decode cX4_size 33 = .ok (.ireturn, 1) := by decide +kernel
theorem dX4_packs_0 : decode cX4_packs 0 = .ok (.aload_n 0, 1) := by decide +kernel
theorem dX4_packs_1 : decode cX4_packs 1 = .ok (.iconst 0, 1) := by decide +kernel
theorem dX4_packs_2 : decode cX4_packs 2 = .ok (.aload_n 0, 1) := by decide +kernel
theorem dX4_packs_3 : decode cX4_packs 3 = .ok (.getfield 56, 3) := by decide +kernel
theorem dX4_packs_6 : decode cX4_packs 6 = .ok (.ifCond .le 12, 3) := by decide +kernel
theorem dX4_packs_9 : decode cX4_packs 9 = .ok (.aload_n 0, 1) := by decide +kernel
theorem dX4_packs_10 : decode cX4_packs 10 = .ok (.getfield 20, 3) := by decide +kernel
theorem dX4_packs_13 : decode cX4_packs 13 = .ok (.iconst 0, 1) := by decide +kernel
theorem dX4_packs_14 : decode cX4_packs 14 = .ok (.iaload, 1) := by decide +kernel
theorem dX4_packs_15 : decode cX4_packs 15 = .ok (.goto 4, 3) := by decide +kernel
theorem dX4_packs_18 : decode cX4_packs 18 = .ok (.iconst 0, 1) := by decide +kernel
theorem dX4_packs_19 : decode cX4_packs 19 = .ok (.iconst 0, 1) := by decide +kernel
theorem dX4_packs_20 : decode cX4_packs 20 = .ok (.invokevirtual 94, 3) := by decide +kernel
theorem dX4_packs_23 : decode cX4_packs 23 = .ok (.ireturn, 1) := by decide +kernel
theorem dX4_canGoOn_0 : decode cX4_canGoOn 0 = .ok (.iconst 0, 1) := by decide +kernel
theorem dX4_canGoOn_1 : decode cX4_canGoOn 1 = .ok (.istore 4, 2) := by decide +kernel
theorem dX4_canGoOn_3 : decode cX4_canGoOn 3 = .ok (.aload_n 0, 1) := by decide +kernel
theorem dX4_canGoOn_4 : decode cX4_canGoOn 4 = .ok (.iconst 0, 1) := by decide +kernel
theorem dX4_canGoOn_5 : decode cX4_canGoOn 5 = .ok (.iload_n 1, 1) := by decide +kernel
theorem dX4_canGoOn_6 : decode cX4_canGoOn 6 = .ok (.iload_n 2, 1) := by decide +kernel
theorem dX4_canGoOn_7 : decode cX4_canGoOn 7 = .ok (.iload_n 3, 1) := by decide +kernel
theorem dX4_canGoOn_8 : decode cX4_canGoOn 8 = .ok (.invokevirtual 87, 3) := by decide +kernel
theorem dX4_canGoOn_11 : decode cX4_canGoOn 11 = .ok (.istore 5, 2) := by decide +kernel
theorem dX4_canGoOn_13 : decode cX4_canGoOn 13 = .ok (.iload 5, 2) := by decide +kernel
theorem dX4_canGoOn_15 : decode cX4_canGoOn 15 = .ok (.ifCond .ne 118, 3) := by decide +kernel
theorem dX4_canGoOn_18 : decode cX4_canGoOn 18 = .ok (.iload 4, 2) := by decide +kernel
theorem dX4_canGoOn_20 : decode cX4_canGoOn 20 = .ok (.ifCond .lt 113, 3) := by decide +kernel
theorem dX4_canGoOn_23 : decode cX4_canGoOn 23 = .ok (.aload_n 0, 1) := by decide +kernel
theorem dX4_canGoOn_24 : decode cX4_canGoOn 24 = .ok (.getfield 38, 3) := by decide +kernel
theorem dX4_canGoOn_27 : decode cX4_canGoOn 27 = .ok (.iload 4, 2) := by decide +kernel
theorem dX4_canGoOn_29 : decode cX4_canGoOn 29 = .ok (.iaload, 1) := by decide +kernel
theorem dX4_canGoOn_30 : decode cX4_canGoOn 30 = .ok (.istore 6, 2) := by decide +kernel
theorem dX4_canGoOn_32 : decode cX4_canGoOn 32 = .ok (.iload 6, 2) := by decide +kernel
theorem dX4_canGoOn_34 : decode cX4_canGoOn 34 = .ok (.aload_n 0, 1) := by decide +kernel
theorem dX4_canGoOn_35 : decode cX4_canGoOn 35 = .ok (.getfield 45, 3) := by decide +kernel
theorem dX4_canGoOn_38 : decode cX4_canGoOn 38 = .ok (.if_icmp .ne 9, 3) := by decide +kernel
theorem dX4_canGoOn_41 : decode cX4_canGoOn 41 = .ok (.iinc 4 (-1), 3) := by decide +kernel
theorem dX4_canGoOn_44 : decode cX4_canGoOn 44 = .ok (.goto 86, 3) := by decide +kernel
theorem dX4_canGoOn_47 : decode cX4_canGoOn 47 = .ok (.aload_n 0, 1) := by decide +kernel
theorem dX4_canGoOn_48 : decode cX4_canGoOn 48 = .ok (.getfield 38, 3) := by decide +kernel
theorem dX4_canGoOn_51 : decode cX4_canGoOn 51 = .ok (.iload 4, 2) := by decide +kernel
theorem dX4_canGoOn_53 : decode cX4_canGoOn 53 = .ok (.iload 6, 2) := by decide +kernel
theorem dX4_canGoOn_55 : decode cX4_canGoOn 55 = .ok (.iconst 1, 1) := by decide +kernel
theorem dX4_canGoOn_56 : decode cX4_canGoOn 56 = .ok (.iadd, 1) := by decide +kernel
theorem dX4_canGoOn_57 : decode cX4_canGoOn 57 = .ok (.iastore, 1) := by decide +kernel
theorem dX4_canGoOn_58 : decode cX4_canGoOn 58 = .ok (.aload_n 0, 1) := by decide +kernel
theorem dX4_canGoOn_59 : decode cX4_canGoOn 59 = .ok (.aload_n 0, 1) := by decide +kernel
theorem dX4_canGoOn_60 : decode cX4_canGoOn 60 = .ok (.getfield 32, 3) := by decide +kernel
theorem dX4_canGoOn_63 : decode cX4_canGoOn 63 = .ok (.iload 4, 2) := by decide +kernel
theorem dX4_canGoOn_65 : decode cX4_canGoOn 65 = .ok (.iaload, 1) := by decide +kernel
theorem dX4_canGoOn_66 : decode cX4_canGoOn 66 = .ok (.aload_n 0, 1) := by decide +kernel
theorem dX4_canGoOn_67 : decode cX4_canGoOn 67 = .ok (.getfield 35, 3) := by decide +kernel
theorem dX4_canGoOn_70 : decode cX4_canGoOn 70 = .ok (.iload 4, 2) := by decide +kernel
theorem dX4_canGoOn_72 : decode cX4_canGoOn 72 = .ok (.iaload, 1) := by decide +kernel
theorem dX4_canGoOn_73 : decode cX4_canGoOn 73 = .ok (.iload 6, 2) := by decide +kernel
theorem dX4_canGoOn_75 : decode cX4_canGoOn 75 = .ok (.invokevirtual 91, 3) := by decide +kernel
theorem dX4_canGoOn_78 : decode cX4_canGoOn 78 = .ok (.ifCond .eq 52, 3) := by decide +kernel
theorem dX4_canGoOn_81 : decode cX4_canGoOn 81 = .ok (.aload_n 0, 1) := by decide +kernel
theorem dX4_canGoOn_82 : decode cX4_canGoOn 82 = .ok (.iload 4, 2) := by decide +kernel
theorem dX4_canGoOn_84 : decode cX4_canGoOn 84 = .ok (.iconst 1, 1) := by decide +kernel
theorem dX4_canGoOn_85 : decode cX4_canGoOn 85 = .ok (.iadd, 1) := by decide +kernel
theorem dX4_canGoOn_86 : decode cX4_canGoOn 86 = .ok (.aload_n 0, 1) := by decide +kernel
theorem dX4_canGoOn_87 : decode cX4_canGoOn 87 = .ok (.getfield 29, 3) := by decide +kernel
theorem dX4_canGoOn_90 : decode cX4_canGoOn 90 = .ok (.iload 4, 2) := by decide +kernel
theorem dX4_canGoOn_92 : decode cX4_canGoOn 92 = .ok (.iaload, 1) := by decide +kernel
theorem dX4_canGoOn_93 : decode cX4_canGoOn 93 = .ok (.aload_n 0, 1) := by decide +kernel
theorem dX4_canGoOn_94 : decode cX4_canGoOn 94 = .ok (.getfield 32, 3) := by decide +kernel
theorem dX4_canGoOn_97 : decode cX4_canGoOn 97 = .ok (.iload 4, 2) := by decide +kernel
theorem dX4_canGoOn_99 : decode cX4_canGoOn 99 = .ok (.iaload, 1) := by decide +kernel
theorem dX4_canGoOn_100 : decode cX4_canGoOn 100 = .ok (.iconst 1, 1) := by decide +kernel
theorem dX4_canGoOn_101 : decode cX4_canGoOn 101 = .ok (.aload_n 0, 1) := by decide +kernel
theorem dX4_canGoOn_102 : decode cX4_canGoOn 102 = .ok (.getfield 17, 3) := by decide +kernel
theorem dX4_canGoOn_105 : decode cX4_canGoOn 105 = .ok (.iload 6, 2) := by decide +kernel
theorem dX4_canGoOn_107 : decode cX4_canGoOn 107 = .ok (.iaload, 1) := by decide +kernel
theorem dX4_canGoOn_108 : decode cX4_canGoOn 108 = .ok (.ishl, 1) := by decide +kernel
theorem dX4_canGoOn_109 : decode cX4_canGoOn 109 = .ok (.ior, 1) := by decide +kernel
theorem dX4_canGoOn_110 : decode cX4_canGoOn 110 = .ok (.aload_n 0, 1) := by decide +kernel
theorem dX4_canGoOn_111 : decode cX4_canGoOn 111 = .ok (.getfield 35, 3) := by decide +kernel
theorem dX4_canGoOn_114 : decode cX4_canGoOn 114 = .ok (.iload 4, 2) := by decide +kernel
theorem dX4_canGoOn_116 : decode cX4_canGoOn 116 = .ok (.iaload, 1) := by decide +kernel
theorem dX4_canGoOn_117 : decode cX4_canGoOn 117 = .ok (.iconst 1, 1) := by decide +kernel
theorem dX4_canGoOn_118 : decode cX4_canGoOn 118 = .ok (.iload 6, 2) := by decide +kernel
theorem dX4_canGoOn_120 : decode cX4_canGoOn 120 = .ok (.ishl, 1) := by decide +kernel
theorem dX4_canGoOn_121 : decode cX4_canGoOn 121 = .ok (.ior, 1) := by decide +kernel
theorem dX4_canGoOn_122 : decode cX4_canGoOn 122 = .ok (.invokevirtual 87, 3) := by decide +kernel
theorem dX4_canGoOn_125 : decode cX4_canGoOn 125 = .ok (.istore 5, 2) := by decide +kernel
theorem dX4_canGoOn_127 : decode cX4_canGoOn 127 = .ok (.iinc 4 1, 3) := by decide +kernel
theorem dX4_canGoOn_130 : decode cX4_canGoOn 130 = .ok (.goto (-117), 3) := by decide +kernel
theorem dX4_canGoOn_133 : decode cX4_canGoOn 133 = .ok (.iload 5, 2) := by decide +kernel
theorem dX4_canGoOn_135 : decode cX4_canGoOn 135 = .ok (.ireturn, 1) := by decide +kernel
theorem dX4_isDone_0 : decode cX4_isDone 0 = .ok (.iload_n 2, 1) := by decide +kernel
theorem dX4_isDone_1 : decode cX4_isDone 1 = .ok (.istore 5, 2) := by decide +kernel
theorem dX4_isDone_3 : decode cX4_isDone 3 = .ok (.iload_n 3, 1) := by decide +kernel
theorem dX4_isDone_4 : decode cX4_isDone 4 = .ok (.istore 6, 2) := by decide +kernel
theorem dX4_isDone_6 : decode cX4_isDone 6 = .ok (.iload 5, 2) := by decide +kernel
theorem dX4_isDone_8 : decode cX4_isDone 8 = .ok (.aload_n 0, 1) := by decide +kernel
theorem dX4_isDone_9 : decode cX4_isDone 9 = .ok (.getfield 56, 3) := by decide +kernel
theorem dX4_isDone_12 : decode cX4_isDone 12 = .ok (.if_icmp .ge 40, 3) := by decide +kernel
theorem dX4_isDone_15 : decode cX4_isDone 15 = .ok (.iload 6, 2) := by decide +kernel
theorem dX4_isDone_17 : decode cX4_isDone 17 = .ok (.aload_n 0, 1) := by decide +kernel
theorem dX4_isDone_18 : decode cX4_isDone 18 = .ok (.invokevirtual 41, 3) := by decide +kernel
theorem dX4_isDone_21 : decode cX4_isDone 21 = .ok (.if_icmp .ne 31, 3) := by decide +kernel
theorem dX4_isDone_24 : decode cX4_isDone 24 = .ok (.iinc 5 1, 3) := by decide +kernel
theorem dX4_isDone_27 : decode cX4_isDone 27 = .ok (.iload 5, 2) := by decide +kernel
theorem dX4_isDone_29 : decode cX4_isDone 29 = .ok (.aload_n 0, 1) := by decide +kernel
theorem dX4_isDone_30 : decode cX4_isDone 30 = .ok (.getfield 56, 3) := by decide +kernel
theorem dX4_isDone_33 : decode cX4_isDone 33 = .ok (.if_icmp .ge 13, 3) := by decide +kernel
theorem dX4_isDone_36 : decode cX4_isDone 36 = .ok (.aload_n 0, 1) := by decide +kernel
theorem dX4_isDone_37 : decode cX4_isDone 37 = .ok (.getfield 20, 3) := by decide +kernel
theorem dX4_isDone_40 : decode cX4_isDone 40 = .ok (.iload 5, 2) := by decide +kernel
theorem dX4_isDone_42 : decode cX4_isDone 42 = .ok (.iaload, 1) := by decide +kernel
theorem dX4_isDone_43 : decode cX4_isDone 43 = .ok (.goto 4, 3) := by decide +kernel
theorem dX4_isDone_46 : decode cX4_isDone 46 = .ok (.iconst 0, 1) := by decide +kernel
theorem dX4_isDone_47 : decode cX4_isDone 47 = .ok (.istore 6, 2) := by decide +kernel
theorem dX4_isDone_49 : decode cX4_isDone 49 = .ok (.goto (-43), 3) := by decide +kernel
theorem dX4_isDone_52 : decode cX4_isDone 52 = .ok (.aload_n 0, 1) := by decide +kernel
theorem dX4_isDone_53 : decode cX4_isDone 53 = .ok (.getfield 29, 3) := by decide +kernel
theorem dX4_isDone_56 : decode cX4_isDone 56 = .ok (.iload_n 1, 1) := by decide +kernel
theorem dX4_isDone_57 : decode cX4_isDone 57 = .ok (.iload 5, 2) := by decide +kernel
theorem dX4_isDone_59 : decode cX4_isDone 59 = .ok (.iastore, 1) := by decide +kernel
theorem dX4_isDone_60 : decode cX4_isDone 60 = .ok (.aload_n 0, 1) := by decide +kernel
theorem dX4_isDone_61 : decode cX4_isDone 61 = .ok (.getfield 32, 3) := by decide +kernel
theorem dX4_isDone_64 : decode cX4_isDone 64 = .ok (.iload_n 1, 1) := by decide +kernel
theorem dX4_isDone_65 : decode cX4_isDone 65 = .ok (.iload 6, 2) := by decide +kernel
theorem dX4_isDone_67 : decode cX4_isDone 67 = .ok (.iastore, 1) := by decide +kernel
theorem dX4_isDone_68 : decode cX4_isDone 68 = .ok (.aload_n 0, 1) := by decide +kernel
theorem dX4_isDone_69 : decode cX4_isDone 69 = .ok (.getfield 35, 3) := by decide +kernel
theorem dX4_isDone_72 : decode cX4_isDone 72 = .ok (.iload_n 1, 1) := by decide +kernel
theorem dX4_isDone_73 : decode cX4_isDone 73 = .ok (.iload 4, 2) := by decide +kernel
theorem dX4_isDone_75 : decode cX4_isDone 75 = .ok (.iastore, 1) := by decide +kernel
theorem dX4_isDone_76 : decode cX4_isDone 76 = .ok (.aload_n 0, 1) := by decide +kernel
theorem dX4_isDone_77 : decode cX4_isDone 77 = .ok (.getfield 38, 3) := by decide +kernel
theorem dX4_isDone_80 : decode cX4_isDone 80 = .ok (.iload_n 1, 1) := by decide +kernel
theorem dX4_isDone_81 : decode cX4_isDone 81 = .ok (.iload 5, 2) := by decide +kernel
theorem dX4_isDone_83 : decode cX4_isDone 83 = .ok (.aload_n 0, 1) := by decide +kernel
theorem dX4_isDone_84 : decode cX4_isDone 84 = .ok (.getfield 56, 3) := by decide +kernel
theorem dX4_isDone_87 : decode cX4_isDone 87 = .ok (.if_icmp .ge 23, 3) := by decide +kernel
theorem dX4_isDone_90 : decode cX4_isDone 90 = .ok (.aload_n 0, 1) := by decide +kernel
theorem dX4_isDone_91 : decode cX4_isDone 91 = .ok (.iload 5, 2) := by decide +kernel
theorem dX4_isDone_93 : decode cX4_isDone 93 = .ok (.iload 6, 2) := by decide +kernel
theorem dX4_isDone_95 : decode cX4_isDone 95 = .ok (.iload 4, 2) := by decide +kernel
theorem dX4_isDone_97 : decode cX4_isDone 97 = .ok (.invokevirtual 83, 3) := by decide +kernel
theorem dX4_isDone_100 : decode cX4_isDone 100 = .ok (.ifCond .eq 10, 3) := by decide +kernel
theorem dX4_isDone_103 : decode cX4_isDone 103 = .ok (.aload_n 0, 1) := by decide +kernel
theorem dX4_isDone_104 : decode cX4_isDone 104 = .ok (.getfield 45, 3) := by decide +kernel
theorem dX4_isDone_107 : decode cX4_isDone 107 = .ok (.goto 4, 3) := by decide +kernel
theorem dX4_isDone_110 : decode cX4_isDone 110 = .ok (.iconst 0, 1) := by decide +kernel
theorem dX4_isDone_111 : decode cX4_isDone 111 = .ok (.iastore, 1) := by decide +kernel
theorem dX4_isDone_112 : decode cX4_isDone 112 = .ok (.iload 5, 2) := by decide +kernel
theorem dX4_isDone_114 : decode cX4_isDone 114 = .ok (.aload_n 0, 1) := by decide +kernel
theorem dX4_isDone_115 : decode cX4_isDone 115 = .ok (.getfield 56, 3) := by decide +kernel
theorem dX4_isDone_118 : decode cX4_isDone 118 = .ok (.if_icmp .ne 7, 3) := by decide +kernel
theorem dX4_isDone_121 : decode cX4_isDone 121 = .ok (.iconst 1, 1) := by decide +kernel
theorem dX4_isDone_122 : decode cX4_isDone 122 = .ok (.goto 4, 3) := by decide +kernel
theorem dX4_isDone_125 : decode cX4_isDone 125 = .ok (.iconst 0, 1) := by decide +kernel
theorem dX4_isDone_126 : decode cX4_isDone 126 = .ok (.ireturn, 1) := by decide +kernel
theorem dX4_isStopped_0 : decode cX4_isStopped 0 = .ok (.iconst 1, 1) := by decide +kernel
theorem dX4_isStopped_1 : decode cX4_isStopped 1 = .ok (.istore 4, 2) := by decide +kernel
theorem dX4_isStopped_3 : decode cX4_isStopped 3 = .ok (.iload 4, 2) := by decide +kernel
theorem dX4_isStopped_5 : decode cX4_isStopped 5 = .ok (.aload_n 0, 1) := by decide +kernel
theorem dX4_isStopped_6 : decode cX4_isStopped 6 = .ok (.invokevirtual 41, 3) := by decide +kernel
theorem dX4_isStopped_9 : decode cX4_isStopped 9 = .ok (.if_icmp .gt 81, 3) := by decide +kernel
theorem dX4_isStopped_12 : decode cX4_isStopped 12 = .ok (.iload_n 2, 1) := by decide +kernel
theorem dX4_isStopped_13 : decode cX4_isStopped 13 = .ok (.iload 4, 2) := by decide +kernel
theorem dX4_isStopped_15 : decode cX4_isStopped 15 = .ok (.iand, 1) := by decide +kernel
theorem dX4_isStopped_16 : decode cX4_isStopped 16 = .ok (.ifCond .ne 7, 3) := by decide +kernel
theorem dX4_isStopped_19 : decode cX4_isStopped 19 = .ok (.iconst 1, 1) := by decide +kernel
theorem dX4_isStopped_20 : decode cX4_isStopped 20 = .ok (.goto 4, 3) := by decide +kernel
theorem dX4_isStopped_23 : decode cX4_isStopped 23 = .ok (.iconst 0, 1) := by decide +kernel
theorem dX4_isStopped_24 : decode cX4_isStopped 24 = .ok (.istore 5, 2) := by decide +kernel
theorem dX4_isStopped_26 : decode cX4_isStopped 26 = .ok (.iload_n 1, 1) := by decide +kernel
theorem dX4_isStopped_27 : decode cX4_isStopped 27 = .ok (.iconst 1, 1) := by decide +kernel
theorem dX4_isStopped_28 : decode cX4_isStopped 28 = .ok (.iadd, 1) := by decide +kernel
theorem dX4_isStopped_29 : decode cX4_isStopped 29 = .ok (.istore 6, 2) := by decide +kernel
theorem dX4_isStopped_31 : decode cX4_isStopped 31 = .ok (.iload 6, 2) := by decide +kernel
theorem dX4_isStopped_33 : decode cX4_isStopped 33 = .ok (.aload_n 0, 1) := by decide +kernel
theorem dX4_isStopped_34 : decode cX4_isStopped 34 = .ok (.getfield 56, 3) := by decide +kernel
theorem dX4_isStopped_37 : decode cX4_isStopped 37 = .ok (.if_icmp .ge 33, 3) := by decide +kernel
theorem dX4_isStopped_40 : decode cX4_isStopped 40 = .ok (.aload_n 0, 1) := by decide +kernel
theorem dX4_isStopped_41 : decode cX4_isStopped 41 = .ok (.getfield 20, 3) := by decide +kernel
theorem dX4_isStopped_44 : decode cX4_isStopped 44 = .ok (.iload 6, 2) := by decide +kernel
theorem dX4_isStopped_46 : decode cX4_isStopped 46 = .ok (.iaload, 1) := by decide +kernel
theorem dX4_isStopped_47 : decode cX4_isStopped 47 = .ok (.iload 4, 2) := by decide +kernel
theorem dX4_isStopped_49 : decode cX4_isStopped 49 = .ok (.iand, 1) := by decide +kernel
theorem dX4_isStopped_50 : decode cX4_isStopped 50 = .ok (.ifCond .ne 10, 3) := by decide +kernel
theorem dX4_isStopped_53 : decode cX4_isStopped 53 = .ok (.iload 5, 2) := by decide +kernel
theorem dX4_isStopped_55 : decode cX4_isStopped 55 = .ok (.iconst 1, 1) := by decide +kernel
theorem dX4_isStopped_56 : decode cX4_isStopped 56 = .ok (.iadd, 1) := by decide +kernel
theorem dX4_isStopped_57 : decode cX4_isStopped 57 = .ok (.goto 5, 3) := by decide +kernel
theorem dX4_isStopped_60 : decode cX4_isStopped 60 = .ok (.iload 5, 2) := by decide +kernel
theorem dX4_isStopped_62 : decode cX4_isStopped 62 = .ok (.istore 5, 2) := by decide +kernel
theorem dX4_isStopped_64 : decode cX4_isStopped 64 = .ok (.iinc 6 1, 3) := by decide +kernel
theorem dX4_isStopped_67 : decode cX4_isStopped 67 = .ok (.goto (-36), 3) := by decide +kernel
theorem dX4_isStopped_70 : decode cX4_isStopped 70 = .ok (.aload_n 0, 1) := by decide +kernel
theorem dX4_isStopped_71 : decode cX4_isStopped 71 = .ok (.iload 4, 2) := by decide +kernel
theorem dX4_isStopped_73 : decode cX4_isStopped 73 = .ok (.iload_n 3, 1) := by decide +kernel
theorem dX4_isStopped_74 : decode cX4_isStopped 74 = .ok (.invokevirtual 70, 3) := by decide +kernel
theorem dX4_isStopped_77 : decode cX4_isStopped 77 = .ok (.iload 5, 2) := by decide +kernel
theorem dX4_isStopped_79 : decode cX4_isStopped 79 = .ok (.if_icmp .ge 5, 3) := by decide +kernel
theorem dX4_isStopped_82 : decode cX4_isStopped 82 = .ok (.iconst 1, 1) := by decide +kernel
theorem dX4_isStopped_83 : decode cX4_isStopped 83 = .ok (.ireturn, 1) := by decide +kernel
theorem dX4_isStopped_84 : decode cX4_isStopped 84 = .ok (.iinc 4 1, 3) := by decide +kernel
theorem dX4_isStopped_87 : decode cX4_isStopped 87 = .ok (.goto (-84), 3) := by decide +kernel
theorem dX4_isStopped_90 : decode cX4_isStopped 90 = .ok (.iconst 0, 1) := by decide +kernel
theorem dX4_isStopped_91 : decode cX4_isStopped 91 = .ok (.ireturn, 1) := by decide +kernel
theorem dX4_grows_0 : decode cX4_grows 0 = .ok (.iload_n 2, 1) := by decide +kernel
theorem dX4_grows_1 : decode cX4_grows 1 = .ok (.iload_n 3, 1) := by decide +kernel
theorem dX4_grows_2 : decode cX4_grows 2 = .ok (.invokestatic 48, 3) := by decide +kernel
theorem dX4_grows_5 : decode cX4_grows 5 = .ok (.ifCond .ne 33, 3) := by decide +kernel
theorem dX4_grows_8 : decode cX4_grows 8 = .ok (.iload_n 1, 1) := by decide +kernel
theorem dX4_grows_9 : decode cX4_grows 9 = .ok (.aload_n 0, 1) := by decide +kernel
theorem dX4_grows_10 : decode cX4_grows 10 = .ok (.getfield 13, 3) := by decide +kernel
theorem dX4_grows_13 : decode cX4_grows 13 = .ok (.iload_n 3, 1) := by decide +kernel
theorem dX4_grows_14 : decode cX4_grows 14 = .ok (.iaload, 1) := by decide +kernel
theorem dX4_grows_15 : decode cX4_grows 15 = .ok (.invokestatic 48, 3) := by decide +kernel
theorem dX4_grows_18 : decode cX4_grows 18 = .ok (.ifCond .eq 20, 3) := by decide +kernel
theorem dX4_grows_21 : decode cX4_grows 21 = .ok (.iload_n 1, 1) := by decide +kernel
theorem dX4_grows_22 : decode cX4_grows 22 = .ok (.aload_n 0, 1) := by decide +kernel
theorem dX4_grows_23 : decode cX4_grows 23 = .ok (.getfield 17, 3) := by decide +kernel
theorem dX4_grows_26 : decode cX4_grows 26 = .ok (.iload_n 3, 1) := by decide +kernel
theorem dX4_grows_27 : decode cX4_grows 27 = .ok (.iaload, 1) := by decide +kernel
theorem dX4_grows_28 : decode cX4_grows 28 = .ok (.invokestatic 48, 3) := by decide +kernel
theorem dX4_grows_31 : decode cX4_grows 31 = .ok (.ifCond .ne 7, 3) := by decide +kernel
theorem dX4_grows_34 : decode cX4_grows 34 = .ok (.iconst 1, 1) := by decide +kernel
theorem dX4_grows_35 : decode cX4_grows 35 = .ok (.goto 4, 3) := by decide +kernel
theorem dX4_grows_38 : decode cX4_grows 38 = .ok (.iconst 0, 1) := by decide +kernel
theorem dX4_grows_39 : decode cX4_grows 39 = .ok (.ireturn, 1) := by decide +kernel
theorem dX4_owner_0 : decode cX4_owner 0 = .ok (.aload_n 0, 1) := by decide +kernel
theorem dX4_owner_1 : decode cX4_owner 1 = .ok (.iload_n 1, 1) := by decide +kernel
theorem dX4_owner_2 : decode cX4_owner 2 = .ok (.invokevirtual 59, 3) := by decide +kernel
theorem dX4_owner_5 : decode cX4_owner 5 = .ok (.ifCond .eq 19, 3) := by decide +kernel
theorem dX4_owner_8 : decode cX4_owner 8 = .ok (.aload_n 0, 1) := by decide +kernel
theorem dX4_owner_9 : decode cX4_owner 9 = .ok (.invokevirtual 101, 3) := by decide +kernel
theorem dX4_owner_12 : decode cX4_owner 12 = .ok (.ifCond .eq 12, 3) := by decide +kernel
theorem dX4_owner_15 : decode cX4_owner 15 = .ok (.aload_n 0, 1) := by decide +kernel
theorem dX4_owner_16 : decode cX4_owner 16 = .ok (.getfield 23, 3) := by decide +kernel
theorem dX4_owner_19 : decode cX4_owner 19 = .ok (.iload_n 1, 1) := by decide +kernel
theorem dX4_owner_20 : decode cX4_owner 20 = .ok (.iaload, 1) := by decide +kernel
theorem dX4_owner_21 : decode cX4_owner 21 = .ok (.goto 4, 3) := by decide +kernel
theorem dX4_owner_24 : decode cX4_owner 24 = .ok (.iconst (-1), 1) := by decide +kernel
theorem dX4_owner_25 : decode cX4_owner 25 = .ok (.ireturn, 1) := by decide +kernel
theorem dX4_pack_0 : decode cX4_pack 0 = .ok (.iconst 0, 1) := by decide +kernel
theorem dX4_pack_1 : decode cX4_pack 1 = .ok (.istore_n 1, 1) := by decide +kernel
theorem dX4_pack_2 : decode cX4_pack 2 = .ok (.iload_n 1, 1) := by decide +kernel
theorem dX4_pack_3 : decode cX4_pack 3 = .ok (.bipush 14, 2) := by decide +kernel
theorem dX4_pack_5 : decode cX4_pack 5 = .ok (.if_icmp .ge 16, 3) := by decide +kernel
theorem dX4_pack_8 : decode cX4_pack 8 = .ok (.aload_n 0, 1) := by decide +kernel
theorem dX4_pack_9 : decode cX4_pack 9 = .ok (.getfield 23, 3) := by decide +kernel
theorem dX4_pack_12 : decode cX4_pack 12 = .ok (.iload_n 1, 1) := by decide +kernel
theorem dX4_pack_13 : decode cX4_pack 13 = .ok (.iconst (-1), 1) := by decide +kernel
theorem dX4_pack_14 : decode cX4_pack 14 = .ok (.iastore, 1) := by decide +kernel
theorem dX4_pack_15 : decode cX4_pack 15 = .ok (.iinc 1 1, 3) := by decide +kernel
theorem dX4_pack_18 : decode cX4_pack 18 = .ok (.goto (-16), 3) := by decide +kernel
theorem dX4_pack_21 : decode cX4_pack 21 = .ok (.iconst 0, 1) := by decide +kernel
theorem dX4_pack_22 : decode cX4_pack 22 = .ok (.istore_n 1, 1) := by decide +kernel
theorem dX4_pack_23 : decode cX4_pack 23 = .ok (.iload_n 1, 1) := by decide +kernel
theorem dX4_pack_24 : decode cX4_pack 24 = .ok (.bipush 21, 2) := by decide +kernel
theorem dX4_pack_26 : decode cX4_pack 26 = .ok (.if_icmp .ge 16, 3) := by decide +kernel
theorem dX4_pack_29 : decode cX4_pack 29 = .ok (.aload_n 0, 1) := by decide +kernel
theorem dX4_pack_30 : decode cX4_pack 30 = .ok (.getfield 26, 3) := by decide +kernel
theorem dX4_pack_33 : decode cX4_pack 33 = .ok (.iload_n 1, 1) := by decide +kernel
theorem dX4_pack_34 : decode cX4_pack 34 = .ok (.iconst (-1), 1) := by decide +kernel
theorem dX4_pack_35 : decode cX4_pack 35 = .ok (.iastore, 1) := by decide +kernel
theorem dX4_pack_36 : decode cX4_pack 36 = .ok (.iinc 1 1, 3) := by decide +kernel
theorem dX4_pack_39 : decode cX4_pack 39 = .ok (.goto (-16), 3) := by decide +kernel
theorem dX4_pack_42 : decode cX4_pack 42 = .ok (.aload_n 0, 1) := by decide +kernel
theorem dX4_pack_43 : decode cX4_pack 43 = .ok (.invokevirtual 97, 3) := by decide +kernel
theorem dX4_pack_46 : decode cX4_pack 46 = .ok (.ifCond .ne 5, 3) := by decide +kernel
theorem dX4_pack_49 : decode cX4_pack 49 = .ok (.iconst 0, 1) := by decide +kernel
theorem dX4_pack_50 : decode cX4_pack 50 = .ok (.ireturn, 1) := by decide +kernel
theorem dX4_pack_51 : decode cX4_pack 51 = .ok (.iconst 0, 1) := by decide +kernel
theorem dX4_pack_52 : decode cX4_pack 52 = .ok (.istore_n 1, 1) := by decide +kernel
theorem dX4_pack_53 : decode cX4_pack 53 = .ok (.iconst 0, 1) := by decide +kernel
theorem dX4_pack_54 : decode cX4_pack 54 = .ok (.istore_n 2, 1) := by decide +kernel
theorem dX4_pack_55 : decode cX4_pack 55 = .ok (.iload_n 2, 1) := by decide +kernel
theorem dX4_pack_56 : decode cX4_pack 56 = .ok (.aload_n 0, 1) := by decide +kernel
theorem dX4_pack_57 : decode cX4_pack 57 = .ok (.getfield 56, 3) := by decide +kernel
theorem dX4_pack_60 : decode cX4_pack 60 = .ok (.if_icmp .ge 118, 3) := by decide +kernel
theorem dX4_pack_63 : decode cX4_pack 63 = .ok (.aload_n 0, 1) := by decide +kernel
theorem dX4_pack_64 : decode cX4_pack 64 = .ok (.getfield 20, 3) := by decide +kernel
theorem dX4_pack_67 : decode cX4_pack 67 = .ok (.iload_n 2, 1) := by decide +kernel
theorem dX4_pack_68 : decode cX4_pack 68 = .ok (.iaload, 1) := by decide +kernel
theorem dX4_pack_69 : decode cX4_pack 69 = .ok (.istore_n 3, 1) := by decide +kernel
theorem dX4_pack_70 : decode cX4_pack 70 = .ok (.iload_n 3, 1) := by decide +kernel
theorem dX4_pack_71 : decode cX4_pack 71 = .ok (.aload_n 0, 1) := by decide +kernel
theorem dX4_pack_72 : decode cX4_pack 72 = .ok (.invokevirtual 41, 3) := by decide +kernel
theorem dX4_pack_75 : decode cX4_pack 75 = .ok (.if_icmp .eq 97, 3) := by decide +kernel
theorem dX4_pack_78 : decode cX4_pack 78 = .ok (.iconst 0, 1) := by decide +kernel
theorem dX4_pack_79 : decode cX4_pack 79 = .ok (.istore 4, 2) := by decide +kernel
theorem dX4_pack_81 : decode cX4_pack 81 = .ok (.aload_n 0, 1) := by decide +kernel
theorem dX4_pack_82 : decode cX4_pack 82 = .ok (.iload_n 3, 1) := by decide +kernel
theorem dX4_pack_83 : decode cX4_pack 83 = .ok (.iload_n 1, 1) := by decide +kernel
theorem dX4_pack_84 : decode cX4_pack 84 = .ok (.iload 4, 2) := by decide +kernel
theorem dX4_pack_86 : decode cX4_pack 86 = .ok (.invokevirtual 91, 3) := by decide +kernel
theorem dX4_pack_89 : decode cX4_pack 89 = .ok (.ifCond .eq 28, 3) := by decide +kernel
theorem dX4_pack_92 : decode cX4_pack 92 = .ok (.aload_n 0, 1) := by decide +kernel
theorem dX4_pack_93 : decode cX4_pack 93 = .ok (.iload_n 2, 1) := by decide +kernel
theorem dX4_pack_94 : decode cX4_pack 94 = .ok (.iload_n 3, 1) := by decide +kernel
theorem dX4_pack_95 : decode cX4_pack 95 = .ok (.iconst 1, 1) := by decide +kernel
theorem dX4_pack_96 : decode cX4_pack 96 = .ok (.aload_n 0, 1) := by decide +kernel
theorem dX4_pack_97 : decode cX4_pack 97 = .ok (.getfield 17, 3) := by decide +kernel
theorem dX4_pack_100 : decode cX4_pack 100 = .ok (.iload 4, 2) := by decide +kernel
theorem dX4_pack_102 : decode cX4_pack 102 = .ok (.iaload, 1) := by decide +kernel
theorem dX4_pack_103 : decode cX4_pack 103 = .ok (.ishl, 1) := by decide +kernel
theorem dX4_pack_104 : decode cX4_pack 104 = .ok (.ior, 1) := by decide +kernel
theorem dX4_pack_105 : decode cX4_pack 105 = .ok (.iload_n 1, 1) := by decide +kernel
theorem dX4_pack_106 : decode cX4_pack 106 = .ok (.iconst 1, 1) := by decide +kernel
theorem dX4_pack_107 : decode cX4_pack 107 = .ok (.iload 4, 2) := by decide +kernel
theorem dX4_pack_109 : decode cX4_pack 109 = .ok (.ishl, 1) := by decide +kernel
theorem dX4_pack_110 : decode cX4_pack 110 = .ok (.ior, 1) := by decide +kernel
theorem dX4_pack_111 : decode cX4_pack 111 = .ok (.invokevirtual 94, 3) := by decide +kernel
theorem dX4_pack_114 : decode cX4_pack 114 = .ok (.ifCond .ne 9, 3) := by decide +kernel
theorem dX4_pack_117 : decode cX4_pack 117 = .ok (.iinc 4 1, 3) := by decide +kernel
theorem dX4_pack_120 : decode cX4_pack 120 = .ok (.goto (-39), 3) := by decide +kernel
theorem dX4_pack_123 : decode cX4_pack 123 = .ok (.aload_n 0, 1) := by decide +kernel
theorem dX4_pack_124 : decode cX4_pack 124 = .ok (.getfield 23, 3) := by decide +kernel
theorem dX4_pack_127 : decode cX4_pack 127 = .ok (.iload 4, 2) := by decide +kernel
theorem dX4_pack_129 : decode cX4_pack 129 = .ok (.iload_n 2, 1) := by decide +kernel
theorem dX4_pack_130 : decode cX4_pack 130 = .ok (.iastore, 1) := by decide +kernel
theorem dX4_pack_131 : decode cX4_pack 131 = .ok (.aload_n 0, 1) := by decide +kernel
theorem dX4_pack_132 : decode cX4_pack 132 = .ok (.getfield 26, 3) := by decide +kernel
theorem dX4_pack_135 : decode cX4_pack 135 = .ok (.bipush 7, 2) := by decide +kernel
theorem dX4_pack_137 : decode cX4_pack 137 = .ok (.iload_n 2, 1) := by decide +kernel
theorem dX4_pack_138 : decode cX4_pack 138 = .ok (.imul, 1) := by decide +kernel
theorem dX4_pack_139 : decode cX4_pack 139 = .ok (.aload_n 0, 1) := by decide +kernel
theorem dX4_pack_140 : decode cX4_pack 140 = .ok (.getfield 17, 3) := by decide +kernel
theorem dX4_pack_143 : decode cX4_pack 143 = .ok (.iload 4, 2) := by decide +kernel
theorem dX4_pack_145 : decode cX4_pack 145 = .ok (.iaload, 1) := by decide +kernel
theorem dX4_pack_146 : decode cX4_pack 146 = .ok (.iadd, 1) := by decide +kernel
theorem dX4_pack_147 : decode cX4_pack 147 = .ok (.iload 4, 2) := by decide +kernel
theorem dX4_pack_149 : decode cX4_pack 149 = .ok (.iastore, 1) := by decide +kernel
theorem dX4_pack_150 : decode cX4_pack 150 = .ok (.iload_n 3, 1) := by decide +kernel
theorem dX4_pack_151 : decode cX4_pack 151 = .ok (.iconst 1, 1) := by decide +kernel
theorem dX4_pack_152 : decode cX4_pack 152 = .ok (.aload_n 0, 1) := by decide +kernel
theorem dX4_pack_153 : decode cX4_pack 153 = .ok (.getfield 17, 3) := by decide +kernel
theorem dX4_pack_156 : decode cX4_pack 156 = .ok (.iload 4, 2) := by decide +kernel
theorem dX4_pack_158 : decode cX4_pack 158 = .ok (.iaload, 1) := by decide +kernel
theorem dX4_pack_159 : decode cX4_pack 159 = .ok (.ishl, 1) := by decide +kernel
theorem dX4_pack_160 : decode cX4_pack 160 = .ok (.ior, 1) := by decide +kernel
theorem dX4_pack_161 : decode cX4_pack 161 = .ok (.istore_n 3, 1) := by decide +kernel
theorem dX4_pack_162 : decode cX4_pack 162 = .ok (.iload_n 1, 1) := by decide +kernel
theorem dX4_pack_163 : decode cX4_pack 163 = .ok (.iconst 1, 1) := by decide +kernel
theorem dX4_pack_164 : decode cX4_pack 164 = .ok (.iload 4, 2) := by decide +kernel
theorem dX4_pack_166 : decode cX4_pack 166 = .ok (.ishl, 1) := by decide +kernel
theorem dX4_pack_167 : decode cX4_pack 167 = .ok (.ior, 1) := by decide +kernel
theorem dX4_pack_168 : decode cX4_pack 168 = .ok (.istore_n 1, 1) := by decide +kernel
theorem dX4_pack_169 : decode cX4_pack 169 = .ok (.goto (-99), 3) := by decide +kernel
theorem dX4_pack_172 : decode cX4_pack 172 = .ok (.iinc 2 1, 3) := by decide +kernel
theorem dX4_pack_175 : decode cX4_pack 175 = .ok (.goto (-120), 3) := by decide +kernel
theorem dX4_pack_178 : decode cX4_pack 178 = .ok (.iconst 1, 1) := by decide +kernel
theorem dX4_pack_179 : decode cX4_pack 179 = .ok (.ireturn, 1) := by decide +kernel
theorem dX4_way_0 : decode cX4_way 0 = .ok (.iload_n 1, 1) := by decide +kernel
theorem dX4_way_1 : decode cX4_way 1 = .ok (.ifCond .lt 27, 3) := by decide +kernel
theorem dX4_way_4 : decode cX4_way 4 = .ok (.iload_n 1, 1) := by decide +kernel
theorem dX4_way_5 : decode cX4_way 5 = .ok (.aload_n 0, 1) := by decide +kernel
theorem dX4_way_6 : decode cX4_way 6 = .ok (.getfield 56, 3) := by decide +kernel
theorem dX4_way_9 : decode cX4_way 9 = .ok (.if_icmp .ge 19, 3) := by decide +kernel
theorem dX4_way_12 : decode cX4_way 12 = .ok (.iload_n 2, 1) := by decide +kernel
theorem dX4_way_13 : decode cX4_way 13 = .ok (.ifCond .lt 15, 3) := by decide +kernel
theorem dX4_way_16 : decode cX4_way 16 = .ok (.iload_n 2, 1) := by decide +kernel
theorem dX4_way_17 : decode cX4_way 17 = .ok (.aload_n 0, 1) := by decide +kernel
theorem dX4_way_18 : decode cX4_way 18 = .ok (.getfield 7, 3) := by decide +kernel
theorem dX4_way_21 : decode cX4_way 21 = .ok (.if_icmp .ge 7, 3) := by decide +kernel
theorem dX4_way_24 : decode cX4_way 24 = .ok (.iconst 1, 1) := by decide +kernel
theorem dX4_way_25 : decode cX4_way 25 = .ok (.goto 4, 3) := by decide +kernel
theorem dX4_way_28 : decode cX4_way 28 = .ok (.iconst 0, 1) := by decide +kernel
theorem dX4_way_29 : decode cX4_way 29 = .ok (.istore_n 3, 1) := by decide +kernel
theorem dX4_way_30 : decode cX4_way 30 = .ok (.iload_n 3, 1) := by decide +kernel
theorem dX4_way_31 : decode cX4_way 31 = .ok (.ifCond .eq 24, 3) := by decide +kernel
theorem dX4_way_34 : decode cX4_way 34 = .ok (.aload_n 0, 1) := by decide +kernel
theorem dX4_way_35 : decode cX4_way 35 = .ok (.invokevirtual 101, 3) := by decide +kernel
theorem dX4_way_38 : decode cX4_way 38 = .ok (.ifCond .eq 17, 3) := by decide +kernel
theorem dX4_way_41 : decode cX4_way 41 = .ok (.aload_n 0, 1) := by decide +kernel
theorem dX4_way_42 : decode cX4_way 42 = .ok (.getfield 26, 3) := by decide +kernel
theorem dX4_way_45 : decode cX4_way 45 = .ok (.bipush 7, 2) := by decide +kernel
theorem dX4_way_47 : decode cX4_way 47 = .ok (.iload_n 1, 1) := by decide +kernel
theorem dX4_way_48 : decode cX4_way 48 = .ok (.imul, 1) := by decide +kernel
theorem dX4_way_49 : decode cX4_way 49 = .ok (.iload_n 2, 1) := by decide +kernel
theorem dX4_way_50 : decode cX4_way 50 = .ok (.iadd, 1) := by decide +kernel
theorem dX4_way_51 : decode cX4_way 51 = .ok (.iaload, 1) := by decide +kernel
theorem dX4_way_52 : decode cX4_way 52 = .ok (.goto 4, 3) := by decide +kernel
theorem dX4_way_55 : decode cX4_way 55 = .ok (.iconst (-1), 1) := by decide +kernel
theorem dX4_way_56 : decode cX4_way 56 = .ok (.ireturn, 1) := by decide +kernel
theorem dX4_spare_0 : decode cX4_spare 0 = .ok (.aload_n 0, 1) := by decide +kernel
theorem dX4_spare_1 : decode cX4_spare 1 = .ok (.iload_n 1, 1) := by decide +kernel
theorem dX4_spare_2 : decode cX4_spare 2 = .ok (.invokevirtual 59, 3) := by decide +kernel
theorem dX4_spare_5 : decode cX4_spare 5 = .ok (.ifCond .ne 5, 3) := by decide +kernel
theorem dX4_spare_8 : decode cX4_spare 8 = .ok (.iconst 0, 1) := by decide +kernel
theorem dX4_spare_9 : decode cX4_spare 9 = .ok (.ireturn, 1) := by decide +kernel
theorem dX4_spare_10 : decode cX4_spare 10 = .ok (.aload_n 0, 1) := by decide +kernel
theorem dX4_spare_11 : decode cX4_spare 11 = .ok (.getfield 13, 3) := by decide +kernel
theorem dX4_spare_14 : decode cX4_spare 14 = .ok (.iload_n 1, 1) := by decide +kernel
theorem dX4_spare_15 : decode cX4_spare 15 = .ok (.iaload, 1) := by decide +kernel
theorem dX4_spare_16 : decode cX4_spare 16 = .ok (.istore_n 2, 1) := by decide +kernel
theorem dX4_spare_17 : decode cX4_spare 17 = .ok (.aload_n 0, 1) := by decide +kernel
theorem dX4_spare_18 : decode cX4_spare 18 = .ok (.getfield 17, 3) := by decide +kernel
theorem dX4_spare_21 : decode cX4_spare 21 = .ok (.iload_n 1, 1) := by decide +kernel
theorem dX4_spare_22 : decode cX4_spare 22 = .ok (.iaload, 1) := by decide +kernel
theorem dX4_spare_23 : decode cX4_spare 23 = .ok (.istore_n 3, 1) := by decide +kernel
theorem dX4_spare_24 : decode cX4_spare 24 = .ok (.aload_n 0, 1) := by decide +kernel
theorem dX4_spare_25 : decode cX4_spare 25 = .ok (.iload_n 1, 1) := by decide +kernel
theorem dX4_spare_26 : decode cX4_spare 26 = .ok (.invokevirtual 63, 3) := by decide +kernel
theorem dX4_spare_29 : decode cX4_spare 29 = .ok (.aload_n 0, 1) := by decide +kernel
theorem dX4_spare_30 : decode cX4_spare 30 = .ok (.invokevirtual 97, 3) := by decide +kernel
theorem dX4_spare_33 : decode cX4_spare 33 = .ok (.istore 4, 2) := by decide +kernel
theorem dX4_spare_35 : decode cX4_spare 35 = .ok (.aload_n 0, 1) := by decide +kernel
theorem dX4_spare_36 : decode cX4_spare 36 = .ok (.getfield 45, 3) := by decide +kernel
theorem dX4_spare_39 : decode cX4_spare 39 = .ok (.istore 5, 2) := by decide +kernel
theorem dX4_spare_41 : decode cX4_spare 41 = .ok (.iload 5, 2) := by decide +kernel
theorem dX4_spare_43 : decode cX4_spare 43 = .ok (.iload_n 1, 1) := by decide +kernel
theorem dX4_spare_44 : decode cX4_spare 44 = .ok (.if_icmp .le 41, 3) := by decide +kernel
theorem dX4_spare_47 : decode cX4_spare 47 = .ok (.aload_n 0, 1) := by decide +kernel
theorem dX4_spare_48 : decode cX4_spare 48 = .ok (.getfield 13, 3) := by decide +kernel
theorem dX4_spare_51 : decode cX4_spare 51 = .ok (.iload 5, 2) := by decide +kernel
theorem dX4_spare_53 : decode cX4_spare 53 = .ok (.aload_n 0, 1) := by decide +kernel
theorem dX4_spare_54 : decode cX4_spare 54 = .ok (.getfield 13, 3) := by decide +kernel
theorem dX4_spare_57 : decode cX4_spare 57 = .ok (.iload 5, 2) := by decide +kernel
theorem dX4_spare_59 : decode cX4_spare 59 = .ok (.iconst 1, 1) := by decide +kernel
theorem dX4_spare_60 : decode cX4_spare 60 = .ok (.isub, 1) := by decide +kernel
theorem dX4_spare_61 : decode cX4_spare 61 = .ok (.iaload, 1) := by decide +kernel
theorem dX4_spare_62 : decode cX4_spare 62 = .ok (.iastore, 1) := by decide +kernel
theorem dX4_spare_63 : decode cX4_spare 63 = .ok (.aload_n 0, 1) := by decide +kernel
theorem dX4_spare_64 : decode cX4_spare 64 = .ok (.getfield 17, 3) := by decide +kernel
theorem dX4_spare_67 : decode cX4_spare 67 = .ok (.iload 5, 2) := by decide +kernel
theorem dX4_spare_69 : decode cX4_spare 69 = .ok (.aload_n 0, 1) := by decide +kernel
theorem dX4_spare_70 : decode cX4_spare 70 = .ok (.getfield 17, 3) := by decide +kernel
theorem dX4_spare_73 : decode cX4_spare 73 = .ok (.iload 5, 2) := by decide +kernel
theorem dX4_spare_75 : decode cX4_spare 75 = .ok (.iconst 1, 1) := by decide +kernel
theorem dX4_spare_76 : decode cX4_spare 76 = .ok (.isub, 1) := by decide +kernel
theorem dX4_spare_77 : decode cX4_spare 77 = .ok (.iaload, 1) := by decide +kernel
theorem dX4_spare_78 : decode cX4_spare 78 = .ok (.iastore, 1) := by decide +kernel
theorem dX4_spare_79 : decode cX4_spare 79 = .ok (.iinc 5 (-1), 3) := by decide +kernel
theorem dX4_spare_82 : decode cX4_spare 82 = .ok (.goto (-41), 3) := by decide +kernel
theorem dX4_spare_85 : decode cX4_spare 85 = .ok (.aload_n 0, 1) := by decide +kernel
theorem dX4_spare_86 : decode cX4_spare 86 = .ok (.getfield 13, 3) := by decide +kernel
theorem dX4_spare_89 : decode cX4_spare 89 = .ok (.iload_n 1, 1) := by decide +kernel
theorem dX4_spare_90 : decode cX4_spare 90 = .ok (.iload_n 2, 1) := by decide +kernel
theorem dX4_spare_91 : decode cX4_spare 91 = .ok (.iastore, 1) := by decide +kernel
theorem dX4_spare_92 : decode cX4_spare 92 = .ok (.aload_n 0, 1) := by decide +kernel
theorem dX4_spare_93 : decode cX4_spare 93 = .ok (.getfield 17, 3) := by decide +kernel
theorem dX4_spare_96 : decode cX4_spare 96 = .ok (.iload_n 1, 1) := by decide +kernel
theorem dX4_spare_97 : decode cX4_spare 97 = .ok (.iload_n 3, 1) := by decide +kernel
theorem dX4_spare_98 : decode cX4_spare 98 = .ok (.iastore, 1) := by decide +kernel
theorem dX4_spare_99 : decode cX4_spare 99 = .ok (.aload_n 0, 1) := by decide +kernel
theorem dX4_spare_100 : decode cX4_spare 100 = .ok (.dup, 1) := by decide +kernel
theorem dX4_spare_101 : decode cX4_spare 101 = .ok (.getfield 45, 3) := by decide +kernel
theorem dX4_spare_104 : decode cX4_spare 104 = .ok (.iconst 1, 1) := by decide +kernel
theorem dX4_spare_105 : decode cX4_spare 105 = .ok (.iadd, 1) := by decide +kernel
theorem dX4_spare_106 : decode cX4_spare 106 = .ok (.putfield 45, 3) := by decide +kernel
theorem dX4_spare_109 : decode cX4_spare 109 = .ok (.iload 4, 2) := by decide +kernel
theorem dX4_spare_111 : decode cX4_spare 111 = .ok (.ireturn, 1) := by decide +kernel
theorem dX4_most_0 : decode cX4_most 0 = .ok (.iload_n 1, 1) := by decide +kernel
theorem dX4_most_1 : decode cX4_most 1 = .ok (.ifCond .eq 11, 3) := by decide +kernel
theorem dX4_most_4 : decode cX4_most 4 = .ok (.aload_n 0, 1) := by decide +kernel
theorem dX4_most_5 : decode cX4_most 5 = .ok (.iload_n 1, 1) := by decide +kernel
theorem dX4_most_6 : decode cX4_most 6 = .ok (.invokevirtual 67, 3) := by decide +kernel
theorem dX4_most_9 : decode cX4_most 9 = .ok (.ifCond .ne 5, 3) := by decide +kernel
theorem dX4_most_12 : decode cX4_most 12 = .ok (.iconst (-1), 1) := by decide +kernel
theorem dX4_most_13 : decode cX4_most 13 = .ok (.ireturn, 1) := by decide +kernel
theorem dX4_most_14 : decode cX4_most 14 = .ok (.bipush 99, 2) := by decide +kernel
theorem dX4_most_16 : decode cX4_most 16 = .ok (.istore_n 2, 1) := by decide +kernel
theorem dX4_most_17 : decode cX4_most 17 = .ok (.iconst 1, 1) := by decide +kernel
theorem dX4_most_18 : decode cX4_most 18 = .ok (.istore_n 3, 1) := by decide +kernel
theorem dX4_most_19 : decode cX4_most 19 = .ok (.iload_n 3, 1) := by decide +kernel
theorem dX4_most_20 : decode cX4_most 20 = .ok (.aload_n 0, 1) := by decide +kernel
theorem dX4_most_21 : decode cX4_most 21 = .ok (.invokevirtual 41, 3) := by decide +kernel
theorem dX4_most_24 : decode cX4_most 24 = .ok (.if_icmp .gt 35, 3) := by decide +kernel
theorem dX4_most_27 : decode cX4_most 27 = .ok (.aload_n 0, 1) := by decide +kernel
theorem dX4_most_28 : decode cX4_most 28 = .ok (.iload_n 3, 1) := by decide +kernel
theorem dX4_most_29 : decode cX4_most 29 = .ok (.invokevirtual 74, 3) := by decide +kernel
theorem dX4_most_32 : decode cX4_most 32 = .ok (.istore 4, 2) := by decide +kernel
theorem dX4_most_34 : decode cX4_most 34 = .ok (.iload_n 3, 1) := by decide +kernel
theorem dX4_most_35 : decode cX4_most 35 = .ok (.iload_n 1, 1) := by decide +kernel
theorem dX4_most_36 : decode cX4_most 36 = .ok (.iand, 1) := by decide +kernel
theorem dX4_most_37 : decode cX4_most 37 = .ok (.ifCond .ne 14, 3) := by decide +kernel
theorem dX4_most_40 : decode cX4_most 40 = .ok (.iload 4, 2) := by decide +kernel
theorem dX4_most_42 : decode cX4_most 42 = .ok (.iload_n 2, 1) := by decide +kernel
theorem dX4_most_43 : decode cX4_most 43 = .ok (.if_icmp .ge 8, 3) := by decide +kernel
theorem dX4_most_46 : decode cX4_most 46 = .ok (.iload 4, 2) := by decide +kernel
theorem dX4_most_48 : decode cX4_most 48 = .ok (.goto 4, 3) := by decide +kernel
theorem dX4_most_51 : decode cX4_most 51 = .ok (.iload_n 2, 1) := by decide +kernel
theorem dX4_most_52 : decode cX4_most 52 = .ok (.istore_n 2, 1) := by decide +kernel
theorem dX4_most_53 : decode cX4_most 53 = .ok (.iinc 3 1, 3) := by decide +kernel
theorem dX4_most_56 : decode cX4_most 56 = .ok (.goto (-37), 3) := by decide +kernel
theorem dX4_most_59 : decode cX4_most 59 = .ok (.iload_n 2, 1) := by decide +kernel
theorem dX4_most_60 : decode cX4_most 60 = .ok (.ireturn, 1) := by decide +kernel
