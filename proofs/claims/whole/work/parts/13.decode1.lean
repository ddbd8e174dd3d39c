theorem dX3_init_0 : decode cX3_init 0 = .ok (.aload_n 0, 1) := by decide +kernel
theorem dX3_init_1 : decode cX3_init 1 = .ok (.invokespecial 1, 3) := by decide +kernel
theorem dX3_init_4 : decode cX3_init 4 = .ok (.aload_n 0, 1) := by decide +kernel
theorem dX3_init_5 : decode cX3_init 5 = .ok (.new 7, 3) := by decide +kernel
theorem dX3_init_8 : decode cX3_init 8 = .ok (.dup, 1) := by decide +kernel
theorem dX3_init_9 : decode cX3_init 9 = .ok (.invokespecial 9, 3) := by decide +kernel
theorem dX3_init_12 : decode cX3_init 12 = .ok (.putfield 10, 3) := by decide +kernel
theorem dX3_init_15 : decode cX3_init 15 = .ok (.aload_n 0, 1) := by decide +kernel
theorem dX3_init_16 : decode cX3_init 16 = .ok (.new 16, 3) := by decide +kernel
theorem dX3_init_19 : decode cX3_init 19 = .ok (.dup, 1) := by decide +kernel
theorem dX3_init_20 : decode cX3_init 20 = .ok (.invokespecial 18, 3) := by decide +kernel
theorem dX3_init_23 : decode cX3_init 23 = .ok (.putfield 19, 3) := by decide +kernel
theorem dX3_init_26 : decode cX3_init 26 = .ok (.aload_n 0, 1) := by decide +kernel
theorem dX3_init_27 : decode cX3_init 27 = .ok (.new 23, 3) := by decide +kernel
theorem dX3_init_30 : decode cX3_init 30 = .ok (.dup, 1) := by decide +kernel
theorem dX3_init_31 : decode cX3_init 31 = .ok (.invokespecial 25, 3) := by decide +kernel
theorem dX3_init_34 : decode cX3_init 34 = .ok (.putfield 26, 3) := by decide +kernel
theorem dX3_init_37 : decode cX3_init 37 = .ok (.return_, 1) := by decide +kernel
theorem dX3_begin_0 : decode cX3_begin 0 = .ok (.iload_n 1, 1) := by decide +kernel
theorem dX3_begin_1 : decode cX3_begin 1 = .ok (.iconst 1, 1) := by decide +kernel
theorem dX3_begin_2 : decode cX3_begin 2 = .ok (.if_icmp .lt 9, 3) := by decide +kernel
theorem dX3_begin_5 : decode cX3_begin 5 = .ok (.iload_n 1, 1) := by decide +kernel
theorem dX3_begin_6 : decode cX3_begin 6 = .ok (.bipush 7, 2) := by decide +kernel
theorem dX3_begin_8 : decode cX3_begin 8 = .ok (.if_icmp .le 5, 3) := by decide +kernel
theorem dX3_begin_11 : decode cX3_begin 11 = .ok (.iconst 0, 1) := by decide +kernel
theorem dX3_begin_12 : decode cX3_begin 12 = .ok (.ireturn, 1) := by decide +kernel
theorem dX3_begin_13 : decode cX3_begin 13 = .ok (.aload_n 0, 1) := by decide +kernel
theorem dX3_begin_14 : decode cX3_begin 14 = .ok (.getfield 10, 3) := by decide +kernel
theorem dX3_begin_17 : decode cX3_begin 17 = .ok (.iload_n 1, 1) := by decide +kernel
theorem dX3_begin_18 : decode cX3_begin 18 = .ok (.invokevirtual 30, 3) := by decide +kernel
theorem dX3_begin_21 : decode cX3_begin 21 = .ok (.aload_n 0, 1) := by decide +kernel
theorem dX3_begin_22 : decode cX3_begin 22 = .ok (.getfield 19, 3) := by decide +kernel
theorem dX3_begin_25 : decode cX3_begin 25 = .ok (.iconst 0, 1) := by decide +kernel
theorem dX3_begin_26 : decode cX3_begin 26 = .ok (.putfield 34, 3) := by decide +kernel
theorem dX3_begin_29 : decode cX3_begin 29 = .ok (.aload_n 0, 1) := by decide +kernel
theorem dX3_begin_30 : decode cX3_begin 30 = .ok (.getfield 26, 3) := by decide +kernel
theorem dX3_begin_33 : decode cX3_begin 33 = .ok (.iconst 1, 1) := by decide +kernel
theorem dX3_begin_34 : decode cX3_begin 34 = .ok (.putfield 38, 3) := by decide +kernel
theorem dX3_begin_37 : decode cX3_begin 37 = .ok (.iconst 1, 1) := by decide +kernel
theorem dX3_begin_38 : decode cX3_begin 38 = .ok (.ireturn, 1) := by decide +kernel
theorem dX3_arc_0 : decode cX3_arc 0 = .ok (.aload_n 0, 1) := by decide +kernel
theorem dX3_arc_1 : decode cX3_arc 1 = .ok (.getfield 10, 3) := by decide +kernel
theorem dX3_arc_4 : decode cX3_arc 4 = .ok (.getfield 42, 3) := by decide +kernel
theorem dX3_arc_7 : decode cX3_arc 7 = .ok (.bipush 14, 2) := by decide +kernel
theorem dX3_arc_9 : decode cX3_arc 9 = .ok (.if_icmp .ge 30, 3) := by decide +kernel
theorem dX3_arc_12 : decode cX3_arc 12 = .ok (.aload_n 0, 1) := by decide +kernel
theorem dX3_arc_13 : decode cX3_arc 13 = .ok (.getfield 10, 3) := by decide +kernel
theorem dX3_arc_16 : decode cX3_arc 16 = .ok (.iload_n 1, 1) := by decide +kernel
theorem dX3_arc_17 : decode cX3_arc 17 = .ok (.invokevirtual 45, 3) := by decide +kernel
theorem dX3_arc_20 : decode cX3_arc 20 = .ok (.ifCond .eq 19, 3) := by decide +kernel
theorem dX3_arc_23 : decode cX3_arc 23 = .ok (.aload_n 0, 1) := by decide +kernel
theorem dX3_arc_24 : decode cX3_arc 24 = .ok (.getfield 10, 3) := by decide +kernel
theorem dX3_arc_27 : decode cX3_arc 27 = .ok (.iload_n 2, 1) := by decide +kernel
theorem dX3_arc_28 : decode cX3_arc 28 = .ok (.invokevirtual 45, 3) := by decide +kernel
theorem dX3_arc_31 : decode cX3_arc 31 = .ok (.ifCond .eq 8, 3) := by decide +kernel
theorem dX3_arc_34 : decode cX3_arc 34 = .ok (.iload_n 1, 1) := by decide +kernel
theorem dX3_arc_35 : decode cX3_arc 35 = .ok (.iload_n 2, 1) := by decide +kernel
theorem dX3_arc_36 : decode cX3_arc 36 = .ok (.if_icmp .ne 5, 3) := by decide +kernel
theorem dX3_arc_39 : decode cX3_arc 39 = .ok (.iconst (-1), 1) := by decide +kernel
theorem dX3_arc_40 : decode cX3_arc 40 = .ok (.ireturn, 1) := by decide +kernel
theorem dX3_arc_41 : decode cX3_arc 41 = .ok (.aload_n 0, 1) := by decide +kernel
theorem dX3_arc_42 : decode cX3_arc 42 = .ok (.getfield 10, 3) := by decide +kernel
theorem dX3_arc_45 : decode cX3_arc 45 = .ok (.iload_n 1, 1) := by decide +kernel
theorem dX3_arc_46 : decode cX3_arc 46 = .ok (.iload_n 2, 1) := by decide +kernel
theorem dX3_arc_47 : decode cX3_arc 47 = .ok (.invokevirtual 49, 3) := by decide +kernel
theorem dX3_arc_50 : decode cX3_arc 50 = .ok (.aload_n 0, 1) := by decide +kernel
theorem dX3_arc_51 : decode cX3_arc 51 = .ok (.getfield 26, 3) := by decide +kernel
theorem dX3_arc_54 : decode cX3_arc 54 = .ok (.iconst 1, 1) := by decide +kernel
theorem dX3_arc_55 : decode cX3_arc 55 = .ok (.putfield 38, 3) := by decide +kernel
theorem dX3_arc_58 : decode cX3_arc 58 = .ok (.aload_n 0, 1) := by decide +kernel
theorem dX3_arc_59 : decode cX3_arc 59 = .ok (.getfield 10, 3) := by decide +kernel
theorem dX3_arc_62 : decode cX3_arc 62 = .ok (.getfield 42, 3) := by decide +kernel
theorem dX3_arc_65 : decode cX3_arc 65 = .ok (.iconst 1, 1) := by decide +kernel
theorem dX3_arc_66 : decode cX3_arc 66 = .ok (.isub, 1) := by decide +kernel
theorem dX3_arc_67 : decode cX3_arc 67 = .ok (.ireturn, 1) := by decide +kernel
theorem dX3_drop_0 : decode cX3_drop 0 = .ok (.aload_n 0, 1) := by decide +kernel
theorem dX3_drop_1 : decode cX3_drop 1 = .ok (.getfield 10, 3) := by decide +kernel
theorem dX3_drop_4 : decode cX3_drop 4 = .ok (.iload_n 1, 1) := by decide +kernel
theorem dX3_drop_5 : decode cX3_drop 5 = .ok (.invokevirtual 53, 3) := by decide +kernel
theorem dX3_drop_8 : decode cX3_drop 8 = .ok (.ifCond .ne 5, 3) := by decide +kernel
theorem dX3_drop_11 : decode cX3_drop 11 = .ok (.iconst 0, 1) := by decide +kernel
theorem dX3_drop_12 : decode cX3_drop 12 = .ok (.ireturn, 1) := by decide +kernel
theorem dX3_drop_13 : decode cX3_drop 13 = .ok (.aload_n 0, 1) := by decide +kernel
theorem dX3_drop_14 : decode cX3_drop 14 = .ok (.getfield 10, 3) := by decide +kernel
theorem dX3_drop_17 : decode cX3_drop 17 = .ok (.iload_n 1, 1) := by decide +kernel
theorem dX3_drop_18 : decode cX3_drop 18 = .ok (.invokevirtual 56, 3) := by decide +kernel
theorem dX3_drop_21 : decode cX3_drop 21 = .ok (.aload_n 0, 1) := by decide +kernel
theorem dX3_drop_22 : decode cX3_drop 22 = .ok (.getfield 26, 3) := by decide +kernel
theorem dX3_drop_25 : decode cX3_drop 25 = .ok (.iconst 1, 1) := by decide +kernel
theorem dX3_drop_26 : decode cX3_drop 26 = .ok (.putfield 38, 3) := by decide +kernel
theorem dX3_drop_29 : decode cX3_drop 29 = .ok (.iconst 1, 1) := by decide +kernel
theorem dX3_drop_30 : decode cX3_drop 30 = .ok (.ireturn, 1) := by decide +kernel
theorem dX3_plant_0 : decode cX3_plant 0 = .ok (.aload_n 0, 1) := by decide +kernel
theorem dX3_plant_1 : decode cX3_plant 1 = .ok (.getfield 19, 3) := by decide +kernel
theorem dX3_plant_4 : decode cX3_plant 4 = .ok (.getfield 34, 3) := by decide +kernel
theorem dX3_plant_7 : decode cX3_plant 7 = .ok (.iconst 3, 1) := by decide +kernel
theorem dX3_plant_8 : decode cX3_plant 8 = .ok (.if_icmp .ge 18, 3) := by decide +kernel
theorem dX3_plant_11 : decode cX3_plant 11 = .ok (.iload_n 1, 1) := by decide +kernel
theorem dX3_plant_12 : decode cX3_plant 12 = .ok (.ifCond .eq 14, 3) := by decide +kernel
theorem dX3_plant_15 : decode cX3_plant 15 = .ok (.aload_n 0, 1) := by decide +kernel
theorem dX3_plant_16 : decode cX3_plant 16 = .ok (.getfield 10, 3) := by decide +kernel
theorem dX3_plant_19 : decode cX3_plant 19 = .ok (.iload_n 1, 1) := by decide +kernel
theorem dX3_plant_20 : decode cX3_plant 20 = .ok (.invokevirtual 59, 3) := by decide +kernel
theorem dX3_plant_23 : decode cX3_plant 23 = .ok (.ifCond .ne 5, 3) := by decide +kernel
theorem dX3_plant_26 : decode cX3_plant 26 = .ok (.iconst (-1), 1) := by decide +kernel
theorem dX3_plant_27 : decode cX3_plant 27 = .ok (.ireturn, 1) := by decide +kernel
theorem dX3_plant_28 : decode cX3_plant 28 = .ok (.aload_n 0, 1) := by decide +kernel
theorem dX3_plant_29 : decode cX3_plant 29 = .ok (.getfield 19, 3) := by decide +kernel
theorem dX3_plant_32 : decode cX3_plant 32 = .ok (.iload_n 1, 1) := by decide +kernel
theorem dX3_plant_33 : decode cX3_plant 33 = .ok (.invokevirtual 62, 3) := by decide +kernel
theorem dX3_plant_36 : decode cX3_plant 36 = .ok (.aload_n 0, 1) := by decide +kernel
theorem dX3_plant_37 : decode cX3_plant 37 = .ok (.getfield 26, 3) := by decide +kernel
theorem dX3_plant_40 : decode cX3_plant 40 = .ok (.iconst 1, 1) := by decide +kernel
theorem dX3_plant_41 : decode cX3_plant 41 = .ok (.putfield 38, 3) := by decide +kernel
theorem dX3_plant_44 : decode cX3_plant 44 = .ok (.aload_n 0, 1) := by decide +kernel
theorem dX3_plant_45 : decode cX3_plant 45 = .ok (.getfield 19, 3) := by decide +kernel
theorem dX3_plant_48 : decode cX3_plant 48 = .ok (.getfield 34, 3) := by decide +kernel
theorem dX3_plant_51 : decode cX3_plant 51 = .ok (.iconst 1, 1) := by decide +kernel
theorem dX3_plant_52 : decode cX3_plant 52 = .ok (.isub, 1) := by decide +kernel
theorem dX3_plant_53 : decode cX3_plant 53 = .ok (.ireturn, 1) := by decide +kernel
theorem dX3_fell_0 : decode cX3_fell 0 = .ok (.aload_n 0, 1) := by decide +kernel
theorem dX3_fell_1 : decode cX3_fell 1 = .ok (.getfield 19, 3) := by decide +kernel
theorem dX3_fell_4 : decode cX3_fell 4 = .ok (.getfield 34, 3) := by decide +kernel
theorem dX3_fell_7 : decode cX3_fell 7 = .ok (.ifCond .ne 5, 3) := by decide +kernel
theorem dX3_fell_10 : decode cX3_fell 10 = .ok (.iconst (-1), 1) := by decide +kernel
theorem dX3_fell_11 : decode cX3_fell 11 = .ok (.ireturn, 1) := by decide +kernel
theorem dX3_fell_12 : decode cX3_fell 12 = .ok (.aload_n 0, 1) := by decide +kernel
theorem dX3_fell_13 : decode cX3_fell 13 = .ok (.getfield 19, 3) := by decide +kernel
theorem dX3_fell_16 : decode cX3_fell 16 = .ok (.dup, 1) := by decide +kernel
theorem dX3_fell_17 : decode cX3_fell 17 = .ok (.getfield 34, 3) := by decide +kernel
theorem dX3_fell_20 : decode cX3_fell 20 = .ok (.iconst 1, 1) := by decide +kernel
theorem dX3_fell_21 : decode cX3_fell 21 = .ok (.isub, 1) := by decide +kernel
theorem dX3_fell_22 : decode cX3_fell 22 = .ok (.putfield 34, 3) := by decide +kernel
theorem dX3_fell_25 : decode cX3_fell 25 = .ok (.aload_n 0, 1) := by decide +kernel
theorem dX3_fell_26 : decode cX3_fell 26 = .ok (.getfield 26, 3) := by decide +kernel
theorem dX3_fell_29 : decode cX3_fell 29 = .ok (.iconst 1, 1) := by decide +kernel
theorem dX3_fell_30 : decode cX3_fell 30 = .ok (.putfield 38, 3) := by decide +kernel
theorem dX3_fell_33 : decode cX3_fell 33 = .ok (.aload_n 0, 1) := by decide +kernel
theorem dX3_fell_34 : decode cX3_fell 34 = .ok (.getfield 19, 3) := by decide +kernel
theorem dX3_fell_37 : decode cX3_fell 37 = .ok (.getfield 34, 3) := by decide +kernel
theorem dX3_fell_40 : decode cX3_fell 40 = .ok (.ireturn, 1) := by decide +kernel
theorem dX3_count_0 : decode cX3_count 0 = .ok (.iload_n 1, 1) := by decide +kernel
theorem dX3_count_1 : decode cX3_count 1 = .ok (.tableswitch 51 0 2 #[27, 35, 43], 27) := by decide +kernel
theorem dX3_count_28 : decode cX3_count 28 = .ok (.aload_n 0, 1) := by decide +kernel
theorem dX3_count_29 : decode cX3_count 29 = .ok (.getfield 10, 3) := by decide +kernel
theorem dX3_count_32 : decode cX3_count 32 = .ok (.getfield 65, 3) := by decide +kernel
theorem dX3_count_35 : decode cX3_count 35 = .ok (.ireturn, 1) := by decide +kernel
theorem dX3_count_36 : decode cX3_count 36 = .ok (.aload_n 0, 1) := by decide +kernel
theorem dX3_count_37 : decode cX3_count 37 = .ok (.getfield 10, 3) := by decide +kernel
theorem dX3_count_40 : decode cX3_count 40 = .ok (.getfield 42, 3) := by decide +kernel
theorem dX3_count_43 : decode cX3_count 43 = .ok (.ireturn, 1) := by decide +kernel
theorem dX3_count_44 : decode cX3_count 44 = .ok (.aload_n 0, 1) := by decide +kernel
theorem dX3_count_45 : decode cX3_count 45 = .ok (.getfield 19, 3) := by decide +kernel
theorem dX3_count_48 : decode cX3_count 48 = .ok (.getfield 34, 3) := by decide +kernel
theorem dX3_count_51 : decode cX3_count 51 = .ok (.ireturn, 1) := by decide +kernel
theorem dX3_count_52 : decode cX3_count 52 = .ok (.iconst (-1), 1) := by decide +kernel
theorem dX3_count_53 : decode cX3_count 53 = .ok (.ireturn, 1) := by decide +kernel
theorem dX3_end_0 : decode cX3_end 0 = .ok (.aload_n 0, 1) := by decide +kernel
theorem dX3_end_1 : decode cX3_end 1 = .ok (.getfield 10, 3) := by decide +kernel
theorem dX3_end_4 : decode cX3_end 4 = .ok (.iload_n 1, 1) := by decide +kernel
theorem dX3_end_5 : decode cX3_end 5 = .ok (.invokevirtual 53, 3) := by decide +kernel
theorem dX3_end_8 : decode cX3_end 8 = .ok (.ifCond .eq 12, 3) := by decide +kernel
theorem dX3_end_11 : decode cX3_end 11 = .ok (.iload_n 2, 1) := by decide +kernel
theorem dX3_end_12 : decode cX3_end 12 = .ok (.ifCond .lt 8, 3) := by decide +kernel
theorem dX3_end_15 : decode cX3_end 15 = .ok (.iload_n 2, 1) := by decide +kernel
theorem dX3_end_16 : decode cX3_end 16 = .ok (.iconst 1, 1) := by decide +kernel
theorem dX3_end_17 : decode cX3_end 17 = .ok (.if_icmp .le 5, 3) := by decide +kernel
theorem dX3_end_20 : decode cX3_end 20 = .ok (.iconst (-1), 1) := by decide +kernel
theorem dX3_end_21 : decode cX3_end 21 = .ok (.ireturn, 1) := by decide +kernel
theorem dX3_end_22 : decode cX3_end 22 = .ok (.iload_n 2, 1) := by decide +kernel
theorem dX3_end_23 : decode cX3_end 23 = .ok (.ifCond .ne 15, 3) := by decide +kernel
theorem dX3_end_26 : decode cX3_end 26 = .ok (.aload_n 0, 1) := by decide +kernel
theorem dX3_end_27 : decode cX3_end 27 = .ok (.getfield 10, 3) := by decide +kernel
theorem dX3_end_30 : decode cX3_end 30 = .ok (.getfield 68, 3) := by decide +kernel
theorem dX3_end_33 : decode cX3_end 33 = .ok (.iload_n 1, 1) := by decide +kernel
theorem dX3_end_34 : decode cX3_end 34 = .ok (.iaload, 1) := by decide +kernel
theorem dX3_end_35 : decode cX3_end 35 = .ok (.goto 12, 3) := by decide +kernel
theorem dX3_end_38 : decode cX3_end 38 = .ok (.aload_n 0, 1) := by decide +kernel
theorem dX3_end_39 : decode cX3_end 39 = .ok (.getfield 10, 3) := by decide +kernel
theorem dX3_end_42 : decode cX3_end 42 = .ok (.getfield 72, 3) := by decide +kernel
theorem dX3_end_45 : decode cX3_end 45 = .ok (.iload_n 1, 1) := by decide +kernel
theorem dX3_end_46 : decode cX3_end 46 = .ok (.iaload, 1) := by decide +kernel
theorem dX3_end_47 : decode cX3_end 47 = .ok (.ireturn, 1) := by decide +kernel
theorem dX3_entry_0 : decode cX3_entry 0 = .ok (.aload_n 0, 1) := by decide +kernel
theorem dX3_entry_1 : decode cX3_entry 1 = .ok (.getfield 10, 3) := by decide +kernel
theorem dX3_entry_4 : decode cX3_entry 4 = .ok (.iload_n 1, 1) := by decide +kernel
theorem dX3_entry_5 : decode cX3_entry 5 = .ok (.invokevirtual 59, 3) := by decide +kernel
theorem dX3_entry_8 : decode cX3_entry 8 = .ok (.ifCond .eq 14, 3) := by decide +kernel
theorem dX3_entry_11 : decode cX3_entry 11 = .ok (.aload_n 0, 1) := by decide +kernel
theorem dX3_entry_12 : decode cX3_entry 12 = .ok (.getfield 10, 3) := by decide +kernel
theorem dX3_entry_15 : decode cX3_entry 15 = .ok (.iload_n 1, 1) := by decide +kernel
theorem dX3_entry_16 : decode cX3_entry 16 = .ok (.invokevirtual 75, 3) := by decide +kernel
theorem dX3_entry_19 : decode cX3_entry 19 = .ok (.goto 4, 3) := by decide +kernel
theorem dX3_entry_22 : decode cX3_entry 22 = .ok (.iconst (-1), 1) := by decide +kernel
theorem dX3_entry_23 : decode cX3_entry 23 = .ok (.ireturn, 1) := by decide +kernel
theorem dX3_missed_0 : decode cX3_missed 0 = .ok (.aload_n 0, 1) := by decide +kernel
theorem dX3_missed_1 : decode cX3_missed 1 = .ok (.getfield 10, 3) := by decide +kernel
theorem dX3_missed_4 : decode cX3_missed 4 = .ok (.iload_n 1, 1) := by decide +kernel
theorem dX3_missed_5 : decode cX3_missed 5 = .ok (.invokevirtual 59, 3) := by decide +kernel
theorem dX3_missed_8 : decode cX3_missed 8 = .ok (.ifCond .eq 14, 3) := by decide +kernel
theorem dX3_missed_11 : decode cX3_missed 11 = .ok (.aload_n 0, 1) := by decide +kernel
theorem dX3_missed_12 : decode cX3_missed 12 = .ok (.getfield 19, 3) := by decide +kernel
theorem dX3_missed_15 : decode cX3_missed 15 = .ok (.iload_n 1, 1) := by decide +kernel
theorem dX3_missed_16 : decode cX3_missed 16 = .ok (.invokevirtual 79, 3) := by decide +kernel
theorem dX3_missed_19 : decode cX3_missed 19 = .ok (.goto 4, 3) := by decide +kernel
theorem dX3_missed_22 : decode cX3_missed 22 = .ok (.iconst (-1), 1) := by decide +kernel
theorem dX3_missed_23 : decode cX3_missed 23 = .ok (.ireturn, 1) := by decide +kernel
theorem dX3_packs_0 : decode cX3_packs 0 = .ok (.aload_n 0, 1) := by decide +kernel
theorem dX3_packs_1 : decode cX3_packs 1 = .ok (.iconst (-1), 1) := by decide +kernel
theorem dX3_packs_2 : decode cX3_packs 2 = .ok (.invokevirtual 82, 3) := by decide +kernel
theorem dX3_packs_5 : decode cX3_packs 5 = .ok (.ifCond .ne 7, 3) := by decide +kernel
theorem dX3_packs_8 : decode cX3_packs 8 = .ok (.iconst 1, 1) := by decide +kernel
theorem dX3_packs_9 : decode cX3_packs 9 = .ok (.goto 4, 3) := by decide +kernel
theorem dX3_packs_12 : decode cX3_packs 12 = .ok (.iconst 0, 1) := by decide +kernel
theorem dX3_packs_13 : decode cX3_packs 13 = .ok (.ireturn, 1) := by decide +kernel
theorem dX3_firstStopper_0 : decode cX3_firstStopper 0 = .ok (.iconst 0, 1) := by decide +kernel
theorem dX3_firstStopper_1 : decode cX3_firstStopper 1 = .ok (.istore_n 2, 1) := by decide +kernel
theorem dX3_firstStopper_2 : decode cX3_firstStopper 2 = .ok (.iconst 1, 1) := by decide +kernel
theorem dX3_firstStopper_3 : decode cX3_firstStopper 3 = .ok (.istore_n 3, 1) := by decide +kernel
theorem dX3_firstStopper_4 : decode cX3_firstStopper 4 = .ok (.iload_n 3, 1) := by decide +kernel
theorem dX3_firstStopper_5 : decode cX3_firstStopper 5 = .ok (.aload_n 0, 1) := by decide +kernel
theorem dX3_firstStopper_6 : decode cX3_firstStopper 6 = .ok (.getfield 10, 3) := by decide +kernel
theorem dX3_firstStopper_9 : decode cX3_firstStopper 9 = .ok (.invokevirtual 92, 3) := by decide +kernel
theorem dX3_firstStopper_12 : decode cX3_firstStopper 12 = .ok (.if_icmp .gt 32, 3) := by decide +kernel
theorem dX3_firstStopper_15 : decode cX3_firstStopper 15 = .ok (.iload_n 2, 1) := by decide +kernel
theorem dX3_firstStopper_16 : decode cX3_firstStopper 16 = .ok (.ifCond .eq 11, 3) := by decide +kernel
theorem dX3_firstStopper_19 : decode cX3_firstStopper 19 = .ok (.iload_n 3, 1) := by decide +kernel
theorem dX3_firstStopper_20 : decode cX3_firstStopper 20 = .ok (.iload_n 2, 1) := by decide +kernel
theorem dX3_firstStopper_21 : decode cX3_firstStopper 21 = .ok (.invokestatic 102, 3) := by decide +kernel
theorem dX3_firstStopper_24 : decode cX3_firstStopper 24 = .ok (.ifCond .eq 14, 3) := by decide +kernel
theorem dX3_firstStopper_27 : decode cX3_firstStopper 27 = .ok (.aload_n 0, 1) := by decide +kernel
theorem dX3_firstStopper_28 : decode cX3_firstStopper 28 = .ok (.iload_n 3, 1) := by decide +kernel
theorem dX3_firstStopper_29 : decode cX3_firstStopper 29 = .ok (.iload_n 1, 1) := by decide +kernel
theorem dX3_firstStopper_30 : decode cX3_firstStopper 30 = .ok (.invokevirtual 106, 3) := by decide +kernel
theorem dX3_firstStopper_33 : decode cX3_firstStopper 33 = .ok (.ifCond .eq 5, 3) := by decide +kernel
theorem dX3_firstStopper_36 : decode cX3_firstStopper 36 = .ok (.iload_n 3, 1) := by decide +kernel
theorem dX3_firstStopper_37 : decode cX3_firstStopper 37 = .ok (.istore_n 2, 1) := by decide +kernel
theorem dX3_firstStopper_38 : decode cX3_firstStopper 38 = .ok (.iinc 3 1, 3) := by decide +kernel
theorem dX3_firstStopper_41 : decode cX3_firstStopper 41 = .ok (.goto (-37), 3) := by decide +kernel
theorem dX3_firstStopper_44 : decode cX3_firstStopper 44 = .ok (.iload_n 2, 1) := by decide +kernel
theorem dX3_firstStopper_45 : decode cX3_firstStopper 45 = .ok (.ireturn, 1) := by decide +kernel
theorem dX3_comesBefore_0 : decode cX3_comesBefore 0 = .ok (.iload_n 0, 1) := by decide +kernel
theorem dX3_comesBefore_1 : decode cX3_comesBefore 1 = .ok (.invokestatic 112, 3) := by decide +kernel
theorem dX3_comesBefore_4 : decode cX3_comesBefore 4 = .ok (.istore_n 2, 1) := by decide +kernel
theorem dX3_comesBefore_5 : decode cX3_comesBefore 5 = .ok (.iload_n 1, 1) := by decide +kernel
theorem dX3_comesBefore_6 : decode cX3_comesBefore 6 = .ok (.invokestatic 112, 3) := by decide +kernel
theorem dX3_comesBefore_9 : decode cX3_comesBefore 9 = .ok (.istore_n 3, 1) := by decide +kernel
theorem dX3_comesBefore_10 : decode cX3_comesBefore 10 = .ok (.iload_n 2, 1) := by decide +kernel
theorem dX3_comesBefore_11 : decode cX3_comesBefore 11 = .ok (.iload_n 3, 1) := by decide +kernel
theorem dX3_comesBefore_12 : decode cX3_comesBefore 12 = .ok (.if_icmp .eq 14, 3) := by decide +kernel
theorem dX3_comesBefore_15 : decode cX3_comesBefore 15 = .ok (.iload_n 2, 1) := by decide +kernel
theorem dX3_comesBefore_16 : decode cX3_comesBefore 16 = .ok (.iload_n 3, 1) := by decide +kernel
theorem dX3_comesBefore_17 : decode cX3_comesBefore 17 = .ok (.if_icmp .ge 7, 3) := by decide +kernel
theorem dX3_comesBefore_20 : decode cX3_comesBefore 20 = .ok (.iconst 1, 1) := by decide +kernel
theorem dX3_comesBefore_21 : decode cX3_comesBefore 21 = .ok (.goto 4, 3) := by decide +kernel
theorem dX3_comesBefore_24 : decode cX3_comesBefore 24 = .ok (.iconst 0, 1) := by decide +kernel
theorem dX3_comesBefore_25 : decode cX3_comesBefore 25 = .ok (.ireturn, 1) := by decide +kernel
theorem dX3_comesBefore_26 : decode cX3_comesBefore 26 = .ok (.iload_n 0, 1) := by decide +kernel
theorem dX3_comesBefore_27 : decode cX3_comesBefore 27 = .ok (.iload_n 1, 1) := by decide +kernel
theorem dX3_comesBefore_28 : decode cX3_comesBefore 28 = .ok (.ixor, 1) := by decide +kernel
theorem dX3_comesBefore_29 : decode cX3_comesBefore 29 = .ok (.istore 4, 2) := by decide +kernel
theorem dX3_comesBefore_31 : decode cX3_comesBefore 31 = .ok (.iload 4, 2) := by decide +kernel
theorem dX3_comesBefore_33 : decode cX3_comesBefore 33 = .ok (.iload 4, 2) := by decide +kernel
theorem dX3_comesBefore_35 : decode cX3_comesBefore 35 = .ok (.ineg, 1) := by decide +kernel
theorem dX3_comesBefore_36 : decode cX3_comesBefore 36 = .ok (.iand, 1) := by decide +kernel
theorem dX3_comesBefore_37 : decode cX3_comesBefore 37 = .ok (.istore 5, 2) := by decide +kernel
theorem dX3_comesBefore_39 : decode cX3_comesBefore 39 = .ok (.iload_n 0, 1) := by decide +kernel
theorem dX3_comesBefore_40 : decode cX3_comesBefore 40 = .ok (.iload 5, 2) := by decide +kernel
theorem dX3_comesBefore_42 : decode cX3_comesBefore 42 = .ok (.iand, 1) := by decide +kernel
theorem dX3_comesBefore_43 : decode cX3_comesBefore 43 = .ok (.ifCond .eq 7, 3) := by decide +kernel
theorem dX3_comesBefore_46 : decode cX3_comesBefore 46 = .ok (.iconst 1, 1) := by decide +kernel
theorem dX3_comesBefore_47 : decode cX3_comesBefore 47 = .ok (.goto 4, 3) := by decide +kernel
theorem dX3_comesBefore_50 : decode cX3_comesBefore 50 = .ok (.iconst 0, 1) := by decide +kernel
theorem dX3_comesBefore_51 : decode cX3_comesBefore 51 = .ok (.ireturn, 1) := by decide +kernel
theorem dX3_stops_0 : decode cX3_stops 0 = .ok (.aload_n 0, 1) := by decide +kernel
theorem dX3_stops_1 : decode cX3_stops 1 = .ok (.getfield 10, 3) := by decide +kernel
theorem dX3_stops_4 : decode cX3_stops 4 = .ok (.iload_n 1, 1) := by decide +kernel
theorem dX3_stops_5 : decode cX3_stops 5 = .ok (.invokevirtual 75, 3) := by decide +kernel
theorem dX3_stops_8 : decode cX3_stops 8 = .ok (.istore_n 3, 1) := by decide +kernel
theorem dX3_stops_9 : decode cX3_stops 9 = .ok (.iload_n 2, 1) := by decide +kernel
theorem dX3_stops_10 : decode cX3_stops 10 = .ok (.iconst (-1), 1) := by decide +kernel
theorem dX3_stops_11 : decode cX3_stops 11 = .ok (.if_icmp .eq 18, 3) := by decide +kernel
theorem dX3_stops_14 : decode cX3_stops 14 = .ok (.aload_n 0, 1) := by decide +kernel
theorem dX3_stops_15 : decode cX3_stops 15 = .ok (.getfield 10, 3) := by decide +kernel
theorem dX3_stops_18 : decode cX3_stops 18 = .ok (.iload_n 2, 1) := by decide +kernel
theorem dX3_stops_19 : decode cX3_stops 19 = .ok (.iload_n 1, 1) := by decide +kernel
theorem dX3_stops_20 : decode cX3_stops 20 = .ok (.invokevirtual 109, 3) := by decide +kernel
theorem dX3_stops_23 : decode cX3_stops 23 = .ok (.ifCond .eq 6, 3) := by decide +kernel
theorem dX3_stops_26 : decode cX3_stops 26 = .ok (.iinc 3 (-1), 3) := by decide +kernel
theorem dX3_stops_29 : decode cX3_stops 29 = .ok (.iload_n 3, 1) := by decide +kernel
theorem dX3_stops_30 : decode cX3_stops 30 = .ok (.aload_n 0, 1) := by decide +kernel
theorem dX3_stops_31 : decode cX3_stops 31 = .ok (.getfield 19, 3) := by decide +kernel
theorem dX3_stops_34 : decode cX3_stops 34 = .ok (.iload_n 1, 1) := by decide +kernel
theorem dX3_stops_35 : decode cX3_stops 35 = .ok (.invokevirtual 79, 3) := by decide +kernel
theorem dX3_stops_38 : decode cX3_stops 38 = .ok (.if_icmp .ge 7, 3) := by decide +kernel
theorem dX3_stops_41 : decode cX3_stops 41 = .ok (.iconst 1, 1) := by decide +kernel
theorem dX3_stops_42 : decode cX3_stops 42 = .ok (.goto 4, 3) := by decide +kernel
theorem dX3_stops_45 : decode cX3_stops 45 = .ok (.iconst 0, 1) := by decide +kernel
theorem dX3_stops_46 : decode cX3_stops 46 = .ok (.ireturn, 1) := by decide +kernel
theorem dX3_stopper_0 : decode cX3_stopper 0 = .ok (.aload_n 0, 1) := by decide +kernel
theorem dX3_stopper_1 : decode cX3_stopper 1 = .ok (.iconst (-1), 1) := by decide +kernel
theorem dX3_stopper_2 : decode cX3_stopper 2 = .ok (.invokevirtual 82, 3) := by decide +kernel
theorem dX3_stopper_5 : decode cX3_stopper 5 = .ok (.ireturn, 1) := by decide +kernel
theorem dX3_owner_0 : decode cX3_owner 0 = .ok (.aload_n 0, 1) := by decide +kernel
theorem dX3_owner_1 : decode cX3_owner 1 = .ok (.getfield 10, 3) := by decide +kernel
theorem dX3_owner_4 : decode cX3_owner 4 = .ok (.iload_n 1, 1) := by decide +kernel
theorem dX3_owner_5 : decode cX3_owner 5 = .ok (.invokevirtual 53, 3) := by decide +kernel
theorem dX3_owner_8 : decode cX3_owner 8 = .ok (.ifCond .ne 5, 3) := by decide +kernel
theorem dX3_owner_11 : decode cX3_owner 11 = .ok (.iconst (-1), 1) := by decide +kernel
theorem dX3_owner_12 : decode cX3_owner 12 = .ok (.ireturn, 1) := by decide +kernel
theorem dX3_owner_13 : decode cX3_owner 13 = .ok (.aload_n 0, 1) := by decide +kernel
theorem dX3_owner_14 : decode cX3_owner 14 = .ok (.getfield 26, 3) := by decide +kernel
theorem dX3_owner_17 : decode cX3_owner 17 = .ok (.aload_n 0, 1) := by decide +kernel
theorem dX3_owner_18 : decode cX3_owner 18 = .ok (.getfield 10, 3) := by decide +kernel
theorem dX3_owner_21 : decode cX3_owner 21 = .ok (.aload_n 0, 1) := by decide +kernel
theorem dX3_owner_22 : decode cX3_owner 22 = .ok (.getfield 19, 3) := by decide +kernel
theorem dX3_owner_25 : decode cX3_owner 25 = .ok (.invokevirtual 85, 3) := by decide +kernel
theorem dX3_owner_28 : decode cX3_owner 28 = .ok (.aload_n 0, 1) := by decide +kernel
theorem dX3_owner_29 : decode cX3_owner 29 = .ok (.getfield 26, 3) := by decide +kernel
theorem dX3_owner_32 : decode cX3_owner 32 = .ok (.getfield 89, 3) := by decide +kernel
theorem dX3_owner_35 : decode cX3_owner 35 = .ok (.iload_n 1, 1) := by decide +kernel
theorem dX3_owner_36 : decode cX3_owner 36 = .ok (.iaload, 1) := by decide +kernel
theorem dX3_owner_37 : decode cX3_owner 37 = .ok (.ireturn, 1) := by decide +kernel
theorem dX3_way_0 : decode cX3_way 0 = .ok (.iload_n 1, 1) := by decide +kernel
theorem dX3_way_1 : decode cX3_way 1 = .ok (.ifCond .lt 25, 3) := by decide +kernel
theorem dX3_way_4 : decode cX3_way 4 = .ok (.iload_n 1, 1) := by decide +kernel
theorem dX3_way_5 : decode cX3_way 5 = .ok (.aload_n 0, 1) := by decide +kernel
theorem dX3_way_6 : decode cX3_way 6 = .ok (.getfield 19, 3) := by decide +kernel
theorem dX3_way_9 : decode cX3_way 9 = .ok (.getfield 34, 3) := by decide +kernel
theorem dX3_way_12 : decode cX3_way 12 = .ok (.if_icmp .ge 14, 3) := by decide +kernel
theorem dX3_way_15 : decode cX3_way 15 = .ok (.aload_n 0, 1) := by decide +kernel
theorem dX3_way_16 : decode cX3_way 16 = .ok (.getfield 10, 3) := by decide +kernel
theorem dX3_way_19 : decode cX3_way 19 = .ok (.iload_n 2, 1) := by decide +kernel
theorem dX3_way_20 : decode cX3_way 20 = .ok (.invokevirtual 45, 3) := by decide +kernel
theorem dX3_way_23 : decode cX3_way 23 = .ok (.ifCond .ne 5, 3) := by decide +kernel
theorem dX3_way_26 : decode cX3_way 26 = .ok (.iconst (-1), 1) := by decide +kernel
theorem dX3_way_27 : decode cX3_way 27 = .ok (.ireturn, 1) := by decide +kernel
theorem dX3_way_28 : decode cX3_way 28 = .ok (.aload_n 0, 1) := by decide +kernel
theorem dX3_way_29 : decode cX3_way 29 = .ok (.getfield 26, 3) := by decide +kernel
theorem dX3_way_32 : decode cX3_way 32 = .ok (.aload_n 0, 1) := by decide +kernel
theorem dX3_way_33 : decode cX3_way 33 = .ok (.getfield 10, 3) := by decide +kernel
theorem dX3_way_36 : decode cX3_way 36 = .ok (.aload_n 0, 1) := by decide +kernel
theorem dX3_way_37 : decode cX3_way 37 = .ok (.getfield 19, 3) := by decide +kernel
theorem dX3_way_40 : decode cX3_way 40 = .ok (.invokevirtual 85, 3) := by decide +kernel
theorem dX3_way_43 : decode cX3_way 43 = .ok (.iconst 0, 1) := by decide +kernel
theorem dX3_way_44 : decode cX3_way 44 = .ok (.istore_n 3, 1) := by decide +kernel
theorem dX3_way_45 : decode cX3_way 45 = .ok (.iload_n 3, 1) := by decide +kernel
theorem dX3_way_46 : decode cX3_way 46 = .ok (.aload_n 0, 1) := by decide +kernel
theorem dX3_way_47 : decode cX3_way 47 = .ok (.getfield 10, 3) := by decide +kernel
theorem dX3_way_50 : decode cX3_way 50 = .ok (.getfield 42, 3) := by decide +kernel
theorem dX3_way_53 : decode cX3_way 53 = .ok (.if_icmp .ge 37, 3) := by decide +kernel
theorem dX3_way_56 : decode cX3_way 56 = .ok (.aload_n 0, 1) := by decide +kernel
theorem dX3_way_57 : decode cX3_way 57 = .ok (.getfield 26, 3) := by decide +kernel
theorem dX3_way_60 : decode cX3_way 60 = .ok (.getfield 89, 3) := by decide +kernel
theorem dX3_way_63 : decode cX3_way 63 = .ok (.iload_n 3, 1) := by decide +kernel
theorem dX3_way_64 : decode cX3_way 64 = .ok (.iaload, 1) := by decide +kernel
theorem dX3_way_65 : decode cX3_way 65 = .ok (.iload_n 1, 1) := by decide +kernel
theorem dX3_way_66 : decode cX3_way 66 = .ok (.if_icmp .ne 18, 3) := by decide +kernel
theorem dX3_way_69 : decode cX3_way 69 = .ok (.aload_n 0, 1) := by decide +kernel
theorem dX3_way_70 : decode cX3_way 70 = .ok (.getfield 10, 3) := by decide +kernel
theorem dX3_way_73 : decode cX3_way 73 = .ok (.getfield 72, 3) := by decide +kernel
theorem dX3_way_76 : decode cX3_way 76 = .ok (.iload_n 3, 1) := by decide +kernel
theorem dX3_way_77 : decode cX3_way 77 = .ok (.iaload, 1) := by decide +kernel
theorem dX3_way_78 : decode cX3_way 78 = .ok (.iload_n 2, 1) := by decide +kernel
theorem dX3_way_79 : decode cX3_way 79 = .ok (.if_icmp .ne 5, 3) := by decide +kernel
theorem dX3_way_82 : decode cX3_way 82 = .ok (.iload_n 3, 1) := by decide +kernel
theorem dX3_way_83 : decode cX3_way 83 = .ok (.ireturn, 1) := by decide +kernel
theorem dX3_way_84 : decode cX3_way 84 = .ok (.iinc 3 1, 3) := by decide +kernel
theorem dX3_way_87 : decode cX3_way 87 = .ok (.goto (-42), 3) := by decide +kernel
theorem dX3_way_90 : decode cX3_way 90 = .ok (.iconst (-1), 1) := by decide +kernel
theorem dX3_way_91 : decode cX3_way 91 = .ok (.ireturn, 1) := by decide +kernel
theorem dX3_spare_0 : decode cX3_spare 0 = .ok (.aload_n 0, 1) := by decide +kernel
theorem dX3_spare_1 : decode cX3_spare 1 = .ok (.getfield 10, 3) := by decide +kernel
theorem dX3_spare_4 : decode cX3_spare 4 = .ok (.iload_n 1, 1) := by decide +kernel
theorem dX3_spare_5 : decode cX3_spare 5 = .ok (.invokevirtual 53, 3) := by decide +kernel
theorem dX3_spare_8 : decode cX3_spare 8 = .ok (.ifCond .eq 15, 3) := by decide +kernel
theorem dX3_spare_11 : decode cX3_spare 11 = .ok (.aload_n 0, 1) := by decide +kernel
theorem dX3_spare_12 : decode cX3_spare 12 = .ok (.iload_n 1, 1) := by decide +kernel
theorem dX3_spare_13 : decode cX3_spare 13 = .ok (.invokevirtual 82, 3) := by decide +kernel
theorem dX3_spare_16 : decode cX3_spare 16 = .ok (.ifCond .ne 7, 3) := by decide +kernel
theorem dX3_spare_19 : decode cX3_spare 19 = .ok (.iconst 1, 1) := by decide +kernel
theorem dX3_spare_20 : decode cX3_spare 20 = .ok (.goto 4, 3) := by decide +kernel
theorem dX3_spare_23 : decode cX3_spare 23 = .ok (.iconst 0, 1) := by decide +kernel
theorem dX3_spare_24 : decode cX3_spare 24 = .ok (.ireturn, 1) := by decide +kernel
theorem dX3_most_0 : decode cX3_most 0 = .ok (.iload_n 1, 1) := by decide +kernel
theorem dX3_most_1 : decode cX3_most 1 = .ok (.ifCond .eq 14, 3) := by decide +kernel
theorem dX3_most_4 : decode cX3_most 4 = .ok (.aload_n 0, 1) := by decide +kernel
theorem dX3_most_5 : decode cX3_most 5 = .ok (.getfield 10, 3) := by decide +kernel
theorem dX3_most_8 : decode cX3_most 8 = .ok (.iload_n 1, 1) := by decide +kernel
theorem dX3_most_9 : decode cX3_most 9 = .ok (.invokevirtual 59, 3) := by decide +kernel
theorem dX3_most_12 : decode cX3_most 12 = .ok (.ifCond .ne 5, 3) := by decide +kernel
theorem dX3_most_15 : decode cX3_most 15 = .ok (.iconst (-1), 1) := by decide +kernel
theorem dX3_most_16 : decode cX3_most 16 = .ok (.ireturn, 1) := by decide +kernel
theorem dX3_most_17 : decode cX3_most 17 = .ok (.bipush 99, 2) := by decide +kernel
theorem dX3_most_19 : decode cX3_most 19 = .ok (.istore_n 2, 1) := by decide +kernel
theorem dX3_most_20 : decode cX3_most 20 = .ok (.iconst 1, 1) := by decide +kernel
theorem dX3_most_21 : decode cX3_most 21 = .ok (.istore_n 3, 1) := by decide +kernel
theorem dX3_most_22 : decode cX3_most 22 = .ok (.iload_n 3, 1) := by decide +kernel
theorem dX3_most_23 : decode cX3_most 23 = .ok (.aload_n 0, 1) := by decide +kernel
theorem dX3_most_24 : decode cX3_most 24 = .ok (.getfield 10, 3) := by decide +kernel
theorem dX3_most_27 : decode cX3_most 27 = .ok (.invokevirtual 92, 3) := by decide +kernel
theorem dX3_most_30 : decode cX3_most 30 = .ok (.if_icmp .gt 28, 3) := by decide +kernel
theorem dX3_most_33 : decode cX3_most 33 = .ok (.iload_n 3, 1) := by decide +kernel
theorem dX3_most_34 : decode cX3_most 34 = .ok (.iload_n 1, 1) := by decide +kernel
theorem dX3_most_35 : decode cX3_most 35 = .ok (.iand, 1) := by decide +kernel
theorem dX3_most_36 : decode cX3_most 36 = .ok (.ifCond .ne 16, 3) := by decide +kernel
theorem dX3_most_39 : decode cX3_most 39 = .ok (.iload_n 2, 1) := by decide +kernel
theorem dX3_most_40 : decode cX3_most 40 = .ok (.aload_n 0, 1) := by decide +kernel
theorem dX3_most_41 : decode cX3_most 41 = .ok (.getfield 10, 3) := by decide +kernel
theorem dX3_most_44 : decode cX3_most 44 = .ok (.iload_n 3, 1) := by decide +kernel
theorem dX3_most_45 : decode cX3_most 45 = .ok (.invokevirtual 75, 3) := by decide +kernel
theorem dX3_most_48 : decode cX3_most 48 = .ok (.invokestatic 96, 3) := by decide +kernel
theorem dX3_most_51 : decode cX3_most 51 = .ok (.istore_n 2, 1) := by decide +kernel
theorem dX3_most_52 : decode cX3_most 52 = .ok (.iinc 3 1, 3) := by decide +kernel
theorem dX3_most_55 : decode cX3_most 55 = .ok (.goto (-33), 3) := by decide +kernel
theorem dX3_most_58 : decode cX3_most 58 = .ok (.iload_n 2, 1) := by decide +kernel
theorem dX3_most_59 : decode cX3_most 59 = .ok (.ireturn, 1) := by decide +kernel
