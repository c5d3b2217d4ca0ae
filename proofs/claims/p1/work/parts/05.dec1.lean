theorem dX11_type_15 : decode cX11_type 15 = .ok (.sipush 255, 3) := by decide +kernel
theorem dX11_type_18 : decode cX11_type 18 = .ok (.if_icmp .le 6, 3) := by decide +kernel
theorem dX11_type_21 : decode cX11_type 21 = .ok (.bipush (-2), 2) := by decide +kernel
theorem dX11_type_23 : decode cX11_type 23 = .ok (.ireturn, 1) := by decide +kernel
theorem dX11_type_24 : decode cX11_type 24 = .ok (.aload_n 3, 1) := by decide +kernel
theorem dX11_type_25 : decode cX11_type 25 = .ok (.invokevirtual 88, 3) := by decide +kernel
theorem dX11_type_28 : decode cX11_type 28 = .ok (.ifCond .eq 6, 3) := by decide +kernel
theorem dX11_type_34 : decode cX11_type 34 = .ok (.aload_n 3, 1) := by decide +kernel
theorem dX11_type_35 : decode cX11_type 35 = .ok (.iload_n 2, 1) := by decide +kernel
theorem dX11_type_36 : decode cX11_type 36 = .ok (.invokevirtual 94, 3) := by decide +kernel
theorem dX11_type_39 : decode cX11_type 39 = .ok (.aload_n 3, 1) := by decide +kernel
theorem dX11_type_40 : decode cX11_type 40 = .ok (.getfield 98, 3) := by decide +kernel
theorem dX11_type_43 : decode cX11_type 43 = .ok (.ireturn, 1) := by decide +kernel
theorem dX11_wipe_0 : decode cX11_wipe 0 = .ok (.aload_n 0, 1) := by decide +kernel
theorem dX11_wipe_1 : decode cX11_wipe 1 = .ok (.iload_n 1, 1) := by decide +kernel
theorem dX11_wipe_2 : decode cX11_wipe 2 = .ok (.invokevirtual 84, 3) := by decide +kernel
theorem dX11_wipe_5 : decode cX11_wipe 5 = .ok (.astore_n 2, 1) := by decide +kernel
theorem dX11_wipe_6 : decode cX11_wipe 6 = .ok (.aload_n 2, 1) := by decide +kernel
theorem dX11_wipe_7 : decode cX11_wipe 7 = .ok (.ifnonnull 6, 3) := by decide +kernel
theorem dX11_wipe_10 : decode cX11_wipe 10 = .ok (.bipush (-2), 2) := by decide +kernel
theorem dX11_wipe_12 : decode cX11_wipe 12 = .ok (.ireturn, 1) := by decide +kernel
theorem dX11_wipe_13 : decode cX11_wipe 13 = .ok (.aload_n 2, 1) := by decide +kernel
theorem dX11_wipe_14 : decode cX11_wipe 14 = .ok (.getfield 98, 3) := by decide +kernel
theorem dX11_wipe_17 : decode cX11_wipe 17 = .ok (.istore_n 3, 1) := by decide +kernel
theorem dX11_wipe_18 : decode cX11_wipe 18 = .ok (.aload_n 2, 1) := by decide +kernel
theorem dX11_wipe_19 : decode cX11_wipe 19 = .ok (.iconst 0, 1) := by decide +kernel
theorem dX11_wipe_20 : decode cX11_wipe 20 = .ok (.invokevirtual 102, 3) := by decide +kernel
theorem dX11_wipe_23 : decode cX11_wipe 23 = .ok (.iload_n 3, 1) := by decide +kernel
theorem dX11_wipe_24 : decode cX11_wipe 24 = .ok (.ireturn, 1) := by decide +kernel
theorem dX11_undo_0 : decode cX11_undo 0 = .ok (.aload_n 0, 1) := by decide +kernel
theorem dX11_undo_1 : decode cX11_undo 1 = .ok (.iload_n 1, 1) := by decide +kernel
theorem dX11_undo_2 : decode cX11_undo 2 = .ok (.invokevirtual 84, 3) := by decide +kernel
theorem dX11_undo_5 : decode cX11_undo 5 = .ok (.astore_n 2, 1) := by decide +kernel
theorem dX11_undo_6 : decode cX11_undo 6 = .ok (.aload_n 2, 1) := by decide +kernel
theorem dX11_undo_7 : decode cX11_undo 7 = .ok (.ifnonnull 6, 3) := by decide +kernel
theorem dX11_undo_10 : decode cX11_undo 10 = .ok (.bipush (-2), 2) := by decide +kernel
theorem dX11_undo_12 : decode cX11_undo 12 = .ok (.ireturn, 1) := by decide +kernel
theorem dX11_undo_13 : decode cX11_undo 13 = .ok (.aload_n 2, 1) := by decide +kernel
theorem dX11_undo_14 : decode cX11_undo 14 = .ok (.getfield 98, 3) := by decide +kernel
theorem dX11_undo_17 : decode cX11_undo 17 = .ok (.ifCond .ne 6, 3) := by decide +kernel
theorem dX11_undo_20 : decode cX11_undo 20 = .ok (.bipush (-3), 2) := by decide +kernel
theorem dX11_undo_22 : decode cX11_undo 22 = .ok (.ireturn, 1) := by decide +kernel
theorem dX11_fault_0 : decode cX11_fault 0 = .ok (.aload_n 0, 1) := by decide +kernel
theorem dX11_fault_1 : decode cX11_fault 1 = .ok (.iload_n 1, 1) := by decide +kernel
theorem dX11_fault_2 : decode cX11_fault 2 = .ok (.invokevirtual 84, 3) := by decide +kernel
theorem dX11_fault_5 : decode cX11_fault 5 = .ok (.astore_n 2, 1) := by decide +kernel
theorem dX11_fault_6 : decode cX11_fault 6 = .ok (.aload_n 2, 1) := by decide +kernel
theorem dX11_fault_7 : decode cX11_fault 7 = .ok (.ifnonnull 8, 3) := by decide +kernel
theorem dX11_fault_10 : decode cX11_fault 10 = .ok (.bipush (-2), 2) := by decide +kernel
theorem dX11_fault_12 : decode cX11_fault 12 = .ok (.goto 7, 3) := by decide +kernel
theorem dX11_fault_15 : decode cX11_fault 15 = .ok (.aload_n 2, 1) := by decide +kernel
theorem dX11_fault_16 : decode cX11_fault 16 = .ok (.getfield 105, 3) := by decide +kernel
theorem dX11_fault_19 : decode cX11_fault 19 = .ok (.ireturn, 1) := by decide +kernel
theorem dX11_mile_0 : decode cX11_mile 0 = .ok (.iload_n 1, 1) := by decide +kernel
theorem dX11_mile_1 : decode cX11_mile 1 = .ok (.ifCond .lt 9, 3) := by decide +kernel
theorem dX11_mile_4 : decode cX11_mile 4 = .ok (.iload_n 1, 1) := by decide +kernel
theorem dX11_mile_5 : decode cX11_mile 5 = .ok (.bipush 24, 2) := by decide +kernel
theorem dX11_mile_7 : decode cX11_mile 7 = .ok (.if_icmp .lt 6, 3) := by decide +kernel
theorem dX11_mile_10 : decode cX11_mile 10 = .ok (.bipush (-2), 2) := by decide +kernel
theorem dX11_mile_12 : decode cX11_mile 12 = .ok (.ireturn, 1) := by decide +kernel
theorem dX11_mile_13 : decode cX11_mile 13 = .ok (.iload_n 1, 1) := by decide +kernel
theorem dX11_mile_14 : decode cX11_mile 14 = .ok (.aload_n 0, 1) := by decide +kernel
theorem dX11_mile_15 : decode cX11_mile 15 = .ok (.getfield 10, 3) := by decide +kernel
theorem dX11_mile_18 : decode cX11_mile 18 = .ok (.getfield 108, 3) := by decide +kernel
theorem dX11_mile_21 : decode cX11_mile 21 = .ok (.if_icmp .ge 14, 3) := by decide +kernel
theorem dX11_mile_35 : decode cX11_mile 35 = .ok (.iconst (-1), 1) := by decide +kernel
theorem dX11_mile_36 : decode cX11_mile 36 = .ok (.ireturn, 1) := by decide +kernel
theorem dX11_passenger_0 : decode cX11_passenger 0 = .ok (.aload_n 0, 1) := by decide +kernel
theorem dX11_passenger_1 : decode cX11_passenger 1 = .ok (.getfield 19, 3) := by decide +kernel
theorem dX11_passenger_4 : decode cX11_passenger 4 = .ok (.iload_n 1, 1) := by decide +kernel
theorem dX11_passenger_5 : decode cX11_passenger 5 = .ok (.invokevirtual 115, 3) := by decide +kernel
theorem dX11_passenger_8 : decode cX11_passenger 8 = .ok (.ifCond .eq 12, 3) := by decide +kernel
theorem dX11_passenger_20 : decode cX11_passenger 20 = .ok (.bipush (-2), 2) := by decide +kernel
theorem dX11_passenger_22 : decode cX11_passenger 22 = .ok (.ireturn, 1) := by decide +kernel
theorem dX11_goose_0 : decode cX11_goose 0 = .ok (.aload_n 0, 1) := by decide +kernel
theorem dX11_goose_1 : decode cX11_goose 1 = .ok (.getfield 26, 3) := by decide +kernel
theorem dX11_goose_4 : decode cX11_goose 4 = .ok (.iload_n 1, 1) := by decide +kernel
theorem dX11_goose_5 : decode cX11_goose 5 = .ok (.invokevirtual 123, 3) := by decide +kernel
theorem dX11_goose_8 : decode cX11_goose 8 = .ok (.ifCond .eq 12, 3) := by decide +kernel
theorem dX11_goose_20 : decode cX11_goose 20 = .ok (.bipush (-2), 2) := by decide +kernel
theorem dX11_goose_22 : decode cX11_goose 22 = .ok (.ireturn, 1) := by decide +kernel
theorem dX11_flight_0 : decode cX11_flight 0 = .ok (.aload_n 0, 1) := by decide +kernel
theorem dX11_flight_1 : decode cX11_flight 1 = .ok (.getfield 33, 3) := by decide +kernel
theorem dX11_flight_4 : decode cX11_flight 4 = .ok (.iload_n 1, 1) := by decide +kernel
theorem dX11_flight_5 : decode cX11_flight 5 = .ok (.iload_n 2, 1) := by decide +kernel
theorem dX11_flight_6 : decode cX11_flight 6 = .ok (.iload_n 3, 1) := by decide +kernel
theorem dX11_flight_7 : decode cX11_flight 7 = .ok (.iload 4, 2) := by decide +kernel
theorem dX11_flight_9 : decode cX11_flight 9 = .ok (.invokevirtual 125, 3) := by decide +kernel
theorem dX11_flight_12 : decode cX11_flight 12 = .ok (.ireturn, 1) := by decide +kernel
theorem dX11_back_0 : decode cX11_back 0 = .ok (.aload_n 0, 1) := by decide +kernel
theorem dX11_back_1 : decode cX11_back 1 = .ok (.getfield 33, 3) := by decide +kernel
theorem dX11_back_4 : decode cX11_back 4 = .ok (.getfield 128, 3) := by decide +kernel
theorem dX11_back_7 : decode cX11_back 7 = .ok (.ifCond .ne 6, 3) := by decide +kernel
theorem dX11_back_10 : decode cX11_back 10 = .ok (.bipush (-3), 2) := by decide +kernel
theorem dX11_back_12 : decode cX11_back 12 = .ok (.ireturn, 1) := by decide +kernel
theorem dX11_read_0 : decode cX11_read 0 = .ok (.aload_n 0, 1) := by decide +kernel
theorem dX11_read_1 : decode cX11_read 1 = .ok (.iload_n 1, 1) := by decide +kernel
theorem dX11_read_2 : decode cX11_read 2 = .ok (.invokevirtual 129, 3) := by decide +kernel
theorem dX11_read_5 : decode cX11_read 5 = .ok (.astore_n 2, 1) := by decide +kernel
theorem dX11_read_6 : decode cX11_read 6 = .ok (.aload_n 2, 1) := by decide +kernel
theorem dX11_read_7 : decode cX11_read 7 = .ok (.ifnonnull 6, 3) := by decide +kernel
theorem dX11_read_10 : decode cX11_read 10 = .ok (.bipush (-2), 2) := by decide +kernel
theorem dX11_read_12 : decode cX11_read 12 = .ok (.ireturn, 1) := by decide +kernel
theorem dX11_read_13 : decode cX11_read 13 = .ok (.aload_n 2, 1) := by decide +kernel
theorem dX11_read_14 : decode cX11_read 14 = .ok (.getfield 133, 3) := by decide +kernel
theorem dX11_read_17 : decode cX11_read 17 = .ok (.ifCond .eq 9, 3) := by decide +kernel
theorem dX11_read_20 : decode cX11_read 20 = .ok (.aload_n 0, 1) := by decide +kernel
theorem dX11_read_21 : decode cX11_read 21 = .ok (.iconst 1, 1) := by decide +kernel
theorem dX11_read_22 : decode cX11_read 22 = .ok (.invokevirtual 137, 3) := by decide +kernel
theorem dX11_read_25 : decode cX11_read 25 = .ok (.ireturn, 1) := by decide +kernel
theorem dX11_learn_0 : decode cX11_learn 0 = .ok (.iload_n 1, 1) := by decide +kernel
theorem dX11_learn_1 : decode cX11_learn 1 = .ok (.ifCond .lt 9, 3) := by decide +kernel
theorem dX11_learn_4 : decode cX11_learn 4 = .ok (.iload_n 1, 1) := by decide +kernel
theorem dX11_learn_5 : decode cX11_learn 5 = .ok (.bipush 64, 2) := by decide +kernel
theorem dX11_learn_7 : decode cX11_learn 7 = .ok (.if_icmp .lt 6, 3) := by decide +kernel
theorem dX11_learn_10 : decode cX11_learn 10 = .ok (.bipush (-2), 2) := by decide +kernel
theorem dX11_learn_12 : decode cX11_learn 12 = .ok (.ireturn, 1) := by decide +kernel
theorem dX11_learn_13 : decode cX11_learn 13 = .ok (.aload_n 0, 1) := by decide +kernel
theorem dX11_learn_14 : decode cX11_learn 14 = .ok (.getfield 146, 3) := by decide +kernel
theorem dX11_learn_17 : decode cX11_learn 17 = .ok (.istore_n 2, 1) := by decide +kernel
theorem dX11_learn_18 : decode cX11_learn 18 = .ok (.aload_n 0, 1) := by decide +kernel
theorem dX11_learn_19 : decode cX11_learn 19 = .ok (.iload_n 1, 1) := by decide +kernel
theorem dX11_learn_20 : decode cX11_learn 20 = .ok (.putfield 146, 3) := by decide +kernel
theorem dX11_learn_23 : decode cX11_learn 23 = .ok (.iload_n 2, 1) := by decide +kernel
theorem dX11_learn_24 : decode cX11_learn 24 = .ok (.ireturn, 1) := by decide +kernel
theorem dX11_comes_0 : decode cX11_comes 0 = .ok (.aload_n 0, 1) := by decide +kernel
theorem dX11_comes_1 : decode cX11_comes 1 = .ok (.getfield 33, 3) := by decide +kernel
theorem dX11_comes_4 : decode cX11_comes 4 = .ok (.iload_n 1, 1) := by decide +kernel
theorem dX11_comes_5 : decode cX11_comes 5 = .ok (.invokevirtual 149, 3) := by decide +kernel
theorem dX11_comes_8 : decode cX11_comes 8 = .ok (.ifCond .eq 12, 3) := by decide +kernel
theorem dX11_comes_20 : decode cX11_comes 20 = .ok (.bipush (-2), 2) := by decide +kernel
theorem dX11_comes_22 : decode cX11_comes 22 = .ok (.ireturn, 1) := by decide +kernel
theorem dX11_behind_0 : decode cX11_behind 0 = .ok (.aload_n 0, 1) := by decide +kernel
theorem dX11_behind_1 : decode cX11_behind 1 = .ok (.getfield 33, 3) := by decide +kernel
theorem dX11_behind_4 : decode cX11_behind 4 = .ok (.iload_n 1, 1) := by decide +kernel
theorem dX11_behind_5 : decode cX11_behind 5 = .ok (.invokevirtual 149, 3) := by decide +kernel
theorem dX11_behind_8 : decode cX11_behind 8 = .ok (.ifCond .eq 23, 3) := by decide +kernel
theorem dX11_behind_31 : decode cX11_behind 31 = .ok (.bipush (-2), 2) := by decide +kernel
theorem dX11_behind_33 : decode cX11_behind 33 = .ok (.ireturn, 1) := by decide +kernel
theorem dX11_farthest_0 : decode cX11_farthest 0 = .ok (.iconst (-1), 1) := by decide +kernel
theorem dX11_farthest_1 : decode cX11_farthest 1 = .ok (.istore_n 1, 1) := by decide +kernel
theorem dX11_farthest_2 : decode cX11_farthest 2 = .ok (.iconst (-1), 1) := by decide +kernel
theorem dX11_farthest_3 : decode cX11_farthest 3 = .ok (.istore_n 2, 1) := by decide +kernel
theorem dX11_farthest_4 : decode cX11_farthest 4 = .ok (.iconst 0, 1) := by decide +kernel
theorem dX11_farthest_5 : decode cX11_farthest 5 = .ok (.istore_n 3, 1) := by decide +kernel
theorem dX11_farthest_6 : decode cX11_farthest 6 = .ok (.iload_n 3, 1) := by decide +kernel
theorem dX11_farthest_7 : decode cX11_farthest 7 = .ok (.aload_n 0, 1) := by decide +kernel
theorem dX11_farthest_8 : decode cX11_farthest 8 = .ok (.getfield 33, 3) := by decide +kernel
theorem dX11_farthest_11 : decode cX11_farthest 11 = .ok (.getfield 128, 3) := by decide +kernel
theorem dX11_farthest_14 : decode cX11_farthest 14 = .ok (.if_icmp .ge 64, 3) := by decide +kernel
theorem dX11_farthest_78 : decode cX11_farthest 78 = .ok (.iload_n 1, 1) := by decide +kernel
theorem dX11_farthest_79 : decode cX11_farthest 79 = .ok (.ireturn, 1) := by decide +kernel
theorem dX11_climb_0 : decode cX11_climb 0 = .ok (.aload_n 0, 1) := by decide +kernel
theorem dX11_climb_1 : decode cX11_climb 1 = .ok (.getfield 33, 3) := by decide +kernel
theorem dX11_climb_4 : decode cX11_climb 4 = .ok (.iload_n 1, 1) := by decide +kernel
theorem dX11_climb_5 : decode cX11_climb 5 = .ok (.invokevirtual 149, 3) := by decide +kernel
theorem dX11_climb_8 : decode cX11_climb 8 = .ok (.ifCond .eq 13, 3) := by decide +kernel
theorem dX11_climb_21 : decode cX11_climb 21 = .ok (.bipush (-2), 2) := by decide +kernel
theorem dX11_climb_23 : decode cX11_climb 23 = .ok (.ireturn, 1) := by decide +kernel
theorem dX11_practice_0 : decode cX11_practice 0 = .ok (.aload_n 0, 1) := by decide +kernel
theorem dX11_practice_1 : decode cX11_practice 1 = .ok (.getfield 33, 3) := by decide +kernel
theorem dX11_practice_4 : decode cX11_practice 4 = .ok (.iload_n 1, 1) := by decide +kernel
theorem dX11_practice_5 : decode cX11_practice 5 = .ok (.invokevirtual 149, 3) := by decide +kernel
theorem dX11_practice_8 : decode cX11_practice 8 = .ok (.ifCond .eq 12, 3) := by decide +kernel
theorem dX11_practice_20 : decode cX11_practice 20 = .ok (.bipush (-2), 2) := by decide +kernel
theorem dX11_practice_22 : decode cX11_practice 22 = .ok (.ireturn, 1) := by decide +kernel
theorem dX11_pair_0 : decode cX11_pair 0 = .ok (.aload_n 0, 1) := by decide +kernel
theorem dX11_pair_1 : decode cX11_pair 1 = .ok (.getfield 33, 3) := by decide +kernel
theorem dX11_pair_4 : decode cX11_pair 4 = .ok (.iload_n 1, 1) := by decide +kernel
theorem dX11_pair_5 : decode cX11_pair 5 = .ok (.invokevirtual 149, 3) := by decide +kernel
theorem dX11_pair_8 : decode cX11_pair 8 = .ok (.ifCond .eq 12, 3) := by decide +kernel
theorem dX11_pair_20 : decode cX11_pair 20 = .ok (.bipush (-2), 2) := by decide +kernel
theorem dX11_pair_22 : decode cX11_pair 22 = .ok (.ireturn, 1) := by decide +kernel
theorem dX11_seen_0 : decode cX11_seen 0 = .ok (.iload_n 1, 1) := by decide +kernel
theorem dX11_seen_1 : decode cX11_seen 1 = .ok (.ifCond .lt 19, 3) := by decide +kernel
theorem dX11_seen_4 : decode cX11_seen 4 = .ok (.iload_n 1, 1) := by decide +kernel
theorem dX11_seen_5 : decode cX11_seen 5 = .ok (.bipush 8, 2) := by decide +kernel
theorem dX11_seen_7 : decode cX11_seen 7 = .ok (.if_icmp .ge 13, 3) := by decide +kernel
theorem dX11_seen_10 : decode cX11_seen 10 = .ok (.iload_n 2, 1) := by decide +kernel
theorem dX11_seen_11 : decode cX11_seen 11 = .ok (.ifCond .lt 9, 3) := by decide +kernel
theorem dX11_seen_14 : decode cX11_seen 14 = .ok (.iload_n 2, 1) := by decide +kernel
theorem dX11_seen_15 : decode cX11_seen 15 = .ok (.bipush 24, 2) := by decide +kernel
theorem dX11_seen_17 : decode cX11_seen 17 = .ok (.if_icmp .le 6, 3) := by decide +kernel
theorem dX11_seen_20 : decode cX11_seen 20 = .ok (.bipush (-2), 2) := by decide +kernel
theorem dX11_seen_22 : decode cX11_seen 22 = .ok (.ireturn, 1) := by decide +kernel
theorem dX11_seen_23 : decode cX11_seen 23 = .ok (.aload_n 0, 1) := by decide +kernel
theorem dX11_seen_24 : decode cX11_seen 24 = .ok (.getfield 193, 3) := by decide +kernel
theorem dX11_seen_27 : decode cX11_seen 27 = .ok (.ifCond .lt 12, 3) := by decide +kernel
theorem dX11_seen_30 : decode cX11_seen 30 = .ok (.aload_n 0, 1) := by decide +kernel
theorem dX11_seen_31 : decode cX11_seen 31 = .ok (.getfield 193, 3) := by decide +kernel
theorem dX11_seen_34 : decode cX11_seen 34 = .ok (.bipush 8, 2) := by decide +kernel
theorem dX11_seen_36 : decode cX11_seen 36 = .ok (.if_icmp .lt 6, 3) := by decide +kernel
theorem dX11_seen_42 : decode cX11_seen 42 = .ok (.aload_n 0, 1) := by decide +kernel
theorem dX11_seen_43 : decode cX11_seen 43 = .ok (.getfield 67, 3) := by decide +kernel
theorem dX11_seen_46 : decode cX11_seen 46 = .ok (.aload_n 0, 1) := by decide +kernel
theorem dX11_seen_47 : decode cX11_seen 47 = .ok (.getfield 193, 3) := by decide +kernel
theorem dX11_seen_50 : decode cX11_seen 50 = .ok (.iload_n 1, 1) := by decide +kernel
theorem dX11_seen_51 : decode cX11_seen 51 = .ok (.iastore, 1) := by decide +kernel
theorem dX11_seen_52 : decode cX11_seen 52 = .ok (.aload_n 0, 1) := by decide +kernel
theorem dX11_seen_53 : decode cX11_seen 53 = .ok (.getfield 71, 3) := by decide +kernel
theorem dX11_seen_56 : decode cX11_seen 56 = .ok (.aload_n 0, 1) := by decide +kernel
theorem dX11_seen_57 : decode cX11_seen 57 = .ok (.getfield 193, 3) := by decide +kernel
theorem dX11_seen_60 : decode cX11_seen 60 = .ok (.iload_n 2, 1) := by decide +kernel
theorem dX11_seen_61 : decode cX11_seen 61 = .ok (.iastore, 1) := by decide +kernel
theorem dX11_seen_62 : decode cX11_seen 62 = .ok (.aload_n 0, 1) := by decide +kernel
theorem dX11_seen_63 : decode cX11_seen 63 = .ok (.dup, 1) := by decide +kernel
theorem dX11_seen_64 : decode cX11_seen 64 = .ok (.getfield 193, 3) := by decide +kernel
theorem dX11_seen_67 : decode cX11_seen 67 = .ok (.iconst 1, 1) := by decide +kernel
theorem dX11_seen_68 : decode cX11_seen 68 = .ok (.iadd, 1) := by decide +kernel
theorem dX11_seen_69 : decode cX11_seen 69 = .ok (.putfield 193, 3) := by decide +kernel
theorem dX11_seen_72 : decode cX11_seen 72 = .ok (.aload_n 0, 1) := by decide +kernel
theorem dX11_seen_73 : decode cX11_seen 73 = .ok (.getfield 193, 3) := by decide +kernel
theorem dX11_seen_76 : decode cX11_seen 76 = .ok (.ireturn, 1) := by decide +kernel
theorem dX11_forget_0 : decode cX11_forget 0 = .ok (.aload_n 0, 1) := by decide +kernel
theorem dX11_forget_1 : decode cX11_forget 1 = .ok (.getfield 193, 3) := by decide +kernel
theorem dX11_forget_4 : decode cX11_forget 4 = .ok (.istore_n 1, 1) := by decide +kernel
theorem dX11_forget_5 : decode cX11_forget 5 = .ok (.aload_n 0, 1) := by decide +kernel
theorem dX11_forget_6 : decode cX11_forget 6 = .ok (.iconst 0, 1) := by decide +kernel
theorem dX11_forget_7 : decode cX11_forget 7 = .ok (.putfield 193, 3) := by decide +kernel
theorem dX11_forget_10 : decode cX11_forget 10 = .ok (.iload_n 1, 1) := by decide +kernel
theorem dX11_forget_11 : decode cX11_forget 11 = .ok (.ireturn, 1) := by decide +kernel
theorem dX11_sores_0 : decode cX11_sores 0 = .ok (.aload_n 0, 1) := by decide +kernel
theorem dX11_sores_1 : decode cX11_sores 1 = .ok (.getfield 19, 3) := by decide +kernel
theorem dX11_sores_4 : decode cX11_sores 4 = .ok (.iload_n 1, 1) := by decide +kernel
theorem dX11_sores_5 : decode cX11_sores 5 = .ok (.invokevirtual 115, 3) := by decide +kernel
theorem dX11_sores_8 : decode cX11_sores 8 = .ok (.ifCond .ne 6, 3) := by decide +kernel
theorem dX11_sores_11 : decode cX11_sores 11 = .ok (.bipush (-2), 2) := by decide +kernel
theorem dX11_sores_13 : decode cX11_sores 13 = .ok (.ireturn, 1) := by decide +kernel
theorem dX11_high_0 : decode cX11_high 0 = .ok (.aload_n 0, 1) := by decide +kernel
theorem dX11_high_1 : decode cX11_high 1 = .ok (.getfield 33, 3) := by decide +kernel
theorem dX11_high_4 : decode cX11_high 4 = .ok (.iload_n 1, 1) := by decide +kernel
theorem dX11_high_5 : decode cX11_high 5 = .ok (.invokevirtual 149, 3) := by decide +kernel
theorem dX11_high_8 : decode cX11_high 8 = .ok (.ifCond .ne 6, 3) := by decide +kernel
theorem dX11_high_11 : decode cX11_high 11 = .ok (.bipush (-2), 2) := by decide +kernel
theorem dX11_high_13 : decode cX11_high 13 = .ok (.ireturn, 1) := by decide +kernel
theorem dX11_ask_0 : decode cX11_ask 0 = .ok (.aload_n 0, 1) := by decide +kernel
theorem dX11_ask_1 : decode cX11_ask 1 = .ok (.getfield 19, 3) := by decide +kernel
theorem dX11_ask_4 : decode cX11_ask 4 = .ok (.iload_n 1, 1) := by decide +kernel
theorem dX11_ask_5 : decode cX11_ask 5 = .ok (.invokevirtual 115, 3) := by decide +kernel
theorem dX11_ask_8 : decode cX11_ask 8 = .ok (.ifCond .ne 6, 3) := by decide +kernel
theorem dX11_ask_11 : decode cX11_ask 11 = .ok (.bipush (-2), 2) := by decide +kernel
theorem dX11_ask_13 : decode cX11_ask 13 = .ok (.ireturn, 1) := by decide +kernel
theorem dX11_laugh_0 : decode cX11_laugh 0 = .ok (.iload_n 1, 1) := by decide +kernel
theorem dX11_laugh_1 : decode cX11_laugh 1 = .ok (.ifCond .lt 41, 3) := by decide +kernel
theorem dX11_laugh_4 : decode cX11_laugh 4 = .ok (.iload_n 1, 1) := by decide +kernel
theorem dX11_laugh_5 : decode cX11_laugh 5 = .ok (.bipush 16, 2) := by decide +kernel
theorem dX11_laugh_7 : decode cX11_laugh 7 = .ok (.if_icmp .gt 35, 3) := by decide +kernel
theorem dX11_laugh_10 : decode cX11_laugh 10 = .ok (.aload_n 0, 1) := by decide +kernel
theorem dX11_laugh_11 : decode cX11_laugh 11 = .ok (.getfield 33, 3) := by decide +kernel
theorem dX11_laugh_14 : decode cX11_laugh 14 = .ok (.iload_n 2, 1) := by decide +kernel
theorem dX11_laugh_15 : decode cX11_laugh 15 = .ok (.invokevirtual 149, 3) := by decide +kernel
theorem dX11_laugh_18 : decode cX11_laugh 18 = .ok (.ifCond .eq 24, 3) := by decide +kernel
theorem dX11_laugh_42 : decode cX11_laugh 42 = .ok (.ldc2_w 210, 3) := by decide +kernel
theorem dX11_laugh_45 : decode cX11_laugh 45 = .ok (.lreturn, 1) := by decide +kernel
theorem dX11_lakes_0 : decode cX11_lakes 0 = .ok (.iload_n 2, 1) := by decide +kernel
theorem dX11_lakes_1 : decode cX11_lakes 1 = .ok (.iconst 1, 1) := by decide +kernel
theorem dX11_lakes_2 : decode cX11_lakes 2 = .ok (.if_icmp .lt 18, 3) := by decide +kernel
theorem dX11_lakes_5 : decode cX11_lakes 5 = .ok (.iload_n 2, 1) := by decide +kernel
theorem dX11_lakes_6 : decode cX11_lakes 6 = .ok (.bipush 99, 2) := by decide +kernel
theorem dX11_lakes_8 : decode cX11_lakes 8 = .ok (.if_icmp .gt 12, 3) := by decide +kernel
theorem dX11_lakes_11 : decode cX11_lakes 11 = .ok (.iload_n 3, 1) := by decide +kernel
theorem dX11_lakes_12 : decode cX11_lakes 12 = .ok (.ifCond .lt 8, 3) := by decide +kernel
theorem dX11_lakes_15 : decode cX11_lakes 15 = .ok (.iload_n 3, 1) := by decide +kernel
theorem dX11_lakes_16 : decode cX11_lakes 16 = .ok (.iconst 1, 1) := by decide +kernel
theorem dX11_lakes_17 : decode cX11_lakes 17 = .ok (.if_icmp .le 6, 3) := by decide +kernel
theorem dX11_lakes_20 : decode cX11_lakes 20 = .ok (.bipush (-2), 2) := by decide +kernel
theorem dX11_lakes_22 : decode cX11_lakes 22 = .ok (.ireturn, 1) := by decide +kernel
theorem dX11_lakes_23 : decode cX11_lakes 23 = .ok (.aload_n 0, 1) := by decide +kernel
theorem dX11_lakes_24 : decode cX11_lakes 24 = .ok (.getfield 19, 3) := by decide +kernel
theorem dX11_lakes_27 : decode cX11_lakes 27 = .ok (.getfield 223, 3) := by decide +kernel
theorem dX11_lakes_30 : decode cX11_lakes 30 = .ok (.iconst 1, 1) := by decide +kernel
theorem dX11_lakes_31 : decode cX11_lakes 31 = .ok (.if_icmp .lt 14, 3) := by decide +kernel
theorem dX11_lakes_45 : decode cX11_lakes 45 = .ok (.iconst 0, 1) := by decide +kernel
theorem dX11_lakes_46 : decode cX11_lakes 46 = .ok (.ireturn, 1) := by decide +kernel
theorem dX11_sheet_0 : decode cX11_sheet 0 = .ok (.aload_n 0, 1) := by decide +kernel
theorem dX11_sheet_1 : decode cX11_sheet 1 = .ok (.iload_n 1, 1) := by decide +kernel
theorem dX11_sheet_2 : decode cX11_sheet 2 = .ok (.invokevirtual 129, 3) := by decide +kernel
theorem dX11_sheet_5 : decode cX11_sheet 5 = .ok (.astore 4, 2) := by decide +kernel
theorem dX11_sheet_7 : decode cX11_sheet 7 = .ok (.aload 4, 2) := by decide +kernel
theorem dX11_sheet_9 : decode cX11_sheet 9 = .ok (.ifnull 16, 3) := by decide +kernel
theorem dX11_sheet_12 : decode cX11_sheet 12 = .ok (.iload_n 2, 1) := by decide +kernel
theorem dX11_sheet_13 : decode cX11_sheet 13 = .ok (.invokestatic 230, 3) := by decide +kernel
theorem dX11_sheet_16 : decode cX11_sheet 16 = .ok (.ifCond .eq 9, 3) := by decide +kernel
theorem dX11_sheet_19 : decode cX11_sheet 19 = .ok (.iload_n 3, 1) := by decide +kernel
theorem dX11_sheet_20 : decode cX11_sheet 20 = .ok (.bipush 60, 2) := by decide +kernel
theorem dX11_sheet_22 : decode cX11_sheet 22 = .ok (.if_icmp .le 6, 3) := by decide +kernel
theorem dX11_sheet_25 : decode cX11_sheet 25 = .ok (.bipush (-2), 2) := by decide +kernel
theorem dX11_sheet_27 : decode cX11_sheet 27 = .ok (.ireturn, 1) := by decide +kernel
theorem dX11_sheet_28 : decode cX11_sheet 28 = .ok (.iload_n 3, 1) := by decide +kernel
theorem dX11_sheet_29 : decode cX11_sheet 29 = .ok (.ifCond .ge 9, 3) := by decide +kernel
theorem dX11_sheet_32 : decode cX11_sheet 32 = .ok (.aload_n 0, 1) := by decide +kernel
theorem dX11_sheet_33 : decode cX11_sheet 33 = .ok (.iconst 5, 1) := by decide +kernel
theorem dX11_sheet_34 : decode cX11_sheet 34 = .ok (.invokevirtual 137, 3) := by decide +kernel
theorem dX11_sheet_37 : decode cX11_sheet 37 = .ok (.ireturn, 1) := by decide +kernel
theorem dX11_sheet_38 : decode cX11_sheet 38 = .ok (.aload 4, 2) := by decide +kernel
theorem dX11_sheet_40 : decode cX11_sheet 40 = .ok (.iload_n 2, 1) := by decide +kernel
theorem dX11_sheet_41 : decode cX11_sheet 41 = .ok (.iload_n 3, 1) := by decide +kernel
theorem dX11_sheet_42 : decode cX11_sheet 42 = .ok (.invokevirtual 233, 3) := by decide +kernel
theorem dX11_sheet_45 : decode cX11_sheet 45 = .ok (.iload_n 3, 1) := by decide +kernel
theorem dX11_sheet_46 : decode cX11_sheet 46 = .ok (.ireturn, 1) := by decide +kernel
theorem dX11_lose_0 : decode cX11_lose 0 = .ok (.aload_n 0, 1) := by decide +kernel
theorem dX11_lose_1 : decode cX11_lose 1 = .ok (.iload_n 1, 1) := by decide +kernel
theorem dX11_lose_2 : decode cX11_lose 2 = .ok (.invokevirtual 129, 3) := by decide +kernel
theorem dX11_lose_5 : decode cX11_lose 5 = .ok (.astore_n 2, 1) := by decide +kernel
theorem dX11_lose_6 : decode cX11_lose 6 = .ok (.aload_n 2, 1) := by decide +kernel
theorem dX11_lose_7 : decode cX11_lose 7 = .ok (.ifnonnull 6, 3) := by decide +kernel
theorem dX11_lose_10 : decode cX11_lose 10 = .ok (.bipush (-2), 2) := by decide +kernel
theorem dX11_lose_12 : decode cX11_lose 12 = .ok (.ireturn, 1) := by decide +kernel
theorem dX11_lose_13 : decode cX11_lose 13 = .ok (.aload_n 2, 1) := by decide +kernel
theorem dX11_lose_14 : decode cX11_lose 14 = .ok (.getfield 133, 3) := by decide +kernel
theorem dX11_lose_17 : decode cX11_lose 17 = .ok (.ifCond .eq 9, 3) := by decide +kernel
theorem dX11_lose_20 : decode cX11_lose 20 = .ok (.aload_n 0, 1) := by decide +kernel
theorem dX11_lose_21 : decode cX11_lose 21 = .ok (.iconst 1, 1) := by decide +kernel
theorem dX11_lose_22 : decode cX11_lose 22 = .ok (.invokevirtual 137, 3) := by decide +kernel
theorem dX11_lose_25 : decode cX11_lose 25 = .ok (.ireturn, 1) := by decide +kernel
theorem dX11_lay_0 : decode cX11_lay 0 = .ok (.aload_n 0, 1) := by decide +kernel
theorem dX11_lay_1 : decode cX11_lay 1 = .ok (.iload_n 1, 1) := by decide +kernel
theorem dX11_lay_2 : decode cX11_lay 2 = .ok (.invokevirtual 129, 3) := by decide +kernel
theorem dX11_lay_5 : decode cX11_lay 5 = .ok (.astore 5, 2) := by decide +kernel
theorem dX11_lay_7 : decode cX11_lay 7 = .ok (.aload 5, 2) := by decide +kernel
theorem dX11_lay_9 : decode cX11_lay 9 = .ok (.ifnull 10, 3) := by decide +kernel
theorem dX11_lay_12 : decode cX11_lay 12 = .ok (.iload_n 2, 1) := by decide +kernel
theorem dX11_lay_13 : decode cX11_lay 13 = .ok (.invokestatic 230, 3) := by decide +kernel
theorem dX11_lay_16 : decode cX11_lay 16 = .ok (.ifCond .ne 6, 3) := by decide +kernel
theorem dX11_lay_19 : decode cX11_lay 19 = .ok (.bipush (-2), 2) := by decide +kernel
theorem dX11_lay_21 : decode cX11_lay 21 = .ok (.ireturn, 1) := by decide +kernel
theorem dX11_lay_22 : decode cX11_lay 22 = .ok (.aload_n 0, 1) := by decide +kernel
theorem dX11_lay_23 : decode cX11_lay 23 = .ok (.aload 5, 2) := by decide +kernel
theorem dX11_lay_25 : decode cX11_lay 25 = .ok (.iload_n 2, 1) := by decide +kernel
theorem dX11_lay_26 : decode cX11_lay 26 = .ok (.iload_n 3, 1) := by decide +kernel
theorem dX11_lay_27 : decode cX11_lay 27 = .ok (.invokevirtual 237, 3) := by decide +kernel
theorem dX11_lay_30 : decode cX11_lay 30 = .ok (.istore 6, 2) := by decide +kernel
theorem dX11_lay_32 : decode cX11_lay 32 = .ok (.iload 6, 2) := by decide +kernel
theorem dX11_lay_34 : decode cX11_lay 34 = .ok (.ifCond .eq 6, 3) := by decide +kernel
theorem dX11_lay_37 : decode cX11_lay 37 = .ok (.iload 6, 2) := by decide +kernel
theorem dX11_lay_39 : decode cX11_lay 39 = .ok (.ireturn, 1) := by decide +kernel
theorem dX11_get_0 : decode cX11_get 0 = .ok (.aload_n 0, 1) := by decide +kernel
theorem dX11_get_1 : decode cX11_get 1 = .ok (.iload_n 1, 1) := by decide +kernel
theorem dX11_get_2 : decode cX11_get 2 = .ok (.invokevirtual 129, 3) := by decide +kernel
theorem dX11_get_5 : decode cX11_get 5 = .ok (.astore 4, 2) := by decide +kernel
theorem dX11_get_7 : decode cX11_get 7 = .ok (.aload 4, 2) := by decide +kernel
theorem dX11_get_9 : decode cX11_get 9 = .ok (.ifnull 21, 3) := by decide +kernel
theorem dX11_get_12 : decode cX11_get 12 = .ok (.iload_n 2, 1) := by decide +kernel
theorem dX11_get_13 : decode cX11_get 13 = .ok (.invokestatic 230, 3) := by decide +kernel
theorem dX11_get_16 : decode cX11_get 16 = .ok (.ifCond .eq 14, 3) := by decide +kernel
theorem dX11_get_19 : decode cX11_get 19 = .ok (.aload_n 0, 1) := by decide +kernel
theorem dX11_get_20 : decode cX11_get 20 = .ok (.aload 4, 2) := by decide +kernel
theorem dX11_get_22 : decode cX11_get 22 = .ok (.iload_n 2, 1) := by decide +kernel
theorem dX11_get_23 : decode cX11_get 23 = .ok (.iload_n 3, 1) := by decide +kernel
theorem dX11_get_24 : decode cX11_get 24 = .ok (.invokevirtual 237, 3) := by decide +kernel
theorem dX11_get_27 : decode cX11_get 27 = .ok (.ifCond .eq 6, 3) := by decide +kernel
theorem dX11_get_30 : decode cX11_get 30 = .ok (.ldc 244, 2) := by decide +kernel
theorem dX11_get_32 : decode cX11_get 32 = .ok (.ireturn, 1) := by decide +kernel
theorem dX11_copy_0 : decode cX11_copy 0 = .ok (.aload_n 0, 1) := by decide +kernel
theorem dX11_copy_1 : decode cX11_copy 1 = .ok (.iload_n 1, 1) := by decide +kernel
theorem dX11_copy_2 : decode cX11_copy 2 = .ok (.invokevirtual 129, 3) := by decide +kernel
theorem dX11_copy_5 : decode cX11_copy 5 = .ok (.astore 6, 2) := by decide +kernel
theorem dX11_copy_7 : decode cX11_copy 7 = .ok (.aload_n 0, 1) := by decide +kernel
theorem dX11_copy_8 : decode cX11_copy 8 = .ok (.iload_n 3, 1) := by decide +kernel
theorem dX11_copy_9 : decode cX11_copy 9 = .ok (.invokevirtual 129, 3) := by decide +kernel
theorem dX11_copy_12 : decode cX11_copy 12 = .ok (.astore 7, 2) := by decide +kernel
theorem dX11_copy_14 : decode cX11_copy 14 = .ok (.aload 6, 2) := by decide +kernel
theorem dX11_copy_16 : decode cX11_copy 16 = .ok (.ifnull 8, 3) := by decide +kernel
theorem dX11_copy_19 : decode cX11_copy 19 = .ok (.aload 7, 2) := by decide +kernel
theorem dX11_copy_21 : decode cX11_copy 21 = .ok (.ifnonnull 6, 3) := by decide +kernel
theorem dX11_copy_24 : decode cX11_copy 24 = .ok (.bipush (-2), 2) := by decide +kernel
theorem dX11_copy_26 : decode cX11_copy 26 = .ok (.ireturn, 1) := by decide +kernel
theorem dX11_copy_27 : decode cX11_copy 27 = .ok (.aload 6, 2) := by decide +kernel
theorem dX11_copy_29 : decode cX11_copy 29 = .ok (.getfield 133, 3) := by decide +kernel
theorem dX11_copy_32 : decode cX11_copy 32 = .ok (.ifCond .ne 11, 3) := by decide +kernel
theorem dX11_copy_43 : decode cX11_copy 43 = .ok (.aload_n 0, 1) := by decide +kernel
theorem dX11_copy_44 : decode cX11_copy 44 = .ok (.iconst 1, 1) := by decide +kernel
theorem dX11_copy_45 : decode cX11_copy 45 = .ok (.invokevirtual 137, 3) := by decide +kernel
theorem dX11_copy_48 : decode cX11_copy 48 = .ok (.ireturn, 1) := by decide +kernel
theorem dX11_write_0 : decode cX11_write 0 = .ok (.aload_n 0, 1) := by decide +kernel
theorem dX11_write_1 : decode cX11_write 1 = .ok (.iload_n 3, 1) := by decide +kernel
theorem dX11_write_2 : decode cX11_write 2 = .ok (.invokevirtual 129, 3) := by decide +kernel
theorem dX11_write_5 : decode cX11_write 5 = .ok (.astore 4, 2) := by decide +kernel
theorem dX11_write_7 : decode cX11_write 7 = .ok (.aload_n 0, 1) := by decide +kernel
theorem dX11_write_8 : decode cX11_write 8 = .ok (.getfield 33, 3) := by decide +kernel
theorem dX11_write_11 : decode cX11_write 11 = .ok (.iload_n 1, 1) := by decide +kernel
theorem dX11_write_12 : decode cX11_write 12 = .ok (.invokevirtual 149, 3) := by decide +kernel
theorem dX11_write_15 : decode cX11_write 15 = .ok (.ifCond .eq 17, 3) := by decide +kernel
theorem dX11_write_32 : decode cX11_write 32 = .ok (.bipush (-2), 2) := by decide +kernel
theorem dX11_write_34 : decode cX11_write 34 = .ok (.ireturn, 1) := by decide +kernel
theorem dX11_count_0 : decode cX11_count 0 = .ok (.iload_n 1, 1) := by decide +kernel
theorem dX11_count_1 : decode cX11_count 1 = .ok (.tableswitch 117 0 8 #[51, 59, 67, 75, 83, 91, 99, 107, 112], 51) := by decide +kernel
theorem dX11_count_52 : decode cX11_count 52 = .ok (.aload_n 0, 1) := by decide +kernel
theorem dX11_count_53 : decode cX11_count 53 = .ok (.getfield 10, 3) := by decide +kernel
theorem dX11_count_56 : decode cX11_count 56 = .ok (.getfield 108, 3) := by decide +kernel
theorem dX11_count_59 : decode cX11_count 59 = .ok (.ireturn, 1) := by decide +kernel
theorem dX11_count_60 : decode cX11_count 60 = .ok (.aload_n 0, 1) := by decide +kernel
theorem dX11_count_61 : decode cX11_count 61 = .ok (.getfield 19, 3) := by decide +kernel
theorem dX11_count_64 : decode cX11_count 64 = .ok (.getfield 223, 3) := by decide +kernel
theorem dX11_count_67 : decode cX11_count 67 = .ok (.ireturn, 1) := by decide +kernel
theorem dX11_count_68 : decode cX11_count 68 = .ok (.aload_n 0, 1) := by decide +kernel
theorem dX11_count_69 : decode cX11_count 69 = .ok (.getfield 26, 3) := by decide +kernel
theorem dX11_count_72 : decode cX11_count 72 = .ok (.getfield 185, 3) := by decide +kernel
theorem dX11_count_75 : decode cX11_count 75 = .ok (.ireturn, 1) := by decide +kernel
theorem dX11_count_76 : decode cX11_count 76 = .ok (.aload_n 0, 1) := by decide +kernel
theorem dX11_count_77 : decode cX11_count 77 = .ok (.getfield 10, 3) := by decide +kernel
theorem dX11_count_80 : decode cX11_count 80 = .ok (.getfield 266, 3) := by decide +kernel
theorem dX11_count_83 : decode cX11_count 83 = .ok (.ireturn, 1) := by decide +kernel
theorem dX11_count_84 : decode cX11_count 84 = .ok (.aload_n 0, 1) := by decide +kernel
theorem dX11_count_85 : decode cX11_count 85 = .ok (.getfield 19, 3) := by decide +kernel
theorem dX11_count_88 : decode cX11_count 88 = .ok (.getfield 267, 3) := by decide +kernel
theorem dX11_count_91 : decode cX11_count 91 = .ok (.ireturn, 1) := by decide +kernel
theorem dX11_count_92 : decode cX11_count 92 = .ok (.aload_n 0, 1) := by decide +kernel
theorem dX11_count_93 : decode cX11_count 93 = .ok (.getfield 26, 3) := by decide +kernel
theorem dX11_count_96 : decode cX11_count 96 = .ok (.getfield 268, 3) := by decide +kernel
theorem dX11_count_99 : decode cX11_count 99 = .ok (.ireturn, 1) := by decide +kernel
theorem dX11_count_100 : decode cX11_count 100 = .ok (.aload_n 0, 1) := by decide +kernel
theorem dX11_count_101 : decode cX11_count 101 = .ok (.getfield 33, 3) := by decide +kernel
theorem dX11_count_104 : decode cX11_count 104 = .ok (.getfield 128, 3) := by decide +kernel
theorem dX11_count_107 : decode cX11_count 107 = .ok (.ireturn, 1) := by decide +kernel
theorem dX11_count_108 : decode cX11_count 108 = .ok (.aload_n 0, 1) := by decide +kernel
theorem dX11_count_109 : decode cX11_count 109 = .ok (.getfield 193, 3) := by decide +kernel
theorem dX11_count_112 : decode cX11_count 112 = .ok (.ireturn, 1) := by decide +kernel
theorem dX11_count_113 : decode cX11_count 113 = .ok (.aload_n 0, 1) := by decide +kernel
theorem dX11_count_114 : decode cX11_count 114 = .ok (.getfield 269, 3) := by decide +kernel
theorem dX11_count_117 : decode cX11_count 117 = .ok (.ireturn, 1) := by decide +kernel
theorem dX11_count_118 : decode cX11_count 118 = .ok (.bipush (-2), 2) := by decide +kernel
theorem dX11_count_120 : decode cX11_count 120 = .ok (.ireturn, 1) := by decide +kernel
theorem dX11_digest_0 : decode cX11_digest 0 = .ok (.ldc2_w 272, 3) := by decide +kernel
theorem dX11_digest_3 : decode cX11_digest 3 = .ok (.lstore_n 1, 1) := by decide +kernel
theorem dX11_digest_4 : decode cX11_digest 4 = .ok (.iconst 0, 1) := by decide +kernel
theorem dX11_digest_5 : decode cX11_digest 5 = .ok (.istore_n 3, 1) := by decide +kernel
theorem dX11_digest_6 : decode cX11_digest 6 = .ok (.iload_n 3, 1) := by decide +kernel
theorem dX11_digest_7 : decode cX11_digest 7 = .ok (.bipush 7, 2) := by decide +kernel
theorem dX11_digest_9 : decode cX11_digest 9 = .ok (.if_icmp .gt 22, 3) := by decide +kernel
theorem dX11_digest_12 : decode cX11_digest 12 = .ok (.ldc2_w 274, 3) := by decide +kernel
theorem dX11_digest_15 : decode cX11_digest 15 = .ok (.lload_n 1, 1) := by decide +kernel
theorem dX11_digest_16 : decode cX11_digest 16 = .ok (.lmul, 1) := by decide +kernel
theorem dX11_digest_17 : decode cX11_digest 17 = .ok (.aload_n 0, 1) := by decide +kernel
theorem dX11_digest_18 : decode cX11_digest 18 = .ok (.iload_n 3, 1) := by decide +kernel
theorem dX11_digest_19 : decode cX11_digest 19 = .ok (.invokevirtual 276, 3) := by decide +kernel
theorem dX11_digest_22 : decode cX11_digest 22 = .ok (.i2l, 1) := by decide +kernel
theorem dX11_digest_23 : decode cX11_digest 23 = .ok (.ladd, 1) := by decide +kernel
theorem dX11_digest_24 : decode cX11_digest 24 = .ok (.lstore_n 1, 1) := by decide +kernel
theorem dX11_digest_25 : decode cX11_digest 25 = .ok (.iinc 3 1, 3) := by decide +kernel
theorem dX11_digest_28 : decode cX11_digest 28 = .ok (.goto (-22), 3) := by decide +kernel
theorem dX11_digest_31 : decode cX11_digest 31 = .ok (.iconst 0, 1) := by decide +kernel
theorem dX11_digest_32 : decode cX11_digest 32 = .ok (.istore_n 3, 1) := by decide +kernel
theorem dX11_digest_33 : decode cX11_digest 33 = .ok (.iload_n 3, 1) := by decide +kernel
theorem dX11_digest_34 : decode cX11_digest 34 = .ok (.iconst 3, 1) := by decide +kernel
theorem dX11_digest_35 : decode cX11_digest 35 = .ok (.if_icmp .ge 22, 3) := by decide +kernel
theorem dX11_digest_38 : decode cX11_digest 38 = .ok (.ldc2_w 274, 3) := by decide +kernel
theorem dX11_digest_41 : decode cX11_digest 41 = .ok (.lload_n 1, 1) := by decide +kernel
theorem dX11_digest_42 : decode cX11_digest 42 = .ok (.lmul, 1) := by decide +kernel
theorem dX11_digest_43 : decode cX11_digest 43 = .ok (.aload_n 0, 1) := by decide +kernel
theorem dX11_digest_44 : decode cX11_digest 44 = .ok (.iload_n 3, 1) := by decide +kernel
theorem dX11_digest_45 : decode cX11_digest 45 = .ok (.invokevirtual 279, 3) := by decide +kernel
theorem dX11_digest_48 : decode cX11_digest 48 = .ok (.i2l, 1) := by decide +kernel
theorem dX11_digest_49 : decode cX11_digest 49 = .ok (.ladd, 1) := by decide +kernel
theorem dX11_digest_50 : decode cX11_digest 50 = .ok (.lstore_n 1, 1) := by decide +kernel
theorem dX11_digest_51 : decode cX11_digest 51 = .ok (.iinc 3 1, 3) := by decide +kernel
theorem dX11_digest_54 : decode cX11_digest 54 = .ok (.goto (-21), 3) := by decide +kernel
theorem dX11_digest_57 : decode cX11_digest 57 = .ok (.iconst 0, 1) := by decide +kernel
theorem dX11_digest_58 : decode cX11_digest 58 = .ok (.istore_n 3, 1) := by decide +kernel
theorem dX11_digest_59 : decode cX11_digest 59 = .ok (.iload_n 3, 1) := by decide +kernel
theorem dX11_digest_60 : decode cX11_digest 60 = .ok (.aload_n 0, 1) := by decide +kernel
theorem dX11_digest_61 : decode cX11_digest 61 = .ok (.getfield 10, 3) := by decide +kernel
theorem dX11_digest_64 : decode cX11_digest 64 = .ok (.getfield 108, 3) := by decide +kernel
theorem dX11_digest_67 : decode cX11_digest 67 = .ok (.if_icmp .ge 22, 3) := by decide +kernel
theorem dX11_digest_89 : decode cX11_digest 89 = .ok (.iconst 0, 1) := by decide +kernel
theorem dX11_digest_90 : decode cX11_digest 90 = .ok (.istore_n 3, 1) := by decide +kernel
theorem dX11_digest_91 : decode cX11_digest 91 = .ok (.iload_n 3, 1) := by decide +kernel
theorem dX11_digest_92 : decode cX11_digest 92 = .ok (.aload_n 0, 1) := by decide +kernel
theorem dX11_digest_93 : decode cX11_digest 93 = .ok (.getfield 19, 3) := by decide +kernel
theorem dX11_digest_96 : decode cX11_digest 96 = .ok (.getfield 223, 3) := by decide +kernel
theorem dX11_digest_99 : decode cX11_digest 99 = .ok (.if_icmp .ge 65, 3) := by decide +kernel
theorem dX11_digest_164 : decode cX11_digest 164 = .ok (.iconst 0, 1) := by decide +kernel
theorem dX11_digest_165 : decode cX11_digest 165 = .ok (.istore_n 3, 1) := by decide +kernel
theorem dX11_digest_166 : decode cX11_digest 166 = .ok (.iload_n 3, 1) := by decide +kernel
theorem dX11_digest_167 : decode cX11_digest 167 = .ok (.aload_n 0, 1) := by decide +kernel
theorem dX11_digest_168 : decode cX11_digest 168 = .ok (.getfield 26, 3) := by decide +kernel
theorem dX11_digest_171 : decode cX11_digest 171 = .ok (.getfield 185, 3) := by decide +kernel
theorem dX11_digest_174 : decode cX11_digest 174 = .ok (.if_icmp .ge 37, 3) := by decide +kernel
theorem dX11_digest_211 : decode cX11_digest 211 = .ok (.iconst 0, 1) := by decide +kernel
theorem dX11_digest_212 : decode cX11_digest 212 = .ok (.istore_n 3, 1) := by decide +kernel
theorem dX11_digest_213 : decode cX11_digest 213 = .ok (.iload_n 3, 1) := by decide +kernel
theorem dX11_digest_214 : decode cX11_digest 214 = .ok (.aload_n 0, 1) := by decide +kernel
theorem dX11_digest_215 : decode cX11_digest 215 = .ok (.getfield 33, 3) := by decide +kernel
theorem dX11_digest_218 : decode cX11_digest 218 = .ok (.getfield 128, 3) := by decide +kernel
theorem dX11_digest_221 : decode cX11_digest 221 = .ok (.if_icmp .ge 16, 3) := by decide +kernel
theorem dX11_digest_237 : decode cX11_digest 237 = .ok (.ldc2_w 274, 3) := by decide +kernel
theorem dX11_digest_240 : decode cX11_digest 240 = .ok (.lload_n 1, 1) := by decide +kernel
theorem dX11_digest_241 : decode cX11_digest 241 = .ok (.lmul, 1) := by decide +kernel
theorem dX11_digest_242 : decode cX11_digest 242 = .ok (.aload_n 0, 1) := by decide +kernel
theorem dX11_digest_243 : decode cX11_digest 243 = .ok (.invokevirtual 298, 3) := by decide +kernel
theorem dX11_digest_246 : decode cX11_digest 246 = .ok (.i2l, 1) := by decide +kernel
theorem dX11_digest_247 : decode cX11_digest 247 = .ok (.ladd, 1) := by decide +kernel
theorem dX11_digest_248 : decode cX11_digest 248 = .ok (.lstore_n 1, 1) := by decide +kernel
theorem dX11_digest_249 : decode cX11_digest 249 = .ok (.ldc2_w 274, 3) := by decide +kernel
theorem dX11_digest_252 : decode cX11_digest 252 = .ok (.lload_n 1, 1) := by decide +kernel
theorem dX11_digest_253 : decode cX11_digest 253 = .ok (.lmul, 1) := by decide +kernel
theorem dX11_digest_254 : decode cX11_digest 254 = .ok (.aload_n 0, 1) := by decide +kernel
theorem dX11_digest_255 : decode cX11_digest 255 = .ok (.bipush 7, 2) := by decide +kernel
theorem dX11_digest_257 : decode cX11_digest 257 = .ok (.bipush 30, 2) := by decide +kernel
theorem dX11_digest_259 : decode cX11_digest 259 = .ok (.iconst 0, 1) := by decide +kernel
