theorem dX12_mile_7 : decode cX12_mile 7 = .ok (.ldc2_w 144, 3) := by decide +kernel
theorem dX12_mile_10 : decode cX12_mile 10 = .ok (.invokestatic 65, 3) := by decide +kernel
theorem dX12_mile_13 : decode cX12_mile 13 = .ok (.ifCond .ne 8, 3) := by decide +kernel
theorem dX12_mile_16 : decode cX12_mile 16 = .ok (.bipush (-2), 2) := by decide +kernel
theorem dX12_mile_18 : decode cX12_mile 18 = .ok (.goto 21, 3) := by decide +kernel
theorem dX12_mile_21 : decode cX12_mile 21 = .ok (.iload_n 1, 1) := by decide +kernel
theorem dX12_mile_22 : decode cX12_mile 22 = .ok (.aload_n 0, 1) := by decide +kernel
theorem dX12_mile_23 : decode cX12_mile 23 = .ok (.getfield 107, 3) := by decide +kernel
theorem dX12_mile_26 : decode cX12_mile 26 = .ok (.if_icmp .ge 12, 3) := by decide +kernel
theorem dX12_mile_38 : decode cX12_mile 38 = .ok (.iconst (-1), 1) := by decide +kernel
theorem dX12_mile_39 : decode cX12_mile 39 = .ok (.ireturn, 1) := by decide +kernel
theorem dX12_passenger_0 : decode cX12_passenger 0 = .ok (.aload_n 0, 1) := by decide +kernel
theorem dX12_passenger_1 : decode cX12_passenger 1 = .ok (.invokevirtual 141, 3) := by decide +kernel
theorem dX12_passenger_4 : decode cX12_passenger 4 = .ok (.aload_n 0, 1) := by decide +kernel
theorem dX12_passenger_5 : decode cX12_passenger 5 = .ok (.iload_n 1, 1) := by decide +kernel
theorem dX12_passenger_6 : decode cX12_passenger 6 = .ok (.invokevirtual 146, 3) := by decide +kernel
theorem dX12_passenger_9 : decode cX12_passenger 9 = .ok (.ifCond .eq 28, 3) := by decide +kernel
theorem dX12_passenger_37 : decode cX12_passenger 37 = .ok (.bipush (-2), 2) := by decide +kernel
theorem dX12_passenger_39 : decode cX12_passenger 39 = .ok (.ireturn, 1) := by decide +kernel
theorem dX12_goose_0 : decode cX12_goose 0 = .ok (.aload_n 0, 1) := by decide +kernel
theorem dX12_goose_1 : decode cX12_goose 1 = .ok (.invokevirtual 141, 3) := by decide +kernel
theorem dX12_goose_4 : decode cX12_goose 4 = .ok (.aload_n 0, 1) := by decide +kernel
theorem dX12_goose_5 : decode cX12_goose 5 = .ok (.iload_n 1, 1) := by decide +kernel
theorem dX12_goose_6 : decode cX12_goose 6 = .ok (.invokevirtual 149, 3) := by decide +kernel
theorem dX12_goose_9 : decode cX12_goose 9 = .ok (.ifCond .eq 23, 3) := by decide +kernel
theorem dX12_goose_32 : decode cX12_goose 32 = .ok (.bipush (-2), 2) := by decide +kernel
theorem dX12_goose_34 : decode cX12_goose 34 = .ok (.ireturn, 1) := by decide +kernel
theorem dX12_flight_0 : decode cX12_flight 0 = .ok (.iload_n 1, 1) := by decide +kernel
theorem dX12_flight_1 : decode cX12_flight 1 = .ok (.i2l, 1) := by decide +kernel
theorem dX12_flight_2 : decode cX12_flight 2 = .ok (.lconst 0, 1) := by decide +kernel
theorem dX12_flight_3 : decode cX12_flight 3 = .ok (.ldc2_w 155, 3) := by decide +kernel
theorem dX12_flight_6 : decode cX12_flight 6 = .ok (.invokestatic 65, 3) := by decide +kernel
theorem dX12_flight_9 : decode cX12_flight 9 = .ok (.ifCond .eq 45, 3) := by decide +kernel
theorem dX12_flight_12 : decode cX12_flight 12 = .ok (.iload_n 2, 1) := by decide +kernel
theorem dX12_flight_13 : decode cX12_flight 13 = .ok (.i2l, 1) := by decide +kernel
theorem dX12_flight_14 : decode cX12_flight 14 = .ok (.lconst 0, 1) := by decide +kernel
theorem dX12_flight_15 : decode cX12_flight 15 = .ok (.ldc2_w 155, 3) := by decide +kernel
theorem dX12_flight_18 : decode cX12_flight 18 = .ok (.invokestatic 65, 3) := by decide +kernel
theorem dX12_flight_21 : decode cX12_flight 21 = .ok (.ifCond .eq 33, 3) := by decide +kernel
theorem dX12_flight_24 : decode cX12_flight 24 = .ok (.iload_n 3, 1) := by decide +kernel
theorem dX12_flight_25 : decode cX12_flight 25 = .ok (.i2l, 1) := by decide +kernel
theorem dX12_flight_26 : decode cX12_flight 26 = .ok (.lconst 0, 1) := by decide +kernel
theorem dX12_flight_27 : decode cX12_flight 27 = .ok (.ldc2_w 155, 3) := by decide +kernel
theorem dX12_flight_30 : decode cX12_flight 30 = .ok (.invokestatic 65, 3) := by decide +kernel
theorem dX12_flight_33 : decode cX12_flight 33 = .ok (.ifCond .eq 21, 3) := by decide +kernel
theorem dX12_flight_36 : decode cX12_flight 36 = .ok (.iload_n 2, 1) := by decide +kernel
theorem dX12_flight_37 : decode cX12_flight 37 = .ok (.iload_n 3, 1) := by decide +kernel
theorem dX12_flight_38 : decode cX12_flight 38 = .ok (.if_icmp .eq 16, 3) := by decide +kernel
theorem dX12_flight_41 : decode cX12_flight 41 = .ok (.iload 4, 2) := by decide +kernel
theorem dX12_flight_43 : decode cX12_flight 43 = .ok (.i2l, 1) := by decide +kernel
theorem dX12_flight_44 : decode cX12_flight 44 = .ok (.lconst 1, 1) := by decide +kernel
theorem dX12_flight_45 : decode cX12_flight 45 = .ok (.ldc2_w 157, 3) := by decide +kernel
theorem dX12_flight_48 : decode cX12_flight 48 = .ok (.invokestatic 65, 3) := by decide +kernel
theorem dX12_flight_51 : decode cX12_flight 51 = .ok (.ifCond .ne 6, 3) := by decide +kernel
theorem dX12_flight_54 : decode cX12_flight 54 = .ok (.bipush (-2), 2) := by decide +kernel
theorem dX12_flight_56 : decode cX12_flight 56 = .ok (.ireturn, 1) := by decide +kernel
theorem dX12_flight_57 : decode cX12_flight 57 = .ok (.aload_n 0, 1) := by decide +kernel
theorem dX12_flight_58 : decode cX12_flight 58 = .ok (.getfield 159, 3) := by decide +kernel
theorem dX12_flight_61 : decode cX12_flight 61 = .ok (.bipush 8, 2) := by decide +kernel
theorem dX12_flight_63 : decode cX12_flight 63 = .ok (.if_icmp .ne 6, 3) := by decide +kernel
theorem dX12_flight_69 : decode cX12_flight 69 = .ok (.aload_n 0, 1) := by decide +kernel
theorem dX12_flight_70 : decode cX12_flight 70 = .ok (.getfield 37, 3) := by decide +kernel
theorem dX12_flight_73 : decode cX12_flight 73 = .ok (.iconst 4, 1) := by decide +kernel
theorem dX12_flight_74 : decode cX12_flight 74 = .ok (.aload_n 0, 1) := by decide +kernel
theorem dX12_flight_75 : decode cX12_flight 75 = .ok (.getfield 159, 3) := by decide +kernel
theorem dX12_flight_78 : decode cX12_flight 78 = .ok (.imul, 1) := by decide +kernel
theorem dX12_flight_79 : decode cX12_flight 79 = .ok (.iload_n 1, 1) := by decide +kernel
theorem dX12_flight_80 : decode cX12_flight 80 = .ok (.iastore, 1) := by decide +kernel
theorem dX12_flight_81 : decode cX12_flight 81 = .ok (.aload_n 0, 1) := by decide +kernel
theorem dX12_flight_82 : decode cX12_flight 82 = .ok (.getfield 37, 3) := by decide +kernel
theorem dX12_flight_85 : decode cX12_flight 85 = .ok (.iconst 4, 1) := by decide +kernel
theorem dX12_flight_86 : decode cX12_flight 86 = .ok (.aload_n 0, 1) := by decide +kernel
theorem dX12_flight_87 : decode cX12_flight 87 = .ok (.getfield 159, 3) := by decide +kernel
theorem dX12_flight_90 : decode cX12_flight 90 = .ok (.imul, 1) := by decide +kernel
theorem dX12_flight_91 : decode cX12_flight 91 = .ok (.iconst 1, 1) := by decide +kernel
theorem dX12_flight_92 : decode cX12_flight 92 = .ok (.iadd, 1) := by decide +kernel
theorem dX12_flight_93 : decode cX12_flight 93 = .ok (.iload_n 2, 1) := by decide +kernel
theorem dX12_flight_94 : decode cX12_flight 94 = .ok (.iastore, 1) := by decide +kernel
theorem dX12_flight_95 : decode cX12_flight 95 = .ok (.aload_n 0, 1) := by decide +kernel
theorem dX12_flight_96 : decode cX12_flight 96 = .ok (.getfield 37, 3) := by decide +kernel
theorem dX12_flight_99 : decode cX12_flight 99 = .ok (.iconst 4, 1) := by decide +kernel
theorem dX12_flight_100 : decode cX12_flight 100 = .ok (.aload_n 0, 1) := by decide +kernel
theorem dX12_flight_101 : decode cX12_flight 101 = .ok (.getfield 159, 3) := by decide +kernel
theorem dX12_flight_104 : decode cX12_flight 104 = .ok (.imul, 1) := by decide +kernel
theorem dX12_flight_105 : decode cX12_flight 105 = .ok (.iconst 2, 1) := by decide +kernel
theorem dX12_flight_106 : decode cX12_flight 106 = .ok (.iadd, 1) := by decide +kernel
theorem dX12_flight_107 : decode cX12_flight 107 = .ok (.iload_n 3, 1) := by decide +kernel
theorem dX12_flight_108 : decode cX12_flight 108 = .ok (.iastore, 1) := by decide +kernel
theorem dX12_flight_109 : decode cX12_flight 109 = .ok (.aload_n 0, 1) := by decide +kernel
theorem dX12_flight_110 : decode cX12_flight 110 = .ok (.getfield 37, 3) := by decide +kernel
theorem dX12_flight_113 : decode cX12_flight 113 = .ok (.iconst 4, 1) := by decide +kernel
theorem dX12_flight_114 : decode cX12_flight 114 = .ok (.aload_n 0, 1) := by decide +kernel
theorem dX12_flight_115 : decode cX12_flight 115 = .ok (.getfield 159, 3) := by decide +kernel
theorem dX12_flight_118 : decode cX12_flight 118 = .ok (.imul, 1) := by decide +kernel
theorem dX12_flight_119 : decode cX12_flight 119 = .ok (.iconst 3, 1) := by decide +kernel
theorem dX12_flight_120 : decode cX12_flight 120 = .ok (.iadd, 1) := by decide +kernel
theorem dX12_flight_121 : decode cX12_flight 121 = .ok (.iload 4, 2) := by decide +kernel
theorem dX12_flight_123 : decode cX12_flight 123 = .ok (.iastore, 1) := by decide +kernel
theorem dX12_flight_124 : decode cX12_flight 124 = .ok (.aload_n 0, 1) := by decide +kernel
theorem dX12_flight_125 : decode cX12_flight 125 = .ok (.dup, 1) := by decide +kernel
theorem dX12_flight_126 : decode cX12_flight 126 = .ok (.getfield 159, 3) := by decide +kernel
theorem dX12_flight_129 : decode cX12_flight 129 = .ok (.iconst 1, 1) := by decide +kernel
theorem dX12_flight_130 : decode cX12_flight 130 = .ok (.iadd, 1) := by decide +kernel
theorem dX12_flight_131 : decode cX12_flight 131 = .ok (.putfield 159, 3) := by decide +kernel
theorem dX12_flight_134 : decode cX12_flight 134 = .ok (.aload_n 0, 1) := by decide +kernel
theorem dX12_flight_135 : decode cX12_flight 135 = .ok (.getfield 159, 3) := by decide +kernel
theorem dX12_flight_138 : decode cX12_flight 138 = .ok (.ireturn, 1) := by decide +kernel
theorem dX12_back_0 : decode cX12_back 0 = .ok (.aload_n 0, 1) := by decide +kernel
theorem dX12_back_1 : decode cX12_back 1 = .ok (.getfield 159, 3) := by decide +kernel
theorem dX12_back_4 : decode cX12_back 4 = .ok (.ifCond .ne 6, 3) := by decide +kernel
theorem dX12_back_7 : decode cX12_back 7 = .ok (.bipush (-3), 2) := by decide +kernel
theorem dX12_back_9 : decode cX12_back 9 = .ok (.ireturn, 1) := by decide +kernel
theorem dX12_read_0 : decode cX12_read 0 = .ok (.iload_n 1, 1) := by decide +kernel
theorem dX12_read_1 : decode cX12_read 1 = .ok (.invokestatic 74, 3) := by decide +kernel
theorem dX12_read_4 : decode cX12_read 4 = .ok (.ifCond .ne 6, 3) := by decide +kernel
theorem dX12_read_7 : decode cX12_read 7 = .ok (.bipush (-2), 2) := by decide +kernel
theorem dX12_read_9 : decode cX12_read 9 = .ok (.ireturn, 1) := by decide +kernel
theorem dX12_read_10 : decode cX12_read 10 = .ok (.aload_n 0, 1) := by decide +kernel
theorem dX12_read_11 : decode cX12_read 11 = .ok (.getfield 7, 3) := by decide +kernel
theorem dX12_read_14 : decode cX12_read 14 = .ok (.iload_n 1, 1) := by decide +kernel
theorem dX12_read_15 : decode cX12_read 15 = .ok (.iaload, 1) := by decide +kernel
theorem dX12_read_16 : decode cX12_read 16 = .ok (.ifCond .ge 9, 3) := by decide +kernel
theorem dX12_read_19 : decode cX12_read 19 = .ok (.aload_n 0, 1) := by decide +kernel
theorem dX12_read_20 : decode cX12_read 20 = .ok (.iconst 1, 1) := by decide +kernel
theorem dX12_read_21 : decode cX12_read 21 = .ok (.invokevirtual 80, 3) := by decide +kernel
theorem dX12_read_24 : decode cX12_read 24 = .ok (.ireturn, 1) := by decide +kernel
theorem dX12_learn_0 : decode cX12_learn 0 = .ok (.iload_n 1, 1) := by decide +kernel
theorem dX12_learn_1 : decode cX12_learn 1 = .ok (.i2l, 1) := by decide +kernel
theorem dX12_learn_2 : decode cX12_learn 2 = .ok (.lconst 0, 1) := by decide +kernel
theorem dX12_learn_3 : decode cX12_learn 3 = .ok (.ldc2_w 165, 3) := by decide +kernel
theorem dX12_learn_6 : decode cX12_learn 6 = .ok (.invokestatic 65, 3) := by decide +kernel
theorem dX12_learn_9 : decode cX12_learn 9 = .ok (.ifCond .ne 6, 3) := by decide +kernel
theorem dX12_learn_12 : decode cX12_learn 12 = .ok (.bipush (-2), 2) := by decide +kernel
theorem dX12_learn_14 : decode cX12_learn 14 = .ok (.ireturn, 1) := by decide +kernel
theorem dX12_learn_15 : decode cX12_learn 15 = .ok (.aload_n 0, 1) := by decide +kernel
theorem dX12_learn_16 : decode cX12_learn 16 = .ok (.getfield 167, 3) := by decide +kernel
theorem dX12_learn_19 : decode cX12_learn 19 = .ok (.istore_n 2, 1) := by decide +kernel
theorem dX12_learn_20 : decode cX12_learn 20 = .ok (.aload_n 0, 1) := by decide +kernel
theorem dX12_learn_21 : decode cX12_learn 21 = .ok (.iload_n 1, 1) := by decide +kernel
theorem dX12_learn_22 : decode cX12_learn 22 = .ok (.putfield 167, 3) := by decide +kernel
theorem dX12_learn_25 : decode cX12_learn 25 = .ok (.iload_n 2, 1) := by decide +kernel
theorem dX12_learn_26 : decode cX12_learn 26 = .ok (.ireturn, 1) := by decide +kernel
theorem dX12_isFlight_0 : decode cX12_isFlight 0 = .ok (.iload_n 1, 1) := by decide +kernel
theorem dX12_isFlight_1 : decode cX12_isFlight 1 = .ok (.i2l, 1) := by decide +kernel
theorem dX12_isFlight_2 : decode cX12_isFlight 2 = .ok (.lconst 0, 1) := by decide +kernel
theorem dX12_isFlight_3 : decode cX12_isFlight 3 = .ok (.aload_n 0, 1) := by decide +kernel
theorem dX12_isFlight_4 : decode cX12_isFlight 4 = .ok (.getfield 159, 3) := by decide +kernel
theorem dX12_isFlight_7 : decode cX12_isFlight 7 = .ok (.iconst 1, 1) := by decide +kernel
theorem dX12_isFlight_8 : decode cX12_isFlight 8 = .ok (.isub, 1) := by decide +kernel
theorem dX12_isFlight_9 : decode cX12_isFlight 9 = .ok (.i2l, 1) := by decide +kernel
theorem dX12_isFlight_10 : decode cX12_isFlight 10 = .ok (.invokestatic 65, 3) := by decide +kernel
theorem dX12_isFlight_13 : decode cX12_isFlight 13 = .ok (.ireturn, 1) := by decide +kernel
theorem dX12_comes_0 : decode cX12_comes 0 = .ok (.aload_n 0, 1) := by decide +kernel
theorem dX12_comes_1 : decode cX12_comes 1 = .ok (.invokevirtual 141, 3) := by decide +kernel
theorem dX12_comes_4 : decode cX12_comes 4 = .ok (.aload_n 0, 1) := by decide +kernel
theorem dX12_comes_5 : decode cX12_comes 5 = .ok (.iload_n 1, 1) := by decide +kernel
theorem dX12_comes_6 : decode cX12_comes 6 = .ok (.invokevirtual 212, 3) := by decide +kernel
theorem dX12_comes_9 : decode cX12_comes 9 = .ok (.ifCond .eq 24, 3) := by decide +kernel
theorem dX12_comes_33 : decode cX12_comes 33 = .ok (.bipush (-2), 2) := by decide +kernel
theorem dX12_comes_35 : decode cX12_comes 35 = .ok (.ireturn, 1) := by decide +kernel
theorem dX12_behind_0 : decode cX12_behind 0 = .ok (.aload_n 0, 1) := by decide +kernel
theorem dX12_behind_1 : decode cX12_behind 1 = .ok (.invokevirtual 141, 3) := by decide +kernel
theorem dX12_behind_4 : decode cX12_behind 4 = .ok (.aload_n 0, 1) := by decide +kernel
theorem dX12_behind_5 : decode cX12_behind 5 = .ok (.iload_n 1, 1) := by decide +kernel
theorem dX12_behind_6 : decode cX12_behind 6 = .ok (.invokevirtual 212, 3) := by decide +kernel
theorem dX12_behind_9 : decode cX12_behind 9 = .ok (.ifCond .eq 41, 3) := by decide +kernel
theorem dX12_behind_50 : decode cX12_behind 50 = .ok (.bipush (-2), 2) := by decide +kernel
theorem dX12_behind_52 : decode cX12_behind 52 = .ok (.ireturn, 1) := by decide +kernel
theorem dX12_farthestNow_0 : decode cX12_farthestNow 0 = .ok (.iconst (-1), 1) := by decide +kernel
theorem dX12_farthestNow_1 : decode cX12_farthestNow 1 = .ok (.istore_n 1, 1) := by decide +kernel
theorem dX12_farthestNow_2 : decode cX12_farthestNow 2 = .ok (.iconst 0, 1) := by decide +kernel
theorem dX12_farthestNow_3 : decode cX12_farthestNow 3 = .ok (.istore_n 2, 1) := by decide +kernel
theorem dX12_farthestNow_4 : decode cX12_farthestNow 4 = .ok (.iconst 0, 1) := by decide +kernel
theorem dX12_farthestNow_5 : decode cX12_farthestNow 5 = .ok (.istore_n 3, 1) := by decide +kernel
theorem dX12_farthestNow_6 : decode cX12_farthestNow 6 = .ok (.iload_n 3, 1) := by decide +kernel
theorem dX12_farthestNow_7 : decode cX12_farthestNow 7 = .ok (.aload_n 0, 1) := by decide +kernel
theorem dX12_farthestNow_8 : decode cX12_farthestNow 8 = .ok (.getfield 159, 3) := by decide +kernel
theorem dX12_farthestNow_11 : decode cX12_farthestNow 11 = .ok (.if_icmp .ge 76, 3) := by decide +kernel
theorem dX12_farthestNow_87 : decode cX12_farthestNow 87 = .ok (.iload_n 1, 1) := by decide +kernel
theorem dX12_farthestNow_88 : decode cX12_farthestNow 88 = .ok (.ireturn, 1) := by decide +kernel
theorem dX12_farthest_0 : decode cX12_farthest 0 = .ok (.aload_n 0, 1) := by decide +kernel
theorem dX12_farthest_1 : decode cX12_farthest 1 = .ok (.invokevirtual 141, 3) := by decide +kernel
theorem dX12_farthest_4 : decode cX12_farthest 4 = .ok (.aload_n 0, 1) := by decide +kernel
theorem dX12_farthest_5 : decode cX12_farthest 5 = .ok (.invokevirtual 221, 3) := by decide +kernel
theorem dX12_farthest_8 : decode cX12_farthest 8 = .ok (.ireturn, 1) := by decide +kernel
theorem dX12_climb_0 : decode cX12_climb 0 = .ok (.aload_n 0, 1) := by decide +kernel
theorem dX12_climb_1 : decode cX12_climb 1 = .ok (.invokevirtual 141, 3) := by decide +kernel
theorem dX12_climb_4 : decode cX12_climb 4 = .ok (.aload_n 0, 1) := by decide +kernel
theorem dX12_climb_5 : decode cX12_climb 5 = .ok (.iload_n 1, 1) := by decide +kernel
theorem dX12_climb_6 : decode cX12_climb 6 = .ok (.invokevirtual 212, 3) := by decide +kernel
theorem dX12_climb_9 : decode cX12_climb 9 = .ok (.ifCond .eq 26, 3) := by decide +kernel
theorem dX12_climb_35 : decode cX12_climb 35 = .ok (.bipush (-2), 2) := by decide +kernel
theorem dX12_climb_37 : decode cX12_climb 37 = .ok (.ireturn, 1) := by decide +kernel
theorem dX12_practice_0 : decode cX12_practice 0 = .ok (.aload_n 0, 1) := by decide +kernel
theorem dX12_practice_1 : decode cX12_practice 1 = .ok (.invokevirtual 141, 3) := by decide +kernel
theorem dX12_practice_4 : decode cX12_practice 4 = .ok (.aload_n 0, 1) := by decide +kernel
theorem dX12_practice_5 : decode cX12_practice 5 = .ok (.iload_n 1, 1) := by decide +kernel
theorem dX12_practice_6 : decode cX12_practice 6 = .ok (.invokevirtual 212, 3) := by decide +kernel
theorem dX12_practice_9 : decode cX12_practice 9 = .ok (.ifCond .eq 19, 3) := by decide +kernel
theorem dX12_practice_28 : decode cX12_practice 28 = .ok (.bipush (-2), 2) := by decide +kernel
theorem dX12_practice_30 : decode cX12_practice 30 = .ok (.ireturn, 1) := by decide +kernel
theorem dX12_pair_0 : decode cX12_pair 0 = .ok (.aload_n 0, 1) := by decide +kernel
theorem dX12_pair_1 : decode cX12_pair 1 = .ok (.invokevirtual 141, 3) := by decide +kernel
theorem dX12_pair_4 : decode cX12_pair 4 = .ok (.aload_n 0, 1) := by decide +kernel
theorem dX12_pair_5 : decode cX12_pair 5 = .ok (.iload_n 1, 1) := by decide +kernel
theorem dX12_pair_6 : decode cX12_pair 6 = .ok (.invokevirtual 212, 3) := by decide +kernel
theorem dX12_pair_9 : decode cX12_pair 9 = .ok (.ifCond .eq 19, 3) := by decide +kernel
theorem dX12_pair_28 : decode cX12_pair 28 = .ok (.bipush (-2), 2) := by decide +kernel
theorem dX12_pair_30 : decode cX12_pair 30 = .ok (.ireturn, 1) := by decide +kernel
theorem dX12_seen_0 : decode cX12_seen 0 = .ok (.iload_n 1, 1) := by decide +kernel
theorem dX12_seen_1 : decode cX12_seen 1 = .ok (.i2l, 1) := by decide +kernel
theorem dX12_seen_2 : decode cX12_seen 2 = .ok (.lconst 0, 1) := by decide +kernel
theorem dX12_seen_3 : decode cX12_seen 3 = .ok (.ldc2_w 155, 3) := by decide +kernel
theorem dX12_seen_6 : decode cX12_seen 6 = .ok (.invokestatic 65, 3) := by decide +kernel
theorem dX12_seen_9 : decode cX12_seen 9 = .ok (.ifCond .eq 15, 3) := by decide +kernel
theorem dX12_seen_12 : decode cX12_seen 12 = .ok (.iload_n 2, 1) := by decide +kernel
theorem dX12_seen_13 : decode cX12_seen 13 = .ok (.i2l, 1) := by decide +kernel
theorem dX12_seen_14 : decode cX12_seen 14 = .ok (.lconst 0, 1) := by decide +kernel
theorem dX12_seen_15 : decode cX12_seen 15 = .ok (.ldc2_w 238, 3) := by decide +kernel
theorem dX12_seen_18 : decode cX12_seen 18 = .ok (.invokestatic 65, 3) := by decide +kernel
theorem dX12_seen_21 : decode cX12_seen 21 = .ok (.ifCond .ne 6, 3) := by decide +kernel
theorem dX12_seen_24 : decode cX12_seen 24 = .ok (.bipush (-2), 2) := by decide +kernel
theorem dX12_seen_26 : decode cX12_seen 26 = .ok (.ireturn, 1) := by decide +kernel
theorem dX12_seen_27 : decode cX12_seen 27 = .ok (.aload_n 0, 1) := by decide +kernel
theorem dX12_seen_28 : decode cX12_seen 28 = .ok (.getfield 240, 3) := by decide +kernel
theorem dX12_seen_31 : decode cX12_seen 31 = .ok (.bipush 8, 2) := by decide +kernel
theorem dX12_seen_33 : decode cX12_seen 33 = .ok (.if_icmp .ne 6, 3) := by decide +kernel
theorem dX12_seen_39 : decode cX12_seen 39 = .ok (.aload_n 0, 1) := by decide +kernel
theorem dX12_seen_40 : decode cX12_seen 40 = .ok (.getfield 52, 3) := by decide +kernel
theorem dX12_seen_43 : decode cX12_seen 43 = .ok (.iconst 2, 1) := by decide +kernel
theorem dX12_seen_44 : decode cX12_seen 44 = .ok (.aload_n 0, 1) := by decide +kernel
theorem dX12_seen_45 : decode cX12_seen 45 = .ok (.getfield 240, 3) := by decide +kernel
theorem dX12_seen_48 : decode cX12_seen 48 = .ok (.imul, 1) := by decide +kernel
theorem dX12_seen_49 : decode cX12_seen 49 = .ok (.iload_n 1, 1) := by decide +kernel
theorem dX12_seen_50 : decode cX12_seen 50 = .ok (.iastore, 1) := by decide +kernel
theorem dX12_seen_51 : decode cX12_seen 51 = .ok (.aload_n 0, 1) := by decide +kernel
theorem dX12_seen_52 : decode cX12_seen 52 = .ok (.getfield 52, 3) := by decide +kernel
theorem dX12_seen_55 : decode cX12_seen 55 = .ok (.iconst 2, 1) := by decide +kernel
theorem dX12_seen_56 : decode cX12_seen 56 = .ok (.aload_n 0, 1) := by decide +kernel
theorem dX12_seen_57 : decode cX12_seen 57 = .ok (.getfield 240, 3) := by decide +kernel
theorem dX12_seen_60 : decode cX12_seen 60 = .ok (.imul, 1) := by decide +kernel
theorem dX12_seen_61 : decode cX12_seen 61 = .ok (.iconst 1, 1) := by decide +kernel
theorem dX12_seen_62 : decode cX12_seen 62 = .ok (.iadd, 1) := by decide +kernel
theorem dX12_seen_63 : decode cX12_seen 63 = .ok (.iload_n 2, 1) := by decide +kernel
theorem dX12_seen_64 : decode cX12_seen 64 = .ok (.iastore, 1) := by decide +kernel
theorem dX12_seen_65 : decode cX12_seen 65 = .ok (.aload_n 0, 1) := by decide +kernel
theorem dX12_seen_66 : decode cX12_seen 66 = .ok (.dup, 1) := by decide +kernel
theorem dX12_seen_67 : decode cX12_seen 67 = .ok (.getfield 240, 3) := by decide +kernel
theorem dX12_seen_70 : decode cX12_seen 70 = .ok (.iconst 1, 1) := by decide +kernel
theorem dX12_seen_71 : decode cX12_seen 71 = .ok (.iadd, 1) := by decide +kernel
theorem dX12_seen_72 : decode cX12_seen 72 = .ok (.putfield 240, 3) := by decide +kernel
theorem dX12_seen_75 : decode cX12_seen 75 = .ok (.aload_n 0, 1) := by decide +kernel
theorem dX12_seen_76 : decode cX12_seen 76 = .ok (.getfield 240, 3) := by decide +kernel
theorem dX12_seen_79 : decode cX12_seen 79 = .ok (.ireturn, 1) := by decide +kernel
theorem dX12_forget_0 : decode cX12_forget 0 = .ok (.aload_n 0, 1) := by decide +kernel
theorem dX12_forget_1 : decode cX12_forget 1 = .ok (.getfield 240, 3) := by decide +kernel
theorem dX12_forget_4 : decode cX12_forget 4 = .ok (.istore_n 1, 1) := by decide +kernel
theorem dX12_forget_5 : decode cX12_forget 5 = .ok (.aload_n 0, 1) := by decide +kernel
theorem dX12_forget_6 : decode cX12_forget 6 = .ok (.iconst 0, 1) := by decide +kernel
theorem dX12_forget_7 : decode cX12_forget 7 = .ok (.putfield 240, 3) := by decide +kernel
theorem dX12_forget_10 : decode cX12_forget 10 = .ok (.iload_n 1, 1) := by decide +kernel
theorem dX12_forget_11 : decode cX12_forget 11 = .ok (.ireturn, 1) := by decide +kernel
theorem dX12_sores_0 : decode cX12_sores 0 = .ok (.aload_n 0, 1) := by decide +kernel
theorem dX12_sores_1 : decode cX12_sores 1 = .ok (.invokevirtual 141, 3) := by decide +kernel
theorem dX12_sores_4 : decode cX12_sores 4 = .ok (.aload_n 0, 1) := by decide +kernel
theorem dX12_sores_5 : decode cX12_sores 5 = .ok (.iload_n 1, 1) := by decide +kernel
theorem dX12_sores_6 : decode cX12_sores 6 = .ok (.invokevirtual 146, 3) := by decide +kernel
theorem dX12_sores_9 : decode cX12_sores 9 = .ok (.ifCond .eq 11, 3) := by decide +kernel
theorem dX12_sores_20 : decode cX12_sores 20 = .ok (.bipush (-2), 2) := by decide +kernel
theorem dX12_sores_22 : decode cX12_sores 22 = .ok (.ireturn, 1) := by decide +kernel
theorem dX12_high_0 : decode cX12_high 0 = .ok (.aload_n 0, 1) := by decide +kernel
theorem dX12_high_1 : decode cX12_high 1 = .ok (.invokevirtual 141, 3) := by decide +kernel
theorem dX12_high_4 : decode cX12_high 4 = .ok (.aload_n 0, 1) := by decide +kernel
theorem dX12_high_5 : decode cX12_high 5 = .ok (.iload_n 1, 1) := by decide +kernel
theorem dX12_high_6 : decode cX12_high 6 = .ok (.invokevirtual 212, 3) := by decide +kernel
theorem dX12_high_9 : decode cX12_high 9 = .ok (.ifCond .eq 11, 3) := by decide +kernel
theorem dX12_high_20 : decode cX12_high 20 = .ok (.bipush (-2), 2) := by decide +kernel
theorem dX12_high_22 : decode cX12_high 22 = .ok (.ireturn, 1) := by decide +kernel
theorem dX12_ask_0 : decode cX12_ask 0 = .ok (.aload_n 0, 1) := by decide +kernel
theorem dX12_ask_1 : decode cX12_ask 1 = .ok (.invokevirtual 141, 3) := by decide +kernel
theorem dX12_ask_4 : decode cX12_ask 4 = .ok (.aload_n 0, 1) := by decide +kernel
theorem dX12_ask_5 : decode cX12_ask 5 = .ok (.iload_n 1, 1) := by decide +kernel
theorem dX12_ask_6 : decode cX12_ask 6 = .ok (.invokevirtual 146, 3) := by decide +kernel
theorem dX12_ask_9 : decode cX12_ask 9 = .ok (.ifCond .eq 11, 3) := by decide +kernel
theorem dX12_ask_20 : decode cX12_ask 20 = .ok (.bipush (-2), 2) := by decide +kernel
theorem dX12_ask_22 : decode cX12_ask 22 = .ok (.ireturn, 1) := by decide +kernel
theorem dX12_towns_0 : decode cX12_towns 0 = .ok (.iconst 0, 1) := by decide +kernel
theorem dX12_towns_1 : decode cX12_towns 1 = .ok (.istore_n 1, 1) := by decide +kernel
theorem dX12_towns_2 : decode cX12_towns 2 = .ok (.iconst 0, 1) := by decide +kernel
theorem dX12_towns_3 : decode cX12_towns 3 = .ok (.istore_n 2, 1) := by decide +kernel
theorem dX12_towns_4 : decode cX12_towns 4 = .ok (.iload_n 2, 1) := by decide +kernel
theorem dX12_towns_5 : decode cX12_towns 5 = .ok (.aload_n 0, 1) := by decide +kernel
theorem dX12_towns_6 : decode cX12_towns 6 = .ok (.getfield 107, 3) := by decide +kernel
theorem dX12_towns_9 : decode cX12_towns 9 = .ok (.if_icmp .ge 28, 3) := by decide +kernel
theorem dX12_towns_37 : decode cX12_towns 37 = .ok (.iload_n 1, 1) := by decide +kernel
theorem dX12_towns_38 : decode cX12_towns 38 = .ok (.ireturn, 1) := by decide +kernel
theorem dX12_laugh_0 : decode cX12_laugh 0 = .ok (.aload_n 0, 1) := by decide +kernel
theorem dX12_laugh_1 : decode cX12_laugh 1 = .ok (.invokevirtual 141, 3) := by decide +kernel
theorem dX12_laugh_4 : decode cX12_laugh 4 = .ok (.aload_n 0, 1) := by decide +kernel
theorem dX12_laugh_5 : decode cX12_laugh 5 = .ok (.invokevirtual 266, 3) := by decide +kernel
theorem dX12_laugh_8 : decode cX12_laugh 8 = .ok (.istore 4, 2) := by decide +kernel
theorem dX12_laugh_10 : decode cX12_laugh 10 = .ok (.iload_n 1, 1) := by decide +kernel
theorem dX12_laugh_11 : decode cX12_laugh 11 = .ok (.i2l, 1) := by decide +kernel
theorem dX12_laugh_12 : decode cX12_laugh 12 = .ok (.lconst 0, 1) := by decide +kernel
theorem dX12_laugh_13 : decode cX12_laugh 13 = .ok (.ldc2_w 269, 3) := by decide +kernel
theorem dX12_laugh_16 : decode cX12_laugh 16 = .ok (.invokestatic 65, 3) := by decide +kernel
theorem dX12_laugh_19 : decode cX12_laugh 19 = .ok (.ifCond .eq 37, 3) := by decide +kernel
theorem dX12_laugh_22 : decode cX12_laugh 22 = .ok (.aload_n 0, 1) := by decide +kernel
theorem dX12_laugh_23 : decode cX12_laugh 23 = .ok (.iload_n 2, 1) := by decide +kernel
theorem dX12_laugh_24 : decode cX12_laugh 24 = .ok (.invokevirtual 212, 3) := by decide +kernel
theorem dX12_laugh_27 : decode cX12_laugh 27 = .ok (.ifCond .eq 29, 3) := by decide +kernel
theorem dX12_laugh_56 : decode cX12_laugh 56 = .ok (.bipush (-2), 2) := by decide +kernel
theorem dX12_laugh_58 : decode cX12_laugh 58 = .ok (.invokestatic 275, 3) := by decide +kernel
theorem dX12_laugh_61 : decode cX12_laugh 61 = .ok (.lreturn, 1) := by decide +kernel
theorem dX12_lakesOf_0 : decode cX12_lakesOf 0 = .ok (.aload_n 0, 1) := by decide +kernel
theorem dX12_lakesOf_1 : decode cX12_lakesOf 1 = .ok (.iload_n 1, 1) := by decide +kernel
theorem dX12_lakesOf_2 : decode cX12_lakesOf 2 = .ok (.putfield 280, 3) := by decide +kernel
theorem dX12_lakesOf_5 : decode cX12_lakesOf 5 = .ok (.iconst 0, 1) := by decide +kernel
theorem dX12_lakesOf_6 : decode cX12_lakesOf 6 = .ok (.istore 4, 2) := by decide +kernel
theorem dX12_lakesOf_8 : decode cX12_lakesOf 8 = .ok (.iconst 0, 1) := by decide +kernel
theorem dX12_lakesOf_9 : decode cX12_lakesOf 9 = .ok (.istore 5, 2) := by decide +kernel
theorem dX12_lakesOf_11 : decode cX12_lakesOf 11 = .ok (.iload 5, 2) := by decide +kernel
theorem dX12_lakesOf_13 : decode cX12_lakesOf 13 = .ok (.iload_n 2, 1) := by decide +kernel
theorem dX12_lakesOf_14 : decode cX12_lakesOf 14 = .ok (.if_icmp .ge 120, 3) := by decide +kernel
theorem dX12_lakesOf_17 : decode cX12_lakesOf 17 = .ok (.aload_n 0, 1) := by decide +kernel
theorem dX12_lakesOf_18 : decode cX12_lakesOf 18 = .ok (.getfield 116, 3) := by decide +kernel
theorem dX12_lakesOf_21 : decode cX12_lakesOf 21 = .ok (.ifCond .le 113, 3) := by decide +kernel
theorem dX12_lakesOf_134 : decode cX12_lakesOf 134 = .ok (.iload 4, 2) := by decide +kernel
theorem dX12_lakesOf_136 : decode cX12_lakesOf 136 = .ok (.ireturn, 1) := by decide +kernel
theorem dX12_lakes_0 : decode cX12_lakes 0 = .ok (.aload_n 0, 1) := by decide +kernel
theorem dX12_lakes_1 : decode cX12_lakes 1 = .ok (.invokevirtual 141, 3) := by decide +kernel
theorem dX12_lakes_4 : decode cX12_lakes 4 = .ok (.iload_n 2, 1) := by decide +kernel
theorem dX12_lakes_5 : decode cX12_lakes 5 = .ok (.i2l, 1) := by decide +kernel
theorem dX12_lakes_6 : decode cX12_lakes 6 = .ok (.lconst 1, 1) := by decide +kernel
theorem dX12_lakes_7 : decode cX12_lakes 7 = .ok (.ldc2_w 286, 3) := by decide +kernel
theorem dX12_lakes_10 : decode cX12_lakes 10 = .ok (.invokestatic 65, 3) := by decide +kernel
theorem dX12_lakes_13 : decode cX12_lakes 13 = .ok (.ifCond .eq 20, 3) := by decide +kernel
theorem dX12_lakes_16 : decode cX12_lakes 16 = .ok (.iload_n 3, 1) := by decide +kernel
theorem dX12_lakes_17 : decode cX12_lakes 17 = .ok (.invokestatic 152, 3) := by decide +kernel
theorem dX12_lakes_20 : decode cX12_lakes 20 = .ok (.ifCond .eq 13, 3) := by decide +kernel
theorem dX12_lakes_23 : decode cX12_lakes 23 = .ok (.aload_n 0, 1) := by decide +kernel
theorem dX12_lakes_24 : decode cX12_lakes 24 = .ok (.iload_n 1, 1) := by decide +kernel
theorem dX12_lakes_25 : decode cX12_lakes 25 = .ok (.iload_n 2, 1) := by decide +kernel
theorem dX12_lakes_26 : decode cX12_lakes 26 = .ok (.iload_n 3, 1) := by decide +kernel
theorem dX12_lakes_27 : decode cX12_lakes 27 = .ok (.invokevirtual 288, 3) := by decide +kernel
theorem dX12_lakes_30 : decode cX12_lakes 30 = .ok (.goto 5, 3) := by decide +kernel
theorem dX12_lakes_33 : decode cX12_lakes 33 = .ok (.bipush (-2), 2) := by decide +kernel
theorem dX12_lakes_35 : decode cX12_lakes 35 = .ok (.ireturn, 1) := by decide +kernel
theorem dX12_write_0 : decode cX12_write 0 = .ok (.aload_n 0, 1) := by decide +kernel
theorem dX12_write_1 : decode cX12_write 1 = .ok (.iload_n 1, 1) := by decide +kernel
theorem dX12_write_2 : decode cX12_write 2 = .ok (.invokevirtual 212, 3) := by decide +kernel
theorem dX12_write_5 : decode cX12_write 5 = .ok (.ifCond .eq 17, 3) := by decide +kernel
theorem dX12_write_22 : decode cX12_write 22 = .ok (.bipush (-2), 2) := by decide +kernel
theorem dX12_write_24 : decode cX12_write 24 = .ok (.ireturn, 1) := by decide +kernel
theorem dX12_count_0 : decode cX12_count 0 = .ok (.aload_n 0, 1) := by decide +kernel
theorem dX12_count_1 : decode cX12_count 1 = .ok (.invokevirtual 141, 3) := by decide +kernel
theorem dX12_count_4 : decode cX12_count 4 = .ok (.iload_n 1, 1) := by decide +kernel
theorem dX12_count_5 : decode cX12_count 5 = .ok (.tableswitch 90 0 8 #[51, 56, 61, 66, 66, 66, 75, 80, 85], 51) := by decide +kernel
theorem dX12_count_56 : decode cX12_count 56 = .ok (.aload_n 0, 1) := by decide +kernel
theorem dX12_count_57 : decode cX12_count 57 = .ok (.getfield 107, 3) := by decide +kernel
theorem dX12_count_60 : decode cX12_count 60 = .ok (.ireturn, 1) := by decide +kernel
theorem dX12_count_61 : decode cX12_count 61 = .ok (.aload_n 0, 1) := by decide +kernel
theorem dX12_count_62 : decode cX12_count 62 = .ok (.getfield 116, 3) := by decide +kernel
theorem dX12_count_65 : decode cX12_count 65 = .ok (.ireturn, 1) := by decide +kernel
theorem dX12_count_66 : decode cX12_count 66 = .ok (.aload_n 0, 1) := by decide +kernel
theorem dX12_count_67 : decode cX12_count 67 = .ok (.getfield 122, 3) := by decide +kernel
theorem dX12_count_70 : decode cX12_count 70 = .ok (.ireturn, 1) := by decide +kernel
theorem dX12_count_71 : decode cX12_count 71 = .ok (.aload_n 0, 1) := by decide +kernel
theorem dX12_count_72 : decode cX12_count 72 = .ok (.getfield 25, 3) := by decide +kernel
theorem dX12_count_75 : decode cX12_count 75 = .ok (.iload_n 1, 1) := by decide +kernel
theorem dX12_count_76 : decode cX12_count 76 = .ok (.iconst 3, 1) := by decide +kernel
theorem dX12_count_77 : decode cX12_count 77 = .ok (.isub, 1) := by decide +kernel
theorem dX12_count_78 : decode cX12_count 78 = .ok (.iaload, 1) := by decide +kernel
theorem dX12_count_79 : decode cX12_count 79 = .ok (.ireturn, 1) := by decide +kernel
theorem dX12_count_80 : decode cX12_count 80 = .ok (.aload_n 0, 1) := by decide +kernel
theorem dX12_count_81 : decode cX12_count 81 = .ok (.getfield 159, 3) := by decide +kernel
theorem dX12_count_84 : decode cX12_count 84 = .ok (.ireturn, 1) := by decide +kernel
theorem dX12_count_85 : decode cX12_count 85 = .ok (.aload_n 0, 1) := by decide +kernel
theorem dX12_count_86 : decode cX12_count 86 = .ok (.getfield 240, 3) := by decide +kernel
theorem dX12_count_89 : decode cX12_count 89 = .ok (.ireturn, 1) := by decide +kernel
theorem dX12_count_90 : decode cX12_count 90 = .ok (.aload_n 0, 1) := by decide +kernel
theorem dX12_count_91 : decode cX12_count 91 = .ok (.getfield 69, 3) := by decide +kernel
theorem dX12_count_94 : decode cX12_count 94 = .ok (.ireturn, 1) := by decide +kernel
theorem dX12_count_95 : decode cX12_count 95 = .ok (.bipush (-2), 2) := by decide +kernel
theorem dX12_count_97 : decode cX12_count 97 = .ok (.ireturn, 1) := by decide +kernel
theorem dX12_digest_0 : decode cX12_digest 0 = .ok (.ldc2_w 303, 3) := by decide +kernel
theorem dX12_digest_3 : decode cX12_digest 3 = .ok (.lstore_n 1, 1) := by decide +kernel
theorem dX12_digest_4 : decode cX12_digest 4 = .ok (.iconst 0, 1) := by decide +kernel
theorem dX12_digest_5 : decode cX12_digest 5 = .ok (.istore_n 3, 1) := by decide +kernel
theorem dX12_digest_6 : decode cX12_digest 6 = .ok (.iload_n 3, 1) := by decide +kernel
theorem dX12_digest_7 : decode cX12_digest 7 = .ok (.bipush 8, 2) := by decide +kernel
theorem dX12_digest_9 : decode cX12_digest 9 = .ok (.if_icmp .ge 22, 3) := by decide +kernel
theorem dX12_digest_12 : decode cX12_digest 12 = .ok (.ldc2_w 294, 3) := by decide +kernel
theorem dX12_digest_15 : decode cX12_digest 15 = .ok (.lload_n 1, 1) := by decide +kernel
theorem dX12_digest_16 : decode cX12_digest 16 = .ok (.lmul, 1) := by decide +kernel
theorem dX12_digest_17 : decode cX12_digest 17 = .ok (.aload_n 0, 1) := by decide +kernel
theorem dX12_digest_18 : decode cX12_digest 18 = .ok (.iload_n 3, 1) := by decide +kernel
theorem dX12_digest_19 : decode cX12_digest 19 = .ok (.invokevirtual 305, 3) := by decide +kernel
theorem dX12_digest_22 : decode cX12_digest 22 = .ok (.i2l, 1) := by decide +kernel
theorem dX12_digest_23 : decode cX12_digest 23 = .ok (.ladd, 1) := by decide +kernel
theorem dX12_digest_24 : decode cX12_digest 24 = .ok (.lstore_n 1, 1) := by decide +kernel
theorem dX12_digest_25 : decode cX12_digest 25 = .ok (.iinc 3 1, 3) := by decide +kernel
theorem dX12_digest_28 : decode cX12_digest 28 = .ok (.goto (-22), 3) := by decide +kernel
theorem dX12_digest_31 : decode cX12_digest 31 = .ok (.iconst 0, 1) := by decide +kernel
theorem dX12_digest_32 : decode cX12_digest 32 = .ok (.istore_n 3, 1) := by decide +kernel
theorem dX12_digest_33 : decode cX12_digest 33 = .ok (.iload_n 3, 1) := by decide +kernel
theorem dX12_digest_34 : decode cX12_digest 34 = .ok (.iconst 3, 1) := by decide +kernel
theorem dX12_digest_35 : decode cX12_digest 35 = .ok (.if_icmp .ge 22, 3) := by decide +kernel
theorem dX12_digest_38 : decode cX12_digest 38 = .ok (.ldc2_w 294, 3) := by decide +kernel
theorem dX12_digest_41 : decode cX12_digest 41 = .ok (.lload_n 1, 1) := by decide +kernel
theorem dX12_digest_42 : decode cX12_digest 42 = .ok (.lmul, 1) := by decide +kernel
theorem dX12_digest_43 : decode cX12_digest 43 = .ok (.aload_n 0, 1) := by decide +kernel
theorem dX12_digest_44 : decode cX12_digest 44 = .ok (.iload_n 3, 1) := by decide +kernel
theorem dX12_digest_45 : decode cX12_digest 45 = .ok (.invokevirtual 138, 3) := by decide +kernel
theorem dX12_digest_48 : decode cX12_digest 48 = .ok (.i2l, 1) := by decide +kernel
theorem dX12_digest_49 : decode cX12_digest 49 = .ok (.ladd, 1) := by decide +kernel
theorem dX12_digest_50 : decode cX12_digest 50 = .ok (.lstore_n 1, 1) := by decide +kernel
theorem dX12_digest_51 : decode cX12_digest 51 = .ok (.iinc 3 1, 3) := by decide +kernel
theorem dX12_digest_54 : decode cX12_digest 54 = .ok (.goto (-21), 3) := by decide +kernel
theorem dX12_digest_57 : decode cX12_digest 57 = .ok (.iconst 0, 1) := by decide +kernel
theorem dX12_digest_58 : decode cX12_digest 58 = .ok (.istore_n 3, 1) := by decide +kernel
theorem dX12_digest_59 : decode cX12_digest 59 = .ok (.iload_n 3, 1) := by decide +kernel
theorem dX12_digest_60 : decode cX12_digest 60 = .ok (.aload_n 0, 1) := by decide +kernel
theorem dX12_digest_61 : decode cX12_digest 61 = .ok (.getfield 107, 3) := by decide +kernel
theorem dX12_digest_64 : decode cX12_digest 64 = .ok (.if_icmp .ge 23, 3) := by decide +kernel
theorem dX12_digest_87 : decode cX12_digest 87 = .ok (.iconst 0, 1) := by decide +kernel
theorem dX12_digest_88 : decode cX12_digest 88 = .ok (.istore_n 3, 1) := by decide +kernel
theorem dX12_digest_89 : decode cX12_digest 89 = .ok (.iload_n 3, 1) := by decide +kernel
theorem dX12_digest_90 : decode cX12_digest 90 = .ok (.aload_n 0, 1) := by decide +kernel
theorem dX12_digest_91 : decode cX12_digest 91 = .ok (.getfield 116, 3) := by decide +kernel
theorem dX12_digest_94 : decode cX12_digest 94 = .ok (.if_icmp .ge 69, 3) := by decide +kernel
theorem dX12_digest_163 : decode cX12_digest 163 = .ok (.iconst 0, 1) := by decide +kernel
theorem dX12_digest_164 : decode cX12_digest 164 = .ok (.istore_n 3, 1) := by decide +kernel
theorem dX12_digest_165 : decode cX12_digest 165 = .ok (.iload_n 3, 1) := by decide +kernel
theorem dX12_digest_166 : decode cX12_digest 166 = .ok (.aload_n 0, 1) := by decide +kernel
theorem dX12_digest_167 : decode cX12_digest 167 = .ok (.getfield 122, 3) := by decide +kernel
theorem dX12_digest_170 : decode cX12_digest 170 = .ok (.if_icmp .ge 43, 3) := by decide +kernel
theorem dX12_digest_213 : decode cX12_digest 213 = .ok (.iconst 0, 1) := by decide +kernel
theorem dX12_digest_214 : decode cX12_digest 214 = .ok (.istore_n 3, 1) := by decide +kernel
theorem dX12_digest_215 : decode cX12_digest 215 = .ok (.iload_n 3, 1) := by decide +kernel
theorem dX12_digest_216 : decode cX12_digest 216 = .ok (.aload_n 0, 1) := by decide +kernel
theorem dX12_digest_217 : decode cX12_digest 217 = .ok (.getfield 159, 3) := by decide +kernel
theorem dX12_digest_220 : decode cX12_digest 220 = .ok (.if_icmp .ge 16, 3) := by decide +kernel
theorem dX12_digest_236 : decode cX12_digest 236 = .ok (.ldc2_w 294, 3) := by decide +kernel
theorem dX12_digest_239 : decode cX12_digest 239 = .ok (.lload_n 1, 1) := by decide +kernel
theorem dX12_digest_240 : decode cX12_digest 240 = .ok (.lmul, 1) := by decide +kernel
theorem dX12_digest_241 : decode cX12_digest 241 = .ok (.aload_n 0, 1) := by decide +kernel
theorem dX12_digest_242 : decode cX12_digest 242 = .ok (.invokevirtual 221, 3) := by decide +kernel
theorem dX12_digest_245 : decode cX12_digest 245 = .ok (.i2l, 1) := by decide +kernel
theorem dX12_digest_246 : decode cX12_digest 246 = .ok (.ladd, 1) := by decide +kernel
theorem dX12_digest_247 : decode cX12_digest 247 = .ok (.lstore_n 1, 1) := by decide +kernel
theorem dX12_digest_248 : decode cX12_digest 248 = .ok (.ldc2_w 294, 3) := by decide +kernel
theorem dX12_digest_251 : decode cX12_digest 251 = .ok (.lload_n 1, 1) := by decide +kernel
theorem dX12_digest_252 : decode cX12_digest 252 = .ok (.lmul, 1) := by decide +kernel
theorem dX12_digest_253 : decode cX12_digest 253 = .ok (.aload_n 0, 1) := by decide +kernel
theorem dX12_digest_254 : decode cX12_digest 254 = .ok (.bipush 7, 2) := by decide +kernel
theorem dX12_digest_256 : decode cX12_digest 256 = .ok (.bipush 30, 2) := by decide +kernel
theorem dX12_digest_258 : decode cX12_digest 258 = .ok (.iconst 0, 1) := by decide +kernel
theorem dX12_digest_259 : decode cX12_digest 259 = .ok (.invokevirtual 288, 3) := by decide +kernel
theorem dX12_digest_262 : decode cX12_digest 262 = .ok (.i2l, 1) := by decide +kernel
theorem dX12_digest_263 : decode cX12_digest 263 = .ok (.ladd, 1) := by decide +kernel
theorem dX12_digest_264 : decode cX12_digest 264 = .ok (.lstore_n 1, 1) := by decide +kernel
theorem dX12_digest_265 : decode cX12_digest 265 = .ok (.ldc2_w 294, 3) := by decide +kernel
theorem dX12_digest_268 : decode cX12_digest 268 = .ok (.lload_n 1, 1) := by decide +kernel
theorem dX12_digest_269 : decode cX12_digest 269 = .ok (.lmul, 1) := by decide +kernel
theorem dX12_digest_270 : decode cX12_digest 270 = .ok (.aload_n 0, 1) := by decide +kernel
theorem dX12_digest_271 : decode cX12_digest 271 = .ok (.bipush 7, 2) := by decide +kernel
theorem dX12_digest_273 : decode cX12_digest 273 = .ok (.bipush 30, 2) := by decide +kernel
theorem dX12_digest_275 : decode cX12_digest 275 = .ok (.iconst 1, 1) := by decide +kernel
theorem dX12_digest_276 : decode cX12_digest 276 = .ok (.invokevirtual 288, 3) := by decide +kernel
theorem dX12_digest_279 : decode cX12_digest 279 = .ok (.i2l, 1) := by decide +kernel
theorem dX12_digest_280 : decode cX12_digest 280 = .ok (.ladd, 1) := by decide +kernel
theorem dX12_digest_281 : decode cX12_digest 281 = .ok (.lreturn, 1) := by decide +kernel
theorem dL_law_0 : decode cL_law 0 = .ok (.new 7, 3) := by decide +kernel
theorem dL_law_3 : decode cL_law 3 = .ok (.dup, 1) := by decide +kernel
theorem dL_law_4 : decode cL_law 4 = .ok (.invokespecial 9, 3) := by decide +kernel
theorem dL_law_7 : decode cL_law 7 = .ok (.astore_n 1, 1) := by decide +kernel
theorem dL_law_8 : decode cL_law 8 = .ok (.new 10, 3) := by decide +kernel
theorem dL_law_11 : decode cL_law 11 = .ok (.dup, 1) := by decide +kernel
theorem dL_law_12 : decode cL_law 12 = .ok (.invokespecial 12, 3) := by decide +kernel
theorem dL_law_15 : decode cL_law 15 = .ok (.astore_n 2, 1) := by decide +kernel
theorem dL_law_16 : decode cL_law 16 = .ok (.iconst 0, 1) := by decide +kernel
theorem dL_law_17 : decode cL_law 17 = .ok (.istore_n 3, 1) := by decide +kernel
theorem dL_law_18 : decode cL_law 18 = .ok (.iload_n 3, 1) := by decide +kernel
theorem dL_law_19 : decode cL_law 19 = .ok (.aload_n 0, 1) := by decide +kernel
theorem dL_law_20 : decode cL_law 20 = .ok (.arraylength, 1) := by decide +kernel
theorem dL_law_21 : decode cL_law 21 = .ok (.bipush 6, 2) := by decide +kernel
theorem dL_law_23 : decode cL_law 23 = .ok (.isub, 1) := by decide +kernel
theorem dL_law_24 : decode cL_law 24 = .ok (.if_icmp .gt 1156, 3) := by decide +kernel
theorem dL_law_27 : decode cL_law 27 = .ok (.aload_n 0, 1) := by decide +kernel
theorem dL_law_28 : decode cL_law 28 = .ok (.iload_n 3, 1) := by decide +kernel
theorem dL_law_29 : decode cL_law 29 = .ok (.iaload, 1) := by decide +kernel
theorem dL_law_30 : decode cL_law 30 = .ok (.bipush 31, 2) := by decide +kernel
theorem dL_law_32 : decode cL_law 32 = .ok (.iand, 1) := by decide +kernel
theorem dL_law_33 : decode cL_law 33 = .ok (.tableswitch 1141 0 31 #[143, 176, 199, 222, 245, 268, 301, 334, 387, 400, 423, 446, 479, 522, 535, 568, 601, 634, 667, 680, 703, 726, 749, 793, 836, 879, 902, 955, 998, 1061, 1104, 1127], 143) := by decide +kernel
theorem dL_law_176 : decode cL_law 176 = .ok (.aload_n 1, 1) := by decide +kernel
theorem dL_law_177 : decode cL_law 177 = .ok (.aload_n 0, 1) := by decide +kernel
theorem dL_law_178 : decode cL_law 178 = .ok (.iload_n 3, 1) := by decide +kernel
theorem dL_law_179 : decode cL_law 179 = .ok (.iconst 1, 1) := by decide +kernel
theorem dL_law_180 : decode cL_law 180 = .ok (.iadd, 1) := by decide +kernel
