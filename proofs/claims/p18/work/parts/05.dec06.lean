theorem dX12_type_71 : decode cX12_type 71 = .ok (.iastore, 1) := by decide +kernel
theorem dX12_type_72 : decode cX12_type 72 = .ok (.aload_n 0, 1) := by decide +kernel
theorem dX12_type_73 : decode cX12_type 73 = .ok (.getfield 25, 3) := by decide +kernel
theorem dX12_type_76 : decode cX12_type 76 = .ok (.iload_n 1, 1) := by decide +kernel
theorem dX12_type_77 : decode cX12_type 77 = .ok (.dup2, 1) := by decide +kernel
theorem dX12_type_78 : decode cX12_type 78 = .ok (.iaload, 1) := by decide +kernel
theorem dX12_type_79 : decode cX12_type 79 = .ok (.iconst 1, 1) := by decide +kernel
theorem dX12_type_80 : decode cX12_type 80 = .ok (.iadd, 1) := by decide +kernel
theorem dX12_type_81 : decode cX12_type 81 = .ok (.iastore, 1) := by decide +kernel
theorem dX12_type_82 : decode cX12_type 82 = .ok (.aload_n 0, 1) := by decide +kernel
theorem dX12_type_83 : decode cX12_type 83 = .ok (.getfield 25, 3) := by decide +kernel
theorem dX12_type_86 : decode cX12_type 86 = .ok (.iload_n 1, 1) := by decide +kernel
theorem dX12_type_87 : decode cX12_type 87 = .ok (.iaload, 1) := by decide +kernel
theorem dX12_type_88 : decode cX12_type 88 = .ok (.ireturn, 1) := by decide +kernel
theorem dX12_wipe_0 : decode cX12_wipe 0 = .ok (.iload_n 1, 1) := by decide +kernel
theorem dX12_wipe_1 : decode cX12_wipe 1 = .ok (.invokestatic 93, 3) := by decide +kernel
theorem dX12_wipe_4 : decode cX12_wipe 4 = .ok (.ifCond .ne 6, 3) := by decide +kernel
theorem dX12_wipe_7 : decode cX12_wipe 7 = .ok (.bipush (-2), 2) := by decide +kernel
theorem dX12_wipe_9 : decode cX12_wipe 9 = .ok (.ireturn, 1) := by decide +kernel
theorem dX12_wipe_10 : decode cX12_wipe 10 = .ok (.aload_n 0, 1) := by decide +kernel
theorem dX12_wipe_11 : decode cX12_wipe 11 = .ok (.getfield 25, 3) := by decide +kernel
theorem dX12_wipe_14 : decode cX12_wipe 14 = .ok (.iload_n 1, 1) := by decide +kernel
theorem dX12_wipe_15 : decode cX12_wipe 15 = .ok (.iaload, 1) := by decide +kernel
theorem dX12_wipe_16 : decode cX12_wipe 16 = .ok (.istore_n 2, 1) := by decide +kernel
theorem dX12_wipe_17 : decode cX12_wipe 17 = .ok (.aload_n 0, 1) := by decide +kernel
theorem dX12_wipe_18 : decode cX12_wipe 18 = .ok (.getfield 25, 3) := by decide +kernel
theorem dX12_wipe_21 : decode cX12_wipe 21 = .ok (.iload_n 1, 1) := by decide +kernel
theorem dX12_wipe_22 : decode cX12_wipe 22 = .ok (.iconst 0, 1) := by decide +kernel
theorem dX12_wipe_23 : decode cX12_wipe 23 = .ok (.iastore, 1) := by decide +kernel
theorem dX12_wipe_24 : decode cX12_wipe 24 = .ok (.iload_n 2, 1) := by decide +kernel
theorem dX12_wipe_25 : decode cX12_wipe 25 = .ok (.ireturn, 1) := by decide +kernel
theorem dX12_undo_0 : decode cX12_undo 0 = .ok (.iload_n 1, 1) := by decide +kernel
theorem dX12_undo_1 : decode cX12_undo 1 = .ok (.invokestatic 93, 3) := by decide +kernel
theorem dX12_undo_4 : decode cX12_undo 4 = .ok (.ifCond .ne 6, 3) := by decide +kernel
theorem dX12_undo_7 : decode cX12_undo 7 = .ok (.bipush (-2), 2) := by decide +kernel
theorem dX12_undo_9 : decode cX12_undo 9 = .ok (.ireturn, 1) := by decide +kernel
theorem dX12_undo_10 : decode cX12_undo 10 = .ok (.aload_n 0, 1) := by decide +kernel
theorem dX12_undo_11 : decode cX12_undo 11 = .ok (.getfield 25, 3) := by decide +kernel
theorem dX12_undo_14 : decode cX12_undo 14 = .ok (.iload_n 1, 1) := by decide +kernel
theorem dX12_undo_15 : decode cX12_undo 15 = .ok (.iaload, 1) := by decide +kernel
theorem dX12_undo_16 : decode cX12_undo 16 = .ok (.ifCond .ne 6, 3) := by decide +kernel
theorem dX12_undo_19 : decode cX12_undo 19 = .ok (.bipush (-3), 2) := by decide +kernel
theorem dX12_undo_21 : decode cX12_undo 21 = .ok (.ireturn, 1) := by decide +kernel
theorem dX12_undo_22 : decode cX12_undo 22 = .ok (.aload_n 0, 1) := by decide +kernel
theorem dX12_undo_23 : decode cX12_undo 23 = .ok (.getfield 25, 3) := by decide +kernel
theorem dX12_undo_26 : decode cX12_undo 26 = .ok (.iload_n 1, 1) := by decide +kernel
theorem dX12_undo_27 : decode cX12_undo 27 = .ok (.dup2, 1) := by decide +kernel
theorem dX12_undo_28 : decode cX12_undo 28 = .ok (.iaload, 1) := by decide +kernel
theorem dX12_undo_29 : decode cX12_undo 29 = .ok (.iconst 1, 1) := by decide +kernel
theorem dX12_undo_30 : decode cX12_undo 30 = .ok (.isub, 1) := by decide +kernel
theorem dX12_undo_31 : decode cX12_undo 31 = .ok (.iastore, 1) := by decide +kernel
theorem dX12_undo_32 : decode cX12_undo 32 = .ok (.aload_n 0, 1) := by decide +kernel
theorem dX12_undo_33 : decode cX12_undo 33 = .ok (.getfield 25, 3) := by decide +kernel
theorem dX12_undo_36 : decode cX12_undo 36 = .ok (.iload_n 1, 1) := by decide +kernel
theorem dX12_undo_37 : decode cX12_undo 37 = .ok (.iaload, 1) := by decide +kernel
theorem dX12_undo_38 : decode cX12_undo 38 = .ok (.ireturn, 1) := by decide +kernel
theorem dX12_callOf_0 : decode cX12_callOf 0 = .ok (.iload_n 0, 1) := by decide +kernel
theorem dX12_callOf_1 : decode cX12_callOf 1 = .ok (.i2l, 1) := by decide +kernel
theorem dX12_callOf_2 : decode cX12_callOf 2 = .ok (.ldc2_w 98, 3) := by decide +kernel
theorem dX12_callOf_5 : decode cX12_callOf 5 = .ok (.ldc2_w 100, 3) := by decide +kernel
theorem dX12_callOf_8 : decode cX12_callOf 8 = .ok (.invokestatic 65, 3) := by decide +kernel
theorem dX12_callOf_11 : decode cX12_callOf 11 = .ok (.ifCond .eq 10, 3) := by decide +kernel
theorem dX12_callOf_14 : decode cX12_callOf 14 = .ok (.iload_n 0, 1) := by decide +kernel
theorem dX12_callOf_15 : decode cX12_callOf 15 = .ok (.bipush 97, 2) := by decide +kernel
theorem dX12_callOf_17 : decode cX12_callOf 17 = .ok (.isub, 1) := by decide +kernel
theorem dX12_callOf_18 : decode cX12_callOf 18 = .ok (.goto 5, 3) := by decide +kernel
theorem dX12_callOf_21 : decode cX12_callOf 21 = .ok (.bipush (-9), 2) := by decide +kernel
theorem dX12_callOf_23 : decode cX12_callOf 23 = .ok (.ireturn, 1) := by decide +kernel
theorem dX12_figureOf_0 : decode cX12_figureOf 0 = .ok (.iload_n 0, 1) := by decide +kernel
theorem dX12_figureOf_1 : decode cX12_figureOf 1 = .ok (.i2l, 1) := by decide +kernel
theorem dX12_figureOf_2 : decode cX12_figureOf 2 = .ok (.bipush 48, 2) := by decide +kernel
theorem dX12_figureOf_4 : decode cX12_figureOf 4 = .ok (.iload_n 1, 1) := by decide +kernel
theorem dX12_figureOf_5 : decode cX12_figureOf 5 = .ok (.iadd, 1) := by decide +kernel
theorem dX12_figureOf_6 : decode cX12_figureOf 6 = .ok (.i2l, 1) := by decide +kernel
theorem dX12_figureOf_7 : decode cX12_figureOf 7 = .ok (.ldc2_w 102, 3) := by decide +kernel
theorem dX12_figureOf_10 : decode cX12_figureOf 10 = .ok (.invokestatic 65, 3) := by decide +kernel
theorem dX12_figureOf_13 : decode cX12_figureOf 13 = .ok (.ifCond .eq 10, 3) := by decide +kernel
theorem dX12_figureOf_16 : decode cX12_figureOf 16 = .ok (.iload_n 0, 1) := by decide +kernel
theorem dX12_figureOf_17 : decode cX12_figureOf 17 = .ok (.bipush 48, 2) := by decide +kernel
theorem dX12_figureOf_19 : decode cX12_figureOf 19 = .ok (.isub, 1) := by decide +kernel
theorem dX12_figureOf_20 : decode cX12_figureOf 20 = .ok (.goto 5, 3) := by decide +kernel
theorem dX12_figureOf_23 : decode cX12_figureOf 23 = .ok (.bipush (-9), 2) := by decide +kernel
theorem dX12_figureOf_25 : decode cX12_figureOf 25 = .ok (.ireturn, 1) := by decide +kernel
theorem dX12_mileOf_0 : decode cX12_mileOf 0 = .ok (.iload_n 0, 1) := by decide +kernel
theorem dX12_mileOf_1 : decode cX12_mileOf 1 = .ok (.bipush 111, 2) := by decide +kernel
theorem dX12_mileOf_3 : decode cX12_mileOf 3 = .ok (.if_icmp .ne 8, 3) := by decide +kernel
theorem dX12_mileOf_6 : decode cX12_mileOf 6 = .ok (.bipush 6, 2) := by decide +kernel
theorem dX12_mileOf_8 : decode cX12_mileOf 8 = .ok (.goto 29, 3) := by decide +kernel
theorem dX12_mileOf_11 : decode cX12_mileOf 11 = .ok (.iload_n 0, 1) := by decide +kernel
theorem dX12_mileOf_12 : decode cX12_mileOf 12 = .ok (.bipush 105, 2) := by decide +kernel
theorem dX12_mileOf_14 : decode cX12_mileOf 14 = .ok (.if_icmp .ne 8, 3) := by decide +kernel
theorem dX12_mileOf_17 : decode cX12_mileOf 17 = .ok (.bipush 7, 2) := by decide +kernel
theorem dX12_mileOf_19 : decode cX12_mileOf 19 = .ok (.goto 18, 3) := by decide +kernel
theorem dX12_mileOf_22 : decode cX12_mileOf 22 = .ok (.iload_n 0, 1) := by decide +kernel
theorem dX12_mileOf_23 : decode cX12_mileOf 23 = .ok (.bipush 119, 2) := by decide +kernel
theorem dX12_mileOf_25 : decode cX12_mileOf 25 = .ok (.if_icmp .ne 8, 3) := by decide +kernel
theorem dX12_mileOf_28 : decode cX12_mileOf 28 = .ok (.bipush 8, 2) := by decide +kernel
theorem dX12_mileOf_30 : decode cX12_mileOf 30 = .ok (.goto 7, 3) := by decide +kernel
theorem dX12_mileOf_33 : decode cX12_mileOf 33 = .ok (.iload_n 0, 1) := by decide +kernel
theorem dX12_mileOf_34 : decode cX12_mileOf 34 = .ok (.invokestatic 104, 3) := by decide +kernel
theorem dX12_mileOf_37 : decode cX12_mileOf 37 = .ok (.ireturn, 1) := by decide +kernel
theorem dX12_readsLand_0 : decode cX12_readsLand 0 = .ok (.aload_n 0, 1) := by decide +kernel
theorem dX12_readsLand_1 : decode cX12_readsLand 1 = .ok (.iconst 0, 1) := by decide +kernel
theorem dX12_readsLand_2 : decode cX12_readsLand 2 = .ok (.putfield 107, 3) := by decide +kernel
theorem dX12_readsLand_5 : decode cX12_readsLand 5 = .ok (.iconst 0, 1) := by decide +kernel
theorem dX12_readsLand_6 : decode cX12_readsLand 6 = .ok (.istore_n 1, 1) := by decide +kernel
theorem dX12_readsLand_7 : decode cX12_readsLand 7 = .ok (.iload_n 1, 1) := by decide +kernel
theorem dX12_readsLand_8 : decode cX12_readsLand 8 = .ok (.aload_n 0, 1) := by decide +kernel
theorem dX12_readsLand_9 : decode cX12_readsLand 9 = .ok (.getfield 25, 3) := by decide +kernel
theorem dX12_readsLand_12 : decode cX12_readsLand 12 = .ok (.iconst 0, 1) := by decide +kernel
theorem dX12_readsLand_13 : decode cX12_readsLand 13 = .ok (.iaload, 1) := by decide +kernel
theorem dX12_readsLand_14 : decode cX12_readsLand 14 = .ok (.if_icmp .ge 49, 3) := by decide +kernel
theorem dX12_readsLand_17 : decode cX12_readsLand 17 = .ok (.aload_n 0, 1) := by decide +kernel
theorem dX12_readsLand_18 : decode cX12_readsLand 18 = .ok (.getfield 22, 3) := by decide +kernel
theorem dX12_readsLand_21 : decode cX12_readsLand 21 = .ok (.iload_n 1, 1) := by decide +kernel
theorem dX12_readsLand_22 : decode cX12_readsLand 22 = .ok (.iaload, 1) := by decide +kernel
theorem dX12_readsLand_23 : decode cX12_readsLand 23 = .ok (.invokestatic 110, 3) := by decide +kernel
theorem dX12_readsLand_26 : decode cX12_readsLand 26 = .ok (.istore_n 2, 1) := by decide +kernel
theorem dX12_readsLand_27 : decode cX12_readsLand 27 = .ok (.iload_n 2, 1) := by decide +kernel
theorem dX12_readsLand_28 : decode cX12_readsLand 28 = .ok (.bipush (-9), 2) := by decide +kernel
theorem dX12_readsLand_30 : decode cX12_readsLand 30 = .ok (.if_icmp .ne 10, 3) := by decide +kernel
theorem dX12_readsLand_33 : decode cX12_readsLand 33 = .ok (.aload_n 0, 1) := by decide +kernel
theorem dX12_readsLand_34 : decode cX12_readsLand 34 = .ok (.iconst 0, 1) := by decide +kernel
theorem dX12_readsLand_35 : decode cX12_readsLand 35 = .ok (.putfield 107, 3) := by decide +kernel
theorem dX12_readsLand_38 : decode cX12_readsLand 38 = .ok (.iload_n 1, 1) := by decide +kernel
theorem dX12_readsLand_39 : decode cX12_readsLand 39 = .ok (.ireturn, 1) := by decide +kernel
theorem dX12_readsLand_40 : decode cX12_readsLand 40 = .ok (.aload_n 0, 1) := by decide +kernel
theorem dX12_readsLand_41 : decode cX12_readsLand 41 = .ok (.getfield 28, 3) := by decide +kernel
theorem dX12_readsLand_44 : decode cX12_readsLand 44 = .ok (.iload_n 1, 1) := by decide +kernel
theorem dX12_readsLand_45 : decode cX12_readsLand 45 = .ok (.iload_n 2, 1) := by decide +kernel
theorem dX12_readsLand_46 : decode cX12_readsLand 46 = .ok (.iastore, 1) := by decide +kernel
theorem dX12_readsLand_47 : decode cX12_readsLand 47 = .ok (.aload_n 0, 1) := by decide +kernel
theorem dX12_readsLand_48 : decode cX12_readsLand 48 = .ok (.dup, 1) := by decide +kernel
theorem dX12_readsLand_49 : decode cX12_readsLand 49 = .ok (.getfield 107, 3) := by decide +kernel
theorem dX12_readsLand_52 : decode cX12_readsLand 52 = .ok (.iconst 1, 1) := by decide +kernel
theorem dX12_readsLand_53 : decode cX12_readsLand 53 = .ok (.iadd, 1) := by decide +kernel
theorem dX12_readsLand_54 : decode cX12_readsLand 54 = .ok (.putfield 107, 3) := by decide +kernel
theorem dX12_readsLand_57 : decode cX12_readsLand 57 = .ok (.iinc 1 1, 3) := by decide +kernel
theorem dX12_readsLand_60 : decode cX12_readsLand 60 = .ok (.goto (-53), 3) := by decide +kernel
theorem dX12_readsLand_63 : decode cX12_readsLand 63 = .ok (.iconst (-1), 1) := by decide +kernel
theorem dX12_readsLand_64 : decode cX12_readsLand 64 = .ok (.ireturn, 1) := by decide +kernel
theorem dX12_passengerOf_0 : decode cX12_passengerOf 0 = .ok (.iload_n 0, 1) := by decide +kernel
theorem dX12_passengerOf_1 : decode cX12_passengerOf 1 = .ok (.tableswitch 96 0 4 #[35, 78, 96, 96, 83], 35) := by decide +kernel
theorem dX12_passengerOf_36 : decode cX12_passengerOf 36 = .ok (.iload_n 1, 1) := by decide +kernel
theorem dX12_passengerOf_37 : decode cX12_passengerOf 37 = .ok (.bipush 116, 2) := by decide +kernel
theorem dX12_passengerOf_39 : decode cX12_passengerOf 39 = .ok (.if_icmp .ne 7, 3) := by decide +kernel
theorem dX12_passengerOf_42 : decode cX12_passengerOf 42 = .ok (.iconst 0, 1) := by decide +kernel
theorem dX12_passengerOf_43 : decode cX12_passengerOf 43 = .ok (.goto 35, 3) := by decide +kernel
theorem dX12_passengerOf_46 : decode cX12_passengerOf 46 = .ok (.iload_n 1, 1) := by decide +kernel
theorem dX12_passengerOf_47 : decode cX12_passengerOf 47 = .ok (.bipush 100, 2) := by decide +kernel
theorem dX12_passengerOf_49 : decode cX12_passengerOf 49 = .ok (.if_icmp .ne 7, 3) := by decide +kernel
theorem dX12_passengerOf_52 : decode cX12_passengerOf 52 = .ok (.iconst 1, 1) := by decide +kernel
theorem dX12_passengerOf_53 : decode cX12_passengerOf 53 = .ok (.goto 25, 3) := by decide +kernel
theorem dX12_passengerOf_56 : decode cX12_passengerOf 56 = .ok (.iload_n 1, 1) := by decide +kernel
theorem dX12_passengerOf_57 : decode cX12_passengerOf 57 = .ok (.bipush 112, 2) := by decide +kernel
theorem dX12_passengerOf_59 : decode cX12_passengerOf 59 = .ok (.if_icmp .ne 7, 3) := by decide +kernel
theorem dX12_passengerOf_62 : decode cX12_passengerOf 62 = .ok (.iconst 2, 1) := by decide +kernel
theorem dX12_passengerOf_63 : decode cX12_passengerOf 63 = .ok (.goto 15, 3) := by decide +kernel
theorem dX12_passengerOf_66 : decode cX12_passengerOf 66 = .ok (.iload_n 1, 1) := by decide +kernel
theorem dX12_passengerOf_67 : decode cX12_passengerOf 67 = .ok (.bipush 115, 2) := by decide +kernel
theorem dX12_passengerOf_69 : decode cX12_passengerOf 69 = .ok (.if_icmp .ne 7, 3) := by decide +kernel
theorem dX12_passengerOf_72 : decode cX12_passengerOf 72 = .ok (.iconst 3, 1) := by decide +kernel
theorem dX12_passengerOf_73 : decode cX12_passengerOf 73 = .ok (.goto 5, 3) := by decide +kernel
theorem dX12_passengerOf_76 : decode cX12_passengerOf 76 = .ok (.bipush (-9), 2) := by decide +kernel
theorem dX12_passengerOf_78 : decode cX12_passengerOf 78 = .ok (.ireturn, 1) := by decide +kernel
theorem dX12_passengerOf_79 : decode cX12_passengerOf 79 = .ok (.iload_n 1, 1) := by decide +kernel
theorem dX12_passengerOf_80 : decode cX12_passengerOf 80 = .ok (.invokestatic 104, 3) := by decide +kernel
theorem dX12_passengerOf_83 : decode cX12_passengerOf 83 = .ok (.ireturn, 1) := by decide +kernel
theorem dX12_passengerOf_84 : decode cX12_passengerOf 84 = .ok (.iload_n 1, 1) := by decide +kernel
theorem dX12_passengerOf_85 : decode cX12_passengerOf 85 = .ok (.bipush 59, 2) := by decide +kernel
theorem dX12_passengerOf_87 : decode cX12_passengerOf 87 = .ok (.if_icmp .ne 7, 3) := by decide +kernel
theorem dX12_passengerOf_90 : decode cX12_passengerOf 90 = .ok (.iconst 0, 1) := by decide +kernel
theorem dX12_passengerOf_91 : decode cX12_passengerOf 91 = .ok (.goto 5, 3) := by decide +kernel
theorem dX12_passengerOf_94 : decode cX12_passengerOf 94 = .ok (.bipush (-9), 2) := by decide +kernel
theorem dX12_passengerOf_96 : decode cX12_passengerOf 96 = .ok (.ireturn, 1) := by decide +kernel
theorem dX12_passengerOf_97 : decode cX12_passengerOf 97 = .ok (.iload_n 1, 1) := by decide +kernel
theorem dX12_passengerOf_98 : decode cX12_passengerOf 98 = .ok (.iconst 1, 1) := by decide +kernel
theorem dX12_passengerOf_99 : decode cX12_passengerOf 99 = .ok (.invokestatic 113, 3) := by decide +kernel
theorem dX12_passengerOf_102 : decode cX12_passengerOf 102 = .ok (.ireturn, 1) := by decide +kernel
theorem dX12_readsPassengers_0 : decode cX12_readsPassengers 0 = .ok (.aload_n 0, 1) := by decide +kernel
theorem dX12_readsPassengers_1 : decode cX12_readsPassengers 1 = .ok (.iconst 0, 1) := by decide +kernel
theorem dX12_readsPassengers_2 : decode cX12_readsPassengers 2 = .ok (.putfield 116, 3) := by decide +kernel
theorem dX12_readsPassengers_5 : decode cX12_readsPassengers 5 = .ok (.aload_n 0, 1) := by decide +kernel
theorem dX12_readsPassengers_6 : decode cX12_readsPassengers 6 = .ok (.getfield 25, 3) := by decide +kernel
theorem dX12_readsPassengers_9 : decode cX12_readsPassengers 9 = .ok (.iconst 1, 1) := by decide +kernel
theorem dX12_readsPassengers_10 : decode cX12_readsPassengers 10 = .ok (.iaload, 1) := by decide +kernel
theorem dX12_readsPassengers_11 : decode cX12_readsPassengers 11 = .ok (.istore_n 1, 1) := by decide +kernel
theorem dX12_readsPassengers_12 : decode cX12_readsPassengers 12 = .ok (.iconst 0, 1) := by decide +kernel
theorem dX12_readsPassengers_13 : decode cX12_readsPassengers 13 = .ok (.istore_n 2, 1) := by decide +kernel
theorem dX12_readsPassengers_14 : decode cX12_readsPassengers 14 = .ok (.iload_n 2, 1) := by decide +kernel
theorem dX12_readsPassengers_15 : decode cX12_readsPassengers 15 = .ok (.iload_n 1, 1) := by decide +kernel
theorem dX12_readsPassengers_16 : decode cX12_readsPassengers 16 = .ok (.if_icmp .ge 80, 3) := by decide +kernel
theorem dX12_readsPassengers_19 : decode cX12_readsPassengers 19 = .ok (.iload_n 2, 1) := by decide +kernel
theorem dX12_readsPassengers_20 : decode cX12_readsPassengers 20 = .ok (.iconst 5, 1) := by decide +kernel
theorem dX12_readsPassengers_21 : decode cX12_readsPassengers 21 = .ok (.irem, 1) := by decide +kernel
theorem dX12_readsPassengers_22 : decode cX12_readsPassengers 22 = .ok (.istore_n 3, 1) := by decide +kernel
theorem dX12_readsPassengers_23 : decode cX12_readsPassengers 23 = .ok (.iload_n 3, 1) := by decide +kernel
theorem dX12_readsPassengers_24 : decode cX12_readsPassengers 24 = .ok (.aload_n 0, 1) := by decide +kernel
theorem dX12_readsPassengers_25 : decode cX12_readsPassengers 25 = .ok (.getfield 22, 3) := by decide +kernel
theorem dX12_readsPassengers_28 : decode cX12_readsPassengers 28 = .ok (.bipush 40, 2) := by decide +kernel
theorem dX12_readsPassengers_30 : decode cX12_readsPassengers 30 = .ok (.iload_n 2, 1) := by decide +kernel
theorem dX12_readsPassengers_31 : decode cX12_readsPassengers 31 = .ok (.iadd, 1) := by decide +kernel
theorem dX12_readsPassengers_32 : decode cX12_readsPassengers 32 = .ok (.iaload, 1) := by decide +kernel
theorem dX12_readsPassengers_33 : decode cX12_readsPassengers 33 = .ok (.invokestatic 119, 3) := by decide +kernel
theorem dX12_readsPassengers_36 : decode cX12_readsPassengers 36 = .ok (.istore 4, 2) := by decide +kernel
theorem dX12_readsPassengers_38 : decode cX12_readsPassengers 38 = .ok (.iload 4, 2) := by decide +kernel
theorem dX12_readsPassengers_40 : decode cX12_readsPassengers 40 = .ok (.bipush (-9), 2) := by decide +kernel
theorem dX12_readsPassengers_42 : decode cX12_readsPassengers 42 = .ok (.if_icmp .ne 10, 3) := by decide +kernel
theorem dX12_readsPassengers_45 : decode cX12_readsPassengers 45 = .ok (.aload_n 0, 1) := by decide +kernel
theorem dX12_readsPassengers_46 : decode cX12_readsPassengers 46 = .ok (.iconst 0, 1) := by decide +kernel
theorem dX12_readsPassengers_47 : decode cX12_readsPassengers 47 = .ok (.putfield 116, 3) := by decide +kernel
theorem dX12_readsPassengers_50 : decode cX12_readsPassengers 50 = .ok (.iload_n 2, 1) := by decide +kernel
theorem dX12_readsPassengers_51 : decode cX12_readsPassengers 51 = .ok (.ireturn, 1) := by decide +kernel
theorem dX12_readsPassengers_52 : decode cX12_readsPassengers 52 = .ok (.iload_n 3, 1) := by decide +kernel
theorem dX12_readsPassengers_53 : decode cX12_readsPassengers 53 = .ok (.iconst 4, 1) := by decide +kernel
theorem dX12_readsPassengers_54 : decode cX12_readsPassengers 54 = .ok (.if_icmp .ge 17, 3) := by decide +kernel
theorem dX12_readsPassengers_57 : decode cX12_readsPassengers 57 = .ok (.aload_n 0, 1) := by decide +kernel
theorem dX12_readsPassengers_58 : decode cX12_readsPassengers 58 = .ok (.getfield 31, 3) := by decide +kernel
theorem dX12_readsPassengers_61 : decode cX12_readsPassengers 61 = .ok (.iconst 4, 1) := by decide +kernel
theorem dX12_readsPassengers_62 : decode cX12_readsPassengers 62 = .ok (.iload_n 2, 1) := by decide +kernel
theorem dX12_readsPassengers_63 : decode cX12_readsPassengers 63 = .ok (.iconst 5, 1) := by decide +kernel
theorem dX12_readsPassengers_64 : decode cX12_readsPassengers 64 = .ok (.idiv, 1) := by decide +kernel
theorem dX12_readsPassengers_65 : decode cX12_readsPassengers 65 = .ok (.imul, 1) := by decide +kernel
theorem dX12_readsPassengers_66 : decode cX12_readsPassengers 66 = .ok (.iload_n 3, 1) := by decide +kernel
theorem dX12_readsPassengers_67 : decode cX12_readsPassengers 67 = .ok (.iadd, 1) := by decide +kernel
theorem dX12_readsPassengers_68 : decode cX12_readsPassengers 68 = .ok (.iload 4, 2) := by decide +kernel
theorem dX12_readsPassengers_70 : decode cX12_readsPassengers 70 = .ok (.iastore, 1) := by decide +kernel
theorem dX12_readsPassengers_71 : decode cX12_readsPassengers 71 = .ok (.aload_n 0, 1) := by decide +kernel
theorem dX12_readsPassengers_72 : decode cX12_readsPassengers 72 = .ok (.dup, 1) := by decide +kernel
theorem dX12_readsPassengers_73 : decode cX12_readsPassengers 73 = .ok (.getfield 116, 3) := by decide +kernel
theorem dX12_readsPassengers_76 : decode cX12_readsPassengers 76 = .ok (.iload_n 3, 1) := by decide +kernel
theorem dX12_readsPassengers_77 : decode cX12_readsPassengers 77 = .ok (.iconst 3, 1) := by decide +kernel
theorem dX12_readsPassengers_78 : decode cX12_readsPassengers 78 = .ok (.if_icmp .ne 7, 3) := by decide +kernel
theorem dX12_readsPassengers_81 : decode cX12_readsPassengers 81 = .ok (.iconst 1, 1) := by decide +kernel
theorem dX12_readsPassengers_82 : decode cX12_readsPassengers 82 = .ok (.goto 4, 3) := by decide +kernel
theorem dX12_readsPassengers_85 : decode cX12_readsPassengers 85 = .ok (.iconst 0, 1) := by decide +kernel
theorem dX12_readsPassengers_86 : decode cX12_readsPassengers 86 = .ok (.iadd, 1) := by decide +kernel
theorem dX12_readsPassengers_87 : decode cX12_readsPassengers 87 = .ok (.putfield 116, 3) := by decide +kernel
theorem dX12_readsPassengers_90 : decode cX12_readsPassengers 90 = .ok (.iinc 2 1, 3) := by decide +kernel
theorem dX12_readsPassengers_93 : decode cX12_readsPassengers 93 = .ok (.goto (-79), 3) := by decide +kernel
theorem dX12_readsPassengers_96 : decode cX12_readsPassengers 96 = .ok (.iload_n 1, 1) := by decide +kernel
theorem dX12_readsPassengers_97 : decode cX12_readsPassengers 97 = .ok (.ifCond .le 17, 3) := by decide +kernel
theorem dX12_readsPassengers_100 : decode cX12_readsPassengers 100 = .ok (.iload_n 1, 1) := by decide +kernel
theorem dX12_readsPassengers_101 : decode cX12_readsPassengers 101 = .ok (.iconst 5, 1) := by decide +kernel
theorem dX12_readsPassengers_102 : decode cX12_readsPassengers 102 = .ok (.irem, 1) := by decide +kernel
theorem dX12_readsPassengers_103 : decode cX12_readsPassengers 103 = .ok (.iconst 4, 1) := by decide +kernel
theorem dX12_readsPassengers_104 : decode cX12_readsPassengers 104 = .ok (.if_icmp .eq 10, 3) := by decide +kernel
theorem dX12_readsPassengers_107 : decode cX12_readsPassengers 107 = .ok (.aload_n 0, 1) := by decide +kernel
theorem dX12_readsPassengers_108 : decode cX12_readsPassengers 108 = .ok (.iconst 0, 1) := by decide +kernel
theorem dX12_readsPassengers_109 : decode cX12_readsPassengers 109 = .ok (.putfield 116, 3) := by decide +kernel
theorem dX12_readsPassengers_112 : decode cX12_readsPassengers 112 = .ok (.iload_n 1, 1) := by decide +kernel
theorem dX12_readsPassengers_113 : decode cX12_readsPassengers 113 = .ok (.ireturn, 1) := by decide +kernel
theorem dX12_readsPassengers_114 : decode cX12_readsPassengers 114 = .ok (.iconst (-1), 1) := by decide +kernel
theorem dX12_readsPassengers_115 : decode cX12_readsPassengers 115 = .ok (.ireturn, 1) := by decide +kernel
theorem dX12_gooseOf_0 : decode cX12_gooseOf 0 = .ok (.iload_n 0, 1) := by decide +kernel
theorem dX12_gooseOf_1 : decode cX12_gooseOf 1 = .ok (.iconst 2, 1) := by decide +kernel
theorem dX12_gooseOf_2 : decode cX12_gooseOf 2 = .ok (.if_icmp .ne 18, 3) := by decide +kernel
theorem dX12_gooseOf_5 : decode cX12_gooseOf 5 = .ok (.iload_n 1, 1) := by decide +kernel
theorem dX12_gooseOf_6 : decode cX12_gooseOf 6 = .ok (.bipush 59, 2) := by decide +kernel
theorem dX12_gooseOf_8 : decode cX12_gooseOf 8 = .ok (.if_icmp .ne 7, 3) := by decide +kernel
theorem dX12_gooseOf_11 : decode cX12_gooseOf 11 = .ok (.iconst 0, 1) := by decide +kernel
theorem dX12_gooseOf_12 : decode cX12_gooseOf 12 = .ok (.goto 15, 3) := by decide +kernel
theorem dX12_gooseOf_15 : decode cX12_gooseOf 15 = .ok (.bipush (-9), 2) := by decide +kernel
theorem dX12_gooseOf_17 : decode cX12_gooseOf 17 = .ok (.goto 10, 3) := by decide +kernel
theorem dX12_gooseOf_20 : decode cX12_gooseOf 20 = .ok (.iload_n 1, 1) := by decide +kernel
theorem dX12_gooseOf_21 : decode cX12_gooseOf 21 = .ok (.iconst 1, 1) := by decide +kernel
theorem dX12_gooseOf_22 : decode cX12_gooseOf 22 = .ok (.iload_n 0, 1) := by decide +kernel
theorem dX12_gooseOf_23 : decode cX12_gooseOf 23 = .ok (.isub, 1) := by decide +kernel
theorem dX12_gooseOf_24 : decode cX12_gooseOf 24 = .ok (.invokestatic 113, 3) := by decide +kernel
theorem dX12_gooseOf_27 : decode cX12_gooseOf 27 = .ok (.ireturn, 1) := by decide +kernel
theorem dX12_readsGeese_0 : decode cX12_readsGeese 0 = .ok (.aload_n 0, 1) := by decide +kernel
theorem dX12_readsGeese_1 : decode cX12_readsGeese 1 = .ok (.iconst 0, 1) := by decide +kernel
theorem dX12_readsGeese_2 : decode cX12_readsGeese 2 = .ok (.putfield 122, 3) := by decide +kernel
theorem dX12_readsGeese_5 : decode cX12_readsGeese 5 = .ok (.aload_n 0, 1) := by decide +kernel
theorem dX12_readsGeese_6 : decode cX12_readsGeese 6 = .ok (.getfield 25, 3) := by decide +kernel
theorem dX12_readsGeese_9 : decode cX12_readsGeese 9 = .ok (.iconst 2, 1) := by decide +kernel
theorem dX12_readsGeese_10 : decode cX12_readsGeese 10 = .ok (.iaload, 1) := by decide +kernel
theorem dX12_readsGeese_11 : decode cX12_readsGeese 11 = .ok (.istore_n 1, 1) := by decide +kernel
theorem dX12_readsGeese_12 : decode cX12_readsGeese 12 = .ok (.iconst 0, 1) := by decide +kernel
theorem dX12_readsGeese_13 : decode cX12_readsGeese 13 = .ok (.istore_n 2, 1) := by decide +kernel
theorem dX12_readsGeese_14 : decode cX12_readsGeese 14 = .ok (.iload_n 2, 1) := by decide +kernel
theorem dX12_readsGeese_15 : decode cX12_readsGeese 15 = .ok (.iload_n 1, 1) := by decide +kernel
theorem dX12_readsGeese_16 : decode cX12_readsGeese 16 = .ok (.if_icmp .ge 80, 3) := by decide +kernel
theorem dX12_readsGeese_19 : decode cX12_readsGeese 19 = .ok (.iload_n 2, 1) := by decide +kernel
theorem dX12_readsGeese_20 : decode cX12_readsGeese 20 = .ok (.iconst 3, 1) := by decide +kernel
theorem dX12_readsGeese_21 : decode cX12_readsGeese 21 = .ok (.irem, 1) := by decide +kernel
theorem dX12_readsGeese_22 : decode cX12_readsGeese 22 = .ok (.istore_n 3, 1) := by decide +kernel
theorem dX12_readsGeese_23 : decode cX12_readsGeese 23 = .ok (.iload_n 3, 1) := by decide +kernel
theorem dX12_readsGeese_24 : decode cX12_readsGeese 24 = .ok (.aload_n 0, 1) := by decide +kernel
theorem dX12_readsGeese_25 : decode cX12_readsGeese 25 = .ok (.getfield 22, 3) := by decide +kernel
theorem dX12_readsGeese_28 : decode cX12_readsGeese 28 = .ok (.bipush 80, 2) := by decide +kernel
theorem dX12_readsGeese_30 : decode cX12_readsGeese 30 = .ok (.iload_n 2, 1) := by decide +kernel
theorem dX12_readsGeese_31 : decode cX12_readsGeese 31 = .ok (.iadd, 1) := by decide +kernel
theorem dX12_readsGeese_32 : decode cX12_readsGeese 32 = .ok (.iaload, 1) := by decide +kernel
theorem dX12_readsGeese_33 : decode cX12_readsGeese 33 = .ok (.invokestatic 125, 3) := by decide +kernel
theorem dX12_readsGeese_36 : decode cX12_readsGeese 36 = .ok (.istore 4, 2) := by decide +kernel
theorem dX12_readsGeese_38 : decode cX12_readsGeese 38 = .ok (.iload 4, 2) := by decide +kernel
theorem dX12_readsGeese_40 : decode cX12_readsGeese 40 = .ok (.bipush (-9), 2) := by decide +kernel
theorem dX12_readsGeese_42 : decode cX12_readsGeese 42 = .ok (.if_icmp .ne 10, 3) := by decide +kernel
theorem dX12_readsGeese_45 : decode cX12_readsGeese 45 = .ok (.aload_n 0, 1) := by decide +kernel
theorem dX12_readsGeese_46 : decode cX12_readsGeese 46 = .ok (.iconst 0, 1) := by decide +kernel
theorem dX12_readsGeese_47 : decode cX12_readsGeese 47 = .ok (.putfield 122, 3) := by decide +kernel
theorem dX12_readsGeese_50 : decode cX12_readsGeese 50 = .ok (.iload_n 2, 1) := by decide +kernel
theorem dX12_readsGeese_51 : decode cX12_readsGeese 51 = .ok (.ireturn, 1) := by decide +kernel
theorem dX12_readsGeese_52 : decode cX12_readsGeese 52 = .ok (.iload_n 3, 1) := by decide +kernel
theorem dX12_readsGeese_53 : decode cX12_readsGeese 53 = .ok (.iconst 2, 1) := by decide +kernel
theorem dX12_readsGeese_54 : decode cX12_readsGeese 54 = .ok (.if_icmp .ge 17, 3) := by decide +kernel
theorem dX12_readsGeese_57 : decode cX12_readsGeese 57 = .ok (.aload_n 0, 1) := by decide +kernel
theorem dX12_readsGeese_58 : decode cX12_readsGeese 58 = .ok (.getfield 34, 3) := by decide +kernel
theorem dX12_readsGeese_61 : decode cX12_readsGeese 61 = .ok (.iconst 2, 1) := by decide +kernel
theorem dX12_readsGeese_62 : decode cX12_readsGeese 62 = .ok (.iload_n 2, 1) := by decide +kernel
theorem dX12_readsGeese_63 : decode cX12_readsGeese 63 = .ok (.iconst 3, 1) := by decide +kernel
theorem dX12_readsGeese_64 : decode cX12_readsGeese 64 = .ok (.idiv, 1) := by decide +kernel
theorem dX12_readsGeese_65 : decode cX12_readsGeese 65 = .ok (.imul, 1) := by decide +kernel
theorem dX12_readsGeese_66 : decode cX12_readsGeese 66 = .ok (.iload_n 3, 1) := by decide +kernel
theorem dX12_readsGeese_67 : decode cX12_readsGeese 67 = .ok (.iadd, 1) := by decide +kernel
theorem dX12_readsGeese_68 : decode cX12_readsGeese 68 = .ok (.iload 4, 2) := by decide +kernel
theorem dX12_readsGeese_70 : decode cX12_readsGeese 70 = .ok (.iastore, 1) := by decide +kernel
theorem dX12_readsGeese_71 : decode cX12_readsGeese 71 = .ok (.aload_n 0, 1) := by decide +kernel
theorem dX12_readsGeese_72 : decode cX12_readsGeese 72 = .ok (.dup, 1) := by decide +kernel
theorem dX12_readsGeese_73 : decode cX12_readsGeese 73 = .ok (.getfield 122, 3) := by decide +kernel
theorem dX12_readsGeese_76 : decode cX12_readsGeese 76 = .ok (.iload_n 3, 1) := by decide +kernel
theorem dX12_readsGeese_77 : decode cX12_readsGeese 77 = .ok (.iconst 1, 1) := by decide +kernel
theorem dX12_readsGeese_78 : decode cX12_readsGeese 78 = .ok (.if_icmp .ne 7, 3) := by decide +kernel
theorem dX12_readsGeese_81 : decode cX12_readsGeese 81 = .ok (.iconst 1, 1) := by decide +kernel
theorem dX12_readsGeese_82 : decode cX12_readsGeese 82 = .ok (.goto 4, 3) := by decide +kernel
theorem dX12_readsGeese_85 : decode cX12_readsGeese 85 = .ok (.iconst 0, 1) := by decide +kernel
theorem dX12_readsGeese_86 : decode cX12_readsGeese 86 = .ok (.iadd, 1) := by decide +kernel
theorem dX12_readsGeese_87 : decode cX12_readsGeese 87 = .ok (.putfield 122, 3) := by decide +kernel
theorem dX12_readsGeese_90 : decode cX12_readsGeese 90 = .ok (.iinc 2 1, 3) := by decide +kernel
theorem dX12_readsGeese_93 : decode cX12_readsGeese 93 = .ok (.goto (-79), 3) := by decide +kernel
theorem dX12_readsGeese_96 : decode cX12_readsGeese 96 = .ok (.iload_n 1, 1) := by decide +kernel
theorem dX12_readsGeese_97 : decode cX12_readsGeese 97 = .ok (.ifCond .le 17, 3) := by decide +kernel
theorem dX12_readsGeese_100 : decode cX12_readsGeese 100 = .ok (.iload_n 1, 1) := by decide +kernel
theorem dX12_readsGeese_101 : decode cX12_readsGeese 101 = .ok (.iconst 3, 1) := by decide +kernel
theorem dX12_readsGeese_102 : decode cX12_readsGeese 102 = .ok (.irem, 1) := by decide +kernel
theorem dX12_readsGeese_103 : decode cX12_readsGeese 103 = .ok (.iconst 2, 1) := by decide +kernel
theorem dX12_readsGeese_104 : decode cX12_readsGeese 104 = .ok (.if_icmp .eq 10, 3) := by decide +kernel
theorem dX12_readsGeese_107 : decode cX12_readsGeese 107 = .ok (.aload_n 0, 1) := by decide +kernel
theorem dX12_readsGeese_108 : decode cX12_readsGeese 108 = .ok (.iconst 0, 1) := by decide +kernel
theorem dX12_readsGeese_109 : decode cX12_readsGeese 109 = .ok (.putfield 122, 3) := by decide +kernel
theorem dX12_readsGeese_112 : decode cX12_readsGeese 112 = .ok (.iload_n 1, 1) := by decide +kernel
theorem dX12_readsGeese_113 : decode cX12_readsGeese 113 = .ok (.ireturn, 1) := by decide +kernel
theorem dX12_readsGeese_114 : decode cX12_readsGeese 114 = .ok (.iconst (-1), 1) := by decide +kernel
theorem dX12_readsGeese_115 : decode cX12_readsGeese 115 = .ok (.ireturn, 1) := by decide +kernel
theorem dX12_readsText_0 : decode cX12_readsText 0 = .ok (.iload_n 1, 1) := by decide +kernel
theorem dX12_readsText_1 : decode cX12_readsText 1 = .ok (.ifCond .ne 10, 3) := by decide +kernel
theorem dX12_readsText_4 : decode cX12_readsText 4 = .ok (.aload_n 0, 1) := by decide +kernel
theorem dX12_readsText_5 : decode cX12_readsText 5 = .ok (.invokevirtual 128, 3) := by decide +kernel
theorem dX12_readsText_8 : decode cX12_readsText 8 = .ok (.goto 19, 3) := by decide +kernel
theorem dX12_readsText_11 : decode cX12_readsText 11 = .ok (.iload_n 1, 1) := by decide +kernel
theorem dX12_readsText_12 : decode cX12_readsText 12 = .ok (.iconst 1, 1) := by decide +kernel
theorem dX12_readsText_13 : decode cX12_readsText 13 = .ok (.if_icmp .ne 10, 3) := by decide +kernel
theorem dX12_readsText_16 : decode cX12_readsText 16 = .ok (.aload_n 0, 1) := by decide +kernel
theorem dX12_readsText_17 : decode cX12_readsText 17 = .ok (.invokevirtual 132, 3) := by decide +kernel
theorem dX12_readsText_20 : decode cX12_readsText 20 = .ok (.goto 7, 3) := by decide +kernel
theorem dX12_readsText_23 : decode cX12_readsText 23 = .ok (.aload_n 0, 1) := by decide +kernel
theorem dX12_readsText_24 : decode cX12_readsText 24 = .ok (.invokevirtual 135, 3) := by decide +kernel
theorem dX12_readsText_27 : decode cX12_readsText 27 = .ok (.ireturn, 1) := by decide +kernel
theorem dX12_fault_0 : decode cX12_fault 0 = .ok (.iload_n 1, 1) := by decide +kernel
theorem dX12_fault_1 : decode cX12_fault 1 = .ok (.invokestatic 93, 3) := by decide +kernel
theorem dX12_fault_4 : decode cX12_fault 4 = .ok (.ifCond .eq 11, 3) := by decide +kernel
theorem dX12_fault_7 : decode cX12_fault 7 = .ok (.aload_n 0, 1) := by decide +kernel
theorem dX12_fault_8 : decode cX12_fault 8 = .ok (.iload_n 1, 1) := by decide +kernel
theorem dX12_fault_9 : decode cX12_fault 9 = .ok (.invokevirtual 138, 3) := by decide +kernel
theorem dX12_fault_12 : decode cX12_fault 12 = .ok (.goto 5, 3) := by decide +kernel
theorem dX12_fault_15 : decode cX12_fault 15 = .ok (.bipush (-2), 2) := by decide +kernel
theorem dX12_fault_17 : decode cX12_fault 17 = .ok (.ireturn, 1) := by decide +kernel
theorem dX12_reads_0 : decode cX12_reads 0 = .ok (.aload_n 0, 1) := by decide +kernel
theorem dX12_reads_1 : decode cX12_reads 1 = .ok (.invokevirtual 128, 3) := by decide +kernel
theorem dX12_reads_4 : decode cX12_reads 4 = .ok (.pop, 1) := by decide +kernel
theorem dX12_reads_5 : decode cX12_reads 5 = .ok (.aload_n 0, 1) := by decide +kernel
theorem dX12_reads_6 : decode cX12_reads 6 = .ok (.invokevirtual 132, 3) := by decide +kernel
theorem dX12_reads_9 : decode cX12_reads 9 = .ok (.pop, 1) := by decide +kernel
theorem dX12_reads_10 : decode cX12_reads 10 = .ok (.aload_n 0, 1) := by decide +kernel
theorem dX12_reads_11 : decode cX12_reads 11 = .ok (.invokevirtual 135, 3) := by decide +kernel
theorem dX12_reads_14 : decode cX12_reads 14 = .ok (.pop, 1) := by decide +kernel
theorem dX12_reads_15 : decode cX12_reads 15 = .ok (.return_, 1) := by decide +kernel
theorem dX12_isPassenger_0 : decode cX12_isPassenger 0 = .ok (.iload_n 1, 1) := by decide +kernel
theorem dX12_isPassenger_1 : decode cX12_isPassenger 1 = .ok (.i2l, 1) := by decide +kernel
theorem dX12_isPassenger_2 : decode cX12_isPassenger 2 = .ok (.lconst 0, 1) := by decide +kernel
theorem dX12_isPassenger_3 : decode cX12_isPassenger 3 = .ok (.aload_n 0, 1) := by decide +kernel
theorem dX12_isPassenger_4 : decode cX12_isPassenger 4 = .ok (.getfield 116, 3) := by decide +kernel
theorem dX12_isPassenger_7 : decode cX12_isPassenger 7 = .ok (.iconst 1, 1) := by decide +kernel
theorem dX12_isPassenger_8 : decode cX12_isPassenger 8 = .ok (.isub, 1) := by decide +kernel
theorem dX12_isPassenger_9 : decode cX12_isPassenger 9 = .ok (.i2l, 1) := by decide +kernel
theorem dX12_isPassenger_10 : decode cX12_isPassenger 10 = .ok (.invokestatic 65, 3) := by decide +kernel
theorem dX12_isPassenger_13 : decode cX12_isPassenger 13 = .ok (.ireturn, 1) := by decide +kernel
theorem dX12_isGoose_0 : decode cX12_isGoose 0 = .ok (.iload_n 1, 1) := by decide +kernel
theorem dX12_isGoose_1 : decode cX12_isGoose 1 = .ok (.i2l, 1) := by decide +kernel
theorem dX12_isGoose_2 : decode cX12_isGoose 2 = .ok (.lconst 0, 1) := by decide +kernel
theorem dX12_isGoose_3 : decode cX12_isGoose 3 = .ok (.aload_n 0, 1) := by decide +kernel
theorem dX12_isGoose_4 : decode cX12_isGoose 4 = .ok (.getfield 122, 3) := by decide +kernel
theorem dX12_isGoose_7 : decode cX12_isGoose 7 = .ok (.iconst 1, 1) := by decide +kernel
theorem dX12_isGoose_8 : decode cX12_isGoose 8 = .ok (.isub, 1) := by decide +kernel
theorem dX12_isGoose_9 : decode cX12_isGoose 9 = .ok (.i2l, 1) := by decide +kernel
theorem dX12_isGoose_10 : decode cX12_isGoose 10 = .ok (.invokestatic 65, 3) := by decide +kernel
theorem dX12_isGoose_13 : decode cX12_isGoose 13 = .ok (.ireturn, 1) := by decide +kernel
theorem dX12_mile_0 : decode cX12_mile 0 = .ok (.aload_n 0, 1) := by decide +kernel
theorem dX12_mile_1 : decode cX12_mile 1 = .ok (.invokevirtual 141, 3) := by decide +kernel
theorem dX12_mile_4 : decode cX12_mile 4 = .ok (.iload_n 1, 1) := by decide +kernel
theorem dX12_mile_5 : decode cX12_mile 5 = .ok (.i2l, 1) := by decide +kernel
theorem dX12_mile_6 : decode cX12_mile 6 = .ok (.lconst 0, 1) := by decide +kernel
theorem dX12_mile_7 : decode cX12_mile 7 = .ok (.ldc2_w 144, 3) := by decide +kernel
theorem dX12_mile_10 : decode cX12_mile 10 = .ok (.invokestatic 65, 3) := by decide +kernel
theorem dX12_mile_13 : decode cX12_mile 13 = .ok (.ifCond .ne 8, 3) := by decide +kernel
theorem dX12_mile_16 : decode cX12_mile 16 = .ok (.bipush (-2), 2) := by decide +kernel
theorem dX12_mile_18 : decode cX12_mile 18 = .ok (.goto 21, 3) := by decide +kernel
theorem dX12_mile_21 : decode cX12_mile 21 = .ok (.iload_n 1, 1) := by decide +kernel
theorem dX12_mile_22 : decode cX12_mile 22 = .ok (.aload_n 0, 1) := by decide +kernel
theorem dX12_mile_23 : decode cX12_mile 23 = .ok (.getfield 107, 3) := by decide +kernel
theorem dX12_mile_26 : decode cX12_mile 26 = .ok (.if_icmp .ge 12, 3) := by decide +kernel
theorem dX12_mile_29 : decode cX12_mile 29 = .ok (.aload_n 0, 1) := by decide +kernel
theorem dX12_mile_30 : decode cX12_mile 30 = .ok (.getfield 28, 3) := by decide +kernel
theorem dX12_mile_33 : decode cX12_mile 33 = .ok (.iload_n 1, 1) := by decide +kernel
theorem dX12_mile_34 : decode cX12_mile 34 = .ok (.iaload, 1) := by decide +kernel
theorem dX12_mile_35 : decode cX12_mile 35 = .ok (.goto 4, 3) := by decide +kernel
theorem dX12_mile_38 : decode cX12_mile 38 = .ok (.iconst (-1), 1) := by decide +kernel
theorem dX12_mile_39 : decode cX12_mile 39 = .ok (.ireturn, 1) := by decide +kernel
theorem dX12_passenger_0 : decode cX12_passenger 0 = .ok (.aload_n 0, 1) := by decide +kernel
theorem dX12_passenger_1 : decode cX12_passenger 1 = .ok (.invokevirtual 141, 3) := by decide +kernel
theorem dX12_passenger_4 : decode cX12_passenger 4 = .ok (.aload_n 0, 1) := by decide +kernel
theorem dX12_passenger_5 : decode cX12_passenger 5 = .ok (.iload_n 1, 1) := by decide +kernel
theorem dX12_passenger_6 : decode cX12_passenger 6 = .ok (.invokevirtual 146, 3) := by decide +kernel
theorem dX12_passenger_9 : decode cX12_passenger 9 = .ok (.ifCond .eq 28, 3) := by decide +kernel
theorem dX12_passenger_12 : decode cX12_passenger 12 = .ok (.iload_n 2, 1) := by decide +kernel
theorem dX12_passenger_13 : decode cX12_passenger 13 = .ok (.i2l, 1) := by decide +kernel
theorem dX12_passenger_14 : decode cX12_passenger 14 = .ok (.lconst 0, 1) := by decide +kernel
theorem dX12_passenger_15 : decode cX12_passenger 15 = .ok (.ldc2_w 72, 3) := by decide +kernel
theorem dX12_passenger_18 : decode cX12_passenger 18 = .ok (.invokestatic 65, 3) := by decide +kernel
theorem dX12_passenger_21 : decode cX12_passenger 21 = .ok (.ifCond .eq 16, 3) := by decide +kernel
theorem dX12_passenger_24 : decode cX12_passenger 24 = .ok (.aload_n 0, 1) := by decide +kernel
theorem dX12_passenger_25 : decode cX12_passenger 25 = .ok (.getfield 31, 3) := by decide +kernel
theorem dX12_passenger_28 : decode cX12_passenger 28 = .ok (.iconst 4, 1) := by decide +kernel
theorem dX12_passenger_29 : decode cX12_passenger 29 = .ok (.iload_n 1, 1) := by decide +kernel
theorem dX12_passenger_30 : decode cX12_passenger 30 = .ok (.imul, 1) := by decide +kernel
theorem dX12_passenger_31 : decode cX12_passenger 31 = .ok (.iload_n 2, 1) := by decide +kernel
theorem dX12_passenger_32 : decode cX12_passenger 32 = .ok (.iadd, 1) := by decide +kernel
theorem dX12_passenger_33 : decode cX12_passenger 33 = .ok (.iaload, 1) := by decide +kernel
theorem dX12_passenger_34 : decode cX12_passenger 34 = .ok (.goto 5, 3) := by decide +kernel
theorem dX12_passenger_37 : decode cX12_passenger 37 = .ok (.bipush (-2), 2) := by decide +kernel
theorem dX12_passenger_39 : decode cX12_passenger 39 = .ok (.ireturn, 1) := by decide +kernel
theorem dX12_goose_0 : decode cX12_goose 0 = .ok (.aload_n 0, 1) := by decide +kernel
theorem dX12_goose_1 : decode cX12_goose 1 = .ok (.invokevirtual 141, 3) := by decide +kernel
theorem dX12_goose_4 : decode cX12_goose 4 = .ok (.aload_n 0, 1) := by decide +kernel
theorem dX12_goose_5 : decode cX12_goose 5 = .ok (.iload_n 1, 1) := by decide +kernel
theorem dX12_goose_6 : decode cX12_goose 6 = .ok (.invokevirtual 149, 3) := by decide +kernel
theorem dX12_goose_9 : decode cX12_goose 9 = .ok (.ifCond .eq 23, 3) := by decide +kernel
theorem dX12_goose_12 : decode cX12_goose 12 = .ok (.iload_n 2, 1) := by decide +kernel
theorem dX12_goose_13 : decode cX12_goose 13 = .ok (.invokestatic 152, 3) := by decide +kernel
theorem dX12_goose_16 : decode cX12_goose 16 = .ok (.ifCond .eq 16, 3) := by decide +kernel
theorem dX12_goose_19 : decode cX12_goose 19 = .ok (.aload_n 0, 1) := by decide +kernel
theorem dX12_goose_20 : decode cX12_goose 20 = .ok (.getfield 34, 3) := by decide +kernel
theorem dX12_goose_23 : decode cX12_goose 23 = .ok (.iconst 2, 1) := by decide +kernel
theorem dX12_goose_24 : decode cX12_goose 24 = .ok (.iload_n 1, 1) := by decide +kernel
theorem dX12_goose_25 : decode cX12_goose 25 = .ok (.imul, 1) := by decide +kernel
theorem dX12_goose_26 : decode cX12_goose 26 = .ok (.iload_n 2, 1) := by decide +kernel
theorem dX12_goose_27 : decode cX12_goose 27 = .ok (.iadd, 1) := by decide +kernel
theorem dX12_goose_28 : decode cX12_goose 28 = .ok (.iaload, 1) := by decide +kernel
theorem dX12_goose_29 : decode cX12_goose 29 = .ok (.goto 5, 3) := by decide +kernel
theorem dX12_goose_32 : decode cX12_goose 32 = .ok (.bipush (-2), 2) := by decide +kernel
theorem dX12_goose_34 : decode cX12_goose 34 = .ok (.ireturn, 1) := by decide +kernel
theorem dX12_flight_0 : decode cX12_flight 0 = .ok (.iload_n 1, 1) := by decide +kernel
theorem dX12_flight_1 : decode cX12_flight 1 = .ok (.i2l, 1) := by decide +kernel
theorem dX12_flight_2 : decode cX12_flight 2 = .ok (.lconst 0, 1) := by decide +kernel
theorem dX12_flight_3 : decode cX12_flight 3 = .ok (.ldc2_w 155, 3) := by decide +kernel
theorem dX12_flight_6 : decode cX12_flight 6 = .ok (.invokestatic 65, 3) := by decide +kernel
theorem dX12_flight_9 : decode cX12_flight 9 = .ok (.ifCond .eq 45, 3) := by decide +kernel
theorem dX12_flight_12 : decode cX12_flight 12 = .ok (.iload_n 2, 1) := by decide +kernel
theorem dX12_flight_13 : decode cX12_flight 13 = .ok (.i2l, 1) := by decide +kernel
theorem dX12_flight_14 : decode cX12_flight 14 = .ok (.lconst 0, 1) := by decide +kernel
theorem dX12_flight_15 : decode cX12_flight 15 = .ok (.ldc2_w 155, 3) := by decide +kernel
theorem dX12_flight_18 : decode cX12_flight 18 = .ok (.invokestatic 65, 3) := by decide +kernel
theorem dX12_flight_21 : decode cX12_flight 21 = .ok (.ifCond .eq 33, 3) := by decide +kernel
theorem dX12_flight_24 : decode cX12_flight 24 = .ok (.iload_n 3, 1) := by decide +kernel
theorem dX12_flight_25 : decode cX12_flight 25 = .ok (.i2l, 1) := by decide +kernel
theorem dX12_flight_26 : decode cX12_flight 26 = .ok (.lconst 0, 1) := by decide +kernel
theorem dX12_flight_27 : decode cX12_flight 27 = .ok (.ldc2_w 155, 3) := by decide +kernel
theorem dX12_flight_30 : decode cX12_flight 30 = .ok (.invokestatic 65, 3) := by decide +kernel
theorem dX12_flight_33 : decode cX12_flight 33 = .ok (.ifCond .eq 21, 3) := by decide +kernel
theorem dX12_flight_36 : decode cX12_flight 36 = .ok (.iload_n 2, 1) := by decide +kernel
theorem dX12_flight_37 : decode cX12_flight 37 = .ok (.iload_n 3, 1) := by decide +kernel
theorem dX12_flight_38 : decode cX12_flight 38 = .ok (.if_icmp .eq 16, 3) := by decide +kernel
theorem dX12_flight_41 : decode cX12_flight 41 = .ok (.iload 4, 2) := by decide +kernel
theorem dX12_flight_43 : decode cX12_flight 43 = .ok (.i2l, 1) := by decide +kernel
theorem dX12_flight_44 : decode cX12_flight 44 = .ok (.lconst 1, 1) := by decide +kernel
theorem dX12_flight_45 : decode cX12_flight 45 = .ok (.ldc2_w 157, 3) := by decide +kernel
theorem dX12_flight_48 : decode cX12_flight 48 = .ok (.invokestatic 65, 3) := by decide +kernel
theorem dX12_flight_51 : decode cX12_flight 51 = .ok (.ifCond .ne 6, 3) := by decide +kernel
theorem dX12_flight_54 : decode cX12_flight 54 = .ok (.bipush (-2), 2) := by decide +kernel
theorem dX12_flight_56 : decode cX12_flight 56 = .ok (.ireturn, 1) := by decide +kernel
theorem dX12_flight_57 : decode cX12_flight 57 = .ok (.aload_n 0, 1) := by decide +kernel
theorem dX12_flight_58 : decode cX12_flight 58 = .ok (.getfield 159, 3) := by decide +kernel
theorem dX12_flight_61 : decode cX12_flight 61 = .ok (.bipush 8, 2) := by decide +kernel
theorem dX12_flight_63 : decode cX12_flight 63 = .ok (.if_icmp .ne 6, 3) := by decide +kernel
theorem dX12_flight_66 : decode cX12_flight 66 = .ok (.bipush (-4), 2) := by decide +kernel
theorem dX12_flight_68 : decode cX12_flight 68 = .ok (.ireturn, 1) := by decide +kernel
theorem dX12_flight_69 : decode cX12_flight 69 = .ok (.aload_n 0, 1) := by decide +kernel
theorem dX12_flight_70 : decode cX12_flight 70 = .ok (.getfield 37, 3) := by decide +kernel
theorem dX12_flight_73 : decode cX12_flight 73 = .ok (.iconst 4, 1) := by decide +kernel
theorem dX12_flight_74 : decode cX12_flight 74 = .ok (.aload_n 0, 1) := by decide +kernel
theorem dX12_flight_75 : decode cX12_flight 75 = .ok (.getfield 159, 3) := by decide +kernel
theorem dX12_flight_78 : decode cX12_flight 78 = .ok (.imul, 1) := by decide +kernel
theorem dX12_flight_79 : decode cX12_flight 79 = .ok (.iload_n 1, 1) := by decide +kernel
theorem dX12_flight_80 : decode cX12_flight 80 = .ok (.iastore, 1) := by decide +kernel
theorem dX12_flight_81 : decode cX12_flight 81 = .ok (.aload_n 0, 1) := by decide +kernel
theorem dX12_flight_82 : decode cX12_flight 82 = .ok (.getfield 37, 3) := by decide +kernel
theorem dX12_flight_85 : decode cX12_flight 85 = .ok (.iconst 4, 1) := by decide +kernel
theorem dX12_flight_86 : decode cX12_flight 86 = .ok (.aload_n 0, 1) := by decide +kernel
theorem dX12_flight_87 : decode cX12_flight 87 = .ok (.getfield 159, 3) := by decide +kernel
theorem dX12_flight_90 : decode cX12_flight 90 = .ok (.imul, 1) := by decide +kernel
theorem dX12_flight_91 : decode cX12_flight 91 = .ok (.iconst 1, 1) := by decide +kernel
theorem dX12_flight_92 : decode cX12_flight 92 = .ok (.iadd, 1) := by decide +kernel
theorem dX12_flight_93 : decode cX12_flight 93 = .ok (.iload_n 2, 1) := by decide +kernel
theorem dX12_flight_94 : decode cX12_flight 94 = .ok (.iastore, 1) := by decide +kernel
theorem dX12_flight_95 : decode cX12_flight 95 = .ok (.aload_n 0, 1) := by decide +kernel
theorem dX12_flight_96 : decode cX12_flight 96 = .ok (.getfield 37, 3) := by decide +kernel
theorem dX12_flight_99 : decode cX12_flight 99 = .ok (.iconst 4, 1) := by decide +kernel
theorem dX12_flight_100 : decode cX12_flight 100 = .ok (.aload_n 0, 1) := by decide +kernel
theorem dX12_flight_101 : decode cX12_flight 101 = .ok (.getfield 159, 3) := by decide +kernel
theorem dX12_flight_104 : decode cX12_flight 104 = .ok (.imul, 1) := by decide +kernel
theorem dX12_flight_105 : decode cX12_flight 105 = .ok (.iconst 2, 1) := by decide +kernel
theorem dX12_flight_106 : decode cX12_flight 106 = .ok (.iadd, 1) := by decide +kernel
theorem dX12_flight_107 : decode cX12_flight 107 = .ok (.iload_n 3, 1) := by decide +kernel
theorem dX12_flight_108 : decode cX12_flight 108 = .ok (.iastore, 1) := by decide +kernel
theorem dX12_flight_109 : decode cX12_flight 109 = .ok (.aload_n 0, 1) := by decide +kernel
theorem dX12_flight_110 : decode cX12_flight 110 = .ok (.getfield 37, 3) := by decide +kernel
theorem dX12_flight_113 : decode cX12_flight 113 = .ok (.iconst 4, 1) := by decide +kernel
theorem dX12_flight_114 : decode cX12_flight 114 = .ok (.aload_n 0, 1) := by decide +kernel
theorem dX12_flight_115 : decode cX12_flight 115 = .ok (.getfield 159, 3) := by decide +kernel
theorem dX12_flight_118 : decode cX12_flight 118 = .ok (.imul, 1) := by decide +kernel
theorem dX12_flight_119 : decode cX12_flight 119 = .ok (.iconst 3, 1) := by decide +kernel
theorem dX12_flight_120 : decode cX12_flight 120 = .ok (.iadd, 1) := by decide +kernel
theorem dX12_flight_121 : decode cX12_flight 121 = .ok (.iload 4, 2) := by decide +kernel
theorem dX12_flight_123 : decode cX12_flight 123 = .ok (.iastore, 1) := by decide +kernel
theorem dX12_flight_124 : decode cX12_flight 124 = .ok (.aload_n 0, 1) := by decide +kernel
theorem dX12_flight_125 : decode cX12_flight 125 = .ok (.dup, 1) := by decide +kernel
theorem dX12_flight_126 : decode cX12_flight 126 = .ok (.getfield 159, 3) := by decide +kernel
theorem dX12_flight_129 : decode cX12_flight 129 = .ok (.iconst 1, 1) := by decide +kernel
theorem dX12_flight_130 : decode cX12_flight 130 = .ok (.iadd, 1) := by decide +kernel
theorem dX12_flight_131 : decode cX12_flight 131 = .ok (.putfield 159, 3) := by decide +kernel
theorem dX12_flight_134 : decode cX12_flight 134 = .ok (.aload_n 0, 1) := by decide +kernel
theorem dX12_flight_135 : decode cX12_flight 135 = .ok (.getfield 159, 3) := by decide +kernel
theorem dX12_flight_138 : decode cX12_flight 138 = .ok (.ireturn, 1) := by decide +kernel
theorem dX12_back_0 : decode cX12_back 0 = .ok (.aload_n 0, 1) := by decide +kernel
theorem dX12_back_1 : decode cX12_back 1 = .ok (.getfield 159, 3) := by decide +kernel
theorem dX12_back_4 : decode cX12_back 4 = .ok (.ifCond .ne 6, 3) := by decide +kernel
theorem dX12_back_7 : decode cX12_back 7 = .ok (.bipush (-3), 2) := by decide +kernel
theorem dX12_back_9 : decode cX12_back 9 = .ok (.ireturn, 1) := by decide +kernel
theorem dX12_back_10 : decode cX12_back 10 = .ok (.aload_n 0, 1) := by decide +kernel
theorem dX12_back_11 : decode cX12_back 11 = .ok (.dup, 1) := by decide +kernel
theorem dX12_back_12 : decode cX12_back 12 = .ok (.getfield 159, 3) := by decide +kernel
theorem dX12_back_15 : decode cX12_back 15 = .ok (.iconst 1, 1) := by decide +kernel
theorem dX12_back_16 : decode cX12_back 16 = .ok (.isub, 1) := by decide +kernel
theorem dX12_back_17 : decode cX12_back 17 = .ok (.putfield 159, 3) := by decide +kernel
theorem dX12_back_20 : decode cX12_back 20 = .ok (.aload_n 0, 1) := by decide +kernel
theorem dX12_back_21 : decode cX12_back 21 = .ok (.getfield 159, 3) := by decide +kernel
theorem dX12_back_24 : decode cX12_back 24 = .ok (.ireturn, 1) := by decide +kernel
theorem dX12_read_0 : decode cX12_read 0 = .ok (.iload_n 1, 1) := by decide +kernel
theorem dX12_read_1 : decode cX12_read 1 = .ok (.invokestatic 74, 3) := by decide +kernel
theorem dX12_read_4 : decode cX12_read 4 = .ok (.ifCond .ne 6, 3) := by decide +kernel
theorem dX12_read_7 : decode cX12_read 7 = .ok (.bipush (-2), 2) := by decide +kernel
theorem dX12_read_9 : decode cX12_read 9 = .ok (.ireturn, 1) := by decide +kernel
theorem dX12_read_10 : decode cX12_read 10 = .ok (.aload_n 0, 1) := by decide +kernel
theorem dX12_read_11 : decode cX12_read 11 = .ok (.getfield 7, 3) := by decide +kernel
theorem dX12_read_14 : decode cX12_read 14 = .ok (.iload_n 1, 1) := by decide +kernel
theorem dX12_read_15 : decode cX12_read 15 = .ok (.iaload, 1) := by decide +kernel
theorem dX12_read_16 : decode cX12_read 16 = .ok (.ifCond .ge 9, 3) := by decide +kernel
theorem dX12_read_19 : decode cX12_read 19 = .ok (.aload_n 0, 1) := by decide +kernel
theorem dX12_read_20 : decode cX12_read 20 = .ok (.iconst 1, 1) := by decide +kernel
theorem dX12_read_21 : decode cX12_read 21 = .ok (.invokevirtual 80, 3) := by decide +kernel
theorem dX12_read_24 : decode cX12_read 24 = .ok (.ireturn, 1) := by decide +kernel
theorem dX12_read_25 : decode cX12_read 25 = .ok (.iconst 0, 1) := by decide +kernel
theorem dX12_read_26 : decode cX12_read 26 = .ok (.istore_n 2, 1) := by decide +kernel
theorem dX12_read_27 : decode cX12_read 27 = .ok (.iconst 1, 1) := by decide +kernel
theorem dX12_read_28 : decode cX12_read 28 = .ok (.istore_n 3, 1) := by decide +kernel
theorem dX12_read_29 : decode cX12_read 29 = .ok (.iload_n 3, 1) := by decide +kernel
theorem dX12_read_30 : decode cX12_read 30 = .ok (.ifCond .eq 89, 3) := by decide +kernel
theorem dX12_read_33 : decode cX12_read 33 = .ok (.iconst 4, 1) := by decide +kernel
theorem dX12_read_34 : decode cX12_read 34 = .ok (.iload_n 2, 1) := by decide +kernel
theorem dX12_read_35 : decode cX12_read 35 = .ok (.imul, 1) := by decide +kernel
theorem dX12_read_36 : decode cX12_read 36 = .ok (.iconst 4, 1) := by decide +kernel
theorem dX12_read_37 : decode cX12_read 37 = .ok (.iadd, 1) := by decide +kernel
theorem dX12_read_38 : decode cX12_read 38 = .ok (.aload_n 0, 1) := by decide +kernel
theorem dX12_read_39 : decode cX12_read 39 = .ok (.getfield 13, 3) := by decide +kernel
theorem dX12_read_42 : decode cX12_read 42 = .ok (.iload_n 1, 1) := by decide +kernel
theorem dX12_read_43 : decode cX12_read 43 = .ok (.iaload, 1) := by decide +kernel
theorem dX12_read_44 : decode cX12_read 44 = .ok (.if_icmp .gt 75, 3) := by decide +kernel
theorem dX12_read_47 : decode cX12_read 47 = .ok (.bipush 60, 2) := by decide +kernel
theorem dX12_read_49 : decode cX12_read 49 = .ok (.iload_n 1, 1) := by decide +kernel
theorem dX12_read_50 : decode cX12_read 50 = .ok (.imul, 1) := by decide +kernel
theorem dX12_read_51 : decode cX12_read 51 = .ok (.iconst 4, 1) := by decide +kernel
theorem dX12_read_52 : decode cX12_read 52 = .ok (.iload_n 2, 1) := by decide +kernel
theorem dX12_read_53 : decode cX12_read 53 = .ok (.imul, 1) := by decide +kernel
theorem dX12_read_54 : decode cX12_read 54 = .ok (.iadd, 1) := by decide +kernel
theorem dX12_read_55 : decode cX12_read 55 = .ok (.istore 4, 2) := by decide +kernel
theorem dX12_read_57 : decode cX12_read 57 = .ok (.aload_n 0, 1) := by decide +kernel
theorem dX12_read_58 : decode cX12_read 58 = .ok (.aload_n 0, 1) := by decide +kernel
theorem dX12_read_59 : decode cX12_read 59 = .ok (.getfield 16, 3) := by decide +kernel
theorem dX12_read_62 : decode cX12_read 62 = .ok (.iload 4, 2) := by decide +kernel
