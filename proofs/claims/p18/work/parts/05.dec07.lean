theorem dX12_read_64 : decode cX12_read 64 = .ok (.iaload, 1) := by decide +kernel
theorem dX12_read_65 : decode cX12_read 65 = .ok (.aload_n 0, 1) := by decide +kernel
theorem dX12_read_66 : decode cX12_read 66 = .ok (.getfield 16, 3) := by decide +kernel
theorem dX12_read_69 : decode cX12_read 69 = .ok (.iload 4, 2) := by decide +kernel
theorem dX12_read_71 : decode cX12_read 71 = .ok (.iconst 1, 1) := by decide +kernel
theorem dX12_read_72 : decode cX12_read 72 = .ok (.iadd, 1) := by decide +kernel
theorem dX12_read_73 : decode cX12_read 73 = .ok (.iaload, 1) := by decide +kernel
theorem dX12_read_74 : decode cX12_read 74 = .ok (.aload_n 0, 1) := by decide +kernel
theorem dX12_read_75 : decode cX12_read 75 = .ok (.getfield 16, 3) := by decide +kernel
theorem dX12_read_78 : decode cX12_read 78 = .ok (.iload 4, 2) := by decide +kernel
theorem dX12_read_80 : decode cX12_read 80 = .ok (.iconst 2, 1) := by decide +kernel
theorem dX12_read_81 : decode cX12_read 81 = .ok (.iadd, 1) := by decide +kernel
theorem dX12_read_82 : decode cX12_read 82 = .ok (.iaload, 1) := by decide +kernel
theorem dX12_read_83 : decode cX12_read 83 = .ok (.aload_n 0, 1) := by decide +kernel
theorem dX12_read_84 : decode cX12_read 84 = .ok (.getfield 16, 3) := by decide +kernel
theorem dX12_read_87 : decode cX12_read 87 = .ok (.iload 4, 2) := by decide +kernel
theorem dX12_read_89 : decode cX12_read 89 = .ok (.iconst 3, 1) := by decide +kernel
theorem dX12_read_90 : decode cX12_read 90 = .ok (.iadd, 1) := by decide +kernel
theorem dX12_read_91 : decode cX12_read 91 = .ok (.iaload, 1) := by decide +kernel
theorem dX12_read_92 : decode cX12_read 92 = .ok (.invokevirtual 162, 3) := by decide +kernel
theorem dX12_read_95 : decode cX12_read 95 = .ok (.ifCond .lt 7, 3) := by decide +kernel
theorem dX12_read_98 : decode cX12_read 98 = .ok (.iconst 1, 1) := by decide +kernel
theorem dX12_read_99 : decode cX12_read 99 = .ok (.goto 4, 3) := by decide +kernel
theorem dX12_read_102 : decode cX12_read 102 = .ok (.iconst 0, 1) := by decide +kernel
theorem dX12_read_103 : decode cX12_read 103 = .ok (.istore_n 3, 1) := by decide +kernel
theorem dX12_read_104 : decode cX12_read 104 = .ok (.iload_n 2, 1) := by decide +kernel
theorem dX12_read_105 : decode cX12_read 105 = .ok (.iload_n 3, 1) := by decide +kernel
theorem dX12_read_106 : decode cX12_read 106 = .ok (.ifCond .eq 7, 3) := by decide +kernel
theorem dX12_read_109 : decode cX12_read 109 = .ok (.iconst 1, 1) := by decide +kernel
theorem dX12_read_110 : decode cX12_read 110 = .ok (.goto 4, 3) := by decide +kernel
theorem dX12_read_113 : decode cX12_read 113 = .ok (.iconst 0, 1) := by decide +kernel
theorem dX12_read_114 : decode cX12_read 114 = .ok (.iadd, 1) := by decide +kernel
theorem dX12_read_115 : decode cX12_read 115 = .ok (.istore_n 2, 1) := by decide +kernel
theorem dX12_read_116 : decode cX12_read 116 = .ok (.goto (-87), 3) := by decide +kernel
theorem dX12_read_119 : decode cX12_read 119 = .ok (.iload_n 2, 1) := by decide +kernel
theorem dX12_read_120 : decode cX12_read 120 = .ok (.ireturn, 1) := by decide +kernel
theorem dX12_learn_0 : decode cX12_learn 0 = .ok (.iload_n 1, 1) := by decide +kernel
theorem dX12_learn_1 : decode cX12_learn 1 = .ok (.i2l, 1) := by decide +kernel
theorem dX12_learn_2 : decode cX12_learn 2 = .ok (.lconst 0, 1) := by decide +kernel
theorem dX12_learn_3 : decode cX12_learn 3 = .ok (.ldc2_w 165, 3) := by decide +kernel
theorem dX12_learn_6 : decode cX12_learn 6 = .ok (.invokestatic 65, 3) := by decide +kernel
theorem dX12_learn_9 : decode cX12_learn 9 = .ok (.ifCond .ne 6, 3) := by decide +kernel
theorem dX12_learn_12 : decode cX12_learn 12 = .ok (.bipush (-2), 2) := by decide +kernel
theorem dX12_learn_14 : decode cX12_learn 14 = .ok (.ireturn, 1) := by decide +kernel
theorem dX12_learn_15 : decode cX12_learn 15 = .ok (.aload_n 0, 1) := by decide +kernel
theorem dX12_learn_16 : decode cX12_learn 16 = .ok (.getfield 167, 3) := by decide +kernel
theorem dX12_learn_19 : decode cX12_learn 19 = .ok (.istore_n 2, 1) := by decide +kernel
theorem dX12_learn_20 : decode cX12_learn 20 = .ok (.aload_n 0, 1) := by decide +kernel
theorem dX12_learn_21 : decode cX12_learn 21 = .ok (.iload_n 1, 1) := by decide +kernel
theorem dX12_learn_22 : decode cX12_learn 22 = .ok (.putfield 167, 3) := by decide +kernel
theorem dX12_learn_25 : decode cX12_learn 25 = .ok (.iload_n 2, 1) := by decide +kernel
theorem dX12_learn_26 : decode cX12_learn 26 = .ok (.ireturn, 1) := by decide +kernel
theorem dX12_isFlight_0 : decode cX12_isFlight 0 = .ok (.iload_n 1, 1) := by decide +kernel
theorem dX12_isFlight_1 : decode cX12_isFlight 1 = .ok (.i2l, 1) := by decide +kernel
theorem dX12_isFlight_2 : decode cX12_isFlight 2 = .ok (.lconst 0, 1) := by decide +kernel
theorem dX12_isFlight_3 : decode cX12_isFlight 3 = .ok (.aload_n 0, 1) := by decide +kernel
theorem dX12_isFlight_4 : decode cX12_isFlight 4 = .ok (.getfield 159, 3) := by decide +kernel
theorem dX12_isFlight_7 : decode cX12_isFlight 7 = .ok (.iconst 1, 1) := by decide +kernel
theorem dX12_isFlight_8 : decode cX12_isFlight 8 = .ok (.isub, 1) := by decide +kernel
theorem dX12_isFlight_9 : decode cX12_isFlight 9 = .ok (.i2l, 1) := by decide +kernel
theorem dX12_isFlight_10 : decode cX12_isFlight 10 = .ok (.invokestatic 65, 3) := by decide +kernel
theorem dX12_isFlight_13 : decode cX12_isFlight 13 = .ok (.ireturn, 1) := by decide +kernel
theorem dX12_changes_0 : decode cX12_changes 0 = .ok (.aload_n 0, 1) := by decide +kernel
theorem dX12_changes_1 : decode cX12_changes 1 = .ok (.getfield 43, 3) := by decide +kernel
theorem dX12_changes_4 : decode cX12_changes 4 = .ok (.iconst 0, 1) := by decide +kernel
theorem dX12_changes_5 : decode cX12_changes 5 = .ok (.iaload, 1) := by decide +kernel
theorem dX12_changes_6 : decode cX12_changes 6 = .ok (.istore_n 1, 1) := by decide +kernel
theorem dX12_changes_7 : decode cX12_changes 7 = .ok (.aload_n 0, 1) := by decide +kernel
theorem dX12_changes_8 : decode cX12_changes 8 = .ok (.getfield 46, 3) := by decide +kernel
theorem dX12_changes_11 : decode cX12_changes 11 = .ok (.iconst 0, 1) := by decide +kernel
theorem dX12_changes_12 : decode cX12_changes 12 = .ok (.iaload, 1) := by decide +kernel
theorem dX12_changes_13 : decode cX12_changes 13 = .ok (.istore_n 2, 1) := by decide +kernel
theorem dX12_changes_14 : decode cX12_changes 14 = .ok (.aload_n 0, 1) := by decide +kernel
theorem dX12_changes_15 : decode cX12_changes 15 = .ok (.getfield 49, 3) := by decide +kernel
theorem dX12_changes_18 : decode cX12_changes 18 = .ok (.iconst 0, 1) := by decide +kernel
theorem dX12_changes_19 : decode cX12_changes 19 = .ok (.iaload, 1) := by decide +kernel
theorem dX12_changes_20 : decode cX12_changes 20 = .ok (.istore_n 3, 1) := by decide +kernel
theorem dX12_changes_21 : decode cX12_changes 21 = .ok (.aload_n 0, 1) := by decide +kernel
theorem dX12_changes_22 : decode cX12_changes 22 = .ok (.getfield 43, 3) := by decide +kernel
theorem dX12_changes_25 : decode cX12_changes 25 = .ok (.iconst 0, 1) := by decide +kernel
theorem dX12_changes_26 : decode cX12_changes 26 = .ok (.aload_n 0, 1) := by decide +kernel
theorem dX12_changes_27 : decode cX12_changes 27 = .ok (.getfield 43, 3) := by decide +kernel
theorem dX12_changes_30 : decode cX12_changes 30 = .ok (.iconst 1, 1) := by decide +kernel
theorem dX12_changes_31 : decode cX12_changes 31 = .ok (.iaload, 1) := by decide +kernel
theorem dX12_changes_32 : decode cX12_changes 32 = .ok (.iastore, 1) := by decide +kernel
theorem dX12_changes_33 : decode cX12_changes 33 = .ok (.aload_n 0, 1) := by decide +kernel
theorem dX12_changes_34 : decode cX12_changes 34 = .ok (.getfield 46, 3) := by decide +kernel
theorem dX12_changes_37 : decode cX12_changes 37 = .ok (.iconst 0, 1) := by decide +kernel
theorem dX12_changes_38 : decode cX12_changes 38 = .ok (.aload_n 0, 1) := by decide +kernel
theorem dX12_changes_39 : decode cX12_changes 39 = .ok (.getfield 46, 3) := by decide +kernel
theorem dX12_changes_42 : decode cX12_changes 42 = .ok (.iconst 1, 1) := by decide +kernel
theorem dX12_changes_43 : decode cX12_changes 43 = .ok (.iaload, 1) := by decide +kernel
theorem dX12_changes_44 : decode cX12_changes 44 = .ok (.iastore, 1) := by decide +kernel
theorem dX12_changes_45 : decode cX12_changes 45 = .ok (.aload_n 0, 1) := by decide +kernel
theorem dX12_changes_46 : decode cX12_changes 46 = .ok (.getfield 49, 3) := by decide +kernel
theorem dX12_changes_49 : decode cX12_changes 49 = .ok (.iconst 0, 1) := by decide +kernel
theorem dX12_changes_50 : decode cX12_changes 50 = .ok (.aload_n 0, 1) := by decide +kernel
theorem dX12_changes_51 : decode cX12_changes 51 = .ok (.getfield 49, 3) := by decide +kernel
theorem dX12_changes_54 : decode cX12_changes 54 = .ok (.iconst 1, 1) := by decide +kernel
theorem dX12_changes_55 : decode cX12_changes 55 = .ok (.iaload, 1) := by decide +kernel
theorem dX12_changes_56 : decode cX12_changes 56 = .ok (.iastore, 1) := by decide +kernel
theorem dX12_changes_57 : decode cX12_changes 57 = .ok (.aload_n 0, 1) := by decide +kernel
theorem dX12_changes_58 : decode cX12_changes 58 = .ok (.getfield 43, 3) := by decide +kernel
theorem dX12_changes_61 : decode cX12_changes 61 = .ok (.iconst 1, 1) := by decide +kernel
theorem dX12_changes_62 : decode cX12_changes 62 = .ok (.iload_n 1, 1) := by decide +kernel
theorem dX12_changes_63 : decode cX12_changes 63 = .ok (.iastore, 1) := by decide +kernel
theorem dX12_changes_64 : decode cX12_changes 64 = .ok (.aload_n 0, 1) := by decide +kernel
theorem dX12_changes_65 : decode cX12_changes 65 = .ok (.getfield 46, 3) := by decide +kernel
theorem dX12_changes_68 : decode cX12_changes 68 = .ok (.iconst 1, 1) := by decide +kernel
theorem dX12_changes_69 : decode cX12_changes 69 = .ok (.iload_n 2, 1) := by decide +kernel
theorem dX12_changes_70 : decode cX12_changes 70 = .ok (.iastore, 1) := by decide +kernel
theorem dX12_changes_71 : decode cX12_changes 71 = .ok (.aload_n 0, 1) := by decide +kernel
theorem dX12_changes_72 : decode cX12_changes 72 = .ok (.getfield 49, 3) := by decide +kernel
theorem dX12_changes_75 : decode cX12_changes 75 = .ok (.iconst 1, 1) := by decide +kernel
theorem dX12_changes_76 : decode cX12_changes 76 = .ok (.iload_n 3, 1) := by decide +kernel
theorem dX12_changes_77 : decode cX12_changes 77 = .ok (.iastore, 1) := by decide +kernel
theorem dX12_changes_78 : decode cX12_changes 78 = .ok (.return_, 1) := by decide +kernel
theorem dX12_tires_0 : decode cX12_tires 0 = .ok (.aload_n 0, 1) := by decide +kernel
theorem dX12_tires_1 : decode cX12_tires 1 = .ok (.getfield 49, 3) := by decide +kernel
theorem dX12_tires_4 : decode cX12_tires 4 = .ok (.iload_n 1, 1) := by decide +kernel
theorem dX12_tires_5 : decode cX12_tires 5 = .ok (.dup2, 1) := by decide +kernel
theorem dX12_tires_6 : decode cX12_tires 6 = .ok (.iaload, 1) := by decide +kernel
theorem dX12_tires_7 : decode cX12_tires 7 = .ok (.iconst 1, 1) := by decide +kernel
theorem dX12_tires_8 : decode cX12_tires 8 = .ok (.iadd, 1) := by decide +kernel
theorem dX12_tires_9 : decode cX12_tires 9 = .ok (.iastore, 1) := by decide +kernel
theorem dX12_tires_10 : decode cX12_tires 10 = .ok (.aload_n 0, 1) := by decide +kernel
theorem dX12_tires_11 : decode cX12_tires 11 = .ok (.getfield 49, 3) := by decide +kernel
theorem dX12_tires_14 : decode cX12_tires 14 = .ok (.iload_n 1, 1) := by decide +kernel
theorem dX12_tires_15 : decode cX12_tires 15 = .ok (.iaload, 1) := by decide +kernel
theorem dX12_tires_16 : decode cX12_tires 16 = .ok (.aload_n 0, 1) := by decide +kernel
theorem dX12_tires_17 : decode cX12_tires 17 = .ok (.getfield 34, 3) := by decide +kernel
theorem dX12_tires_20 : decode cX12_tires 20 = .ok (.iconst 2, 1) := by decide +kernel
theorem dX12_tires_21 : decode cX12_tires 21 = .ok (.aload_n 0, 1) := by decide +kernel
theorem dX12_tires_22 : decode cX12_tires 22 = .ok (.getfield 43, 3) := by decide +kernel
theorem dX12_tires_25 : decode cX12_tires 25 = .ok (.iload_n 1, 1) := by decide +kernel
theorem dX12_tires_26 : decode cX12_tires 26 = .ok (.iaload, 1) := by decide +kernel
theorem dX12_tires_27 : decode cX12_tires 27 = .ok (.imul, 1) := by decide +kernel
theorem dX12_tires_28 : decode cX12_tires 28 = .ok (.iconst 1, 1) := by decide +kernel
theorem dX12_tires_29 : decode cX12_tires 29 = .ok (.iadd, 1) := by decide +kernel
theorem dX12_tires_30 : decode cX12_tires 30 = .ok (.iaload, 1) := by decide +kernel
theorem dX12_tires_31 : decode cX12_tires 31 = .ok (.if_icmp .ne 20, 3) := by decide +kernel
theorem dX12_tires_34 : decode cX12_tires 34 = .ok (.aload_n 0, 1) := by decide +kernel
theorem dX12_tires_35 : decode cX12_tires 35 = .ok (.getfield 49, 3) := by decide +kernel
theorem dX12_tires_38 : decode cX12_tires 38 = .ok (.iload_n 1, 1) := by decide +kernel
theorem dX12_tires_39 : decode cX12_tires 39 = .ok (.iconst 0, 1) := by decide +kernel
theorem dX12_tires_40 : decode cX12_tires 40 = .ok (.iastore, 1) := by decide +kernel
theorem dX12_tires_41 : decode cX12_tires 41 = .ok (.aload_n 0, 1) := by decide +kernel
theorem dX12_tires_42 : decode cX12_tires 42 = .ok (.getfield 46, 3) := by decide +kernel
theorem dX12_tires_45 : decode cX12_tires 45 = .ok (.iload_n 1, 1) := by decide +kernel
theorem dX12_tires_46 : decode cX12_tires 46 = .ok (.dup2, 1) := by decide +kernel
theorem dX12_tires_47 : decode cX12_tires 47 = .ok (.iaload, 1) := by decide +kernel
theorem dX12_tires_48 : decode cX12_tires 48 = .ok (.iconst 1, 1) := by decide +kernel
theorem dX12_tires_49 : decode cX12_tires 49 = .ok (.isub, 1) := by decide +kernel
theorem dX12_tires_50 : decode cX12_tires 50 = .ok (.iastore, 1) := by decide +kernel
theorem dX12_tires_51 : decode cX12_tires 51 = .ok (.return_, 1) := by decide +kernel
theorem dX12_angerBy_0 : decode cX12_angerBy 0 = .ok (.aload_n 0, 1) := by decide +kernel
theorem dX12_angerBy_1 : decode cX12_angerBy 1 = .ok (.getfield 31, 3) := by decide +kernel
theorem dX12_angerBy_4 : decode cX12_angerBy 4 = .ok (.iconst 4, 1) := by decide +kernel
theorem dX12_angerBy_5 : decode cX12_angerBy 5 = .ok (.iload_n 1, 1) := by decide +kernel
theorem dX12_angerBy_6 : decode cX12_angerBy 6 = .ok (.imul, 1) := by decide +kernel
theorem dX12_angerBy_7 : decode cX12_angerBy 7 = .ok (.iaload, 1) := by decide +kernel
theorem dX12_angerBy_8 : decode cX12_angerBy 8 = .ok (.istore 4, 2) := by decide +kernel
theorem dX12_angerBy_10 : decode cX12_angerBy 10 = .ok (.iload 4, 2) := by decide +kernel
theorem dX12_angerBy_12 : decode cX12_angerBy 12 = .ok (.iconst 1, 1) := by decide +kernel
theorem dX12_angerBy_13 : decode cX12_angerBy 13 = .ok (.if_icmp .eq 15, 3) := by decide +kernel
theorem dX12_angerBy_16 : decode cX12_angerBy 16 = .ok (.iload 4, 2) := by decide +kernel
theorem dX12_angerBy_18 : decode cX12_angerBy 18 = .ok (.iconst 3, 1) := by decide +kernel
theorem dX12_angerBy_19 : decode cX12_angerBy 19 = .ok (.if_icmp .ne 11, 3) := by decide +kernel
theorem dX12_angerBy_22 : decode cX12_angerBy 22 = .ok (.iload_n 3, 1) := by decide +kernel
theorem dX12_angerBy_23 : decode cX12_angerBy 23 = .ok (.bipush 6, 2) := by decide +kernel
theorem dX12_angerBy_25 : decode cX12_angerBy 25 = .ok (.if_icmp .le 5, 3) := by decide +kernel
theorem dX12_angerBy_28 : decode cX12_angerBy 28 = .ok (.iconst 0, 1) := by decide +kernel
theorem dX12_angerBy_29 : decode cX12_angerBy 29 = .ok (.ireturn, 1) := by decide +kernel
theorem dX12_angerBy_30 : decode cX12_angerBy 30 = .ok (.aload_n 0, 1) := by decide +kernel
theorem dX12_angerBy_31 : decode cX12_angerBy 31 = .ok (.getfield 31, 3) := by decide +kernel
theorem dX12_angerBy_34 : decode cX12_angerBy 34 = .ok (.iconst 4, 1) := by decide +kernel
theorem dX12_angerBy_35 : decode cX12_angerBy 35 = .ok (.iload_n 1, 1) := by decide +kernel
theorem dX12_angerBy_36 : decode cX12_angerBy 36 = .ok (.imul, 1) := by decide +kernel
theorem dX12_angerBy_37 : decode cX12_angerBy 37 = .ok (.iconst 1, 1) := by decide +kernel
theorem dX12_angerBy_38 : decode cX12_angerBy 38 = .ok (.iadd, 1) := by decide +kernel
theorem dX12_angerBy_39 : decode cX12_angerBy 39 = .ok (.iaload, 1) := by decide +kernel
theorem dX12_angerBy_40 : decode cX12_angerBy 40 = .ok (.iload_n 2, 1) := by decide +kernel
theorem dX12_angerBy_41 : decode cX12_angerBy 41 = .ok (.if_icmp .ne 12, 3) := by decide +kernel
theorem dX12_angerBy_44 : decode cX12_angerBy 44 = .ok (.iconst 2, 1) := by decide +kernel
theorem dX12_angerBy_45 : decode cX12_angerBy 45 = .ok (.bipush 10, 2) := by decide +kernel
theorem dX12_angerBy_47 : decode cX12_angerBy 47 = .ok (.iload_n 3, 1) := by decide +kernel
theorem dX12_angerBy_48 : decode cX12_angerBy 48 = .ok (.isub, 1) := by decide +kernel
theorem dX12_angerBy_49 : decode cX12_angerBy 49 = .ok (.imul, 1) := by decide +kernel
theorem dX12_angerBy_50 : decode cX12_angerBy 50 = .ok (.goto 7, 3) := by decide +kernel
theorem dX12_angerBy_53 : decode cX12_angerBy 53 = .ok (.bipush 10, 2) := by decide +kernel
theorem dX12_angerBy_55 : decode cX12_angerBy 55 = .ok (.iload_n 3, 1) := by decide +kernel
theorem dX12_angerBy_56 : decode cX12_angerBy 56 = .ok (.isub, 1) := by decide +kernel
theorem dX12_angerBy_57 : decode cX12_angerBy 57 = .ok (.istore 5, 2) := by decide +kernel
theorem dX12_angerBy_59 : decode cX12_angerBy 59 = .ok (.iload 4, 2) := by decide +kernel
theorem dX12_angerBy_61 : decode cX12_angerBy 61 = .ok (.iconst 2, 1) := by decide +kernel
theorem dX12_angerBy_62 : decode cX12_angerBy 62 = .ok (.if_icmp .ne 10, 3) := by decide +kernel
theorem dX12_angerBy_65 : decode cX12_angerBy 65 = .ok (.iload 5, 2) := by decide +kernel
theorem dX12_angerBy_67 : decode cX12_angerBy 67 = .ok (.iconst 1, 1) := by decide +kernel
theorem dX12_angerBy_68 : decode cX12_angerBy 68 = .ok (.iadd, 1) := by decide +kernel
theorem dX12_angerBy_69 : decode cX12_angerBy 69 = .ok (.goto 5, 3) := by decide +kernel
theorem dX12_angerBy_72 : decode cX12_angerBy 72 = .ok (.iload 5, 2) := by decide +kernel
theorem dX12_angerBy_74 : decode cX12_angerBy 74 = .ok (.ireturn, 1) := by decide +kernel
theorem dX12_goes_0 : decode cX12_goes 0 = .ok (.aload_n 0, 1) := by decide +kernel
theorem dX12_goes_1 : decode cX12_goes 1 = .ok (.getfield 28, 3) := by decide +kernel
theorem dX12_goes_4 : decode cX12_goes 4 = .ok (.iload_n 2, 1) := by decide +kernel
theorem dX12_goes_5 : decode cX12_goes 5 = .ok (.iaload, 1) := by decide +kernel
theorem dX12_goes_6 : decode cX12_goes 6 = .ok (.istore 4, 2) := by decide +kernel
theorem dX12_goes_8 : decode cX12_goes 8 = .ok (.iload 4, 2) := by decide +kernel
theorem dX12_goes_10 : decode cX12_goes 10 = .ok (.bipush 8, 2) := by decide +kernel
theorem dX12_goes_12 : decode cX12_goes 12 = .ok (.if_icmp .ne 7, 3) := by decide +kernel
theorem dX12_goes_15 : decode cX12_goes 15 = .ok (.aload_n 0, 1) := by decide +kernel
theorem dX12_goes_16 : decode cX12_goes 16 = .ok (.invokevirtual 170, 3) := by decide +kernel
theorem dX12_goes_19 : decode cX12_goes 19 = .ok (.aload_n 0, 1) := by decide +kernel
theorem dX12_goes_20 : decode cX12_goes 20 = .ok (.iconst 0, 1) := by decide +kernel
theorem dX12_goes_21 : decode cX12_goes 21 = .ok (.invokevirtual 173, 3) := by decide +kernel
theorem dX12_goes_24 : decode cX12_goes 24 = .ok (.aload_n 0, 1) := by decide +kernel
theorem dX12_goes_25 : decode cX12_goes 25 = .ok (.iconst 1, 1) := by decide +kernel
theorem dX12_goes_26 : decode cX12_goes 26 = .ok (.invokevirtual 173, 3) := by decide +kernel
theorem dX12_goes_29 : decode cX12_goes 29 = .ok (.aload_n 0, 1) := by decide +kernel
theorem dX12_goes_30 : decode cX12_goes 30 = .ok (.getfield 31, 3) := by decide +kernel
theorem dX12_goes_33 : decode cX12_goes 33 = .ok (.iconst 4, 1) := by decide +kernel
theorem dX12_goes_34 : decode cX12_goes 34 = .ok (.iload_n 1, 1) := by decide +kernel
theorem dX12_goes_35 : decode cX12_goes 35 = .ok (.imul, 1) := by decide +kernel
theorem dX12_goes_36 : decode cX12_goes 36 = .ok (.iconst 3, 1) := by decide +kernel
theorem dX12_goes_37 : decode cX12_goes 37 = .ok (.iadd, 1) := by decide +kernel
theorem dX12_goes_38 : decode cX12_goes 38 = .ok (.iaload, 1) := by decide +kernel
theorem dX12_goes_39 : decode cX12_goes 39 = .ok (.istore 5, 2) := by decide +kernel
theorem dX12_goes_41 : decode cX12_goes 41 = .ok (.aload_n 0, 1) := by decide +kernel
theorem dX12_goes_42 : decode cX12_goes 42 = .ok (.getfield 46, 3) := by decide +kernel
theorem dX12_goes_45 : decode cX12_goes 45 = .ok (.iconst 0, 1) := by decide +kernel
theorem dX12_goes_46 : decode cX12_goes 46 = .ok (.iaload, 1) := by decide +kernel
theorem dX12_goes_47 : decode cX12_goes 47 = .ok (.iload 5, 2) := by decide +kernel
theorem dX12_goes_49 : decode cX12_goes 49 = .ok (.iconst 1, 1) := by decide +kernel
theorem dX12_goes_50 : decode cX12_goes 50 = .ok (.iadd, 1) := by decide +kernel
theorem dX12_goes_51 : decode cX12_goes 51 = .ok (.iconst 2, 1) := by decide +kernel
theorem dX12_goes_52 : decode cX12_goes 52 = .ok (.idiv, 1) := by decide +kernel
theorem dX12_goes_53 : decode cX12_goes 53 = .ok (.if_icmp .lt 16, 3) := by decide +kernel
theorem dX12_goes_56 : decode cX12_goes 56 = .ok (.aload_n 0, 1) := by decide +kernel
theorem dX12_goes_57 : decode cX12_goes 57 = .ok (.getfield 46, 3) := by decide +kernel
theorem dX12_goes_60 : decode cX12_goes 60 = .ok (.iconst 1, 1) := by decide +kernel
theorem dX12_goes_61 : decode cX12_goes 61 = .ok (.iaload, 1) := by decide +kernel
theorem dX12_goes_62 : decode cX12_goes 62 = .ok (.iload 5, 2) := by decide +kernel
theorem dX12_goes_64 : decode cX12_goes 64 = .ok (.iconst 2, 1) := by decide +kernel
theorem dX12_goes_65 : decode cX12_goes 65 = .ok (.idiv, 1) := by decide +kernel
theorem dX12_goes_66 : decode cX12_goes 66 = .ok (.if_icmp .ge 5, 3) := by decide +kernel
theorem dX12_goes_69 : decode cX12_goes 69 = .ok (.iconst 1, 1) := by decide +kernel
theorem dX12_goes_70 : decode cX12_goes 70 = .ok (.ireturn, 1) := by decide +kernel
theorem dX12_goes_71 : decode cX12_goes 71 = .ok (.aload_n 0, 1) := by decide +kernel
theorem dX12_goes_72 : decode cX12_goes 72 = .ok (.dup, 1) := by decide +kernel
theorem dX12_goes_73 : decode cX12_goes 73 = .ok (.getfield 177, 3) := by decide +kernel
theorem dX12_goes_76 : decode cX12_goes 76 = .ok (.iload_n 3, 1) := by decide +kernel
theorem dX12_goes_77 : decode cX12_goes 77 = .ok (.iconst 5, 1) := by decide +kernel
theorem dX12_goes_78 : decode cX12_goes 78 = .ok (.if_icmp .le 9, 3) := by decide +kernel
theorem dX12_goes_81 : decode cX12_goes 81 = .ok (.iload_n 3, 1) := by decide +kernel
theorem dX12_goes_82 : decode cX12_goes 82 = .ok (.iconst 5, 1) := by decide +kernel
theorem dX12_goes_83 : decode cX12_goes 83 = .ok (.isub, 1) := by decide +kernel
theorem dX12_goes_84 : decode cX12_goes 84 = .ok (.goto 4, 3) := by decide +kernel
theorem dX12_goes_87 : decode cX12_goes 87 = .ok (.iconst 0, 1) := by decide +kernel
theorem dX12_goes_88 : decode cX12_goes 88 = .ok (.iadd, 1) := by decide +kernel
theorem dX12_goes_89 : decode cX12_goes 89 = .ok (.putfield 177, 3) := by decide +kernel
theorem dX12_goes_92 : decode cX12_goes 92 = .ok (.aload_n 0, 1) := by decide +kernel
theorem dX12_goes_93 : decode cX12_goes 93 = .ok (.getfield 177, 3) := by decide +kernel
theorem dX12_goes_96 : decode cX12_goes 96 = .ok (.bipush 20, 2) := by decide +kernel
theorem dX12_goes_98 : decode cX12_goes 98 = .ok (.if_icmp .le 5, 3) := by decide +kernel
theorem dX12_goes_101 : decode cX12_goes 101 = .ok (.iconst 2, 1) := by decide +kernel
theorem dX12_goes_102 : decode cX12_goes 102 = .ok (.ireturn, 1) := by decide +kernel
theorem dX12_goes_103 : decode cX12_goes 103 = .ok (.iload 4, 2) := by decide +kernel
theorem dX12_goes_105 : decode cX12_goes 105 = .ok (.bipush 6, 2) := by decide +kernel
theorem dX12_goes_107 : decode cX12_goes 107 = .ok (.if_icmp .ge 43, 3) := by decide +kernel
theorem dX12_goes_110 : decode cX12_goes 110 = .ok (.aload_n 0, 1) := by decide +kernel
theorem dX12_goes_111 : decode cX12_goes 111 = .ok (.getfield 167, 3) := by decide +kernel
theorem dX12_goes_114 : decode cX12_goes 114 = .ok (.iload 4, 2) := by decide +kernel
theorem dX12_goes_116 : decode cX12_goes 116 = .ok (.invokestatic 180, 3) := by decide +kernel
theorem dX12_goes_119 : decode cX12_goes 119 = .ok (.ifCond .ne 31, 3) := by decide +kernel
theorem dX12_goes_122 : decode cX12_goes 122 = .ok (.aload_n 0, 1) := by decide +kernel
theorem dX12_goes_123 : decode cX12_goes 123 = .ok (.getfield 59, 3) := by decide +kernel
theorem dX12_goes_126 : decode cX12_goes 126 = .ok (.iload_n 2, 1) := by decide +kernel
theorem dX12_goes_127 : decode cX12_goes 127 = .ok (.invokestatic 180, 3) := by decide +kernel
theorem dX12_goes_130 : decode cX12_goes 130 = .ok (.ifCond .eq 20, 3) := by decide +kernel
theorem dX12_goes_133 : decode cX12_goes 133 = .ok (.aload_n 0, 1) := by decide +kernel
theorem dX12_goes_134 : decode cX12_goes 134 = .ok (.dup, 1) := by decide +kernel
theorem dX12_goes_135 : decode cX12_goes 135 = .ok (.getfield 184, 3) := by decide +kernel
theorem dX12_goes_138 : decode cX12_goes 138 = .ok (.aload_n 0, 1) := by decide +kernel
theorem dX12_goes_139 : decode cX12_goes 139 = .ok (.iload_n 1, 1) := by decide +kernel
theorem dX12_goes_140 : decode cX12_goes 140 = .ok (.iload 4, 2) := by decide +kernel
theorem dX12_goes_142 : decode cX12_goes 142 = .ok (.iload_n 3, 1) := by decide +kernel
theorem dX12_goes_143 : decode cX12_goes 143 = .ok (.invokevirtual 187, 3) := by decide +kernel
theorem dX12_goes_146 : decode cX12_goes 146 = .ok (.iadd, 1) := by decide +kernel
theorem dX12_goes_147 : decode cX12_goes 147 = .ok (.putfield 184, 3) := by decide +kernel
theorem dX12_goes_150 : decode cX12_goes 150 = .ok (.aload_n 0, 1) := by decide +kernel
theorem dX12_goes_151 : decode cX12_goes 151 = .ok (.getfield 184, 3) := by decide +kernel
theorem dX12_goes_154 : decode cX12_goes 154 = .ok (.iconst 5, 1) := by decide +kernel
theorem dX12_goes_155 : decode cX12_goes 155 = .ok (.aload_n 0, 1) := by decide +kernel
theorem dX12_goes_156 : decode cX12_goes 156 = .ok (.getfield 31, 3) := by decide +kernel
theorem dX12_goes_159 : decode cX12_goes 159 = .ok (.iconst 4, 1) := by decide +kernel
theorem dX12_goes_160 : decode cX12_goes 160 = .ok (.iload_n 1, 1) := by decide +kernel
theorem dX12_goes_161 : decode cX12_goes 161 = .ok (.imul, 1) := by decide +kernel
theorem dX12_goes_162 : decode cX12_goes 162 = .ok (.iconst 2, 1) := by decide +kernel
theorem dX12_goes_163 : decode cX12_goes 163 = .ok (.iadd, 1) := by decide +kernel
theorem dX12_goes_164 : decode cX12_goes 164 = .ok (.iaload, 1) := by decide +kernel
theorem dX12_goes_165 : decode cX12_goes 165 = .ok (.imul, 1) := by decide +kernel
theorem dX12_goes_166 : decode cX12_goes 166 = .ok (.if_icmp .le 5, 3) := by decide +kernel
theorem dX12_goes_169 : decode cX12_goes 169 = .ok (.iconst 3, 1) := by decide +kernel
theorem dX12_goes_170 : decode cX12_goes 170 = .ok (.ireturn, 1) := by decide +kernel
theorem dX12_goes_171 : decode cX12_goes 171 = .ok (.iload 4, 2) := by decide +kernel
theorem dX12_goes_173 : decode cX12_goes 173 = .ok (.bipush 7, 2) := by decide +kernel
theorem dX12_goes_175 : decode cX12_goes 175 = .ok (.if_icmp .ne 67, 3) := by decide +kernel
theorem dX12_goes_178 : decode cX12_goes 178 = .ok (.aload_n 0, 1) := by decide +kernel
theorem dX12_goes_179 : decode cX12_goes 179 = .ok (.iconst 0, 1) := by decide +kernel
theorem dX12_goes_180 : decode cX12_goes 180 = .ok (.putfield 184, 3) := by decide +kernel
theorem dX12_goes_183 : decode cX12_goes 183 = .ok (.aload_n 0, 1) := by decide +kernel
theorem dX12_goes_184 : decode cX12_goes 184 = .ok (.iconst 0, 1) := by decide +kernel
theorem dX12_goes_185 : decode cX12_goes 185 = .ok (.putfield 177, 3) := by decide +kernel
theorem dX12_goes_188 : decode cX12_goes 188 = .ok (.iconst 0, 1) := by decide +kernel
theorem dX12_goes_189 : decode cX12_goes 189 = .ok (.istore 6, 2) := by decide +kernel
theorem dX12_goes_191 : decode cX12_goes 191 = .ok (.iload 6, 2) := by decide +kernel
theorem dX12_goes_193 : decode cX12_goes 193 = .ok (.iconst 2, 1) := by decide +kernel
theorem dX12_goes_194 : decode cX12_goes 194 = .ok (.if_icmp .ge 48, 3) := by decide +kernel
theorem dX12_goes_197 : decode cX12_goes 197 = .ok (.aload_n 0, 1) := by decide +kernel
theorem dX12_goes_198 : decode cX12_goes 198 = .ok (.getfield 46, 3) := by decide +kernel
theorem dX12_goes_201 : decode cX12_goes 201 = .ok (.iload 6, 2) := by decide +kernel
theorem dX12_goes_203 : decode cX12_goes 203 = .ok (.dup2, 1) := by decide +kernel
theorem dX12_goes_204 : decode cX12_goes 204 = .ok (.iaload, 1) := by decide +kernel
theorem dX12_goes_205 : decode cX12_goes 205 = .ok (.aload_n 0, 1) := by decide +kernel
theorem dX12_goes_206 : decode cX12_goes 206 = .ok (.getfield 46, 3) := by decide +kernel
theorem dX12_goes_209 : decode cX12_goes 209 = .ok (.iload 6, 2) := by decide +kernel
theorem dX12_goes_211 : decode cX12_goes 211 = .ok (.iaload, 1) := by decide +kernel
theorem dX12_goes_212 : decode cX12_goes 212 = .ok (.aload_n 0, 1) := by decide +kernel
theorem dX12_goes_213 : decode cX12_goes 213 = .ok (.getfield 34, 3) := by decide +kernel
theorem dX12_goes_216 : decode cX12_goes 216 = .ok (.iconst 2, 1) := by decide +kernel
theorem dX12_goes_217 : decode cX12_goes 217 = .ok (.aload_n 0, 1) := by decide +kernel
theorem dX12_goes_218 : decode cX12_goes 218 = .ok (.getfield 43, 3) := by decide +kernel
theorem dX12_goes_221 : decode cX12_goes 221 = .ok (.iload 6, 2) := by decide +kernel
theorem dX12_goes_223 : decode cX12_goes 223 = .ok (.iaload, 1) := by decide +kernel
theorem dX12_goes_224 : decode cX12_goes 224 = .ok (.imul, 1) := by decide +kernel
theorem dX12_goes_225 : decode cX12_goes 225 = .ok (.iaload, 1) := by decide +kernel
theorem dX12_goes_226 : decode cX12_goes 226 = .ok (.if_icmp .ge 7, 3) := by decide +kernel
theorem dX12_goes_229 : decode cX12_goes 229 = .ok (.iconst 1, 1) := by decide +kernel
theorem dX12_goes_230 : decode cX12_goes 230 = .ok (.goto 4, 3) := by decide +kernel
theorem dX12_goes_233 : decode cX12_goes 233 = .ok (.iconst 0, 1) := by decide +kernel
theorem dX12_goes_234 : decode cX12_goes 234 = .ok (.iadd, 1) := by decide +kernel
theorem dX12_goes_235 : decode cX12_goes 235 = .ok (.iastore, 1) := by decide +kernel
theorem dX12_goes_236 : decode cX12_goes 236 = .ok (.iinc 6 1, 3) := by decide +kernel
theorem dX12_goes_239 : decode cX12_goes 239 = .ok (.goto (-48), 3) := by decide +kernel
theorem dX12_goes_242 : decode cX12_goes 242 = .ok (.iconst 0, 1) := by decide +kernel
theorem dX12_goes_243 : decode cX12_goes 243 = .ok (.ireturn, 1) := by decide +kernel
theorem dX12_flies_0 : decode cX12_flies 0 = .ok (.aload_n 0, 1) := by decide +kernel
theorem dX12_flies_1 : decode cX12_flies 1 = .ok (.iconst 0, 1) := by decide +kernel
theorem dX12_flies_2 : decode cX12_flies 2 = .ok (.putfield 190, 3) := by decide +kernel
theorem dX12_flies_5 : decode cX12_flies 5 = .ok (.aload_n 0, 1) := by decide +kernel
theorem dX12_flies_6 : decode cX12_flies 6 = .ok (.iconst 0, 1) := by decide +kernel
theorem dX12_flies_7 : decode cX12_flies 7 = .ok (.putfield 193, 3) := by decide +kernel
theorem dX12_flies_10 : decode cX12_flies 10 = .ok (.aload_n 0, 1) := by decide +kernel
theorem dX12_flies_11 : decode cX12_flies 11 = .ok (.iconst 1, 1) := by decide +kernel
theorem dX12_flies_12 : decode cX12_flies 12 = .ok (.putfield 196, 3) := by decide +kernel
theorem dX12_flies_15 : decode cX12_flies 15 = .ok (.aload_n 0, 1) := by decide +kernel
theorem dX12_flies_16 : decode cX12_flies 16 = .ok (.iload_n 1, 1) := by decide +kernel
theorem dX12_flies_17 : decode cX12_flies 17 = .ok (.invokevirtual 146, 3) := by decide +kernel
theorem dX12_flies_20 : decode cX12_flies 20 = .ok (.ifCond .eq 19, 3) := by decide +kernel
theorem dX12_flies_23 : decode cX12_flies 23 = .ok (.aload_n 0, 1) := by decide +kernel
theorem dX12_flies_24 : decode cX12_flies 24 = .ok (.iload_n 2, 1) := by decide +kernel
theorem dX12_flies_25 : decode cX12_flies 25 = .ok (.invokevirtual 149, 3) := by decide +kernel
theorem dX12_flies_28 : decode cX12_flies 28 = .ok (.ifCond .eq 11, 3) := by decide +kernel
theorem dX12_flies_31 : decode cX12_flies 31 = .ok (.aload_n 0, 1) := by decide +kernel
theorem dX12_flies_32 : decode cX12_flies 32 = .ok (.iload_n 3, 1) := by decide +kernel
theorem dX12_flies_33 : decode cX12_flies 33 = .ok (.invokevirtual 149, 3) := by decide +kernel
theorem dX12_flies_36 : decode cX12_flies 36 = .ok (.ifCond .ne 4, 3) := by decide +kernel
theorem dX12_flies_39 : decode cX12_flies 39 = .ok (.return_, 1) := by decide +kernel
theorem dX12_flies_40 : decode cX12_flies 40 = .ok (.aload_n 0, 1) := by decide +kernel
theorem dX12_flies_41 : decode cX12_flies 41 = .ok (.getfield 43, 3) := by decide +kernel
theorem dX12_flies_44 : decode cX12_flies 44 = .ok (.iconst 0, 1) := by decide +kernel
theorem dX12_flies_45 : decode cX12_flies 45 = .ok (.iload_n 2, 1) := by decide +kernel
theorem dX12_flies_46 : decode cX12_flies 46 = .ok (.iastore, 1) := by decide +kernel
theorem dX12_flies_47 : decode cX12_flies 47 = .ok (.aload_n 0, 1) := by decide +kernel
theorem dX12_flies_48 : decode cX12_flies 48 = .ok (.getfield 43, 3) := by decide +kernel
theorem dX12_flies_51 : decode cX12_flies 51 = .ok (.iconst 1, 1) := by decide +kernel
theorem dX12_flies_52 : decode cX12_flies 52 = .ok (.iload_n 3, 1) := by decide +kernel
theorem dX12_flies_53 : decode cX12_flies 53 = .ok (.iastore, 1) := by decide +kernel
theorem dX12_flies_54 : decode cX12_flies 54 = .ok (.iconst 0, 1) := by decide +kernel
theorem dX12_flies_55 : decode cX12_flies 55 = .ok (.istore 7, 2) := by decide +kernel
theorem dX12_flies_57 : decode cX12_flies 57 = .ok (.iload 7, 2) := by decide +kernel
theorem dX12_flies_59 : decode cX12_flies 59 = .ok (.iconst 2, 1) := by decide +kernel
theorem dX12_flies_60 : decode cX12_flies 60 = .ok (.if_icmp .ge 38, 3) := by decide +kernel
theorem dX12_flies_63 : decode cX12_flies 63 = .ok (.aload_n 0, 1) := by decide +kernel
theorem dX12_flies_64 : decode cX12_flies 64 = .ok (.getfield 46, 3) := by decide +kernel
theorem dX12_flies_67 : decode cX12_flies 67 = .ok (.iload 7, 2) := by decide +kernel
theorem dX12_flies_69 : decode cX12_flies 69 = .ok (.aload_n 0, 1) := by decide +kernel
theorem dX12_flies_70 : decode cX12_flies 70 = .ok (.getfield 34, 3) := by decide +kernel
theorem dX12_flies_73 : decode cX12_flies 73 = .ok (.iconst 2, 1) := by decide +kernel
theorem dX12_flies_74 : decode cX12_flies 74 = .ok (.aload_n 0, 1) := by decide +kernel
theorem dX12_flies_75 : decode cX12_flies 75 = .ok (.getfield 43, 3) := by decide +kernel
theorem dX12_flies_78 : decode cX12_flies 78 = .ok (.iload 7, 2) := by decide +kernel
theorem dX12_flies_80 : decode cX12_flies 80 = .ok (.iaload, 1) := by decide +kernel
theorem dX12_flies_81 : decode cX12_flies 81 = .ok (.imul, 1) := by decide +kernel
theorem dX12_flies_82 : decode cX12_flies 82 = .ok (.iaload, 1) := by decide +kernel
theorem dX12_flies_83 : decode cX12_flies 83 = .ok (.iastore, 1) := by decide +kernel
theorem dX12_flies_84 : decode cX12_flies 84 = .ok (.aload_n 0, 1) := by decide +kernel
theorem dX12_flies_85 : decode cX12_flies 85 = .ok (.getfield 49, 3) := by decide +kernel
theorem dX12_flies_88 : decode cX12_flies 88 = .ok (.iload 7, 2) := by decide +kernel
theorem dX12_flies_90 : decode cX12_flies 90 = .ok (.iconst 0, 1) := by decide +kernel
theorem dX12_flies_91 : decode cX12_flies 91 = .ok (.iastore, 1) := by decide +kernel
theorem dX12_flies_92 : decode cX12_flies 92 = .ok (.iinc 7 1, 3) := by decide +kernel
theorem dX12_flies_95 : decode cX12_flies 95 = .ok (.goto (-38), 3) := by decide +kernel
theorem dX12_flies_98 : decode cX12_flies 98 = .ok (.aload_n 0, 1) := by decide +kernel
theorem dX12_flies_99 : decode cX12_flies 99 = .ok (.iconst 0, 1) := by decide +kernel
theorem dX12_flies_100 : decode cX12_flies 100 = .ok (.putfield 184, 3) := by decide +kernel
theorem dX12_flies_103 : decode cX12_flies 103 = .ok (.aload_n 0, 1) := by decide +kernel
theorem dX12_flies_104 : decode cX12_flies 104 = .ok (.iconst 0, 1) := by decide +kernel
theorem dX12_flies_105 : decode cX12_flies 105 = .ok (.putfield 177, 3) := by decide +kernel
theorem dX12_flies_108 : decode cX12_flies 108 = .ok (.aload_n 0, 1) := by decide +kernel
theorem dX12_flies_109 : decode cX12_flies 109 = .ok (.iconst 0, 1) := by decide +kernel
theorem dX12_flies_110 : decode cX12_flies 110 = .ok (.putfield 196, 3) := by decide +kernel
theorem dX12_flies_113 : decode cX12_flies 113 = .ok (.iconst 0, 1) := by decide +kernel
theorem dX12_flies_114 : decode cX12_flies 114 = .ok (.istore 7, 2) := by decide +kernel
theorem dX12_flies_116 : decode cX12_flies 116 = .ok (.iload 7, 2) := by decide +kernel
theorem dX12_flies_118 : decode cX12_flies 118 = .ok (.aload_n 0, 1) := by decide +kernel
theorem dX12_flies_119 : decode cX12_flies 119 = .ok (.getfield 107, 3) := by decide +kernel
theorem dX12_flies_122 : decode cX12_flies 122 = .ok (.if_icmp .ge 133, 3) := by decide +kernel
theorem dX12_flies_125 : decode cX12_flies 125 = .ok (.aload_n 0, 1) := by decide +kernel
theorem dX12_flies_126 : decode cX12_flies 126 = .ok (.getfield 196, 3) := by decide +kernel
theorem dX12_flies_129 : decode cX12_flies 129 = .ok (.ifCond .ne 126, 3) := by decide +kernel
theorem dX12_flies_132 : decode cX12_flies 132 = .ok (.aload_n 0, 1) := by decide +kernel
theorem dX12_flies_133 : decode cX12_flies 133 = .ok (.aload_n 0, 1) := by decide +kernel
theorem dX12_flies_134 : decode cX12_flies 134 = .ok (.iload_n 1, 1) := by decide +kernel
theorem dX12_flies_135 : decode cX12_flies 135 = .ok (.iload 7, 2) := by decide +kernel
theorem dX12_flies_137 : decode cX12_flies 137 = .ok (.iload 7, 2) := by decide +kernel
theorem dX12_flies_139 : decode cX12_flies 139 = .ok (.iload 5, 2) := by decide +kernel
theorem dX12_flies_141 : decode cX12_flies 141 = .ok (.if_icmp .ge 8, 3) := by decide +kernel
theorem dX12_flies_144 : decode cX12_flies 144 = .ok (.iload 4, 2) := by decide +kernel
theorem dX12_flies_146 : decode cX12_flies 146 = .ok (.goto 5, 3) := by decide +kernel
theorem dX12_flies_149 : decode cX12_flies 149 = .ok (.iload 6, 2) := by decide +kernel
theorem dX12_flies_151 : decode cX12_flies 151 = .ok (.invokevirtual 199, 3) := by decide +kernel
theorem dX12_flies_154 : decode cX12_flies 154 = .ok (.putfield 196, 3) := by decide +kernel
theorem dX12_flies_157 : decode cX12_flies 157 = .ok (.aload_n 0, 1) := by decide +kernel
theorem dX12_flies_158 : decode cX12_flies 158 = .ok (.getfield 40, 3) := by decide +kernel
theorem dX12_flies_161 : decode cX12_flies 161 = .ok (.iconst 4, 1) := by decide +kernel
theorem dX12_flies_162 : decode cX12_flies 162 = .ok (.iload 7, 2) := by decide +kernel
theorem dX12_flies_164 : decode cX12_flies 164 = .ok (.imul, 1) := by decide +kernel
theorem dX12_flies_165 : decode cX12_flies 165 = .ok (.aload_n 0, 1) := by decide +kernel
theorem dX12_flies_166 : decode cX12_flies 166 = .ok (.getfield 184, 3) := by decide +kernel
theorem dX12_flies_169 : decode cX12_flies 169 = .ok (.iastore, 1) := by decide +kernel
theorem dX12_flies_170 : decode cX12_flies 170 = .ok (.aload_n 0, 1) := by decide +kernel
theorem dX12_flies_171 : decode cX12_flies 171 = .ok (.getfield 40, 3) := by decide +kernel
theorem dX12_flies_174 : decode cX12_flies 174 = .ok (.iconst 4, 1) := by decide +kernel
theorem dX12_flies_175 : decode cX12_flies 175 = .ok (.iload 7, 2) := by decide +kernel
theorem dX12_flies_177 : decode cX12_flies 177 = .ok (.imul, 1) := by decide +kernel
theorem dX12_flies_178 : decode cX12_flies 178 = .ok (.iconst 1, 1) := by decide +kernel
theorem dX12_flies_179 : decode cX12_flies 179 = .ok (.iadd, 1) := by decide +kernel
theorem dX12_flies_180 : decode cX12_flies 180 = .ok (.aload_n 0, 1) := by decide +kernel
theorem dX12_flies_181 : decode cX12_flies 181 = .ok (.getfield 177, 3) := by decide +kernel
theorem dX12_flies_184 : decode cX12_flies 184 = .ok (.iastore, 1) := by decide +kernel
theorem dX12_flies_185 : decode cX12_flies 185 = .ok (.aload_n 0, 1) := by decide +kernel
theorem dX12_flies_186 : decode cX12_flies 186 = .ok (.getfield 40, 3) := by decide +kernel
theorem dX12_flies_189 : decode cX12_flies 189 = .ok (.iconst 4, 1) := by decide +kernel
theorem dX12_flies_190 : decode cX12_flies 190 = .ok (.iload 7, 2) := by decide +kernel
theorem dX12_flies_192 : decode cX12_flies 192 = .ok (.imul, 1) := by decide +kernel
theorem dX12_flies_193 : decode cX12_flies 193 = .ok (.iconst 2, 1) := by decide +kernel
theorem dX12_flies_194 : decode cX12_flies 194 = .ok (.iadd, 1) := by decide +kernel
theorem dX12_flies_195 : decode cX12_flies 195 = .ok (.aload_n 0, 1) := by decide +kernel
theorem dX12_flies_196 : decode cX12_flies 196 = .ok (.getfield 46, 3) := by decide +kernel
theorem dX12_flies_199 : decode cX12_flies 199 = .ok (.iconst 0, 1) := by decide +kernel
theorem dX12_flies_200 : decode cX12_flies 200 = .ok (.iaload, 1) := by decide +kernel
theorem dX12_flies_201 : decode cX12_flies 201 = .ok (.iastore, 1) := by decide +kernel
theorem dX12_flies_202 : decode cX12_flies 202 = .ok (.aload_n 0, 1) := by decide +kernel
theorem dX12_flies_203 : decode cX12_flies 203 = .ok (.getfield 40, 3) := by decide +kernel
theorem dX12_flies_206 : decode cX12_flies 206 = .ok (.iconst 4, 1) := by decide +kernel
theorem dX12_flies_207 : decode cX12_flies 207 = .ok (.iload 7, 2) := by decide +kernel
theorem dX12_flies_209 : decode cX12_flies 209 = .ok (.imul, 1) := by decide +kernel
theorem dX12_flies_210 : decode cX12_flies 210 = .ok (.iconst 3, 1) := by decide +kernel
theorem dX12_flies_211 : decode cX12_flies 211 = .ok (.iadd, 1) := by decide +kernel
theorem dX12_flies_212 : decode cX12_flies 212 = .ok (.aload_n 0, 1) := by decide +kernel
theorem dX12_flies_213 : decode cX12_flies 213 = .ok (.getfield 46, 3) := by decide +kernel
theorem dX12_flies_216 : decode cX12_flies 216 = .ok (.iconst 1, 1) := by decide +kernel
theorem dX12_flies_217 : decode cX12_flies 217 = .ok (.iaload, 1) := by decide +kernel
theorem dX12_flies_218 : decode cX12_flies 218 = .ok (.iastore, 1) := by decide +kernel
theorem dX12_flies_219 : decode cX12_flies 219 = .ok (.aload_n 0, 1) := by decide +kernel
theorem dX12_flies_220 : decode cX12_flies 220 = .ok (.dup, 1) := by decide +kernel
theorem dX12_flies_221 : decode cX12_flies 221 = .ok (.getfield 190, 3) := by decide +kernel
theorem dX12_flies_224 : decode cX12_flies 224 = .ok (.iconst 1, 1) := by decide +kernel
theorem dX12_flies_225 : decode cX12_flies 225 = .ok (.iadd, 1) := by decide +kernel
theorem dX12_flies_226 : decode cX12_flies 226 = .ok (.putfield 190, 3) := by decide +kernel
theorem dX12_flies_229 : decode cX12_flies 229 = .ok (.aload_n 0, 1) := by decide +kernel
theorem dX12_flies_230 : decode cX12_flies 230 = .ok (.aload_n 0, 1) := by decide +kernel
theorem dX12_flies_231 : decode cX12_flies 231 = .ok (.getfield 196, 3) := by decide +kernel
theorem dX12_flies_234 : decode cX12_flies 234 = .ok (.ifCond .ne 10, 3) := by decide +kernel
theorem dX12_flies_237 : decode cX12_flies 237 = .ok (.iload 7, 2) := by decide +kernel
theorem dX12_flies_239 : decode cX12_flies 239 = .ok (.iconst 1, 1) := by decide +kernel
theorem dX12_flies_240 : decode cX12_flies 240 = .ok (.iadd, 1) := by decide +kernel
theorem dX12_flies_241 : decode cX12_flies 241 = .ok (.goto 5, 3) := by decide +kernel
theorem dX12_flies_244 : decode cX12_flies 244 = .ok (.iload 7, 2) := by decide +kernel
theorem dX12_flies_246 : decode cX12_flies 246 = .ok (.putfield 193, 3) := by decide +kernel
theorem dX12_flies_249 : decode cX12_flies 249 = .ok (.iinc 7 1, 3) := by decide +kernel
theorem dX12_flies_252 : decode cX12_flies 252 = .ok (.goto (-136), 3) := by decide +kernel
theorem dX12_flies_255 : decode cX12_flies 255 = .ok (.return_, 1) := by decide +kernel
theorem dX12_fliesTold_0 : decode cX12_fliesTold 0 = .ok (.aload_n 0, 1) := by decide +kernel
theorem dX12_fliesTold_1 : decode cX12_fliesTold 1 = .ok (.aload_n 0, 1) := by decide +kernel
theorem dX12_fliesTold_2 : decode cX12_fliesTold 2 = .ok (.getfield 37, 3) := by decide +kernel
theorem dX12_fliesTold_5 : decode cX12_fliesTold 5 = .ok (.iconst 4, 1) := by decide +kernel
theorem dX12_fliesTold_6 : decode cX12_fliesTold 6 = .ok (.iload_n 1, 1) := by decide +kernel
theorem dX12_fliesTold_7 : decode cX12_fliesTold 7 = .ok (.imul, 1) := by decide +kernel
theorem dX12_fliesTold_8 : decode cX12_fliesTold 8 = .ok (.iaload, 1) := by decide +kernel
theorem dX12_fliesTold_9 : decode cX12_fliesTold 9 = .ok (.aload_n 0, 1) := by decide +kernel
theorem dX12_fliesTold_10 : decode cX12_fliesTold 10 = .ok (.getfield 37, 3) := by decide +kernel
theorem dX12_fliesTold_13 : decode cX12_fliesTold 13 = .ok (.iconst 4, 1) := by decide +kernel
theorem dX12_fliesTold_14 : decode cX12_fliesTold 14 = .ok (.iload_n 1, 1) := by decide +kernel
theorem dX12_fliesTold_15 : decode cX12_fliesTold 15 = .ok (.imul, 1) := by decide +kernel
theorem dX12_fliesTold_16 : decode cX12_fliesTold 16 = .ok (.iconst 1, 1) := by decide +kernel
theorem dX12_fliesTold_17 : decode cX12_fliesTold 17 = .ok (.iadd, 1) := by decide +kernel
theorem dX12_fliesTold_18 : decode cX12_fliesTold 18 = .ok (.iaload, 1) := by decide +kernel
theorem dX12_fliesTold_19 : decode cX12_fliesTold 19 = .ok (.aload_n 0, 1) := by decide +kernel
theorem dX12_fliesTold_20 : decode cX12_fliesTold 20 = .ok (.getfield 37, 3) := by decide +kernel
theorem dX12_fliesTold_23 : decode cX12_fliesTold 23 = .ok (.iconst 4, 1) := by decide +kernel
theorem dX12_fliesTold_24 : decode cX12_fliesTold 24 = .ok (.iload_n 1, 1) := by decide +kernel
theorem dX12_fliesTold_25 : decode cX12_fliesTold 25 = .ok (.imul, 1) := by decide +kernel
theorem dX12_fliesTold_26 : decode cX12_fliesTold 26 = .ok (.iconst 2, 1) := by decide +kernel
theorem dX12_fliesTold_27 : decode cX12_fliesTold 27 = .ok (.iadd, 1) := by decide +kernel
theorem dX12_fliesTold_28 : decode cX12_fliesTold 28 = .ok (.iaload, 1) := by decide +kernel
theorem dX12_fliesTold_29 : decode cX12_fliesTold 29 = .ok (.aload_n 0, 1) := by decide +kernel
theorem dX12_fliesTold_30 : decode cX12_fliesTold 30 = .ok (.getfield 37, 3) := by decide +kernel
theorem dX12_fliesTold_33 : decode cX12_fliesTold 33 = .ok (.iconst 4, 1) := by decide +kernel
theorem dX12_fliesTold_34 : decode cX12_fliesTold 34 = .ok (.iload_n 1, 1) := by decide +kernel
theorem dX12_fliesTold_35 : decode cX12_fliesTold 35 = .ok (.imul, 1) := by decide +kernel
theorem dX12_fliesTold_36 : decode cX12_fliesTold 36 = .ok (.iconst 3, 1) := by decide +kernel
theorem dX12_fliesTold_37 : decode cX12_fliesTold 37 = .ok (.iadd, 1) := by decide +kernel
theorem dX12_fliesTold_38 : decode cX12_fliesTold 38 = .ok (.iaload, 1) := by decide +kernel
theorem dX12_fliesTold_39 : decode cX12_fliesTold 39 = .ok (.bipush 24, 2) := by decide +kernel
theorem dX12_fliesTold_41 : decode cX12_fliesTold 41 = .ok (.iconst 0, 1) := by decide +kernel
theorem dX12_fliesTold_42 : decode cX12_fliesTold 42 = .ok (.invokevirtual 202, 3) := by decide +kernel
theorem dX12_fliesTold_45 : decode cX12_fliesTold 45 = .ok (.return_, 1) := by decide +kernel
theorem dX12_comesNow_0 : decode cX12_comesNow 0 = .ok (.aload_n 0, 1) := by decide +kernel
theorem dX12_comesNow_1 : decode cX12_comesNow 1 = .ok (.getfield 196, 3) := by decide +kernel
theorem dX12_comesNow_4 : decode cX12_comesNow 4 = .ok (.ifCond .eq 28, 3) := by decide +kernel
theorem dX12_comesNow_7 : decode cX12_comesNow 7 = .ok (.aload_n 0, 1) := by decide +kernel
theorem dX12_comesNow_8 : decode cX12_comesNow 8 = .ok (.getfield 190, 3) := by decide +kernel
theorem dX12_comesNow_11 : decode cX12_comesNow 11 = .ok (.ifCond .le 21, 3) := by decide +kernel
theorem dX12_comesNow_14 : decode cX12_comesNow 14 = .ok (.aload_n 0, 1) := by decide +kernel
theorem dX12_comesNow_15 : decode cX12_comesNow 15 = .ok (.getfield 28, 3) := by decide +kernel
theorem dX12_comesNow_18 : decode cX12_comesNow 18 = .ok (.aload_n 0, 1) := by decide +kernel
theorem dX12_comesNow_19 : decode cX12_comesNow 19 = .ok (.getfield 193, 3) := by decide +kernel
theorem dX12_comesNow_22 : decode cX12_comesNow 22 = .ok (.iaload, 1) := by decide +kernel
theorem dX12_comesNow_23 : decode cX12_comesNow 23 = .ok (.bipush 6, 2) := by decide +kernel
theorem dX12_comesNow_25 : decode cX12_comesNow 25 = .ok (.if_icmp .ge 7, 3) := by decide +kernel
theorem dX12_comesNow_28 : decode cX12_comesNow 28 = .ok (.iconst 1, 1) := by decide +kernel
theorem dX12_comesNow_29 : decode cX12_comesNow 29 = .ok (.goto 4, 3) := by decide +kernel
theorem dX12_comesNow_32 : decode cX12_comesNow 32 = .ok (.iconst 0, 1) := by decide +kernel
theorem dX12_comesNow_33 : decode cX12_comesNow 33 = .ok (.istore_n 2, 1) := by decide +kernel
theorem dX12_comesNow_34 : decode cX12_comesNow 34 = .ok (.iload_n 1, 1) := by decide +kernel
theorem dX12_comesNow_35 : decode cX12_comesNow 35 = .ok (.ifCond .ne 10, 3) := by decide +kernel
theorem dX12_comesNow_38 : decode cX12_comesNow 38 = .ok (.aload_n 0, 1) := by decide +kernel
theorem dX12_comesNow_39 : decode cX12_comesNow 39 = .ok (.getfield 193, 3) := by decide +kernel
theorem dX12_comesNow_42 : decode cX12_comesNow 42 = .ok (.goto 32, 3) := by decide +kernel
theorem dX12_comesNow_45 : decode cX12_comesNow 45 = .ok (.iload_n 1, 1) := by decide +kernel
theorem dX12_comesNow_46 : decode cX12_comesNow 46 = .ok (.iconst 1, 1) := by decide +kernel
theorem dX12_comesNow_47 : decode cX12_comesNow 47 = .ok (.if_icmp .ne 10, 3) := by decide +kernel
theorem dX12_comesNow_50 : decode cX12_comesNow 50 = .ok (.aload_n 0, 1) := by decide +kernel
theorem dX12_comesNow_51 : decode cX12_comesNow 51 = .ok (.getfield 196, 3) := by decide +kernel
theorem dX12_comesNow_54 : decode cX12_comesNow 54 = .ok (.goto 20, 3) := by decide +kernel
theorem dX12_comesNow_57 : decode cX12_comesNow 57 = .ok (.iload_n 2, 1) := by decide +kernel
theorem dX12_comesNow_58 : decode cX12_comesNow 58 = .ok (.ifCond .eq 15, 3) := by decide +kernel
theorem dX12_comesNow_61 : decode cX12_comesNow 61 = .ok (.aload_n 0, 1) := by decide +kernel
theorem dX12_comesNow_62 : decode cX12_comesNow 62 = .ok (.getfield 28, 3) := by decide +kernel
theorem dX12_comesNow_65 : decode cX12_comesNow 65 = .ok (.aload_n 0, 1) := by decide +kernel
theorem dX12_comesNow_66 : decode cX12_comesNow 66 = .ok (.getfield 193, 3) := by decide +kernel
theorem dX12_comesNow_69 : decode cX12_comesNow 69 = .ok (.iaload, 1) := by decide +kernel
theorem dX12_comesNow_70 : decode cX12_comesNow 70 = .ok (.goto 4, 3) := by decide +kernel
theorem dX12_comesNow_73 : decode cX12_comesNow 73 = .ok (.iconst (-1), 1) := by decide +kernel
theorem dX12_comesNow_74 : decode cX12_comesNow 74 = .ok (.ireturn, 1) := by decide +kernel
theorem dX12_comesOf_0 : decode cX12_comesOf 0 = .ok (.aload_n 0, 1) := by decide +kernel
theorem dX12_comesOf_1 : decode cX12_comesOf 1 = .ok (.iload_n 1, 1) := by decide +kernel
theorem dX12_comesOf_2 : decode cX12_comesOf 2 = .ok (.invokevirtual 206, 3) := by decide +kernel
theorem dX12_comesOf_5 : decode cX12_comesOf 5 = .ok (.aload_n 0, 1) := by decide +kernel
theorem dX12_comesOf_6 : decode cX12_comesOf 6 = .ok (.iload_n 2, 1) := by decide +kernel
theorem dX12_comesOf_7 : decode cX12_comesOf 7 = .ok (.invokevirtual 209, 3) := by decide +kernel
theorem dX12_comesOf_10 : decode cX12_comesOf 10 = .ok (.ireturn, 1) := by decide +kernel
theorem dX12_comes_0 : decode cX12_comes 0 = .ok (.aload_n 0, 1) := by decide +kernel
theorem dX12_comes_1 : decode cX12_comes 1 = .ok (.invokevirtual 141, 3) := by decide +kernel
theorem dX12_comes_4 : decode cX12_comes 4 = .ok (.aload_n 0, 1) := by decide +kernel
theorem dX12_comes_5 : decode cX12_comes 5 = .ok (.iload_n 1, 1) := by decide +kernel
theorem dX12_comes_6 : decode cX12_comes 6 = .ok (.invokevirtual 212, 3) := by decide +kernel
theorem dX12_comes_9 : decode cX12_comes 9 = .ok (.ifCond .eq 24, 3) := by decide +kernel
theorem dX12_comes_12 : decode cX12_comes 12 = .ok (.iload_n 2, 1) := by decide +kernel
theorem dX12_comes_13 : decode cX12_comes 13 = .ok (.i2l, 1) := by decide +kernel
theorem dX12_comes_14 : decode cX12_comes 14 = .ok (.lconst 0, 1) := by decide +kernel
theorem dX12_comes_15 : decode cX12_comes 15 = .ok (.ldc2_w 78, 3) := by decide +kernel
theorem dX12_comes_18 : decode cX12_comes 18 = .ok (.invokestatic 65, 3) := by decide +kernel
theorem dX12_comes_21 : decode cX12_comes 21 = .ok (.ifCond .eq 12, 3) := by decide +kernel
theorem dX12_comes_24 : decode cX12_comes 24 = .ok (.aload_n 0, 1) := by decide +kernel
theorem dX12_comes_25 : decode cX12_comes 25 = .ok (.iload_n 1, 1) := by decide +kernel
theorem dX12_comes_26 : decode cX12_comes 26 = .ok (.iload_n 2, 1) := by decide +kernel
theorem dX12_comes_27 : decode cX12_comes 27 = .ok (.invokevirtual 215, 3) := by decide +kernel
theorem dX12_comes_30 : decode cX12_comes 30 = .ok (.goto 5, 3) := by decide +kernel
theorem dX12_comes_33 : decode cX12_comes 33 = .ok (.bipush (-2), 2) := by decide +kernel
theorem dX12_comes_35 : decode cX12_comes 35 = .ok (.ireturn, 1) := by decide +kernel
theorem dX12_behindOf_0 : decode cX12_behindOf 0 = .ok (.aload_n 0, 1) := by decide +kernel
theorem dX12_behindOf_1 : decode cX12_behindOf 1 = .ok (.iload_n 1, 1) := by decide +kernel
theorem dX12_behindOf_2 : decode cX12_behindOf 2 = .ok (.invokevirtual 206, 3) := by decide +kernel
theorem dX12_behindOf_5 : decode cX12_behindOf 5 = .ok (.iload_n 2, 1) := by decide +kernel
theorem dX12_behindOf_6 : decode cX12_behindOf 6 = .ok (.aload_n 0, 1) := by decide +kernel
theorem dX12_behindOf_7 : decode cX12_behindOf 7 = .ok (.getfield 190, 3) := by decide +kernel
theorem dX12_behindOf_10 : decode cX12_behindOf 10 = .ok (.if_icmp .ge 16, 3) := by decide +kernel
