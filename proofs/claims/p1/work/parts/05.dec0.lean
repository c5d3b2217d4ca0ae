theorem dX0_init_0 : decode cX0_init 0 = .ok (.aload_n 0, 1) := by decide +kernel
theorem dX0_init_1 : decode cX0_init 1 = .ok (.invokespecial 3, 3) := by decide +kernel
theorem dX0_init_4 : decode cX0_init 4 = .ok (.return_, 1) := by decide +kernel
theorem dX1_init_0 : decode cX1_init 0 = .ok (.aload_n 0, 1) := by decide +kernel
theorem dX1_init_1 : decode cX1_init 1 = .ok (.invokespecial 3, 3) := by decide +kernel
theorem dX1_init_4 : decode cX1_init 4 = .ok (.aload_n 0, 1) := by decide +kernel
theorem dX1_init_5 : decode cX1_init 5 = .ok (.bipush 32, 2) := by decide +kernel
theorem dX1_init_7 : decode cX1_init 7 = .ok (.newarray .int, 2) := by decide +kernel
theorem dX1_init_9 : decode cX1_init 9 = .ok (.putfield 9, 3) := by decide +kernel
theorem dX1_init_12 : decode cX1_init 12 = .ok (.return_, 1) := by decide +kernel
theorem dX1_append_0 : decode cX1_append 0 = .ok (.iload_n 1, 1) := by decide +kernel
theorem dX1_append_1 : decode cX1_append 1 = .ok (.ifCond .lt 47, 3) := by decide +kernel
theorem dX1_append_4 : decode cX1_append 4 = .ok (.iload_n 1, 1) := by decide +kernel
theorem dX1_append_5 : decode cX1_append 5 = .ok (.bipush 7, 2) := by decide +kernel
theorem dX1_append_7 : decode cX1_append 7 = .ok (.if_icmp .gt 41, 3) := by decide +kernel
theorem dX1_append_10 : decode cX1_append 10 = .ok (.iload_n 2, 1) := by decide +kernel
theorem dX1_append_11 : decode cX1_append 11 = .ok (.ifCond .lt 37, 3) := by decide +kernel
theorem dX1_append_14 : decode cX1_append 14 = .ok (.iload_n 2, 1) := by decide +kernel
theorem dX1_append_15 : decode cX1_append 15 = .ok (.bipush 7, 2) := by decide +kernel
theorem dX1_append_17 : decode cX1_append 17 = .ok (.if_icmp .gt 31, 3) := by decide +kernel
theorem dX1_append_20 : decode cX1_append 20 = .ok (.iload_n 3, 1) := by decide +kernel
theorem dX1_append_21 : decode cX1_append 21 = .ok (.ifCond .lt 27, 3) := by decide +kernel
theorem dX1_append_24 : decode cX1_append 24 = .ok (.iload_n 3, 1) := by decide +kernel
theorem dX1_append_25 : decode cX1_append 25 = .ok (.bipush 7, 2) := by decide +kernel
theorem dX1_append_27 : decode cX1_append 27 = .ok (.if_icmp .gt 21, 3) := by decide +kernel
theorem dX1_append_30 : decode cX1_append 30 = .ok (.iload_n 2, 1) := by decide +kernel
theorem dX1_append_31 : decode cX1_append 31 = .ok (.iload_n 3, 1) := by decide +kernel
theorem dX1_append_32 : decode cX1_append 32 = .ok (.if_icmp .eq 16, 3) := by decide +kernel
theorem dX1_append_35 : decode cX1_append 35 = .ok (.iload 4, 2) := by decide +kernel
theorem dX1_append_37 : decode cX1_append 37 = .ok (.iconst 1, 1) := by decide +kernel
theorem dX1_append_38 : decode cX1_append 38 = .ok (.if_icmp .lt 10, 3) := by decide +kernel
theorem dX1_append_41 : decode cX1_append 41 = .ok (.iload 4, 2) := by decide +kernel
theorem dX1_append_43 : decode cX1_append 43 = .ok (.bipush 9, 2) := by decide +kernel
theorem dX1_append_45 : decode cX1_append 45 = .ok (.if_icmp .le 6, 3) := by decide +kernel
theorem dX1_append_48 : decode cX1_append 48 = .ok (.bipush (-2), 2) := by decide +kernel
theorem dX1_append_50 : decode cX1_append 50 = .ok (.ireturn, 1) := by decide +kernel
theorem dX1_append_51 : decode cX1_append 51 = .ok (.aload_n 0, 1) := by decide +kernel
theorem dX1_append_52 : decode cX1_append 52 = .ok (.getfield 15, 3) := by decide +kernel
theorem dX1_append_55 : decode cX1_append 55 = .ok (.ifCond .lt 12, 3) := by decide +kernel
theorem dX1_append_58 : decode cX1_append 58 = .ok (.aload_n 0, 1) := by decide +kernel
theorem dX1_append_59 : decode cX1_append 59 = .ok (.getfield 15, 3) := by decide +kernel
theorem dX1_append_62 : decode cX1_append 62 = .ok (.bipush 8, 2) := by decide +kernel
theorem dX1_append_64 : decode cX1_append 64 = .ok (.if_icmp .lt 6, 3) := by decide +kernel
theorem dX1_append_70 : decode cX1_append 70 = .ok (.aload_n 0, 1) := by decide +kernel
theorem dX1_append_71 : decode cX1_append 71 = .ok (.getfield 9, 3) := by decide +kernel
theorem dX1_append_74 : decode cX1_append 74 = .ok (.iconst 4, 1) := by decide +kernel
theorem dX1_append_75 : decode cX1_append 75 = .ok (.aload_n 0, 1) := by decide +kernel
theorem dX1_append_76 : decode cX1_append 76 = .ok (.getfield 15, 3) := by decide +kernel
theorem dX1_append_79 : decode cX1_append 79 = .ok (.imul, 1) := by decide +kernel
theorem dX1_append_80 : decode cX1_append 80 = .ok (.iload_n 1, 1) := by decide +kernel
theorem dX1_append_81 : decode cX1_append 81 = .ok (.iastore, 1) := by decide +kernel
theorem dX1_append_82 : decode cX1_append 82 = .ok (.aload_n 0, 1) := by decide +kernel
theorem dX1_append_83 : decode cX1_append 83 = .ok (.getfield 9, 3) := by decide +kernel
theorem dX1_append_86 : decode cX1_append 86 = .ok (.iconst 4, 1) := by decide +kernel
theorem dX1_append_87 : decode cX1_append 87 = .ok (.aload_n 0, 1) := by decide +kernel
theorem dX1_append_88 : decode cX1_append 88 = .ok (.getfield 15, 3) := by decide +kernel
theorem dX1_append_91 : decode cX1_append 91 = .ok (.imul, 1) := by decide +kernel
theorem dX1_append_92 : decode cX1_append 92 = .ok (.iconst 1, 1) := by decide +kernel
theorem dX1_append_93 : decode cX1_append 93 = .ok (.iadd, 1) := by decide +kernel
theorem dX1_append_94 : decode cX1_append 94 = .ok (.iload_n 2, 1) := by decide +kernel
theorem dX1_append_95 : decode cX1_append 95 = .ok (.iastore, 1) := by decide +kernel
theorem dX1_append_96 : decode cX1_append 96 = .ok (.aload_n 0, 1) := by decide +kernel
theorem dX1_append_97 : decode cX1_append 97 = .ok (.getfield 9, 3) := by decide +kernel
theorem dX1_append_100 : decode cX1_append 100 = .ok (.iconst 4, 1) := by decide +kernel
theorem dX1_append_101 : decode cX1_append 101 = .ok (.aload_n 0, 1) := by decide +kernel
theorem dX1_append_102 : decode cX1_append 102 = .ok (.getfield 15, 3) := by decide +kernel
theorem dX1_append_105 : decode cX1_append 105 = .ok (.imul, 1) := by decide +kernel
theorem dX1_append_106 : decode cX1_append 106 = .ok (.iconst 2, 1) := by decide +kernel
theorem dX1_append_107 : decode cX1_append 107 = .ok (.iadd, 1) := by decide +kernel
theorem dX1_append_108 : decode cX1_append 108 = .ok (.iload_n 3, 1) := by decide +kernel
theorem dX1_append_109 : decode cX1_append 109 = .ok (.iastore, 1) := by decide +kernel
theorem dX1_append_110 : decode cX1_append 110 = .ok (.aload_n 0, 1) := by decide +kernel
theorem dX1_append_111 : decode cX1_append 111 = .ok (.getfield 9, 3) := by decide +kernel
theorem dX1_append_114 : decode cX1_append 114 = .ok (.iconst 4, 1) := by decide +kernel
theorem dX1_append_115 : decode cX1_append 115 = .ok (.aload_n 0, 1) := by decide +kernel
theorem dX1_append_116 : decode cX1_append 116 = .ok (.getfield 15, 3) := by decide +kernel
theorem dX1_append_119 : decode cX1_append 119 = .ok (.imul, 1) := by decide +kernel
theorem dX1_append_120 : decode cX1_append 120 = .ok (.iconst 3, 1) := by decide +kernel
theorem dX1_append_121 : decode cX1_append 121 = .ok (.iadd, 1) := by decide +kernel
theorem dX1_append_122 : decode cX1_append 122 = .ok (.iload 4, 2) := by decide +kernel
theorem dX1_append_124 : decode cX1_append 124 = .ok (.iastore, 1) := by decide +kernel
theorem dX1_append_125 : decode cX1_append 125 = .ok (.aload_n 0, 1) := by decide +kernel
theorem dX1_append_126 : decode cX1_append 126 = .ok (.dup, 1) := by decide +kernel
theorem dX1_append_127 : decode cX1_append 127 = .ok (.getfield 15, 3) := by decide +kernel
theorem dX1_append_130 : decode cX1_append 130 = .ok (.iconst 1, 1) := by decide +kernel
theorem dX1_append_131 : decode cX1_append 131 = .ok (.iadd, 1) := by decide +kernel
theorem dX1_append_132 : decode cX1_append 132 = .ok (.putfield 15, 3) := by decide +kernel
theorem dX1_append_135 : decode cX1_append 135 = .ok (.aload_n 0, 1) := by decide +kernel
theorem dX1_append_136 : decode cX1_append 136 = .ok (.getfield 15, 3) := by decide +kernel
theorem dX1_append_139 : decode cX1_append 139 = .ok (.ireturn, 1) := by decide +kernel
theorem dX1_has_0 : decode cX1_has 0 = .ok (.iload_n 1, 1) := by decide +kernel
theorem dX1_has_1 : decode cX1_has 1 = .ok (.ifCond .lt 15, 3) := by decide +kernel
theorem dX1_has_4 : decode cX1_has 4 = .ok (.iload_n 1, 1) := by decide +kernel
theorem dX1_has_5 : decode cX1_has 5 = .ok (.aload_n 0, 1) := by decide +kernel
theorem dX1_has_6 : decode cX1_has 6 = .ok (.getfield 15, 3) := by decide +kernel
theorem dX1_has_9 : decode cX1_has 9 = .ok (.if_icmp .ge 7, 3) := by decide +kernel
theorem dX1_has_16 : decode cX1_has 16 = .ok (.iconst 0, 1) := by decide +kernel
theorem dX1_has_17 : decode cX1_has 17 = .ok (.ireturn, 1) := by decide +kernel
theorem dX2_init_0 : decode cX2_init 0 = .ok (.aload_n 0, 1) := by decide +kernel
theorem dX2_init_1 : decode cX2_init 1 = .ok (.bipush 23, 2) := by decide +kernel
theorem dX2_init_3 : decode cX2_init 3 = .ok (.invokespecial 3, 3) := by decide +kernel
theorem dX2_init_6 : decode cX2_init 6 = .ok (.return_, 1) := by decide +kernel
theorem dX2_worth_0 : decode cX2_worth 0 = .ok (.iload_n 1, 1) := by decide +kernel
theorem dX2_worth_1 : decode cX2_worth 1 = .ok (.iconst 3, 1) := by decide +kernel
theorem dX2_worth_2 : decode cX2_worth 2 = .ok (.irem, 1) := by decide +kernel
theorem dX2_worth_3 : decode cX2_worth 3 = .ok (.lookupswitch 67 #[(0, 25), (1, 46)], 25) := by decide +kernel
theorem dX2_worth_28 : decode cX2_worth 28 = .ok (.iload_n 2, 1) := by decide +kernel
theorem dX2_worth_29 : decode cX2_worth 29 = .ok (.bipush 49, 2) := by decide +kernel
theorem dX2_worth_31 : decode cX2_worth 31 = .ok (.if_icmp .lt 16, 3) := by decide +kernel
theorem dX2_worth_34 : decode cX2_worth 34 = .ok (.iload_n 2, 1) := by decide +kernel
theorem dX2_worth_35 : decode cX2_worth 35 = .ok (.bipush 57, 2) := by decide +kernel
theorem dX2_worth_37 : decode cX2_worth 37 = .ok (.if_icmp .gt 10, 3) := by decide +kernel
theorem dX2_worth_40 : decode cX2_worth 40 = .ok (.iload_n 2, 1) := by decide +kernel
theorem dX2_worth_41 : decode cX2_worth 41 = .ok (.bipush 48, 2) := by decide +kernel
theorem dX2_worth_43 : decode cX2_worth 43 = .ok (.isub, 1) := by decide +kernel
theorem dX2_worth_44 : decode cX2_worth 44 = .ok (.goto 4, 3) := by decide +kernel
theorem dX2_worth_47 : decode cX2_worth 47 = .ok (.iconst (-1), 1) := by decide +kernel
theorem dX2_worth_48 : decode cX2_worth 48 = .ok (.ireturn, 1) := by decide +kernel
theorem dX2_thingsIn_0 : decode cX2_thingsIn 0 = .ok (.iload_n 1, 1) := by decide +kernel
theorem dX2_thingsIn_1 : decode cX2_thingsIn 1 = .ok (.ifCond .ne 5, 3) := by decide +kernel
theorem dX2_thingsIn_4 : decode cX2_thingsIn 4 = .ok (.iconst 0, 1) := by decide +kernel
theorem dX2_thingsIn_5 : decode cX2_thingsIn 5 = .ok (.ireturn, 1) := by decide +kernel
theorem dX2_thingsIn_6 : decode cX2_thingsIn 6 = .ok (.iload_n 1, 1) := by decide +kernel
theorem dX2_thingsIn_7 : decode cX2_thingsIn 7 = .ok (.iconst 3, 1) := by decide +kernel
theorem dX2_thingsIn_8 : decode cX2_thingsIn 8 = .ok (.irem, 1) := by decide +kernel
theorem dX2_thingsIn_9 : decode cX2_thingsIn 9 = .ok (.iconst 2, 1) := by decide +kernel
theorem dX2_thingsIn_10 : decode cX2_thingsIn 10 = .ok (.if_icmp .ne 11, 3) := by decide +kernel
theorem dX2_thingsIn_21 : decode cX2_thingsIn 21 = .ok (.iconst (-1), 1) := by decide +kernel
theorem dX2_thingsIn_22 : decode cX2_thingsIn 22 = .ok (.ireturn, 1) := by decide +kernel
theorem dX3_init_0 : decode cX3_init 0 = .ok (.aload_n 0, 1) := by decide +kernel
theorem dX3_init_1 : decode cX3_init 1 = .ok (.invokespecial 1, 3) := by decide +kernel
theorem dX3_init_4 : decode cX3_init 4 = .ok (.return_, 1) := by decide +kernel
theorem dX4_init_0 : decode cX4_init 0 = .ok (.aload_n 0, 1) := by decide +kernel
theorem dX4_init_1 : decode cX4_init 1 = .ok (.bipush 24, 2) := by decide +kernel
theorem dX4_init_3 : decode cX4_init 3 = .ok (.invokespecial 3, 3) := by decide +kernel
theorem dX4_init_6 : decode cX4_init 6 = .ok (.return_, 1) := by decide +kernel
theorem dX4_worth_0 : decode cX4_worth 0 = .ok (.iload_n 2, 1) := by decide +kernel
theorem dX4_worth_1 : decode cX4_worth 1 = .ok (.bipush 97, 2) := by decide +kernel
theorem dX4_worth_3 : decode cX4_worth 3 = .ok (.if_icmp .lt 14, 3) := by decide +kernel
theorem dX4_worth_6 : decode cX4_worth 6 = .ok (.iload_n 2, 1) := by decide +kernel
theorem dX4_worth_7 : decode cX4_worth 7 = .ok (.bipush 102, 2) := by decide +kernel
theorem dX4_worth_9 : decode cX4_worth 9 = .ok (.if_icmp .gt 8, 3) := by decide +kernel
theorem dX4_worth_12 : decode cX4_worth 12 = .ok (.iload_n 2, 1) := by decide +kernel
theorem dX4_worth_13 : decode cX4_worth 13 = .ok (.bipush 97, 2) := by decide +kernel
theorem dX4_worth_15 : decode cX4_worth 15 = .ok (.isub, 1) := by decide +kernel
theorem dX4_worth_16 : decode cX4_worth 16 = .ok (.ireturn, 1) := by decide +kernel
theorem dX4_worth_17 : decode cX4_worth 17 = .ok (.iload_n 2, 1) := by decide +kernel
theorem dX4_worth_18 : decode cX4_worth 18 = .ok (.lookupswitch 43 #[(105, 37), (111, 34), (119, 40)], 34) := by decide +kernel
theorem dX4_worth_52 : decode cX4_worth 52 = .ok (.bipush 6, 2) := by decide +kernel
theorem dX4_worth_54 : decode cX4_worth 54 = .ok (.ireturn, 1) := by decide +kernel
theorem dX4_worth_55 : decode cX4_worth 55 = .ok (.bipush 7, 2) := by decide +kernel
theorem dX4_worth_57 : decode cX4_worth 57 = .ok (.ireturn, 1) := by decide +kernel
theorem dX4_worth_58 : decode cX4_worth 58 = .ok (.bipush 8, 2) := by decide +kernel
theorem dX4_worth_60 : decode cX4_worth 60 = .ok (.ireturn, 1) := by decide +kernel
theorem dX4_worth_61 : decode cX4_worth 61 = .ok (.iconst (-1), 1) := by decide +kernel
theorem dX4_worth_62 : decode cX4_worth 62 = .ok (.ireturn, 1) := by decide +kernel
theorem dX4_thingsIn_0 : decode cX4_thingsIn 0 = .ok (.iload_n 1, 1) := by decide +kernel
theorem dX4_thingsIn_1 : decode cX4_thingsIn 1 = .ok (.ireturn, 1) := by decide +kernel
theorem dX4_towns_0 : decode cX4_towns 0 = .ok (.iconst 0, 1) := by decide +kernel
theorem dX4_towns_1 : decode cX4_towns 1 = .ok (.istore_n 1, 1) := by decide +kernel
theorem dX4_towns_2 : decode cX4_towns 2 = .ok (.iconst 0, 1) := by decide +kernel
theorem dX4_towns_3 : decode cX4_towns 3 = .ok (.istore_n 2, 1) := by decide +kernel
theorem dX4_towns_4 : decode cX4_towns 4 = .ok (.iload_n 2, 1) := by decide +kernel
theorem dX4_towns_5 : decode cX4_towns 5 = .ok (.aload_n 0, 1) := by decide +kernel
theorem dX4_towns_6 : decode cX4_towns 6 = .ok (.getfield 19, 3) := by decide +kernel
theorem dX4_towns_9 : decode cX4_towns 9 = .ok (.if_icmp .ge 20, 3) := by decide +kernel
theorem dX4_towns_29 : decode cX4_towns 29 = .ok (.iload_n 1, 1) := by decide +kernel
theorem dX4_towns_30 : decode cX4_towns 30 = .ok (.ireturn, 1) := by decide +kernel
theorem dX5_init_0 : decode cX5_init 0 = .ok (.aload_n 0, 1) := by decide +kernel
theorem dX5_init_1 : decode cX5_init 1 = .ok (.invokespecial 3, 3) := by decide +kernel
theorem dX5_init_4 : decode cX5_init 4 = .ok (.aload_n 0, 1) := by decide +kernel
theorem dX5_init_5 : decode cX5_init 5 = .ok (.bipush 46, 2) := by decide +kernel
theorem dX5_init_7 : decode cX5_init 7 = .ok (.newarray .long, 2) := by decide +kernel
theorem dX5_init_9 : decode cX5_init 9 = .ok (.putfield 9, 3) := by decide +kernel
theorem dX5_init_12 : decode cX5_init 12 = .ok (.return_, 1) := by decide +kernel
theorem dX6_init_0 : decode cX6_init 0 = .ok (.aload_n 0, 1) := by decide +kernel
theorem dX6_init_1 : decode cX6_init 1 = .ok (.invokespecial 1, 3) := by decide +kernel
theorem dX6_init_4 : decode cX6_init 4 = .ok (.return_, 1) := by decide +kernel
theorem dX7_init_0 : decode cX7_init 0 = .ok (.aload_n 0, 1) := by decide +kernel
theorem dX7_init_1 : decode cX7_init 1 = .ok (.bipush 39, 2) := by decide +kernel
theorem dX7_init_3 : decode cX7_init 3 = .ok (.invokespecial 3, 3) := by decide +kernel
theorem dX7_init_6 : decode cX7_init 6 = .ok (.return_, 1) := by decide +kernel
theorem dX7_worth_0 : decode cX7_worth 0 = .ok (.iload_n 1, 1) := by decide +kernel
theorem dX7_worth_1 : decode cX7_worth 1 = .ok (.iconst 5, 1) := by decide +kernel
theorem dX7_worth_2 : decode cX7_worth 2 = .ok (.irem, 1) := by decide +kernel
theorem dX7_worth_3 : decode cX7_worth 3 = .ok (.tableswitch 71 0 4 #[33, 38, 71, 71, 59], 33) := by decide +kernel
theorem dX7_worth_36 : decode cX7_worth 36 = .ok (.iload_n 2, 1) := by decide +kernel
theorem dX7_worth_37 : decode cX7_worth 37 = .ok (.invokestatic 9, 3) := by decide +kernel
theorem dX7_worth_40 : decode cX7_worth 40 = .ok (.ireturn, 1) := by decide +kernel
theorem dX7_kind_0 : decode cX7_kind 0 = .ok (.iload_n 0, 1) := by decide +kernel
theorem dX7_kind_1 : decode cX7_kind 1 = .ok (.lookupswitch 51 #[(100, 45), (112, 47), (115, 49), (116, 43)], 43) := by decide +kernel
theorem dX7_kind_44 : decode cX7_kind 44 = .ok (.iconst 0, 1) := by decide +kernel
theorem dX7_kind_45 : decode cX7_kind 45 = .ok (.ireturn, 1) := by decide +kernel
theorem dX7_kind_46 : decode cX7_kind 46 = .ok (.iconst 1, 1) := by decide +kernel
theorem dX7_kind_47 : decode cX7_kind 47 = .ok (.ireturn, 1) := by decide +kernel
theorem dX7_kind_48 : decode cX7_kind 48 = .ok (.iconst 2, 1) := by decide +kernel
theorem dX7_kind_49 : decode cX7_kind 49 = .ok (.ireturn, 1) := by decide +kernel
theorem dX7_kind_50 : decode cX7_kind 50 = .ok (.iconst 3, 1) := by decide +kernel
theorem dX7_kind_51 : decode cX7_kind 51 = .ok (.ireturn, 1) := by decide +kernel
theorem dX7_kind_52 : decode cX7_kind 52 = .ok (.iconst (-1), 1) := by decide +kernel
theorem dX7_kind_53 : decode cX7_kind 53 = .ok (.ireturn, 1) := by decide +kernel
theorem dX7_thingsIn_0 : decode cX7_thingsIn 0 = .ok (.iload_n 1, 1) := by decide +kernel
theorem dX7_thingsIn_1 : decode cX7_thingsIn 1 = .ok (.ifCond .ne 5, 3) := by decide +kernel
theorem dX7_thingsIn_4 : decode cX7_thingsIn 4 = .ok (.iconst 0, 1) := by decide +kernel
theorem dX7_thingsIn_5 : decode cX7_thingsIn 5 = .ok (.ireturn, 1) := by decide +kernel
theorem dX7_thingsIn_6 : decode cX7_thingsIn 6 = .ok (.iload_n 1, 1) := by decide +kernel
theorem dX7_thingsIn_7 : decode cX7_thingsIn 7 = .ok (.iconst 5, 1) := by decide +kernel
theorem dX7_thingsIn_8 : decode cX7_thingsIn 8 = .ok (.irem, 1) := by decide +kernel
theorem dX7_thingsIn_9 : decode cX7_thingsIn 9 = .ok (.iconst 4, 1) := by decide +kernel
theorem dX7_thingsIn_10 : decode cX7_thingsIn 10 = .ok (.if_icmp .ne 11, 3) := by decide +kernel
theorem dX7_thingsIn_21 : decode cX7_thingsIn 21 = .ok (.iconst (-1), 1) := by decide +kernel
theorem dX7_thingsIn_22 : decode cX7_thingsIn 22 = .ok (.ireturn, 1) := by decide +kernel
theorem dX8_init_0 : decode cX8_init 0 = .ok (.aload_n 0, 1) := by decide +kernel
theorem dX8_init_1 : decode cX8_init 1 = .ok (.invokespecial 3, 3) := by decide +kernel
theorem dX8_init_4 : decode cX8_init 4 = .ok (.aload_n 0, 1) := by decide +kernel
theorem dX8_init_5 : decode cX8_init 5 = .ok (.bipush 60, 2) := by decide +kernel
theorem dX8_init_7 : decode cX8_init 7 = .ok (.newarray .int, 2) := by decide +kernel
theorem dX8_init_9 : decode cX8_init 9 = .ok (.putfield 9, 3) := by decide +kernel
theorem dX8_init_12 : decode cX8_init 12 = .ok (.aload_n 0, 1) := by decide +kernel
theorem dX8_init_13 : decode cX8_init 13 = .ok (.iconst 1, 1) := by decide +kernel
theorem dX8_init_14 : decode cX8_init 14 = .ok (.putfield 15, 3) := by decide +kernel
theorem dX8_init_17 : decode cX8_init 17 = .ok (.return_, 1) := by decide +kernel
theorem dX8_renew_0 : decode cX8_renew 0 = .ok (.aload_n 0, 1) := by decide +kernel
theorem dX8_renew_1 : decode cX8_renew 1 = .ok (.iconst 0, 1) := by decide +kernel
theorem dX8_renew_2 : decode cX8_renew 2 = .ok (.putfield 15, 3) := by decide +kernel
theorem dX8_renew_5 : decode cX8_renew 5 = .ok (.aload_n 0, 1) := by decide +kernel
theorem dX8_renew_6 : decode cX8_renew 6 = .ok (.iload_n 1, 1) := by decide +kernel
theorem dX8_renew_7 : decode cX8_renew 7 = .ok (.putfield 19, 3) := by decide +kernel
theorem dX8_renew_10 : decode cX8_renew 10 = .ok (.aload_n 0, 1) := by decide +kernel
theorem dX8_renew_11 : decode cX8_renew 11 = .ok (.iconst 0, 1) := by decide +kernel
theorem dX8_renew_12 : decode cX8_renew 12 = .ok (.iload_n 2, 1) := by decide +kernel
theorem dX8_renew_13 : decode cX8_renew 13 = .ok (.bipush 60, 2) := by decide +kernel
theorem dX8_renew_15 : decode cX8_renew 15 = .ok (.invokestatic 23, 3) := by decide +kernel
theorem dX8_renew_18 : decode cX8_renew 18 = .ok (.invokestatic 29, 3) := by decide +kernel
theorem dX8_renew_21 : decode cX8_renew 21 = .ok (.putfield 32, 3) := by decide +kernel
theorem dX8_renew_24 : decode cX8_renew 24 = .ok (.iconst 0, 1) := by decide +kernel
theorem dX8_renew_25 : decode cX8_renew 25 = .ok (.istore_n 3, 1) := by decide +kernel
theorem dX8_renew_26 : decode cX8_renew 26 = .ok (.iload_n 3, 1) := by decide +kernel
theorem dX8_renew_27 : decode cX8_renew 27 = .ok (.bipush 60, 2) := by decide +kernel
theorem dX8_renew_29 : decode cX8_renew 29 = .ok (.if_icmp .ge 16, 3) := by decide +kernel
theorem dX8_renew_32 : decode cX8_renew 32 = .ok (.aload_n 0, 1) := by decide +kernel
theorem dX8_renew_33 : decode cX8_renew 33 = .ok (.getfield 9, 3) := by decide +kernel
theorem dX8_renew_36 : decode cX8_renew 36 = .ok (.iload_n 3, 1) := by decide +kernel
theorem dX8_renew_37 : decode cX8_renew 37 = .ok (.iconst 0, 1) := by decide +kernel
theorem dX8_renew_38 : decode cX8_renew 38 = .ok (.iastore, 1) := by decide +kernel
theorem dX8_renew_39 : decode cX8_renew 39 = .ok (.iinc 3 1, 3) := by decide +kernel
theorem dX8_renew_42 : decode cX8_renew 42 = .ok (.goto (-16), 3) := by decide +kernel
theorem dX8_renew_45 : decode cX8_renew 45 = .ok (.return_, 1) := by decide +kernel
theorem dX9_init_0 : decode cX9_init 0 = .ok (.aload_n 0, 1) := by decide +kernel
theorem dX9_init_1 : decode cX9_init 1 = .ok (.invokespecial 3, 3) := by decide +kernel
theorem dX9_init_4 : decode cX9_init 4 = .ok (.aload_n 0, 1) := by decide +kernel
theorem dX9_init_5 : decode cX9_init 5 = .ok (.iconst (-1), 1) := by decide +kernel
theorem dX9_init_6 : decode cX9_init 6 = .ok (.putfield 9, 3) := by decide +kernel
theorem dX9_init_9 : decode cX9_init 9 = .ok (.aload_n 0, 1) := by decide +kernel
theorem dX9_init_10 : decode cX9_init 10 = .ok (.iconst 0, 1) := by decide +kernel
theorem dX9_init_11 : decode cX9_init 11 = .ok (.iload_n 1, 1) := by decide +kernel
theorem dX9_init_12 : decode cX9_init 12 = .ok (.invokestatic 15, 3) := by decide +kernel
theorem dX9_init_15 : decode cX9_init 15 = .ok (.newarray .int, 2) := by decide +kernel
theorem dX9_init_17 : decode cX9_init 17 = .ok (.putfield 21, 3) := by decide +kernel
theorem dX9_init_20 : decode cX9_init 20 = .ok (.return_, 1) := by decide +kernel
theorem dX9_isFull_0 : decode cX9_isFull 0 = .ok (.aload_n 0, 1) := by decide +kernel
theorem dX9_isFull_1 : decode cX9_isFull 1 = .ok (.getfield 25, 3) := by decide +kernel
theorem dX9_isFull_4 : decode cX9_isFull 4 = .ok (.aload_n 0, 1) := by decide +kernel
theorem dX9_isFull_5 : decode cX9_isFull 5 = .ok (.getfield 21, 3) := by decide +kernel
theorem dX9_isFull_8 : decode cX9_isFull 8 = .ok (.arraylength, 1) := by decide +kernel
theorem dX9_isFull_9 : decode cX9_isFull 9 = .ok (.if_icmp .lt 7, 3) := by decide +kernel
theorem dX9_isFull_12 : decode cX9_isFull 12 = .ok (.iconst 1, 1) := by decide +kernel
theorem dX9_isFull_13 : decode cX9_isFull 13 = .ok (.goto 4, 3) := by decide +kernel
theorem dX9_isFull_16 : decode cX9_isFull 16 = .ok (.iconst 0, 1) := by decide +kernel
theorem dX9_isFull_17 : decode cX9_isFull 17 = .ok (.ireturn, 1) := by decide +kernel
theorem dX9_append_0 : decode cX9_append 0 = .ok (.aload_n 0, 1) := by decide +kernel
theorem dX9_append_1 : decode cX9_append 1 = .ok (.getfield 25, 3) := by decide +kernel
theorem dX9_append_4 : decode cX9_append 4 = .ok (.ifCond .lt 47, 3) := by decide +kernel
theorem dX9_append_7 : decode cX9_append 7 = .ok (.aload_n 0, 1) := by decide +kernel
theorem dX9_append_8 : decode cX9_append 8 = .ok (.getfield 25, 3) := by decide +kernel
theorem dX9_append_11 : decode cX9_append 11 = .ok (.aload_n 0, 1) := by decide +kernel
theorem dX9_append_12 : decode cX9_append 12 = .ok (.getfield 21, 3) := by decide +kernel
theorem dX9_append_15 : decode cX9_append 15 = .ok (.arraylength, 1) := by decide +kernel
theorem dX9_append_16 : decode cX9_append 16 = .ok (.if_icmp .ge 35, 3) := by decide +kernel
theorem dX9_append_19 : decode cX9_append 19 = .ok (.aload_n 0, 1) := by decide +kernel
theorem dX9_append_20 : decode cX9_append 20 = .ok (.getfield 21, 3) := by decide +kernel
theorem dX9_append_23 : decode cX9_append 23 = .ok (.aload_n 0, 1) := by decide +kernel
theorem dX9_append_24 : decode cX9_append 24 = .ok (.getfield 25, 3) := by decide +kernel
theorem dX9_append_27 : decode cX9_append 27 = .ok (.aload_n 0, 1) := by decide +kernel
theorem dX9_append_28 : decode cX9_append 28 = .ok (.aload_n 0, 1) := by decide +kernel
theorem dX9_append_29 : decode cX9_append 29 = .ok (.getfield 25, 3) := by decide +kernel
theorem dX9_append_32 : decode cX9_append 32 = .ok (.iload_n 1, 1) := by decide +kernel
theorem dX9_append_33 : decode cX9_append 33 = .ok (.invokevirtual 28, 3) := by decide +kernel
theorem dX9_append_36 : decode cX9_append 36 = .ok (.iastore, 1) := by decide +kernel
theorem dX9_append_37 : decode cX9_append 37 = .ok (.aload_n 0, 1) := by decide +kernel
theorem dX9_append_38 : decode cX9_append 38 = .ok (.dup, 1) := by decide +kernel
theorem dX9_append_39 : decode cX9_append 39 = .ok (.getfield 25, 3) := by decide +kernel
theorem dX9_append_42 : decode cX9_append 42 = .ok (.iconst 1, 1) := by decide +kernel
theorem dX9_append_43 : decode cX9_append 43 = .ok (.iadd, 1) := by decide +kernel
theorem dX9_append_44 : decode cX9_append 44 = .ok (.putfield 25, 3) := by decide +kernel
theorem dX9_append_47 : decode cX9_append 47 = .ok (.aload_n 0, 1) := by decide +kernel
theorem dX9_append_48 : decode cX9_append 48 = .ok (.invokevirtual 31, 3) := by decide +kernel
theorem dX9_append_51 : decode cX9_append 51 = .ok (.return_, 1) := by decide +kernel
theorem dX9_shorten_0 : decode cX9_shorten 0 = .ok (.aload_n 0, 1) := by decide +kernel
theorem dX9_shorten_1 : decode cX9_shorten 1 = .ok (.iconst 0, 1) := by decide +kernel
theorem dX9_shorten_2 : decode cX9_shorten 2 = .ok (.iload_n 1, 1) := by decide +kernel
theorem dX9_shorten_3 : decode cX9_shorten 3 = .ok (.aload_n 0, 1) := by decide +kernel
theorem dX9_shorten_4 : decode cX9_shorten 4 = .ok (.getfield 25, 3) := by decide +kernel
theorem dX9_shorten_7 : decode cX9_shorten 7 = .ok (.invokestatic 34, 3) := by decide +kernel
theorem dX9_shorten_10 : decode cX9_shorten 10 = .ok (.invokestatic 15, 3) := by decide +kernel
theorem dX9_shorten_13 : decode cX9_shorten 13 = .ok (.putfield 25, 3) := by decide +kernel
theorem dX9_shorten_16 : decode cX9_shorten 16 = .ok (.aload_n 0, 1) := by decide +kernel
theorem dX9_shorten_17 : decode cX9_shorten 17 = .ok (.invokevirtual 31, 3) := by decide +kernel
theorem dX9_shorten_20 : decode cX9_shorten 20 = .ok (.return_, 1) := by decide +kernel
theorem dX9_valueAt_0 : decode cX9_valueAt 0 = .ok (.iload_n 1, 1) := by decide +kernel
theorem dX9_valueAt_1 : decode cX9_valueAt 1 = .ok (.ifCond .lt 21, 3) := by decide +kernel
theorem dX9_valueAt_4 : decode cX9_valueAt 4 = .ok (.iload_n 1, 1) := by decide +kernel
theorem dX9_valueAt_5 : decode cX9_valueAt 5 = .ok (.aload_n 0, 1) := by decide +kernel
theorem dX9_valueAt_6 : decode cX9_valueAt 6 = .ok (.getfield 21, 3) := by decide +kernel
theorem dX9_valueAt_9 : decode cX9_valueAt 9 = .ok (.arraylength, 1) := by decide +kernel
theorem dX9_valueAt_10 : decode cX9_valueAt 10 = .ok (.if_icmp .ge 12, 3) := by decide +kernel
theorem dX9_valueAt_13 : decode cX9_valueAt 13 = .ok (.aload_n 0, 1) := by decide +kernel
theorem dX9_valueAt_14 : decode cX9_valueAt 14 = .ok (.getfield 21, 3) := by decide +kernel
theorem dX9_valueAt_17 : decode cX9_valueAt 17 = .ok (.iload_n 1, 1) := by decide +kernel
theorem dX9_valueAt_18 : decode cX9_valueAt 18 = .ok (.iaload, 1) := by decide +kernel
theorem dX9_valueAt_19 : decode cX9_valueAt 19 = .ok (.goto 4, 3) := by decide +kernel
theorem dX9_valueAt_22 : decode cX9_valueAt 22 = .ok (.iconst (-1), 1) := by decide +kernel
theorem dX9_valueAt_23 : decode cX9_valueAt 23 = .ok (.ireturn, 1) := by decide +kernel
theorem dX9_has_0 : decode cX9_has 0 = .ok (.iload_n 1, 1) := by decide +kernel
theorem dX9_has_1 : decode cX9_has 1 = .ok (.ifCond .lt 15, 3) := by decide +kernel
theorem dX9_has_4 : decode cX9_has 4 = .ok (.iload_n 1, 1) := by decide +kernel
theorem dX9_has_5 : decode cX9_has 5 = .ok (.aload_n 0, 1) := by decide +kernel
theorem dX9_has_6 : decode cX9_has 6 = .ok (.getfield 37, 3) := by decide +kernel
theorem dX9_has_9 : decode cX9_has 9 = .ok (.if_icmp .ge 7, 3) := by decide +kernel
theorem dX9_has_12 : decode cX9_has 12 = .ok (.iconst 1, 1) := by decide +kernel
theorem dX9_has_13 : decode cX9_has 13 = .ok (.goto 4, 3) := by decide +kernel
theorem dX9_has_16 : decode cX9_has 16 = .ok (.iconst 0, 1) := by decide +kernel
theorem dX9_has_17 : decode cX9_has 17 = .ok (.ireturn, 1) := by decide +kernel
theorem dX9_readAgain_0 : decode cX9_readAgain 0 = .ok (.aload_n 0, 1) := by decide +kernel
theorem dX9_readAgain_1 : decode cX9_readAgain 1 = .ok (.iconst (-1), 1) := by decide +kernel
theorem dX9_readAgain_2 : decode cX9_readAgain 2 = .ok (.putfield 9, 3) := by decide +kernel
theorem dX9_readAgain_5 : decode cX9_readAgain 5 = .ok (.iconst 0, 1) := by decide +kernel
theorem dX9_readAgain_6 : decode cX9_readAgain 6 = .ok (.istore_n 1, 1) := by decide +kernel
theorem dX9_readAgain_7 : decode cX9_readAgain 7 = .ok (.iload_n 1, 1) := by decide +kernel
theorem dX9_readAgain_8 : decode cX9_readAgain 8 = .ok (.aload_n 0, 1) := by decide +kernel
theorem dX9_readAgain_9 : decode cX9_readAgain 9 = .ok (.getfield 25, 3) := by decide +kernel
theorem dX9_readAgain_12 : decode cX9_readAgain 12 = .ok (.if_icmp .ge 31, 3) := by decide +kernel
theorem dX9_readAgain_15 : decode cX9_readAgain 15 = .ok (.aload_n 0, 1) := by decide +kernel
theorem dX9_readAgain_16 : decode cX9_readAgain 16 = .ok (.getfield 9, 3) := by decide +kernel
theorem dX9_readAgain_19 : decode cX9_readAgain 19 = .ok (.iconst (-1), 1) := by decide +kernel
theorem dX9_readAgain_20 : decode cX9_readAgain 20 = .ok (.if_icmp .ne 23, 3) := by decide +kernel
theorem dX9_readAgain_23 : decode cX9_readAgain 23 = .ok (.aload_n 0, 1) := by decide +kernel
theorem dX9_readAgain_24 : decode cX9_readAgain 24 = .ok (.iload_n 1, 1) := by decide +kernel
theorem dX9_readAgain_25 : decode cX9_readAgain 25 = .ok (.invokevirtual 40, 3) := by decide +kernel
theorem dX9_readAgain_28 : decode cX9_readAgain 28 = .ok (.iconst (-1), 1) := by decide +kernel
theorem dX9_readAgain_29 : decode cX9_readAgain 29 = .ok (.if_icmp .ne 8, 3) := by decide +kernel
theorem dX9_readAgain_32 : decode cX9_readAgain 32 = .ok (.aload_n 0, 1) := by decide +kernel
theorem dX9_readAgain_33 : decode cX9_readAgain 33 = .ok (.iload_n 1, 1) := by decide +kernel
theorem dX9_readAgain_34 : decode cX9_readAgain 34 = .ok (.putfield 9, 3) := by decide +kernel
theorem dX9_readAgain_37 : decode cX9_readAgain 37 = .ok (.iinc 1 1, 3) := by decide +kernel
theorem dX9_readAgain_40 : decode cX9_readAgain 40 = .ok (.goto (-33), 3) := by decide +kernel
theorem dX9_readAgain_43 : decode cX9_readAgain 43 = .ok (.aload_n 0, 1) := by decide +kernel
theorem dX9_readAgain_44 : decode cX9_readAgain 44 = .ok (.aload_n 0, 1) := by decide +kernel
theorem dX9_readAgain_45 : decode cX9_readAgain 45 = .ok (.getfield 25, 3) := by decide +kernel
theorem dX9_readAgain_48 : decode cX9_readAgain 48 = .ok (.invokevirtual 44, 3) := by decide +kernel
theorem dX9_readAgain_51 : decode cX9_readAgain 51 = .ok (.istore_n 1, 1) := by decide +kernel
theorem dX9_readAgain_52 : decode cX9_readAgain 52 = .ok (.aload_n 0, 1) := by decide +kernel
theorem dX9_readAgain_53 : decode cX9_readAgain 53 = .ok (.getfield 9, 3) := by decide +kernel
theorem dX9_readAgain_56 : decode cX9_readAgain 56 = .ok (.iconst (-1), 1) := by decide +kernel
theorem dX9_readAgain_57 : decode cX9_readAgain 57 = .ok (.if_icmp .ne 16, 3) := by decide +kernel
theorem dX9_readAgain_60 : decode cX9_readAgain 60 = .ok (.iload_n 1, 1) := by decide +kernel
theorem dX9_readAgain_61 : decode cX9_readAgain 61 = .ok (.iconst (-1), 1) := by decide +kernel
theorem dX9_readAgain_62 : decode cX9_readAgain 62 = .ok (.if_icmp .ne 11, 3) := by decide +kernel
theorem dX9_readAgain_65 : decode cX9_readAgain 65 = .ok (.aload_n 0, 1) := by decide +kernel
theorem dX9_readAgain_66 : decode cX9_readAgain 66 = .ok (.aload_n 0, 1) := by decide +kernel
theorem dX9_readAgain_67 : decode cX9_readAgain 67 = .ok (.getfield 25, 3) := by decide +kernel
theorem dX9_readAgain_70 : decode cX9_readAgain 70 = .ok (.putfield 9, 3) := by decide +kernel
theorem dX9_readAgain_73 : decode cX9_readAgain 73 = .ok (.aload_n 0, 1) := by decide +kernel
theorem dX9_readAgain_74 : decode cX9_readAgain 74 = .ok (.aload_n 0, 1) := by decide +kernel
theorem dX9_readAgain_75 : decode cX9_readAgain 75 = .ok (.getfield 9, 3) := by decide +kernel
theorem dX9_readAgain_78 : decode cX9_readAgain 78 = .ok (.iconst (-1), 1) := by decide +kernel
theorem dX9_readAgain_79 : decode cX9_readAgain 79 = .ok (.if_icmp .ne 7, 3) := by decide +kernel
theorem dX9_readAgain_82 : decode cX9_readAgain 82 = .ok (.iload_n 1, 1) := by decide +kernel
theorem dX9_readAgain_83 : decode cX9_readAgain 83 = .ok (.goto 4, 3) := by decide +kernel
theorem dX9_readAgain_86 : decode cX9_readAgain 86 = .ok (.iconst 0, 1) := by decide +kernel
theorem dX9_readAgain_87 : decode cX9_readAgain 87 = .ok (.putfield 37, 3) := by decide +kernel
theorem dX9_readAgain_90 : decode cX9_readAgain 90 = .ok (.return_, 1) := by decide +kernel
theorem dX10_init_0 : decode cX10_init 0 = .ok (.aload_n 0, 1) := by decide +kernel
theorem dX10_init_1 : decode cX10_init 1 = .ok (.invokespecial 3, 3) := by decide +kernel
theorem dX10_init_4 : decode cX10_init 4 = .ok (.aload_n 0, 1) := by decide +kernel
theorem dX10_init_5 : decode cX10_init 5 = .ok (.new 9, 3) := by decide +kernel
theorem dX10_init_8 : decode cX10_init 8 = .ok (.dup, 1) := by decide +kernel
theorem dX10_init_9 : decode cX10_init 9 = .ok (.invokespecial 11, 3) := by decide +kernel
theorem dX10_init_12 : decode cX10_init 12 = .ok (.putfield 12, 3) := by decide +kernel
theorem dX10_init_15 : decode cX10_init 15 = .ok (.aload_n 0, 1) := by decide +kernel
theorem dX10_init_16 : decode cX10_init 16 = .ok (.new 9, 3) := by decide +kernel
theorem dX10_init_19 : decode cX10_init 19 = .ok (.dup, 1) := by decide +kernel
theorem dX10_init_20 : decode cX10_init 20 = .ok (.invokespecial 11, 3) := by decide +kernel
theorem dX10_init_23 : decode cX10_init 23 = .ok (.putfield 18, 3) := by decide +kernel
theorem dX10_init_26 : decode cX10_init 26 = .ok (.aload_n 0, 1) := by decide +kernel
theorem dX10_init_27 : decode cX10_init 27 = .ok (.aload_n 0, 1) := by decide +kernel
theorem dX10_init_28 : decode cX10_init 28 = .ok (.getfield 12, 3) := by decide +kernel
theorem dX10_init_31 : decode cX10_init 31 = .ok (.putfield 21, 3) := by decide +kernel
theorem dX10_init_34 : decode cX10_init 34 = .ok (.aload_n 0, 1) := by decide +kernel
theorem dX10_init_35 : decode cX10_init 35 = .ok (.aload_n 0, 1) := by decide +kernel
theorem dX10_init_36 : decode cX10_init 36 = .ok (.getfield 18, 3) := by decide +kernel
theorem dX10_init_39 : decode cX10_init 39 = .ok (.putfield 24, 3) := by decide +kernel
theorem dX10_init_42 : decode cX10_init 42 = .ok (.aload_n 0, 1) := by decide +kernel
theorem dX10_init_43 : decode cX10_init 43 = .ok (.aload_n 1, 1) := by decide +kernel
theorem dX10_init_44 : decode cX10_init 44 = .ok (.putfield 27, 3) := by decide +kernel
theorem dX10_init_47 : decode cX10_init 47 = .ok (.aload_n 0, 1) := by decide +kernel
theorem dX10_init_48 : decode cX10_init 48 = .ok (.aload_n 2, 1) := by decide +kernel
theorem dX10_init_49 : decode cX10_init 49 = .ok (.putfield 31, 3) := by decide +kernel
theorem dX10_init_52 : decode cX10_init 52 = .ok (.aload_n 0, 1) := by decide +kernel
theorem dX10_init_53 : decode cX10_init 53 = .ok (.aload_n 3, 1) := by decide +kernel
theorem dX10_init_54 : decode cX10_init 54 = .ok (.putfield 35, 3) := by decide +kernel
theorem dX10_init_57 : decode cX10_init 57 = .ok (.return_, 1) := by decide +kernel
theorem dX11_init_0 : decode cX11_init 0 = .ok (.aload_n 0, 1) := by decide +kernel
theorem dX11_init_1 : decode cX11_init 1 = .ok (.invokespecial 1, 3) := by decide +kernel
theorem dX11_init_4 : decode cX11_init 4 = .ok (.aload_n 0, 1) := by decide +kernel
theorem dX11_init_5 : decode cX11_init 5 = .ok (.new 7, 3) := by decide +kernel
theorem dX11_init_8 : decode cX11_init 8 = .ok (.dup, 1) := by decide +kernel
theorem dX11_init_9 : decode cX11_init 9 = .ok (.invokespecial 9, 3) := by decide +kernel
theorem dX11_init_12 : decode cX11_init 12 = .ok (.putfield 10, 3) := by decide +kernel
theorem dX11_init_15 : decode cX11_init 15 = .ok (.aload_n 0, 1) := by decide +kernel
theorem dX11_init_16 : decode cX11_init 16 = .ok (.new 16, 3) := by decide +kernel
theorem dX11_init_19 : decode cX11_init 19 = .ok (.dup, 1) := by decide +kernel
theorem dX11_init_20 : decode cX11_init 20 = .ok (.invokespecial 18, 3) := by decide +kernel
theorem dX11_init_23 : decode cX11_init 23 = .ok (.putfield 19, 3) := by decide +kernel
theorem dX11_init_26 : decode cX11_init 26 = .ok (.aload_n 0, 1) := by decide +kernel
theorem dX11_init_27 : decode cX11_init 27 = .ok (.new 23, 3) := by decide +kernel
theorem dX11_init_30 : decode cX11_init 30 = .ok (.dup, 1) := by decide +kernel
theorem dX11_init_31 : decode cX11_init 31 = .ok (.invokespecial 25, 3) := by decide +kernel
theorem dX11_init_34 : decode cX11_init 34 = .ok (.putfield 26, 3) := by decide +kernel
theorem dX11_init_37 : decode cX11_init 37 = .ok (.aload_n 0, 1) := by decide +kernel
theorem dX11_init_38 : decode cX11_init 38 = .ok (.new 30, 3) := by decide +kernel
theorem dX11_init_41 : decode cX11_init 41 = .ok (.dup, 1) := by decide +kernel
theorem dX11_init_42 : decode cX11_init 42 = .ok (.invokespecial 32, 3) := by decide +kernel
theorem dX11_init_45 : decode cX11_init 45 = .ok (.putfield 33, 3) := by decide +kernel
theorem dX11_init_48 : decode cX11_init 48 = .ok (.aload_n 0, 1) := by decide +kernel
theorem dX11_init_49 : decode cX11_init 49 = .ok (.new 37, 3) := by decide +kernel
theorem dX11_init_52 : decode cX11_init 52 = .ok (.dup, 1) := by decide +kernel
theorem dX11_init_53 : decode cX11_init 53 = .ok (.aload_n 0, 1) := by decide +kernel
theorem dX11_init_54 : decode cX11_init 54 = .ok (.getfield 10, 3) := by decide +kernel
theorem dX11_init_57 : decode cX11_init 57 = .ok (.aload_n 0, 1) := by decide +kernel
theorem dX11_init_58 : decode cX11_init 58 = .ok (.getfield 19, 3) := by decide +kernel
theorem dX11_init_61 : decode cX11_init 61 = .ok (.aload_n 0, 1) := by decide +kernel
theorem dX11_init_62 : decode cX11_init 62 = .ok (.getfield 26, 3) := by decide +kernel
theorem dX11_init_65 : decode cX11_init 65 = .ok (.invokespecial 39, 3) := by decide +kernel
theorem dX11_init_68 : decode cX11_init 68 = .ok (.putfield 42, 3) := by decide +kernel
theorem dX11_init_71 : decode cX11_init 71 = .ok (.aload_n 0, 1) := by decide +kernel
theorem dX11_init_72 : decode cX11_init 72 = .ok (.new 46, 3) := by decide +kernel
theorem dX11_init_75 : decode cX11_init 75 = .ok (.dup, 1) := by decide +kernel
theorem dX11_init_76 : decode cX11_init 76 = .ok (.invokespecial 48, 3) := by decide +kernel
theorem dX11_init_79 : decode cX11_init 79 = .ok (.putfield 49, 3) := by decide +kernel
theorem dX11_init_82 : decode cX11_init 82 = .ok (.aload_n 0, 1) := by decide +kernel
theorem dX11_init_83 : decode cX11_init 83 = .ok (.new 53, 3) := by decide +kernel
theorem dX11_init_86 : decode cX11_init 86 = .ok (.dup, 1) := by decide +kernel
theorem dX11_init_87 : decode cX11_init 87 = .ok (.invokespecial 55, 3) := by decide +kernel
theorem dX11_init_90 : decode cX11_init 90 = .ok (.putfield 56, 3) := by decide +kernel
theorem dX11_init_93 : decode cX11_init 93 = .ok (.aload_n 0, 1) := by decide +kernel
theorem dX11_init_94 : decode cX11_init 94 = .ok (.new 60, 3) := by decide +kernel
theorem dX11_init_97 : decode cX11_init 97 = .ok (.dup, 1) := by decide +kernel
theorem dX11_init_98 : decode cX11_init 98 = .ok (.invokespecial 62, 3) := by decide +kernel
theorem dX11_init_101 : decode cX11_init 101 = .ok (.putfield 63, 3) := by decide +kernel
theorem dX11_init_104 : decode cX11_init 104 = .ok (.aload_n 0, 1) := by decide +kernel
theorem dX11_init_105 : decode cX11_init 105 = .ok (.bipush 8, 2) := by decide +kernel
theorem dX11_init_107 : decode cX11_init 107 = .ok (.newarray .int, 2) := by decide +kernel
theorem dX11_init_109 : decode cX11_init 109 = .ok (.putfield 67, 3) := by decide +kernel
theorem dX11_init_112 : decode cX11_init 112 = .ok (.aload_n 0, 1) := by decide +kernel
theorem dX11_init_113 : decode cX11_init 113 = .ok (.bipush 8, 2) := by decide +kernel
theorem dX11_init_115 : decode cX11_init 115 = .ok (.newarray .int, 2) := by decide +kernel
theorem dX11_init_117 : decode cX11_init 117 = .ok (.putfield 71, 3) := by decide +kernel
theorem dX11_init_120 : decode cX11_init 120 = .ok (.aload_n 0, 1) := by decide +kernel
theorem dX11_init_121 : decode cX11_init 121 = .ok (.bipush 25, 2) := by decide +kernel
theorem dX11_init_123 : decode cX11_init 123 = .ok (.newarray .int, 2) := by decide +kernel
theorem dX11_init_125 : decode cX11_init 125 = .ok (.putfield 74, 3) := by decide +kernel
theorem dX11_init_128 : decode cX11_init 128 = .ok (.aload_n 0, 1) := by decide +kernel
theorem dX11_init_129 : decode cX11_init 129 = .ok (.iconst 4, 1) := by decide +kernel
theorem dX11_init_130 : decode cX11_init 130 = .ok (.anewarray 77, 3) := by decide +kernel
theorem dX11_init_133 : decode cX11_init 133 = .ok (.putfield 79, 3) := by decide +kernel
theorem dX11_init_136 : decode cX11_init 136 = .ok (.iconst 0, 1) := by decide +kernel
theorem dX11_init_137 : decode cX11_init 137 = .ok (.istore_n 1, 1) := by decide +kernel
theorem dX11_init_138 : decode cX11_init 138 = .ok (.iload_n 1, 1) := by decide +kernel
theorem dX11_init_139 : decode cX11_init 139 = .ok (.iconst 4, 1) := by decide +kernel
theorem dX11_init_140 : decode cX11_init 140 = .ok (.if_icmp .ge 22, 3) := by decide +kernel
theorem dX11_init_143 : decode cX11_init 143 = .ok (.aload_n 0, 1) := by decide +kernel
theorem dX11_init_144 : decode cX11_init 144 = .ok (.getfield 79, 3) := by decide +kernel
theorem dX11_init_147 : decode cX11_init 147 = .ok (.iload_n 1, 1) := by decide +kernel
theorem dX11_init_148 : decode cX11_init 148 = .ok (.new 77, 3) := by decide +kernel
theorem dX11_init_151 : decode cX11_init 151 = .ok (.dup, 1) := by decide +kernel
theorem dX11_init_152 : decode cX11_init 152 = .ok (.invokespecial 83, 3) := by decide +kernel
theorem dX11_init_155 : decode cX11_init 155 = .ok (.aastore, 1) := by decide +kernel
theorem dX11_init_156 : decode cX11_init 156 = .ok (.iinc 1 1, 3) := by decide +kernel
theorem dX11_init_159 : decode cX11_init 159 = .ok (.goto (-21), 3) := by decide +kernel
theorem dX11_init_162 : decode cX11_init 162 = .ok (.return_, 1) := by decide +kernel
theorem dX11_type_0 : decode cX11_type 0 = .ok (.aload_n 0, 1) := by decide +kernel
theorem dX11_type_1 : decode cX11_type 1 = .ok (.iload_n 1, 1) := by decide +kernel
theorem dX11_type_2 : decode cX11_type 2 = .ok (.invokevirtual 84, 3) := by decide +kernel
theorem dX11_type_5 : decode cX11_type 5 = .ok (.astore_n 3, 1) := by decide +kernel
theorem dX11_type_6 : decode cX11_type 6 = .ok (.aload_n 3, 1) := by decide +kernel
theorem dX11_type_7 : decode cX11_type 7 = .ok (.ifnull 14, 3) := by decide +kernel
theorem dX11_type_10 : decode cX11_type 10 = .ok (.iload_n 2, 1) := by decide +kernel
theorem dX11_type_11 : decode cX11_type 11 = .ok (.ifCond .lt 10, 3) := by decide +kernel
theorem dX11_type_14 : decode cX11_type 14 = .ok (.iload_n 2, 1) := by decide +kernel
