theorem dX11_practice_11 : decode cX11_practice 11 = .ok (.iload_n 2, 1) := by decide +kernel
theorem dX11_practice_12 : decode cX11_practice 12 = .ok (.ifCond .lt 8, 3) := by decide +kernel
theorem dX11_practice_15 : decode cX11_practice 15 = .ok (.iload_n 2, 1) := by decide +kernel
theorem dX11_practice_16 : decode cX11_practice 16 = .ok (.iconst 1, 1) := by decide +kernel
theorem dX11_practice_17 : decode cX11_practice 17 = .ok (.if_icmp .le 6, 3) := by decide +kernel
theorem dX11_practice_20 : decode cX11_practice 20 = .ok (.bipush (-2), 2) := by decide +kernel
theorem dX11_practice_22 : decode cX11_practice 22 = .ok (.ireturn, 1) := by decide +kernel
theorem dX11_practice_23 : decode cX11_practice 23 = .ok (.aload_n 0, 1) := by decide +kernel
theorem dX11_practice_24 : decode cX11_practice 24 = .ok (.iload_n 1, 1) := by decide +kernel
theorem dX11_practice_25 : decode cX11_practice 25 = .ok (.invokevirtual 150, 3) := by decide +kernel
theorem dX11_practice_28 : decode cX11_practice 28 = .ok (.bipush 7, 2) := by decide +kernel
theorem dX11_practice_30 : decode cX11_practice 30 = .ok (.istore_n 3, 1) := by decide +kernel
theorem dX11_practice_31 : decode cX11_practice 31 = .ok (.iconst (-1), 1) := by decide +kernel
theorem dX11_practice_32 : decode cX11_practice 32 = .ok (.istore 4, 2) := by decide +kernel
theorem dX11_practice_34 : decode cX11_practice 34 = .ok (.iconst 0, 1) := by decide +kernel
theorem dX11_practice_35 : decode cX11_practice 35 = .ok (.istore 5, 2) := by decide +kernel
theorem dX11_practice_37 : decode cX11_practice 37 = .ok (.iload 5, 2) := by decide +kernel
theorem dX11_practice_39 : decode cX11_practice 39 = .ok (.bipush 64, 2) := by decide +kernel
theorem dX11_practice_41 : decode cX11_practice 41 = .ok (.if_icmp .ge 64, 3) := by decide +kernel
theorem dX11_practice_44 : decode cX11_practice 44 = .ok (.iload 5, 2) := by decide +kernel
theorem dX11_practice_46 : decode cX11_practice 46 = .ok (.invokestatic 179, 3) := by decide +kernel
theorem dX11_practice_49 : decode cX11_practice 49 = .ok (.istore 6, 2) := by decide +kernel
theorem dX11_practice_51 : decode cX11_practice 51 = .ok (.iload 6, 2) := by decide +kernel
theorem dX11_practice_53 : decode cX11_practice 53 = .ok (.iload_n 3, 1) := by decide +kernel
theorem dX11_practice_54 : decode cX11_practice 54 = .ok (.if_icmp .ge 45, 3) := by decide +kernel
theorem dX11_practice_57 : decode cX11_practice 57 = .ok (.aload_n 0, 1) := by decide +kernel
theorem dX11_practice_58 : decode cX11_practice 58 = .ok (.getfield 42, 3) := by decide +kernel
theorem dX11_practice_61 : decode cX11_practice 61 = .ok (.iload 5, 2) := by decide +kernel
theorem dX11_practice_63 : decode cX11_practice 63 = .ok (.putfield 184, 3) := by decide +kernel
theorem dX11_practice_66 : decode cX11_practice 66 = .ok (.aload_n 0, 1) := by decide +kernel
theorem dX11_practice_67 : decode cX11_practice 67 = .ok (.getfield 42, 3) := by decide +kernel
theorem dX11_practice_70 : decode cX11_practice 70 = .ok (.aload_n 0, 1) := by decide +kernel
theorem dX11_practice_71 : decode cX11_practice 71 = .ok (.getfield 33, 3) := by decide +kernel
theorem dX11_practice_74 : decode cX11_practice 74 = .ok (.iload_n 1, 1) := by decide +kernel
theorem dX11_practice_75 : decode cX11_practice 75 = .ok (.invokevirtual 153, 3) := by decide +kernel
theorem dX11_practice_78 : decode cX11_practice 78 = .ok (.invokevirtual 156, 3) := by decide +kernel
theorem dX11_practice_81 : decode cX11_practice 81 = .ok (.pop, 1) := by decide +kernel
theorem dX11_practice_82 : decode cX11_practice 82 = .ok (.aload_n 0, 1) := by decide +kernel
theorem dX11_practice_83 : decode cX11_practice 83 = .ok (.getfield 42, 3) := by decide +kernel
theorem dX11_practice_86 : decode cX11_practice 86 = .ok (.getfield 159, 3) := by decide +kernel
theorem dX11_practice_89 : decode cX11_practice 89 = .ok (.ifCond .ne 10, 3) := by decide +kernel
theorem dX11_practice_92 : decode cX11_practice 92 = .ok (.iload 6, 2) := by decide +kernel
theorem dX11_practice_94 : decode cX11_practice 94 = .ok (.istore_n 3, 1) := by decide +kernel
theorem dX11_practice_95 : decode cX11_practice 95 = .ok (.iload 5, 2) := by decide +kernel
theorem dX11_practice_97 : decode cX11_practice 97 = .ok (.istore 4, 2) := by decide +kernel
theorem dX11_practice_99 : decode cX11_practice 99 = .ok (.iinc 5 1, 3) := by decide +kernel
theorem dX11_practice_102 : decode cX11_practice 102 = .ok (.goto (-65), 3) := by decide +kernel
theorem dX11_practice_105 : decode cX11_practice 105 = .ok (.iload 4, 2) := by decide +kernel
theorem dX11_practice_107 : decode cX11_practice 107 = .ok (.iconst (-1), 1) := by decide +kernel
theorem dX11_practice_108 : decode cX11_practice 108 = .ok (.if_icmp .ne 5, 3) := by decide +kernel
theorem dX11_practice_111 : decode cX11_practice 111 = .ok (.iconst (-1), 1) := by decide +kernel
theorem dX11_practice_112 : decode cX11_practice 112 = .ok (.ireturn, 1) := by decide +kernel
theorem dX11_practice_113 : decode cX11_practice 113 = .ok (.iload_n 2, 1) := by decide +kernel
theorem dX11_practice_114 : decode cX11_practice 114 = .ok (.ifCond .ne 7, 3) := by decide +kernel
theorem dX11_practice_117 : decode cX11_practice 117 = .ok (.iload_n 3, 1) := by decide +kernel
theorem dX11_practice_118 : decode cX11_practice 118 = .ok (.goto 5, 3) := by decide +kernel
theorem dX11_practice_121 : decode cX11_practice 121 = .ok (.iload 4, 2) := by decide +kernel
theorem dX11_practice_123 : decode cX11_practice 123 = .ok (.ireturn, 1) := by decide +kernel
theorem dX11_pair_0 : decode cX11_pair 0 = .ok (.aload_n 0, 1) := by decide +kernel
theorem dX11_pair_1 : decode cX11_pair 1 = .ok (.getfield 33, 3) := by decide +kernel
theorem dX11_pair_4 : decode cX11_pair 4 = .ok (.iload_n 1, 1) := by decide +kernel
theorem dX11_pair_5 : decode cX11_pair 5 = .ok (.invokevirtual 149, 3) := by decide +kernel
theorem dX11_pair_8 : decode cX11_pair 8 = .ok (.ifCond .eq 12, 3) := by decide +kernel
theorem dX11_pair_11 : decode cX11_pair 11 = .ok (.iload_n 2, 1) := by decide +kernel
theorem dX11_pair_12 : decode cX11_pair 12 = .ok (.ifCond .lt 8, 3) := by decide +kernel
theorem dX11_pair_15 : decode cX11_pair 15 = .ok (.iload_n 2, 1) := by decide +kernel
theorem dX11_pair_16 : decode cX11_pair 16 = .ok (.iconst 1, 1) := by decide +kernel
theorem dX11_pair_17 : decode cX11_pair 17 = .ok (.if_icmp .le 6, 3) := by decide +kernel
theorem dX11_pair_20 : decode cX11_pair 20 = .ok (.bipush (-2), 2) := by decide +kernel
theorem dX11_pair_22 : decode cX11_pair 22 = .ok (.ireturn, 1) := by decide +kernel
theorem dX11_pair_23 : decode cX11_pair 23 = .ok (.aload_n 0, 1) := by decide +kernel
theorem dX11_pair_24 : decode cX11_pair 24 = .ok (.iload_n 1, 1) := by decide +kernel
theorem dX11_pair_25 : decode cX11_pair 25 = .ok (.invokevirtual 150, 3) := by decide +kernel
theorem dX11_pair_28 : decode cX11_pair 28 = .ok (.iconst (-1), 1) := by decide +kernel
theorem dX11_pair_29 : decode cX11_pair 29 = .ok (.istore_n 3, 1) := by decide +kernel
theorem dX11_pair_30 : decode cX11_pair 30 = .ok (.iconst (-1), 1) := by decide +kernel
theorem dX11_pair_31 : decode cX11_pair 31 = .ok (.istore 4, 2) := by decide +kernel
theorem dX11_pair_33 : decode cX11_pair 33 = .ok (.iconst 0, 1) := by decide +kernel
theorem dX11_pair_34 : decode cX11_pair 34 = .ok (.istore 5, 2) := by decide +kernel
theorem dX11_pair_36 : decode cX11_pair 36 = .ok (.iload 5, 2) := by decide +kernel
theorem dX11_pair_38 : decode cX11_pair 38 = .ok (.aload_n 0, 1) := by decide +kernel
theorem dX11_pair_39 : decode cX11_pair 39 = .ok (.getfield 26, 3) := by decide +kernel
theorem dX11_pair_42 : decode cX11_pair 42 = .ok (.getfield 185, 3) := by decide +kernel
theorem dX11_pair_45 : decode cX11_pair 45 = .ok (.if_icmp .ge 92, 3) := by decide +kernel
theorem dX11_pair_48 : decode cX11_pair 48 = .ok (.iconst 0, 1) := by decide +kernel
theorem dX11_pair_49 : decode cX11_pair 49 = .ok (.istore 6, 2) := by decide +kernel
theorem dX11_pair_51 : decode cX11_pair 51 = .ok (.iload 6, 2) := by decide +kernel
theorem dX11_pair_53 : decode cX11_pair 53 = .ok (.aload_n 0, 1) := by decide +kernel
theorem dX11_pair_54 : decode cX11_pair 54 = .ok (.getfield 26, 3) := by decide +kernel
theorem dX11_pair_57 : decode cX11_pair 57 = .ok (.getfield 185, 3) := by decide +kernel
theorem dX11_pair_60 : decode cX11_pair 60 = .ok (.if_icmp .ge 71, 3) := by decide +kernel
theorem dX11_pair_63 : decode cX11_pair 63 = .ok (.iload 5, 2) := by decide +kernel
theorem dX11_pair_65 : decode cX11_pair 65 = .ok (.iload 6, 2) := by decide +kernel
theorem dX11_pair_67 : decode cX11_pair 67 = .ok (.if_icmp .eq 58, 3) := by decide +kernel
theorem dX11_pair_70 : decode cX11_pair 70 = .ok (.aload_n 0, 1) := by decide +kernel
theorem dX11_pair_71 : decode cX11_pair 71 = .ok (.getfield 42, 3) := by decide +kernel
theorem dX11_pair_74 : decode cX11_pair 74 = .ok (.aload_n 0, 1) := by decide +kernel
theorem dX11_pair_75 : decode cX11_pair 75 = .ok (.getfield 33, 3) := by decide +kernel
theorem dX11_pair_78 : decode cX11_pair 78 = .ok (.iload_n 1, 1) := by decide +kernel
theorem dX11_pair_79 : decode cX11_pair 79 = .ok (.invokevirtual 186, 3) := by decide +kernel
theorem dX11_pair_82 : decode cX11_pair 82 = .ok (.iload 5, 2) := by decide +kernel
theorem dX11_pair_84 : decode cX11_pair 84 = .ok (.iload 6, 2) := by decide +kernel
theorem dX11_pair_86 : decode cX11_pair 86 = .ok (.invokevirtual 189, 3) := by decide +kernel
theorem dX11_pair_89 : decode cX11_pair 89 = .ok (.aload_n 0, 1) := by decide +kernel
theorem dX11_pair_90 : decode cX11_pair 90 = .ok (.getfield 42, 3) := by decide +kernel
theorem dX11_pair_93 : decode cX11_pair 93 = .ok (.aload_n 0, 1) := by decide +kernel
theorem dX11_pair_94 : decode cX11_pair 94 = .ok (.getfield 33, 3) := by decide +kernel
theorem dX11_pair_97 : decode cX11_pair 97 = .ok (.iload_n 1, 1) := by decide +kernel
theorem dX11_pair_98 : decode cX11_pair 98 = .ok (.invokevirtual 153, 3) := by decide +kernel
theorem dX11_pair_101 : decode cX11_pair 101 = .ok (.invokevirtual 156, 3) := by decide +kernel
theorem dX11_pair_104 : decode cX11_pair 104 = .ok (.istore 7, 2) := by decide +kernel
theorem dX11_pair_106 : decode cX11_pair 106 = .ok (.iload 7, 2) := by decide +kernel
theorem dX11_pair_108 : decode cX11_pair 108 = .ok (.iload_n 3, 1) := by decide +kernel
theorem dX11_pair_109 : decode cX11_pair 109 = .ok (.if_icmp .le 16, 3) := by decide +kernel
theorem dX11_pair_112 : decode cX11_pair 112 = .ok (.iload 7, 2) := by decide +kernel
theorem dX11_pair_114 : decode cX11_pair 114 = .ok (.istore_n 3, 1) := by decide +kernel
theorem dX11_pair_115 : decode cX11_pair 115 = .ok (.bipush 8, 2) := by decide +kernel
theorem dX11_pair_117 : decode cX11_pair 117 = .ok (.iload 5, 2) := by decide +kernel
theorem dX11_pair_119 : decode cX11_pair 119 = .ok (.imul, 1) := by decide +kernel
theorem dX11_pair_120 : decode cX11_pair 120 = .ok (.iload 6, 2) := by decide +kernel
theorem dX11_pair_122 : decode cX11_pair 122 = .ok (.iadd, 1) := by decide +kernel
theorem dX11_pair_123 : decode cX11_pair 123 = .ok (.istore 4, 2) := by decide +kernel
theorem dX11_pair_125 : decode cX11_pair 125 = .ok (.iinc 6 1, 3) := by decide +kernel
theorem dX11_pair_128 : decode cX11_pair 128 = .ok (.goto (-77), 3) := by decide +kernel
theorem dX11_pair_131 : decode cX11_pair 131 = .ok (.iinc 5 1, 3) := by decide +kernel
theorem dX11_pair_134 : decode cX11_pair 134 = .ok (.goto (-98), 3) := by decide +kernel
theorem dX11_pair_137 : decode cX11_pair 137 = .ok (.iload_n 2, 1) := by decide +kernel
theorem dX11_pair_138 : decode cX11_pair 138 = .ok (.ifCond .ne 8, 3) := by decide +kernel
theorem dX11_pair_141 : decode cX11_pair 141 = .ok (.iload 4, 2) := by decide +kernel
theorem dX11_pair_143 : decode cX11_pair 143 = .ok (.goto 4, 3) := by decide +kernel
theorem dX11_pair_146 : decode cX11_pair 146 = .ok (.iload_n 3, 1) := by decide +kernel
theorem dX11_pair_147 : decode cX11_pair 147 = .ok (.ireturn, 1) := by decide +kernel
theorem dX11_seen_0 : decode cX11_seen 0 = .ok (.iload_n 1, 1) := by decide +kernel
theorem dX11_seen_1 : decode cX11_seen 1 = .ok (.ifCond .lt 19, 3) := by decide +kernel
theorem dX11_seen_4 : decode cX11_seen 4 = .ok (.iload_n 1, 1) := by decide +kernel
theorem dX11_seen_5 : decode cX11_seen 5 = .ok (.bipush 8, 2) := by decide +kernel
theorem dX11_seen_7 : decode cX11_seen 7 = .ok (.if_icmp .ge 13, 3) := by decide +kernel
theorem dX11_seen_10 : decode cX11_seen 10 = .ok (.iload_n 2, 1) := by decide +kernel
theorem dX11_seen_11 : decode cX11_seen 11 = .ok (.ifCond .lt 9, 3) := by decide +kernel
theorem dX11_seen_14 : decode cX11_seen 14 = .ok (.iload_n 2, 1) := by decide +kernel
theorem dX11_seen_15 : decode cX11_seen 15 = .ok (.bipush 24, 2) := by decide +kernel
theorem dX11_seen_17 : decode cX11_seen 17 = .ok (.if_icmp .le 6, 3) := by decide +kernel
theorem dX11_seen_20 : decode cX11_seen 20 = .ok (.bipush (-2), 2) := by decide +kernel
theorem dX11_seen_22 : decode cX11_seen 22 = .ok (.ireturn, 1) := by decide +kernel
theorem dX11_seen_23 : decode cX11_seen 23 = .ok (.aload_n 0, 1) := by decide +kernel
theorem dX11_seen_24 : decode cX11_seen 24 = .ok (.getfield 193, 3) := by decide +kernel
theorem dX11_seen_27 : decode cX11_seen 27 = .ok (.ifCond .lt 12, 3) := by decide +kernel
theorem dX11_seen_30 : decode cX11_seen 30 = .ok (.aload_n 0, 1) := by decide +kernel
theorem dX11_seen_31 : decode cX11_seen 31 = .ok (.getfield 193, 3) := by decide +kernel
theorem dX11_seen_34 : decode cX11_seen 34 = .ok (.bipush 8, 2) := by decide +kernel
theorem dX11_seen_36 : decode cX11_seen 36 = .ok (.if_icmp .lt 6, 3) := by decide +kernel
theorem dX11_seen_39 : decode cX11_seen 39 = .ok (.bipush (-4), 2) := by decide +kernel
theorem dX11_seen_41 : decode cX11_seen 41 = .ok (.ireturn, 1) := by decide +kernel
theorem dX11_seen_42 : decode cX11_seen 42 = .ok (.aload_n 0, 1) := by decide +kernel
theorem dX11_seen_43 : decode cX11_seen 43 = .ok (.getfield 67, 3) := by decide +kernel
theorem dX11_seen_46 : decode cX11_seen 46 = .ok (.aload_n 0, 1) := by decide +kernel
theorem dX11_seen_47 : decode cX11_seen 47 = .ok (.getfield 193, 3) := by decide +kernel
theorem dX11_seen_50 : decode cX11_seen 50 = .ok (.iload_n 1, 1) := by decide +kernel
theorem dX11_seen_51 : decode cX11_seen 51 = .ok (.iastore, 1) := by decide +kernel
theorem dX11_seen_52 : decode cX11_seen 52 = .ok (.aload_n 0, 1) := by decide +kernel
theorem dX11_seen_53 : decode cX11_seen 53 = .ok (.getfield 71, 3) := by decide +kernel
theorem dX11_seen_56 : decode cX11_seen 56 = .ok (.aload_n 0, 1) := by decide +kernel
theorem dX11_seen_57 : decode cX11_seen 57 = .ok (.getfield 193, 3) := by decide +kernel
theorem dX11_seen_60 : decode cX11_seen 60 = .ok (.iload_n 2, 1) := by decide +kernel
theorem dX11_seen_61 : decode cX11_seen 61 = .ok (.iastore, 1) := by decide +kernel
theorem dX11_seen_62 : decode cX11_seen 62 = .ok (.aload_n 0, 1) := by decide +kernel
theorem dX11_seen_63 : decode cX11_seen 63 = .ok (.dup, 1) := by decide +kernel
theorem dX11_seen_64 : decode cX11_seen 64 = .ok (.getfield 193, 3) := by decide +kernel
theorem dX11_seen_67 : decode cX11_seen 67 = .ok (.iconst 1, 1) := by decide +kernel
theorem dX11_seen_68 : decode cX11_seen 68 = .ok (.iadd, 1) := by decide +kernel
theorem dX11_seen_69 : decode cX11_seen 69 = .ok (.putfield 193, 3) := by decide +kernel
theorem dX11_seen_72 : decode cX11_seen 72 = .ok (.aload_n 0, 1) := by decide +kernel
theorem dX11_seen_73 : decode cX11_seen 73 = .ok (.getfield 193, 3) := by decide +kernel
theorem dX11_seen_76 : decode cX11_seen 76 = .ok (.ireturn, 1) := by decide +kernel
theorem dX11_forget_0 : decode cX11_forget 0 = .ok (.aload_n 0, 1) := by decide +kernel
theorem dX11_forget_1 : decode cX11_forget 1 = .ok (.getfield 193, 3) := by decide +kernel
theorem dX11_forget_4 : decode cX11_forget 4 = .ok (.istore_n 1, 1) := by decide +kernel
theorem dX11_forget_5 : decode cX11_forget 5 = .ok (.aload_n 0, 1) := by decide +kernel
theorem dX11_forget_6 : decode cX11_forget 6 = .ok (.iconst 0, 1) := by decide +kernel
theorem dX11_forget_7 : decode cX11_forget 7 = .ok (.putfield 193, 3) := by decide +kernel
theorem dX11_forget_10 : decode cX11_forget 10 = .ok (.iload_n 1, 1) := by decide +kernel
theorem dX11_forget_11 : decode cX11_forget 11 = .ok (.ireturn, 1) := by decide +kernel
theorem dX11_sores_0 : decode cX11_sores 0 = .ok (.aload_n 0, 1) := by decide +kernel
theorem dX11_sores_1 : decode cX11_sores 1 = .ok (.getfield 19, 3) := by decide +kernel
theorem dX11_sores_4 : decode cX11_sores 4 = .ok (.iload_n 1, 1) := by decide +kernel
theorem dX11_sores_5 : decode cX11_sores 5 = .ok (.invokevirtual 115, 3) := by decide +kernel
theorem dX11_sores_8 : decode cX11_sores 8 = .ok (.ifCond .ne 6, 3) := by decide +kernel
theorem dX11_sores_11 : decode cX11_sores 11 = .ok (.bipush (-2), 2) := by decide +kernel
theorem dX11_sores_13 : decode cX11_sores 13 = .ok (.ireturn, 1) := by decide +kernel
theorem dX11_sores_14 : decode cX11_sores 14 = .ok (.iconst 0, 1) := by decide +kernel
theorem dX11_sores_15 : decode cX11_sores 15 = .ok (.istore_n 2, 1) := by decide +kernel
theorem dX11_sores_16 : decode cX11_sores 16 = .ok (.iconst 0, 1) := by decide +kernel
theorem dX11_sores_17 : decode cX11_sores 17 = .ok (.istore_n 3, 1) := by decide +kernel
theorem dX11_sores_18 : decode cX11_sores 18 = .ok (.iload_n 3, 1) := by decide +kernel
theorem dX11_sores_19 : decode cX11_sores 19 = .ok (.bipush 6, 2) := by decide +kernel
theorem dX11_sores_21 : decode cX11_sores 21 = .ok (.if_icmp .ge 26, 3) := by decide +kernel
theorem dX11_sores_24 : decode cX11_sores 24 = .ok (.aload_n 0, 1) := by decide +kernel
theorem dX11_sores_25 : decode cX11_sores 25 = .ok (.iload_n 1, 1) := by decide +kernel
theorem dX11_sores_26 : decode cX11_sores 26 = .ok (.iload_n 3, 1) := by decide +kernel
theorem dX11_sores_27 : decode cX11_sores 27 = .ok (.iconst (-1), 1) := by decide +kernel
theorem dX11_sores_28 : decode cX11_sores 28 = .ok (.iconst (-1), 1) := by decide +kernel
theorem dX11_sores_29 : decode cX11_sores 29 = .ok (.invokevirtual 196, 3) := by decide +kernel
theorem dX11_sores_32 : decode cX11_sores 32 = .ok (.ifCond .eq 9, 3) := by decide +kernel
theorem dX11_sores_35 : decode cX11_sores 35 = .ok (.iload_n 2, 1) := by decide +kernel
theorem dX11_sores_36 : decode cX11_sores 36 = .ok (.iconst 1, 1) := by decide +kernel
theorem dX11_sores_37 : decode cX11_sores 37 = .ok (.iload_n 3, 1) := by decide +kernel
theorem dX11_sores_38 : decode cX11_sores 38 = .ok (.ishl, 1) := by decide +kernel
theorem dX11_sores_39 : decode cX11_sores 39 = .ok (.ior, 1) := by decide +kernel
theorem dX11_sores_40 : decode cX11_sores 40 = .ok (.istore_n 2, 1) := by decide +kernel
theorem dX11_sores_41 : decode cX11_sores 41 = .ok (.iinc 3 1, 3) := by decide +kernel
theorem dX11_sores_44 : decode cX11_sores 44 = .ok (.goto (-26), 3) := by decide +kernel
theorem dX11_sores_47 : decode cX11_sores 47 = .ok (.iload_n 2, 1) := by decide +kernel
theorem dX11_sores_48 : decode cX11_sores 48 = .ok (.ireturn, 1) := by decide +kernel
theorem dX11_high_0 : decode cX11_high 0 = .ok (.aload_n 0, 1) := by decide +kernel
theorem dX11_high_1 : decode cX11_high 1 = .ok (.getfield 33, 3) := by decide +kernel
theorem dX11_high_4 : decode cX11_high 4 = .ok (.iload_n 1, 1) := by decide +kernel
theorem dX11_high_5 : decode cX11_high 5 = .ok (.invokevirtual 149, 3) := by decide +kernel
theorem dX11_high_8 : decode cX11_high 8 = .ok (.ifCond .ne 6, 3) := by decide +kernel
theorem dX11_high_11 : decode cX11_high 11 = .ok (.bipush (-2), 2) := by decide +kernel
theorem dX11_high_13 : decode cX11_high 13 = .ok (.ireturn, 1) := by decide +kernel
theorem dX11_high_14 : decode cX11_high 14 = .ok (.iconst 0, 1) := by decide +kernel
theorem dX11_high_15 : decode cX11_high 15 = .ok (.istore_n 2, 1) := by decide +kernel
theorem dX11_high_16 : decode cX11_high 16 = .ok (.iconst 1, 1) := by decide +kernel
theorem dX11_high_17 : decode cX11_high 17 = .ok (.istore_n 3, 1) := by decide +kernel
theorem dX11_high_18 : decode cX11_high 18 = .ok (.iload_n 3, 1) := by decide +kernel
theorem dX11_high_19 : decode cX11_high 19 = .ok (.bipush 9, 2) := by decide +kernel
theorem dX11_high_21 : decode cX11_high 21 = .ok (.if_icmp .gt 26, 3) := by decide +kernel
theorem dX11_high_24 : decode cX11_high 24 = .ok (.aload_n 0, 1) := by decide +kernel
theorem dX11_high_25 : decode cX11_high 25 = .ok (.iconst (-1), 1) := by decide +kernel
theorem dX11_high_26 : decode cX11_high 26 = .ok (.iconst (-1), 1) := by decide +kernel
theorem dX11_high_27 : decode cX11_high 27 = .ok (.iload_n 1, 1) := by decide +kernel
theorem dX11_high_28 : decode cX11_high 28 = .ok (.iload_n 3, 1) := by decide +kernel
theorem dX11_high_29 : decode cX11_high 29 = .ok (.invokevirtual 196, 3) := by decide +kernel
theorem dX11_high_32 : decode cX11_high 32 = .ok (.ifCond .eq 9, 3) := by decide +kernel
theorem dX11_high_35 : decode cX11_high 35 = .ok (.iload_n 2, 1) := by decide +kernel
theorem dX11_high_36 : decode cX11_high 36 = .ok (.iconst 1, 1) := by decide +kernel
theorem dX11_high_37 : decode cX11_high 37 = .ok (.iload_n 3, 1) := by decide +kernel
theorem dX11_high_38 : decode cX11_high 38 = .ok (.ishl, 1) := by decide +kernel
theorem dX11_high_39 : decode cX11_high 39 = .ok (.ior, 1) := by decide +kernel
theorem dX11_high_40 : decode cX11_high 40 = .ok (.istore_n 2, 1) := by decide +kernel
theorem dX11_high_41 : decode cX11_high 41 = .ok (.iinc 3 1, 3) := by decide +kernel
theorem dX11_high_44 : decode cX11_high 44 = .ok (.goto (-26), 3) := by decide +kernel
theorem dX11_high_47 : decode cX11_high 47 = .ok (.iload_n 2, 1) := by decide +kernel
theorem dX11_high_48 : decode cX11_high 48 = .ok (.ireturn, 1) := by decide +kernel
theorem dX11_ask_0 : decode cX11_ask 0 = .ok (.aload_n 0, 1) := by decide +kernel
theorem dX11_ask_1 : decode cX11_ask 1 = .ok (.getfield 19, 3) := by decide +kernel
theorem dX11_ask_4 : decode cX11_ask 4 = .ok (.iload_n 1, 1) := by decide +kernel
theorem dX11_ask_5 : decode cX11_ask 5 = .ok (.invokevirtual 115, 3) := by decide +kernel
theorem dX11_ask_8 : decode cX11_ask 8 = .ok (.ifCond .ne 6, 3) := by decide +kernel
theorem dX11_ask_11 : decode cX11_ask 11 = .ok (.bipush (-2), 2) := by decide +kernel
theorem dX11_ask_13 : decode cX11_ask 13 = .ok (.ireturn, 1) := by decide +kernel
theorem dX11_ask_14 : decode cX11_ask 14 = .ok (.aload_n 0, 1) := by decide +kernel
theorem dX11_ask_15 : decode cX11_ask 15 = .ok (.iload_n 1, 1) := by decide +kernel
theorem dX11_ask_16 : decode cX11_ask 16 = .ok (.invokevirtual 200, 3) := by decide +kernel
theorem dX11_ask_19 : decode cX11_ask 19 = .ok (.istore_n 2, 1) := by decide +kernel
theorem dX11_ask_20 : decode cX11_ask 20 = .ok (.iconst (-1), 1) := by decide +kernel
theorem dX11_ask_21 : decode cX11_ask 21 = .ok (.istore_n 3, 1) := by decide +kernel
theorem dX11_ask_22 : decode cX11_ask 22 = .ok (.bipush 7, 2) := by decide +kernel
theorem dX11_ask_24 : decode cX11_ask 24 = .ok (.istore 4, 2) := by decide +kernel
theorem dX11_ask_26 : decode cX11_ask 26 = .ok (.iconst 0, 1) := by decide +kernel
theorem dX11_ask_27 : decode cX11_ask 27 = .ok (.istore 5, 2) := by decide +kernel
theorem dX11_ask_29 : decode cX11_ask 29 = .ok (.iload 5, 2) := by decide +kernel
theorem dX11_ask_31 : decode cX11_ask 31 = .ok (.aload_n 0, 1) := by decide +kernel
theorem dX11_ask_32 : decode cX11_ask 32 = .ok (.getfield 33, 3) := by decide +kernel
theorem dX11_ask_35 : decode cX11_ask 35 = .ok (.getfield 128, 3) := by decide +kernel
theorem dX11_ask_38 : decode cX11_ask 38 = .ok (.if_icmp .ge 33, 3) := by decide +kernel
theorem dX11_ask_41 : decode cX11_ask 41 = .ok (.aload_n 0, 1) := by decide +kernel
theorem dX11_ask_42 : decode cX11_ask 42 = .ok (.iload 5, 2) := by decide +kernel
theorem dX11_ask_44 : decode cX11_ask 44 = .ok (.iload_n 1, 1) := by decide +kernel
theorem dX11_ask_45 : decode cX11_ask 45 = .ok (.iload_n 2, 1) := by decide +kernel
theorem dX11_ask_46 : decode cX11_ask 46 = .ok (.invokevirtual 203, 3) := by decide +kernel
theorem dX11_ask_49 : decode cX11_ask 49 = .ok (.istore 6, 2) := by decide +kernel
theorem dX11_ask_51 : decode cX11_ask 51 = .ok (.iload 6, 2) := by decide +kernel
theorem dX11_ask_53 : decode cX11_ask 53 = .ok (.iload 4, 2) := by decide +kernel
theorem dX11_ask_55 : decode cX11_ask 55 = .ok (.if_icmp .ge 10, 3) := by decide +kernel
theorem dX11_ask_58 : decode cX11_ask 58 = .ok (.iload 6, 2) := by decide +kernel
theorem dX11_ask_60 : decode cX11_ask 60 = .ok (.istore 4, 2) := by decide +kernel
theorem dX11_ask_62 : decode cX11_ask 62 = .ok (.iload 5, 2) := by decide +kernel
theorem dX11_ask_64 : decode cX11_ask 64 = .ok (.istore_n 3, 1) := by decide +kernel
theorem dX11_ask_65 : decode cX11_ask 65 = .ok (.iinc 5 1, 3) := by decide +kernel
theorem dX11_ask_68 : decode cX11_ask 68 = .ok (.goto (-39), 3) := by decide +kernel
theorem dX11_ask_71 : decode cX11_ask 71 = .ok (.iload_n 3, 1) := by decide +kernel
theorem dX11_ask_72 : decode cX11_ask 72 = .ok (.ireturn, 1) := by decide +kernel
theorem dX11_laugh_0 : decode cX11_laugh 0 = .ok (.iload_n 1, 1) := by decide +kernel
theorem dX11_laugh_1 : decode cX11_laugh 1 = .ok (.ifCond .lt 41, 3) := by decide +kernel
theorem dX11_laugh_4 : decode cX11_laugh 4 = .ok (.iload_n 1, 1) := by decide +kernel
theorem dX11_laugh_5 : decode cX11_laugh 5 = .ok (.bipush 16, 2) := by decide +kernel
theorem dX11_laugh_7 : decode cX11_laugh 7 = .ok (.if_icmp .gt 35, 3) := by decide +kernel
theorem dX11_laugh_10 : decode cX11_laugh 10 = .ok (.aload_n 0, 1) := by decide +kernel
theorem dX11_laugh_11 : decode cX11_laugh 11 = .ok (.getfield 33, 3) := by decide +kernel
theorem dX11_laugh_14 : decode cX11_laugh 14 = .ok (.iload_n 2, 1) := by decide +kernel
theorem dX11_laugh_15 : decode cX11_laugh 15 = .ok (.invokevirtual 149, 3) := by decide +kernel
theorem dX11_laugh_18 : decode cX11_laugh 18 = .ok (.ifCond .eq 24, 3) := by decide +kernel
theorem dX11_laugh_21 : decode cX11_laugh 21 = .ok (.iload_n 3, 1) := by decide +kernel
theorem dX11_laugh_22 : decode cX11_laugh 22 = .ok (.ifCond .lt 20, 3) := by decide +kernel
theorem dX11_laugh_25 : decode cX11_laugh 25 = .ok (.iload_n 3, 1) := by decide +kernel
theorem dX11_laugh_26 : decode cX11_laugh 26 = .ok (.iconst 1, 1) := by decide +kernel
theorem dX11_laugh_27 : decode cX11_laugh 27 = .ok (.if_icmp .gt 15, 3) := by decide +kernel
theorem dX11_laugh_30 : decode cX11_laugh 30 = .ok (.aload_n 0, 1) := by decide +kernel
theorem dX11_laugh_31 : decode cX11_laugh 31 = .ok (.getfield 10, 3) := by decide +kernel
theorem dX11_laugh_34 : decode cX11_laugh 34 = .ok (.invokevirtual 206, 3) := by decide +kernel
theorem dX11_laugh_37 : decode cX11_laugh 37 = .ok (.bipush 10, 2) := by decide +kernel
theorem dX11_laugh_39 : decode cX11_laugh 39 = .ok (.if_icmp .le 7, 3) := by decide +kernel
theorem dX11_laugh_42 : decode cX11_laugh 42 = .ok (.ldc2_w 210, 3) := by decide +kernel
theorem dX11_laugh_45 : decode cX11_laugh 45 = .ok (.lreturn, 1) := by decide +kernel
theorem dX11_laugh_46 : decode cX11_laugh 46 = .ok (.aload_n 0, 1) := by decide +kernel
theorem dX11_laugh_47 : decode cX11_laugh 47 = .ok (.iload_n 2, 1) := by decide +kernel
theorem dX11_laugh_48 : decode cX11_laugh 48 = .ok (.invokevirtual 150, 3) := by decide +kernel
theorem dX11_laugh_51 : decode cX11_laugh 51 = .ok (.aload_n 0, 1) := by decide +kernel
theorem dX11_laugh_52 : decode cX11_laugh 52 = .ok (.getfield 56, 3) := by decide +kernel
theorem dX11_laugh_55 : decode cX11_laugh 55 = .ok (.iload_n 1, 1) := by decide +kernel
theorem dX11_laugh_56 : decode cX11_laugh 56 = .ok (.aload_n 0, 1) := by decide +kernel
theorem dX11_laugh_57 : decode cX11_laugh 57 = .ok (.getfield 42, 3) := by decide +kernel
theorem dX11_laugh_60 : decode cX11_laugh 60 = .ok (.aload_n 0, 1) := by decide +kernel
theorem dX11_laugh_61 : decode cX11_laugh 61 = .ok (.getfield 33, 3) := by decide +kernel
theorem dX11_laugh_64 : decode cX11_laugh 64 = .ok (.iload_n 2, 1) := by decide +kernel
theorem dX11_laugh_65 : decode cX11_laugh 65 = .ok (.invokevirtual 153, 3) := by decide +kernel
theorem dX11_laugh_68 : decode cX11_laugh 68 = .ok (.invokevirtual 212, 3) := by decide +kernel
theorem dX11_laugh_71 : decode cX11_laugh 71 = .ok (.iload_n 3, 1) := by decide +kernel
theorem dX11_laugh_72 : decode cX11_laugh 72 = .ok (.ifCond .ne 13, 3) := by decide +kernel
theorem dX11_laugh_75 : decode cX11_laugh 75 = .ok (.aload_n 0, 1) := by decide +kernel
theorem dX11_laugh_76 : decode cX11_laugh 76 = .ok (.getfield 56, 3) := by decide +kernel
theorem dX11_laugh_79 : decode cX11_laugh 79 = .ok (.getfield 216, 3) := by decide +kernel
theorem dX11_laugh_82 : decode cX11_laugh 82 = .ok (.goto 10, 3) := by decide +kernel
theorem dX11_laugh_85 : decode cX11_laugh 85 = .ok (.aload_n 0, 1) := by decide +kernel
theorem dX11_laugh_86 : decode cX11_laugh 86 = .ok (.getfield 56, 3) := by decide +kernel
theorem dX11_laugh_89 : decode cX11_laugh 89 = .ok (.getfield 220, 3) := by decide +kernel
theorem dX11_laugh_92 : decode cX11_laugh 92 = .ok (.lreturn, 1) := by decide +kernel
theorem dX11_lakes_0 : decode cX11_lakes 0 = .ok (.iload_n 2, 1) := by decide +kernel
theorem dX11_lakes_1 : decode cX11_lakes 1 = .ok (.iconst 1, 1) := by decide +kernel
theorem dX11_lakes_2 : decode cX11_lakes 2 = .ok (.if_icmp .lt 18, 3) := by decide +kernel
theorem dX11_lakes_5 : decode cX11_lakes 5 = .ok (.iload_n 2, 1) := by decide +kernel
theorem dX11_lakes_6 : decode cX11_lakes 6 = .ok (.bipush 99, 2) := by decide +kernel
theorem dX11_lakes_8 : decode cX11_lakes 8 = .ok (.if_icmp .gt 12, 3) := by decide +kernel
theorem dX11_lakes_11 : decode cX11_lakes 11 = .ok (.iload_n 3, 1) := by decide +kernel
theorem dX11_lakes_12 : decode cX11_lakes 12 = .ok (.ifCond .lt 8, 3) := by decide +kernel
theorem dX11_lakes_15 : decode cX11_lakes 15 = .ok (.iload_n 3, 1) := by decide +kernel
theorem dX11_lakes_16 : decode cX11_lakes 16 = .ok (.iconst 1, 1) := by decide +kernel
theorem dX11_lakes_17 : decode cX11_lakes 17 = .ok (.if_icmp .le 6, 3) := by decide +kernel
theorem dX11_lakes_20 : decode cX11_lakes 20 = .ok (.bipush (-2), 2) := by decide +kernel
theorem dX11_lakes_22 : decode cX11_lakes 22 = .ok (.ireturn, 1) := by decide +kernel
theorem dX11_lakes_23 : decode cX11_lakes 23 = .ok (.aload_n 0, 1) := by decide +kernel
theorem dX11_lakes_24 : decode cX11_lakes 24 = .ok (.getfield 19, 3) := by decide +kernel
theorem dX11_lakes_27 : decode cX11_lakes 27 = .ok (.getfield 223, 3) := by decide +kernel
theorem dX11_lakes_30 : decode cX11_lakes 30 = .ok (.iconst 1, 1) := by decide +kernel
theorem dX11_lakes_31 : decode cX11_lakes 31 = .ok (.if_icmp .lt 14, 3) := by decide +kernel
theorem dX11_lakes_34 : decode cX11_lakes 34 = .ok (.aload_n 0, 1) := by decide +kernel
theorem dX11_lakes_35 : decode cX11_lakes 35 = .ok (.getfield 26, 3) := by decide +kernel
theorem dX11_lakes_38 : decode cX11_lakes 38 = .ok (.getfield 185, 3) := by decide +kernel
theorem dX11_lakes_41 : decode cX11_lakes 41 = .ok (.iconst 2, 1) := by decide +kernel
theorem dX11_lakes_42 : decode cX11_lakes 42 = .ok (.if_icmp .ge 5, 3) := by decide +kernel
theorem dX11_lakes_45 : decode cX11_lakes 45 = .ok (.iconst 0, 1) := by decide +kernel
theorem dX11_lakes_46 : decode cX11_lakes 46 = .ok (.ireturn, 1) := by decide +kernel
theorem dX11_lakes_47 : decode cX11_lakes 47 = .ok (.aload_n 0, 1) := by decide +kernel
theorem dX11_lakes_48 : decode cX11_lakes 48 = .ok (.getfield 63, 3) := by decide +kernel
theorem dX11_lakes_51 : decode cX11_lakes 51 = .ok (.iload_n 1, 1) := by decide +kernel
theorem dX11_lakes_52 : decode cX11_lakes 52 = .ok (.putfield 224, 3) := by decide +kernel
theorem dX11_lakes_55 : decode cX11_lakes 55 = .ok (.aload_n 0, 1) := by decide +kernel
theorem dX11_lakes_56 : decode cX11_lakes 56 = .ok (.getfield 42, 3) := by decide +kernel
theorem dX11_lakes_59 : decode cX11_lakes 59 = .ok (.aload_n 0, 1) := by decide +kernel
theorem dX11_lakes_60 : decode cX11_lakes 60 = .ok (.getfield 146, 3) := by decide +kernel
theorem dX11_lakes_63 : decode cX11_lakes 63 = .ok (.putfield 184, 3) := by decide +kernel
theorem dX11_lakes_66 : decode cX11_lakes 66 = .ok (.iload_n 3, 1) := by decide +kernel
theorem dX11_lakes_67 : decode cX11_lakes 67 = .ok (.ifCond .ne 7, 3) := by decide +kernel
theorem dX11_lakes_70 : decode cX11_lakes 70 = .ok (.iconst 0, 1) := by decide +kernel
theorem dX11_lakes_71 : decode cX11_lakes 71 = .ok (.goto 4, 3) := by decide +kernel
theorem dX11_lakes_74 : decode cX11_lakes 74 = .ok (.iconst 3, 1) := by decide +kernel
theorem dX11_lakes_75 : decode cX11_lakes 75 = .ok (.istore 4, 2) := by decide +kernel
theorem dX11_lakes_77 : decode cX11_lakes 77 = .ok (.iconst 0, 1) := by decide +kernel
theorem dX11_lakes_78 : decode cX11_lakes 78 = .ok (.istore 5, 2) := by decide +kernel
theorem dX11_lakes_80 : decode cX11_lakes 80 = .ok (.iconst 0, 1) := by decide +kernel
theorem dX11_lakes_81 : decode cX11_lakes 81 = .ok (.istore 6, 2) := by decide +kernel
theorem dX11_lakes_83 : decode cX11_lakes 83 = .ok (.iload 6, 2) := by decide +kernel
theorem dX11_lakes_85 : decode cX11_lakes 85 = .ok (.iload_n 2, 1) := by decide +kernel
theorem dX11_lakes_86 : decode cX11_lakes 86 = .ok (.if_icmp .ge 120, 3) := by decide +kernel
theorem dX11_lakes_89 : decode cX11_lakes 89 = .ok (.aload_n 0, 1) := by decide +kernel
theorem dX11_lakes_90 : decode cX11_lakes 90 = .ok (.getfield 63, 3) := by decide +kernel
theorem dX11_lakes_93 : decode cX11_lakes 93 = .ok (.aload_n 0, 1) := by decide +kernel
theorem dX11_lakes_94 : decode cX11_lakes 94 = .ok (.getfield 19, 3) := by decide +kernel
theorem dX11_lakes_97 : decode cX11_lakes 97 = .ok (.getfield 223, 3) := by decide +kernel
theorem dX11_lakes_100 : decode cX11_lakes 100 = .ok (.invokevirtual 227, 3) := by decide +kernel
theorem dX11_lakes_103 : decode cX11_lakes 103 = .ok (.istore 7, 2) := by decide +kernel
theorem dX11_lakes_105 : decode cX11_lakes 105 = .ok (.aload_n 0, 1) := by decide +kernel
theorem dX11_lakes_106 : decode cX11_lakes 106 = .ok (.getfield 63, 3) := by decide +kernel
theorem dX11_lakes_109 : decode cX11_lakes 109 = .ok (.aload_n 0, 1) := by decide +kernel
theorem dX11_lakes_110 : decode cX11_lakes 110 = .ok (.getfield 26, 3) := by decide +kernel
theorem dX11_lakes_113 : decode cX11_lakes 113 = .ok (.getfield 185, 3) := by decide +kernel
theorem dX11_lakes_116 : decode cX11_lakes 116 = .ok (.invokevirtual 227, 3) := by decide +kernel
theorem dX11_lakes_119 : decode cX11_lakes 119 = .ok (.istore 8, 2) := by decide +kernel
theorem dX11_lakes_121 : decode cX11_lakes 121 = .ok (.aload_n 0, 1) := by decide +kernel
theorem dX11_lakes_122 : decode cX11_lakes 122 = .ok (.getfield 63, 3) := by decide +kernel
theorem dX11_lakes_125 : decode cX11_lakes 125 = .ok (.aload_n 0, 1) := by decide +kernel
theorem dX11_lakes_126 : decode cX11_lakes 126 = .ok (.getfield 26, 3) := by decide +kernel
theorem dX11_lakes_129 : decode cX11_lakes 129 = .ok (.getfield 185, 3) := by decide +kernel
theorem dX11_lakes_132 : decode cX11_lakes 132 = .ok (.iconst 1, 1) := by decide +kernel
theorem dX11_lakes_133 : decode cX11_lakes 133 = .ok (.isub, 1) := by decide +kernel
theorem dX11_lakes_134 : decode cX11_lakes 134 = .ok (.invokevirtual 227, 3) := by decide +kernel
theorem dX11_lakes_137 : decode cX11_lakes 137 = .ok (.istore 9, 2) := by decide +kernel
theorem dX11_lakes_139 : decode cX11_lakes 139 = .ok (.aload_n 0, 1) := by decide +kernel
theorem dX11_lakes_140 : decode cX11_lakes 140 = .ok (.getfield 42, 3) := by decide +kernel
theorem dX11_lakes_143 : decode cX11_lakes 143 = .ok (.iload 7, 2) := by decide +kernel
theorem dX11_lakes_145 : decode cX11_lakes 145 = .ok (.iload 8, 2) := by decide +kernel
theorem dX11_lakes_147 : decode cX11_lakes 147 = .ok (.iload 9, 2) := by decide +kernel
theorem dX11_lakes_149 : decode cX11_lakes 149 = .ok (.iload 8, 2) := by decide +kernel
theorem dX11_lakes_151 : decode cX11_lakes 151 = .ok (.if_icmp .ge 8, 3) := by decide +kernel
theorem dX11_lakes_154 : decode cX11_lakes 154 = .ok (.iload 9, 2) := by decide +kernel
theorem dX11_lakes_156 : decode cX11_lakes 156 = .ok (.goto 7, 3) := by decide +kernel
theorem dX11_lakes_159 : decode cX11_lakes 159 = .ok (.iload 9, 2) := by decide +kernel
theorem dX11_lakes_161 : decode cX11_lakes 161 = .ok (.iconst 1, 1) := by decide +kernel
theorem dX11_lakes_162 : decode cX11_lakes 162 = .ok (.iadd, 1) := by decide +kernel
theorem dX11_lakes_163 : decode cX11_lakes 163 = .ok (.invokevirtual 189, 3) := by decide +kernel
theorem dX11_lakes_166 : decode cX11_lakes 166 = .ok (.aload_n 0, 1) := by decide +kernel
theorem dX11_lakes_167 : decode cX11_lakes 167 = .ok (.getfield 42, 3) := by decide +kernel
theorem dX11_lakes_170 : decode cX11_lakes 170 = .ok (.aload_n 0, 1) := by decide +kernel
theorem dX11_lakes_171 : decode cX11_lakes 171 = .ok (.getfield 63, 3) := by decide +kernel
theorem dX11_lakes_174 : decode cX11_lakes 174 = .ok (.bipush 9, 2) := by decide +kernel
theorem dX11_lakes_176 : decode cX11_lakes 176 = .ok (.invokevirtual 227, 3) := by decide +kernel
theorem dX11_lakes_179 : decode cX11_lakes 179 = .ok (.iconst 1, 1) := by decide +kernel
theorem dX11_lakes_180 : decode cX11_lakes 180 = .ok (.iadd, 1) := by decide +kernel
theorem dX11_lakes_181 : decode cX11_lakes 181 = .ok (.invokevirtual 156, 3) := by decide +kernel
theorem dX11_lakes_184 : decode cX11_lakes 184 = .ok (.pop, 1) := by decide +kernel
theorem dX11_lakes_185 : decode cX11_lakes 185 = .ok (.aload_n 0, 1) := by decide +kernel
theorem dX11_lakes_186 : decode cX11_lakes 186 = .ok (.getfield 42, 3) := by decide +kernel
theorem dX11_lakes_189 : decode cX11_lakes 189 = .ok (.getfield 159, 3) := by decide +kernel
theorem dX11_lakes_192 : decode cX11_lakes 192 = .ok (.iload 4, 2) := by decide +kernel
theorem dX11_lakes_194 : decode cX11_lakes 194 = .ok (.if_icmp .ne 6, 3) := by decide +kernel
theorem dX11_lakes_197 : decode cX11_lakes 197 = .ok (.iinc 5 1, 3) := by decide +kernel
theorem dX11_lakes_200 : decode cX11_lakes 200 = .ok (.iinc 6 1, 3) := by decide +kernel
theorem dX11_lakes_203 : decode cX11_lakes 203 = .ok (.goto (-120), 3) := by decide +kernel
theorem dX11_lakes_206 : decode cX11_lakes 206 = .ok (.iload 5, 2) := by decide +kernel
theorem dX11_lakes_208 : decode cX11_lakes 208 = .ok (.ireturn, 1) := by decide +kernel
theorem dX11_sheet_0 : decode cX11_sheet 0 = .ok (.aload_n 0, 1) := by decide +kernel
theorem dX11_sheet_1 : decode cX11_sheet 1 = .ok (.iload_n 1, 1) := by decide +kernel
theorem dX11_sheet_2 : decode cX11_sheet 2 = .ok (.invokevirtual 129, 3) := by decide +kernel
theorem dX11_sheet_5 : decode cX11_sheet 5 = .ok (.astore 4, 2) := by decide +kernel
theorem dX11_sheet_7 : decode cX11_sheet 7 = .ok (.aload 4, 2) := by decide +kernel
theorem dX11_sheet_9 : decode cX11_sheet 9 = .ok (.ifnull 16, 3) := by decide +kernel
theorem dX11_sheet_12 : decode cX11_sheet 12 = .ok (.iload_n 2, 1) := by decide +kernel
theorem dX11_sheet_13 : decode cX11_sheet 13 = .ok (.invokestatic 230, 3) := by decide +kernel
theorem dX11_sheet_16 : decode cX11_sheet 16 = .ok (.ifCond .eq 9, 3) := by decide +kernel
theorem dX11_sheet_19 : decode cX11_sheet 19 = .ok (.iload_n 3, 1) := by decide +kernel
theorem dX11_sheet_20 : decode cX11_sheet 20 = .ok (.bipush 60, 2) := by decide +kernel
theorem dX11_sheet_22 : decode cX11_sheet 22 = .ok (.if_icmp .le 6, 3) := by decide +kernel
theorem dX11_sheet_25 : decode cX11_sheet 25 = .ok (.bipush (-2), 2) := by decide +kernel
theorem dX11_sheet_27 : decode cX11_sheet 27 = .ok (.ireturn, 1) := by decide +kernel
theorem dX11_sheet_28 : decode cX11_sheet 28 = .ok (.iload_n 3, 1) := by decide +kernel
theorem dX11_sheet_29 : decode cX11_sheet 29 = .ok (.ifCond .ge 9, 3) := by decide +kernel
theorem dX11_sheet_32 : decode cX11_sheet 32 = .ok (.aload_n 0, 1) := by decide +kernel
theorem dX11_sheet_33 : decode cX11_sheet 33 = .ok (.iconst 5, 1) := by decide +kernel
theorem dX11_sheet_34 : decode cX11_sheet 34 = .ok (.invokevirtual 137, 3) := by decide +kernel
theorem dX11_sheet_37 : decode cX11_sheet 37 = .ok (.ireturn, 1) := by decide +kernel
theorem dX11_sheet_38 : decode cX11_sheet 38 = .ok (.aload 4, 2) := by decide +kernel
theorem dX11_sheet_40 : decode cX11_sheet 40 = .ok (.iload_n 2, 1) := by decide +kernel
theorem dX11_sheet_41 : decode cX11_sheet 41 = .ok (.iload_n 3, 1) := by decide +kernel
theorem dX11_sheet_42 : decode cX11_sheet 42 = .ok (.invokevirtual 233, 3) := by decide +kernel
theorem dX11_sheet_45 : decode cX11_sheet 45 = .ok (.iload_n 3, 1) := by decide +kernel
theorem dX11_sheet_46 : decode cX11_sheet 46 = .ok (.ireturn, 1) := by decide +kernel
theorem dX11_lose_0 : decode cX11_lose 0 = .ok (.aload_n 0, 1) := by decide +kernel
theorem dX11_lose_1 : decode cX11_lose 1 = .ok (.iload_n 1, 1) := by decide +kernel
theorem dX11_lose_2 : decode cX11_lose 2 = .ok (.invokevirtual 129, 3) := by decide +kernel
theorem dX11_lose_5 : decode cX11_lose 5 = .ok (.astore_n 2, 1) := by decide +kernel
theorem dX11_lose_6 : decode cX11_lose 6 = .ok (.aload_n 2, 1) := by decide +kernel
theorem dX11_lose_7 : decode cX11_lose 7 = .ok (.ifnonnull 6, 3) := by decide +kernel
theorem dX11_lose_10 : decode cX11_lose 10 = .ok (.bipush (-2), 2) := by decide +kernel
theorem dX11_lose_12 : decode cX11_lose 12 = .ok (.ireturn, 1) := by decide +kernel
theorem dX11_lose_13 : decode cX11_lose 13 = .ok (.aload_n 2, 1) := by decide +kernel
theorem dX11_lose_14 : decode cX11_lose 14 = .ok (.getfield 133, 3) := by decide +kernel
theorem dX11_lose_17 : decode cX11_lose 17 = .ok (.ifCond .eq 9, 3) := by decide +kernel
theorem dX11_lose_20 : decode cX11_lose 20 = .ok (.aload_n 0, 1) := by decide +kernel
theorem dX11_lose_21 : decode cX11_lose 21 = .ok (.iconst 1, 1) := by decide +kernel
theorem dX11_lose_22 : decode cX11_lose 22 = .ok (.invokevirtual 137, 3) := by decide +kernel
theorem dX11_lose_25 : decode cX11_lose 25 = .ok (.ireturn, 1) := by decide +kernel
theorem dX11_lose_26 : decode cX11_lose 26 = .ok (.aload_n 2, 1) := by decide +kernel
theorem dX11_lose_27 : decode cX11_lose 27 = .ok (.iconst 1, 1) := by decide +kernel
theorem dX11_lose_28 : decode cX11_lose 28 = .ok (.putfield 133, 3) := by decide +kernel
theorem dX11_lose_31 : decode cX11_lose 31 = .ok (.aload_n 2, 1) := by decide +kernel
theorem dX11_lose_32 : decode cX11_lose 32 = .ok (.getfield 140, 3) := by decide +kernel
theorem dX11_lose_35 : decode cX11_lose 35 = .ok (.ireturn, 1) := by decide +kernel
theorem dX11_lay_0 : decode cX11_lay 0 = .ok (.aload_n 0, 1) := by decide +kernel
theorem dX11_lay_1 : decode cX11_lay 1 = .ok (.iload_n 1, 1) := by decide +kernel
theorem dX11_lay_2 : decode cX11_lay 2 = .ok (.invokevirtual 129, 3) := by decide +kernel
theorem dX11_lay_5 : decode cX11_lay 5 = .ok (.astore 5, 2) := by decide +kernel
theorem dX11_lay_7 : decode cX11_lay 7 = .ok (.aload 5, 2) := by decide +kernel
theorem dX11_lay_9 : decode cX11_lay 9 = .ok (.ifnull 10, 3) := by decide +kernel
theorem dX11_lay_12 : decode cX11_lay 12 = .ok (.iload_n 2, 1) := by decide +kernel
theorem dX11_lay_13 : decode cX11_lay 13 = .ok (.invokestatic 230, 3) := by decide +kernel
theorem dX11_lay_16 : decode cX11_lay 16 = .ok (.ifCond .ne 6, 3) := by decide +kernel
theorem dX11_lay_19 : decode cX11_lay 19 = .ok (.bipush (-2), 2) := by decide +kernel
theorem dX11_lay_21 : decode cX11_lay 21 = .ok (.ireturn, 1) := by decide +kernel
theorem dX11_lay_22 : decode cX11_lay 22 = .ok (.aload_n 0, 1) := by decide +kernel
theorem dX11_lay_23 : decode cX11_lay 23 = .ok (.aload 5, 2) := by decide +kernel
theorem dX11_lay_25 : decode cX11_lay 25 = .ok (.iload_n 2, 1) := by decide +kernel
theorem dX11_lay_26 : decode cX11_lay 26 = .ok (.iload_n 3, 1) := by decide +kernel
theorem dX11_lay_27 : decode cX11_lay 27 = .ok (.invokevirtual 237, 3) := by decide +kernel
theorem dX11_lay_30 : decode cX11_lay 30 = .ok (.istore 6, 2) := by decide +kernel
theorem dX11_lay_32 : decode cX11_lay 32 = .ok (.iload 6, 2) := by decide +kernel
theorem dX11_lay_34 : decode cX11_lay 34 = .ok (.ifCond .eq 6, 3) := by decide +kernel
theorem dX11_lay_37 : decode cX11_lay 37 = .ok (.iload 6, 2) := by decide +kernel
theorem dX11_lay_39 : decode cX11_lay 39 = .ok (.ireturn, 1) := by decide +kernel
theorem dX11_lay_40 : decode cX11_lay 40 = .ok (.aload 5, 2) := by decide +kernel
theorem dX11_lay_42 : decode cX11_lay 42 = .ok (.iload_n 3, 1) := by decide +kernel
theorem dX11_lay_43 : decode cX11_lay 43 = .ok (.iload 4, 2) := by decide +kernel
theorem dX11_lay_45 : decode cX11_lay 45 = .ok (.invokevirtual 241, 3) := by decide +kernel
theorem dX11_lay_48 : decode cX11_lay 48 = .ok (.iconst 1, 1) := by decide +kernel
theorem dX11_lay_49 : decode cX11_lay 49 = .ok (.ireturn, 1) := by decide +kernel
theorem dX11_get_0 : decode cX11_get 0 = .ok (.aload_n 0, 1) := by decide +kernel
theorem dX11_get_1 : decode cX11_get 1 = .ok (.iload_n 1, 1) := by decide +kernel
theorem dX11_get_2 : decode cX11_get 2 = .ok (.invokevirtual 129, 3) := by decide +kernel
theorem dX11_get_5 : decode cX11_get 5 = .ok (.astore 4, 2) := by decide +kernel
theorem dX11_get_7 : decode cX11_get 7 = .ok (.aload 4, 2) := by decide +kernel
theorem dX11_get_9 : decode cX11_get 9 = .ok (.ifnull 21, 3) := by decide +kernel
theorem dX11_get_12 : decode cX11_get 12 = .ok (.iload_n 2, 1) := by decide +kernel
theorem dX11_get_13 : decode cX11_get 13 = .ok (.invokestatic 230, 3) := by decide +kernel
theorem dX11_get_16 : decode cX11_get 16 = .ok (.ifCond .eq 14, 3) := by decide +kernel
theorem dX11_get_19 : decode cX11_get 19 = .ok (.aload_n 0, 1) := by decide +kernel
theorem dX11_get_20 : decode cX11_get 20 = .ok (.aload 4, 2) := by decide +kernel
theorem dX11_get_22 : decode cX11_get 22 = .ok (.iload_n 2, 1) := by decide +kernel
theorem dX11_get_23 : decode cX11_get 23 = .ok (.iload_n 3, 1) := by decide +kernel
theorem dX11_get_24 : decode cX11_get 24 = .ok (.invokevirtual 237, 3) := by decide +kernel
theorem dX11_get_27 : decode cX11_get 27 = .ok (.ifCond .eq 6, 3) := by decide +kernel
theorem dX11_get_30 : decode cX11_get 30 = .ok (.ldc 244, 2) := by decide +kernel
theorem dX11_get_32 : decode cX11_get 32 = .ok (.ireturn, 1) := by decide +kernel
theorem dX11_get_33 : decode cX11_get 33 = .ok (.aload 4, 2) := by decide +kernel
theorem dX11_get_35 : decode cX11_get 35 = .ok (.iload_n 3, 1) := by decide +kernel
theorem dX11_get_36 : decode cX11_get 36 = .ok (.invokevirtual 143, 3) := by decide +kernel
theorem dX11_get_39 : decode cX11_get 39 = .ok (.ireturn, 1) := by decide +kernel
theorem dX11_copy_0 : decode cX11_copy 0 = .ok (.aload_n 0, 1) := by decide +kernel
theorem dX11_copy_1 : decode cX11_copy 1 = .ok (.iload_n 1, 1) := by decide +kernel
theorem dX11_copy_2 : decode cX11_copy 2 = .ok (.invokevirtual 129, 3) := by decide +kernel
theorem dX11_copy_5 : decode cX11_copy 5 = .ok (.astore 6, 2) := by decide +kernel
theorem dX11_copy_7 : decode cX11_copy 7 = .ok (.aload_n 0, 1) := by decide +kernel
theorem dX11_copy_8 : decode cX11_copy 8 = .ok (.iload_n 3, 1) := by decide +kernel
theorem dX11_copy_9 : decode cX11_copy 9 = .ok (.invokevirtual 129, 3) := by decide +kernel
theorem dX11_copy_12 : decode cX11_copy 12 = .ok (.astore 7, 2) := by decide +kernel
theorem dX11_copy_14 : decode cX11_copy 14 = .ok (.aload 6, 2) := by decide +kernel
theorem dX11_copy_16 : decode cX11_copy 16 = .ok (.ifnull 8, 3) := by decide +kernel
theorem dX11_copy_19 : decode cX11_copy 19 = .ok (.aload 7, 2) := by decide +kernel
theorem dX11_copy_21 : decode cX11_copy 21 = .ok (.ifnonnull 6, 3) := by decide +kernel
theorem dX11_copy_24 : decode cX11_copy 24 = .ok (.bipush (-2), 2) := by decide +kernel
theorem dX11_copy_26 : decode cX11_copy 26 = .ok (.ireturn, 1) := by decide +kernel
theorem dX11_copy_27 : decode cX11_copy 27 = .ok (.aload 6, 2) := by decide +kernel
theorem dX11_copy_29 : decode cX11_copy 29 = .ok (.getfield 133, 3) := by decide +kernel
theorem dX11_copy_32 : decode cX11_copy 32 = .ok (.ifCond .ne 11, 3) := by decide +kernel
theorem dX11_copy_35 : decode cX11_copy 35 = .ok (.aload 7, 2) := by decide +kernel
theorem dX11_copy_37 : decode cX11_copy 37 = .ok (.getfield 133, 3) := by decide +kernel
theorem dX11_copy_40 : decode cX11_copy 40 = .ok (.ifCond .eq 9, 3) := by decide +kernel
theorem dX11_copy_43 : decode cX11_copy 43 = .ok (.aload_n 0, 1) := by decide +kernel
theorem dX11_copy_44 : decode cX11_copy 44 = .ok (.iconst 1, 1) := by decide +kernel
theorem dX11_copy_45 : decode cX11_copy 45 = .ok (.invokevirtual 137, 3) := by decide +kernel
theorem dX11_copy_48 : decode cX11_copy 48 = .ok (.ireturn, 1) := by decide +kernel
theorem dX11_copy_49 : decode cX11_copy 49 = .ok (.aload 6, 2) := by decide +kernel
theorem dX11_copy_51 : decode cX11_copy 51 = .ok (.getfield 245, 3) := by decide +kernel
theorem dX11_copy_54 : decode cX11_copy 54 = .ok (.aload 7, 2) := by decide +kernel
theorem dX11_copy_56 : decode cX11_copy 56 = .ok (.getfield 245, 3) := by decide +kernel
theorem dX11_copy_59 : decode cX11_copy 59 = .ok (.if_icmp .eq 9, 3) := by decide +kernel
theorem dX11_copy_62 : decode cX11_copy 62 = .ok (.aload_n 0, 1) := by decide +kernel
theorem dX11_copy_63 : decode cX11_copy 63 = .ok (.iconst 4, 1) := by decide +kernel
theorem dX11_copy_64 : decode cX11_copy 64 = .ok (.invokevirtual 137, 3) := by decide +kernel
theorem dX11_copy_67 : decode cX11_copy 67 = .ok (.ireturn, 1) := by decide +kernel
theorem dX11_copy_68 : decode cX11_copy 68 = .ok (.aload 6, 2) := by decide +kernel
theorem dX11_copy_70 : decode cX11_copy 70 = .ok (.iload_n 2, 1) := by decide +kernel
theorem dX11_copy_71 : decode cX11_copy 71 = .ok (.iload 5, 2) := by decide +kernel
theorem dX11_copy_73 : decode cX11_copy 73 = .ok (.invokevirtual 248, 3) := by decide +kernel
theorem dX11_copy_76 : decode cX11_copy 76 = .ok (.ifCond .eq 15, 3) := by decide +kernel
theorem dX11_copy_79 : decode cX11_copy 79 = .ok (.aload 7, 2) := by decide +kernel
theorem dX11_copy_81 : decode cX11_copy 81 = .ok (.iload 4, 2) := by decide +kernel
theorem dX11_copy_83 : decode cX11_copy 83 = .ok (.iload 5, 2) := by decide +kernel
theorem dX11_copy_85 : decode cX11_copy 85 = .ok (.invokevirtual 248, 3) := by decide +kernel
theorem dX11_copy_88 : decode cX11_copy 88 = .ok (.ifCond .ne 9, 3) := by decide +kernel
theorem dX11_copy_91 : decode cX11_copy 91 = .ok (.aload_n 0, 1) := by decide +kernel
theorem dX11_copy_92 : decode cX11_copy 92 = .ok (.iconst 2, 1) := by decide +kernel
theorem dX11_copy_93 : decode cX11_copy 93 = .ok (.invokevirtual 137, 3) := by decide +kernel
theorem dX11_copy_96 : decode cX11_copy 96 = .ok (.ireturn, 1) := by decide +kernel
theorem dX11_copy_97 : decode cX11_copy 97 = .ok (.aload 6, 2) := by decide +kernel
theorem dX11_copy_99 : decode cX11_copy 99 = .ok (.getfield 252, 3) := by decide +kernel
theorem dX11_copy_102 : decode cX11_copy 102 = .ok (.iload_n 2, 1) := by decide +kernel
theorem dX11_copy_103 : decode cX11_copy 103 = .ok (.aload 7, 2) := by decide +kernel
theorem dX11_copy_105 : decode cX11_copy 105 = .ok (.getfield 252, 3) := by decide +kernel
theorem dX11_copy_108 : decode cX11_copy 108 = .ok (.iload 4, 2) := by decide +kernel
theorem dX11_copy_110 : decode cX11_copy 110 = .ok (.iload 5, 2) := by decide +kernel
theorem dX11_copy_112 : decode cX11_copy 112 = .ok (.invokestatic 255, 3) := by decide +kernel
theorem dX11_copy_115 : decode cX11_copy 115 = .ok (.iconst 1, 1) := by decide +kernel
theorem dX11_copy_116 : decode cX11_copy 116 = .ok (.ireturn, 1) := by decide +kernel
theorem dX11_write_0 : decode cX11_write 0 = .ok (.aload_n 0, 1) := by decide +kernel
theorem dX11_write_1 : decode cX11_write 1 = .ok (.iload_n 3, 1) := by decide +kernel
theorem dX11_write_2 : decode cX11_write 2 = .ok (.invokevirtual 129, 3) := by decide +kernel
theorem dX11_write_5 : decode cX11_write 5 = .ok (.astore 4, 2) := by decide +kernel
theorem dX11_write_7 : decode cX11_write 7 = .ok (.aload_n 0, 1) := by decide +kernel
theorem dX11_write_8 : decode cX11_write 8 = .ok (.getfield 33, 3) := by decide +kernel
theorem dX11_write_11 : decode cX11_write 11 = .ok (.iload_n 1, 1) := by decide +kernel
theorem dX11_write_12 : decode cX11_write 12 = .ok (.invokevirtual 149, 3) := by decide +kernel
theorem dX11_write_15 : decode cX11_write 15 = .ok (.ifCond .eq 17, 3) := by decide +kernel
theorem dX11_write_18 : decode cX11_write 18 = .ok (.iload_n 2, 1) := by decide +kernel
theorem dX11_write_19 : decode cX11_write 19 = .ok (.ifCond .lt 13, 3) := by decide +kernel
theorem dX11_write_22 : decode cX11_write 22 = .ok (.iload_n 2, 1) := by decide +kernel
theorem dX11_write_23 : decode cX11_write 23 = .ok (.iconst 1, 1) := by decide +kernel
theorem dX11_write_24 : decode cX11_write 24 = .ok (.if_icmp .gt 8, 3) := by decide +kernel
theorem dX11_write_27 : decode cX11_write 27 = .ok (.aload 4, 2) := by decide +kernel
theorem dX11_write_29 : decode cX11_write 29 = .ok (.ifnonnull 6, 3) := by decide +kernel
theorem dX11_write_32 : decode cX11_write 32 = .ok (.bipush (-2), 2) := by decide +kernel
