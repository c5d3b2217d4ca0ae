theorem dX12_mostAlike_9 : decode cX12_mostAlike 9 = .ok (.iaload, 1) := by decide +kernel
theorem dX12_mostAlike_10 : decode cX12_mostAlike 10 = .ok (.istore 4, 2) := by decide +kernel
theorem dX12_mostAlike_12 : decode cX12_mostAlike 12 = .ok (.iconst 0, 1) := by decide +kernel
theorem dX12_mostAlike_13 : decode cX12_mostAlike 13 = .ok (.istore 5, 2) := by decide +kernel
theorem dX12_mostAlike_15 : decode cX12_mostAlike 15 = .ok (.iconst 0, 1) := by decide +kernel
theorem dX12_mostAlike_16 : decode cX12_mostAlike 16 = .ok (.istore 6, 2) := by decide +kernel
theorem dX12_mostAlike_18 : decode cX12_mostAlike 18 = .ok (.iload 6, 2) := by decide +kernel
theorem dX12_mostAlike_20 : decode cX12_mostAlike 20 = .ok (.bipush 25, 2) := by decide +kernel
theorem dX12_mostAlike_22 : decode cX12_mostAlike 22 = .ok (.if_icmp .ge 17, 3) := by decide +kernel
theorem dX12_mostAlike_25 : decode cX12_mostAlike 25 = .ok (.aload_n 0, 1) := by decide +kernel
theorem dX12_mostAlike_26 : decode cX12_mostAlike 26 = .ok (.getfield 55, 3) := by decide +kernel
theorem dX12_mostAlike_29 : decode cX12_mostAlike 29 = .ok (.iload 6, 2) := by decide +kernel
theorem dX12_mostAlike_31 : decode cX12_mostAlike 31 = .ok (.iconst 0, 1) := by decide +kernel
theorem dX12_mostAlike_32 : decode cX12_mostAlike 32 = .ok (.iastore, 1) := by decide +kernel
theorem dX12_mostAlike_33 : decode cX12_mostAlike 33 = .ok (.iinc 6 1, 3) := by decide +kernel
theorem dX12_mostAlike_36 : decode cX12_mostAlike 36 = .ok (.goto (-18), 3) := by decide +kernel
theorem dX12_mostAlike_39 : decode cX12_mostAlike 39 = .ok (.iconst 0, 1) := by decide +kernel
theorem dX12_mostAlike_40 : decode cX12_mostAlike 40 = .ok (.istore 6, 2) := by decide +kernel
theorem dX12_mostAlike_42 : decode cX12_mostAlike 42 = .ok (.iload 6, 2) := by decide +kernel
theorem dX12_mostAlike_44 : decode cX12_mostAlike 44 = .ok (.bipush 6, 2) := by decide +kernel
theorem dX12_mostAlike_46 : decode cX12_mostAlike 46 = .ok (.if_icmp .ge 78, 3) := by decide +kernel
theorem dX12_mostAlike_49 : decode cX12_mostAlike 49 = .ok (.iload_n 3, 1) := by decide +kernel
theorem dX12_mostAlike_50 : decode cX12_mostAlike 50 = .ok (.iload 6, 2) := by decide +kernel
theorem dX12_mostAlike_52 : decode cX12_mostAlike 52 = .ok (.invokestatic 180, 3) := by decide +kernel
theorem dX12_mostAlike_55 : decode cX12_mostAlike 55 = .ok (.ifCond .eq 63, 3) := by decide +kernel
theorem dX12_mostAlike_58 : decode cX12_mostAlike 58 = .ok (.aload_n 0, 1) := by decide +kernel
theorem dX12_mostAlike_59 : decode cX12_mostAlike 59 = .ok (.getfield 31, 3) := by decide +kernel
theorem dX12_mostAlike_62 : decode cX12_mostAlike 62 = .ok (.iconst 4, 1) := by decide +kernel
theorem dX12_mostAlike_63 : decode cX12_mostAlike 63 = .ok (.iload_n 1, 1) := by decide +kernel
theorem dX12_mostAlike_64 : decode cX12_mostAlike 64 = .ok (.imul, 1) := by decide +kernel
theorem dX12_mostAlike_65 : decode cX12_mostAlike 65 = .ok (.iconst 1, 1) := by decide +kernel
theorem dX12_mostAlike_66 : decode cX12_mostAlike 66 = .ok (.iadd, 1) := by decide +kernel
theorem dX12_mostAlike_67 : decode cX12_mostAlike 67 = .ok (.iload 6, 2) := by decide +kernel
theorem dX12_mostAlike_69 : decode cX12_mostAlike 69 = .ok (.iastore, 1) := by decide +kernel
theorem dX12_mostAlike_70 : decode cX12_mostAlike 70 = .ok (.aload_n 0, 1) := by decide +kernel
theorem dX12_mostAlike_71 : decode cX12_mostAlike 71 = .ok (.iload_n 2, 1) := by decide +kernel
theorem dX12_mostAlike_72 : decode cX12_mostAlike 72 = .ok (.invokevirtual 206, 3) := by decide +kernel
theorem dX12_mostAlike_75 : decode cX12_mostAlike 75 = .ok (.aload_n 0, 1) := by decide +kernel
theorem dX12_mostAlike_76 : decode cX12_mostAlike 76 = .ok (.getfield 55, 3) := by decide +kernel
theorem dX12_mostAlike_79 : decode cX12_mostAlike 79 = .ok (.aload_n 0, 1) := by decide +kernel
theorem dX12_mostAlike_80 : decode cX12_mostAlike 80 = .ok (.getfield 193, 3) := by decide +kernel
theorem dX12_mostAlike_83 : decode cX12_mostAlike 83 = .ok (.dup2, 1) := by decide +kernel
theorem dX12_mostAlike_84 : decode cX12_mostAlike 84 = .ok (.iaload, 1) := by decide +kernel
theorem dX12_mostAlike_85 : decode cX12_mostAlike 85 = .ok (.iconst 1, 1) := by decide +kernel
theorem dX12_mostAlike_86 : decode cX12_mostAlike 86 = .ok (.iadd, 1) := by decide +kernel
theorem dX12_mostAlike_87 : decode cX12_mostAlike 87 = .ok (.iastore, 1) := by decide +kernel
theorem dX12_mostAlike_88 : decode cX12_mostAlike 88 = .ok (.aload_n 0, 1) := by decide +kernel
theorem dX12_mostAlike_89 : decode cX12_mostAlike 89 = .ok (.getfield 55, 3) := by decide +kernel
theorem dX12_mostAlike_92 : decode cX12_mostAlike 92 = .ok (.aload_n 0, 1) := by decide +kernel
theorem dX12_mostAlike_93 : decode cX12_mostAlike 93 = .ok (.getfield 193, 3) := by decide +kernel
theorem dX12_mostAlike_96 : decode cX12_mostAlike 96 = .ok (.iaload, 1) := by decide +kernel
theorem dX12_mostAlike_97 : decode cX12_mostAlike 97 = .ok (.iload 5, 2) := by decide +kernel
theorem dX12_mostAlike_99 : decode cX12_mostAlike 99 = .ok (.if_icmp .le 15, 3) := by decide +kernel
theorem dX12_mostAlike_102 : decode cX12_mostAlike 102 = .ok (.aload_n 0, 1) := by decide +kernel
theorem dX12_mostAlike_103 : decode cX12_mostAlike 103 = .ok (.getfield 55, 3) := by decide +kernel
theorem dX12_mostAlike_106 : decode cX12_mostAlike 106 = .ok (.aload_n 0, 1) := by decide +kernel
theorem dX12_mostAlike_107 : decode cX12_mostAlike 107 = .ok (.getfield 193, 3) := by decide +kernel
theorem dX12_mostAlike_110 : decode cX12_mostAlike 110 = .ok (.iaload, 1) := by decide +kernel
theorem dX12_mostAlike_111 : decode cX12_mostAlike 111 = .ok (.goto 5, 3) := by decide +kernel
theorem dX12_mostAlike_114 : decode cX12_mostAlike 114 = .ok (.iload 5, 2) := by decide +kernel
theorem dX12_mostAlike_116 : decode cX12_mostAlike 116 = .ok (.istore 5, 2) := by decide +kernel
theorem dX12_mostAlike_118 : decode cX12_mostAlike 118 = .ok (.iinc 6 1, 3) := by decide +kernel
theorem dX12_mostAlike_121 : decode cX12_mostAlike 121 = .ok (.goto (-79), 3) := by decide +kernel
theorem dX12_mostAlike_124 : decode cX12_mostAlike 124 = .ok (.aload_n 0, 1) := by decide +kernel
theorem dX12_mostAlike_125 : decode cX12_mostAlike 125 = .ok (.getfield 31, 3) := by decide +kernel
theorem dX12_mostAlike_128 : decode cX12_mostAlike 128 = .ok (.iconst 4, 1) := by decide +kernel
theorem dX12_mostAlike_129 : decode cX12_mostAlike 129 = .ok (.iload_n 1, 1) := by decide +kernel
theorem dX12_mostAlike_130 : decode cX12_mostAlike 130 = .ok (.imul, 1) := by decide +kernel
theorem dX12_mostAlike_131 : decode cX12_mostAlike 131 = .ok (.iconst 1, 1) := by decide +kernel
theorem dX12_mostAlike_132 : decode cX12_mostAlike 132 = .ok (.iadd, 1) := by decide +kernel
theorem dX12_mostAlike_133 : decode cX12_mostAlike 133 = .ok (.iload 4, 2) := by decide +kernel
theorem dX12_mostAlike_135 : decode cX12_mostAlike 135 = .ok (.iastore, 1) := by decide +kernel
theorem dX12_mostAlike_136 : decode cX12_mostAlike 136 = .ok (.iload 5, 2) := by decide +kernel
theorem dX12_mostAlike_138 : decode cX12_mostAlike 138 = .ok (.ireturn, 1) := by decide +kernel
theorem dX12_askOf_0 : decode cX12_askOf 0 = .ok (.aload_n 0, 1) := by decide +kernel
theorem dX12_askOf_1 : decode cX12_askOf 1 = .ok (.iload_n 1, 1) := by decide +kernel
theorem dX12_askOf_2 : decode cX12_askOf 2 = .ok (.invokevirtual 247, 3) := by decide +kernel
theorem dX12_askOf_5 : decode cX12_askOf 5 = .ok (.istore_n 2, 1) := by decide +kernel
theorem dX12_askOf_6 : decode cX12_askOf 6 = .ok (.iconst (-1), 1) := by decide +kernel
theorem dX12_askOf_7 : decode cX12_askOf 7 = .ok (.istore_n 3, 1) := by decide +kernel
theorem dX12_askOf_8 : decode cX12_askOf 8 = .ok (.iconst 0, 1) := by decide +kernel
theorem dX12_askOf_9 : decode cX12_askOf 9 = .ok (.istore 4, 2) := by decide +kernel
theorem dX12_askOf_11 : decode cX12_askOf 11 = .ok (.iconst 0, 1) := by decide +kernel
theorem dX12_askOf_12 : decode cX12_askOf 12 = .ok (.istore 5, 2) := by decide +kernel
theorem dX12_askOf_14 : decode cX12_askOf 14 = .ok (.iload 5, 2) := by decide +kernel
theorem dX12_askOf_16 : decode cX12_askOf 16 = .ok (.aload_n 0, 1) := by decide +kernel
theorem dX12_askOf_17 : decode cX12_askOf 17 = .ok (.getfield 159, 3) := by decide +kernel
theorem dX12_askOf_20 : decode cX12_askOf 20 = .ok (.if_icmp .ge 64, 3) := by decide +kernel
theorem dX12_askOf_23 : decode cX12_askOf 23 = .ok (.aload_n 0, 1) := by decide +kernel
theorem dX12_askOf_24 : decode cX12_askOf 24 = .ok (.iload_n 1, 1) := by decide +kernel
theorem dX12_askOf_25 : decode cX12_askOf 25 = .ok (.iload 5, 2) := by decide +kernel
theorem dX12_askOf_27 : decode cX12_askOf 27 = .ok (.iload_n 2, 1) := by decide +kernel
theorem dX12_askOf_28 : decode cX12_askOf 28 = .ok (.invokevirtual 253, 3) := by decide +kernel
theorem dX12_askOf_31 : decode cX12_askOf 31 = .ok (.istore 6, 2) := by decide +kernel
theorem dX12_askOf_33 : decode cX12_askOf 33 = .ok (.iload_n 3, 1) := by decide +kernel
theorem dX12_askOf_34 : decode cX12_askOf 34 = .ok (.iconst (-1), 1) := by decide +kernel
theorem dX12_askOf_35 : decode cX12_askOf 35 = .ok (.if_icmp .eq 10, 3) := by decide +kernel
theorem dX12_askOf_38 : decode cX12_askOf 38 = .ok (.iload 6, 2) := by decide +kernel
theorem dX12_askOf_40 : decode cX12_askOf 40 = .ok (.iload 4, 2) := by decide +kernel
theorem dX12_askOf_42 : decode cX12_askOf 42 = .ok (.if_icmp .ge 7, 3) := by decide +kernel
theorem dX12_askOf_45 : decode cX12_askOf 45 = .ok (.iconst 1, 1) := by decide +kernel
theorem dX12_askOf_46 : decode cX12_askOf 46 = .ok (.goto 4, 3) := by decide +kernel
theorem dX12_askOf_49 : decode cX12_askOf 49 = .ok (.iconst 0, 1) := by decide +kernel
theorem dX12_askOf_50 : decode cX12_askOf 50 = .ok (.istore 7, 2) := by decide +kernel
theorem dX12_askOf_52 : decode cX12_askOf 52 = .ok (.iload 7, 2) := by decide +kernel
theorem dX12_askOf_54 : decode cX12_askOf 54 = .ok (.ifCond .eq 8, 3) := by decide +kernel
theorem dX12_askOf_57 : decode cX12_askOf 57 = .ok (.iload 5, 2) := by decide +kernel
theorem dX12_askOf_59 : decode cX12_askOf 59 = .ok (.goto 4, 3) := by decide +kernel
theorem dX12_askOf_62 : decode cX12_askOf 62 = .ok (.iload_n 3, 1) := by decide +kernel
theorem dX12_askOf_63 : decode cX12_askOf 63 = .ok (.istore_n 3, 1) := by decide +kernel
theorem dX12_askOf_64 : decode cX12_askOf 64 = .ok (.iload 7, 2) := by decide +kernel
theorem dX12_askOf_66 : decode cX12_askOf 66 = .ok (.ifCond .eq 8, 3) := by decide +kernel
theorem dX12_askOf_69 : decode cX12_askOf 69 = .ok (.iload 6, 2) := by decide +kernel
theorem dX12_askOf_71 : decode cX12_askOf 71 = .ok (.goto 5, 3) := by decide +kernel
theorem dX12_askOf_74 : decode cX12_askOf 74 = .ok (.iload 4, 2) := by decide +kernel
theorem dX12_askOf_76 : decode cX12_askOf 76 = .ok (.istore 4, 2) := by decide +kernel
theorem dX12_askOf_78 : decode cX12_askOf 78 = .ok (.iinc 5 1, 3) := by decide +kernel
theorem dX12_askOf_81 : decode cX12_askOf 81 = .ok (.goto (-67), 3) := by decide +kernel
theorem dX12_askOf_84 : decode cX12_askOf 84 = .ok (.iload_n 3, 1) := by decide +kernel
theorem dX12_askOf_85 : decode cX12_askOf 85 = .ok (.ireturn, 1) := by decide +kernel
theorem dX12_ask_0 : decode cX12_ask 0 = .ok (.aload_n 0, 1) := by decide +kernel
theorem dX12_ask_1 : decode cX12_ask 1 = .ok (.invokevirtual 141, 3) := by decide +kernel
theorem dX12_ask_4 : decode cX12_ask 4 = .ok (.aload_n 0, 1) := by decide +kernel
theorem dX12_ask_5 : decode cX12_ask 5 = .ok (.iload_n 1, 1) := by decide +kernel
theorem dX12_ask_6 : decode cX12_ask 6 = .ok (.invokevirtual 146, 3) := by decide +kernel
theorem dX12_ask_9 : decode cX12_ask 9 = .ok (.ifCond .eq 11, 3) := by decide +kernel
theorem dX12_ask_12 : decode cX12_ask 12 = .ok (.aload_n 0, 1) := by decide +kernel
theorem dX12_ask_13 : decode cX12_ask 13 = .ok (.iload_n 1, 1) := by decide +kernel
theorem dX12_ask_14 : decode cX12_ask 14 = .ok (.invokevirtual 256, 3) := by decide +kernel
theorem dX12_ask_17 : decode cX12_ask 17 = .ok (.goto 5, 3) := by decide +kernel
theorem dX12_ask_20 : decode cX12_ask 20 = .ok (.bipush (-2), 2) := by decide +kernel
theorem dX12_ask_22 : decode cX12_ask 22 = .ok (.ireturn, 1) := by decide +kernel
theorem dX12_towns_0 : decode cX12_towns 0 = .ok (.iconst 0, 1) := by decide +kernel
theorem dX12_towns_1 : decode cX12_towns 1 = .ok (.istore_n 1, 1) := by decide +kernel
theorem dX12_towns_2 : decode cX12_towns 2 = .ok (.iconst 0, 1) := by decide +kernel
theorem dX12_towns_3 : decode cX12_towns 3 = .ok (.istore_n 2, 1) := by decide +kernel
theorem dX12_towns_4 : decode cX12_towns 4 = .ok (.iload_n 2, 1) := by decide +kernel
theorem dX12_towns_5 : decode cX12_towns 5 = .ok (.aload_n 0, 1) := by decide +kernel
theorem dX12_towns_6 : decode cX12_towns 6 = .ok (.getfield 107, 3) := by decide +kernel
theorem dX12_towns_9 : decode cX12_towns 9 = .ok (.if_icmp .ge 28, 3) := by decide +kernel
theorem dX12_towns_12 : decode cX12_towns 12 = .ok (.iload_n 1, 1) := by decide +kernel
theorem dX12_towns_13 : decode cX12_towns 13 = .ok (.aload_n 0, 1) := by decide +kernel
theorem dX12_towns_14 : decode cX12_towns 14 = .ok (.getfield 28, 3) := by decide +kernel
theorem dX12_towns_17 : decode cX12_towns 17 = .ok (.iload_n 2, 1) := by decide +kernel
theorem dX12_towns_18 : decode cX12_towns 18 = .ok (.iaload, 1) := by decide +kernel
theorem dX12_towns_19 : decode cX12_towns 19 = .ok (.bipush 6, 2) := by decide +kernel
theorem dX12_towns_21 : decode cX12_towns 21 = .ok (.if_icmp .ge 7, 3) := by decide +kernel
theorem dX12_towns_24 : decode cX12_towns 24 = .ok (.iconst 1, 1) := by decide +kernel
theorem dX12_towns_25 : decode cX12_towns 25 = .ok (.goto 4, 3) := by decide +kernel
theorem dX12_towns_28 : decode cX12_towns 28 = .ok (.iconst 0, 1) := by decide +kernel
theorem dX12_towns_29 : decode cX12_towns 29 = .ok (.iadd, 1) := by decide +kernel
theorem dX12_towns_30 : decode cX12_towns 30 = .ok (.istore_n 1, 1) := by decide +kernel
theorem dX12_towns_31 : decode cX12_towns 31 = .ok (.iinc 2 1, 3) := by decide +kernel
theorem dX12_towns_34 : decode cX12_towns 34 = .ok (.goto (-30), 3) := by decide +kernel
theorem dX12_towns_37 : decode cX12_towns 37 = .ok (.iload_n 1, 1) := by decide +kernel
theorem dX12_towns_38 : decode cX12_towns 38 = .ok (.ireturn, 1) := by decide +kernel
theorem dX12_calls_0 : decode cX12_calls 0 = .ok (.iconst 0, 1) := by decide +kernel
theorem dX12_calls_1 : decode cX12_calls 1 = .ok (.istore_n 2, 1) := by decide +kernel
theorem dX12_calls_2 : decode cX12_calls 2 = .ok (.iconst 0, 1) := by decide +kernel
theorem dX12_calls_3 : decode cX12_calls 3 = .ok (.istore_n 3, 1) := by decide +kernel
theorem dX12_calls_4 : decode cX12_calls 4 = .ok (.iconst 0, 1) := by decide +kernel
theorem dX12_calls_5 : decode cX12_calls 5 = .ok (.istore 4, 2) := by decide +kernel
theorem dX12_calls_7 : decode cX12_calls 7 = .ok (.iload 4, 2) := by decide +kernel
theorem dX12_calls_9 : decode cX12_calls 9 = .ok (.aload_n 0, 1) := by decide +kernel
theorem dX12_calls_10 : decode cX12_calls 10 = .ok (.getfield 107, 3) := by decide +kernel
theorem dX12_calls_13 : decode cX12_calls 13 = .ok (.if_icmp .ge 43, 3) := by decide +kernel
theorem dX12_calls_16 : decode cX12_calls 16 = .ok (.aload_n 0, 1) := by decide +kernel
theorem dX12_calls_17 : decode cX12_calls 17 = .ok (.getfield 28, 3) := by decide +kernel
theorem dX12_calls_20 : decode cX12_calls 20 = .ok (.iload 4, 2) := by decide +kernel
theorem dX12_calls_22 : decode cX12_calls 22 = .ok (.iaload, 1) := by decide +kernel
theorem dX12_calls_23 : decode cX12_calls 23 = .ok (.bipush 6, 2) := by decide +kernel
theorem dX12_calls_25 : decode cX12_calls 25 = .ok (.if_icmp .ge 25, 3) := by decide +kernel
theorem dX12_calls_28 : decode cX12_calls 28 = .ok (.iload_n 2, 1) := by decide +kernel
theorem dX12_calls_29 : decode cX12_calls 29 = .ok (.iload_n 1, 1) := by decide +kernel
theorem dX12_calls_30 : decode cX12_calls 30 = .ok (.iload_n 3, 1) := by decide +kernel
theorem dX12_calls_31 : decode cX12_calls 31 = .ok (.invokestatic 180, 3) := by decide +kernel
theorem dX12_calls_34 : decode cX12_calls 34 = .ok (.ifCond .eq 10, 3) := by decide +kernel
theorem dX12_calls_37 : decode cX12_calls 37 = .ok (.iconst 1, 1) := by decide +kernel
theorem dX12_calls_38 : decode cX12_calls 38 = .ok (.iload 4, 2) := by decide +kernel
theorem dX12_calls_40 : decode cX12_calls 40 = .ok (.ishl, 1) := by decide +kernel
theorem dX12_calls_41 : decode cX12_calls 41 = .ok (.goto 4, 3) := by decide +kernel
theorem dX12_calls_44 : decode cX12_calls 44 = .ok (.iconst 0, 1) := by decide +kernel
theorem dX12_calls_45 : decode cX12_calls 45 = .ok (.ior, 1) := by decide +kernel
theorem dX12_calls_46 : decode cX12_calls 46 = .ok (.istore_n 2, 1) := by decide +kernel
theorem dX12_calls_47 : decode cX12_calls 47 = .ok (.iinc 3 1, 3) := by decide +kernel
theorem dX12_calls_50 : decode cX12_calls 50 = .ok (.iinc 4 1, 3) := by decide +kernel
theorem dX12_calls_53 : decode cX12_calls 53 = .ok (.goto (-46), 3) := by decide +kernel
theorem dX12_calls_56 : decode cX12_calls 56 = .ok (.iload_n 2, 1) := by decide +kernel
theorem dX12_calls_57 : decode cX12_calls 57 = .ok (.ireturn, 1) := by decide +kernel
theorem dX12_laughOf_0 : decode cX12_laughOf 0 = .ok (.lconst 0, 1) := by decide +kernel
theorem dX12_laughOf_1 : decode cX12_laughOf 1 = .ok (.lstore 5, 2) := by decide +kernel
theorem dX12_laughOf_3 : decode cX12_laughOf 3 = .ok (.iconst 0, 1) := by decide +kernel
theorem dX12_laughOf_4 : decode cX12_laughOf 4 = .ok (.istore 7, 2) := by decide +kernel
theorem dX12_laughOf_6 : decode cX12_laughOf 6 = .ok (.iload 7, 2) := by decide +kernel
theorem dX12_laughOf_8 : decode cX12_laughOf 8 = .ok (.iconst 1, 1) := by decide +kernel
theorem dX12_laughOf_9 : decode cX12_laughOf 9 = .ok (.iload_n 3, 1) := by decide +kernel
theorem dX12_laughOf_10 : decode cX12_laughOf 10 = .ok (.ishl, 1) := by decide +kernel
theorem dX12_laughOf_11 : decode cX12_laughOf 11 = .ok (.if_icmp .ge 81, 3) := by decide +kernel
theorem dX12_laughOf_14 : decode cX12_laughOf 14 = .ok (.aload_n 0, 1) := by decide +kernel
theorem dX12_laughOf_15 : decode cX12_laughOf 15 = .ok (.aload_n 0, 1) := by decide +kernel
theorem dX12_laughOf_16 : decode cX12_laughOf 16 = .ok (.iload 7, 2) := by decide +kernel
theorem dX12_laughOf_18 : decode cX12_laughOf 18 = .ok (.invokevirtual 259, 3) := by decide +kernel
theorem dX12_laughOf_21 : decode cX12_laughOf 21 = .ok (.putfield 59, 3) := by decide +kernel
theorem dX12_laughOf_24 : decode cX12_laughOf 24 = .ok (.aload_n 0, 1) := by decide +kernel
theorem dX12_laughOf_25 : decode cX12_laughOf 25 = .ok (.iload_n 2, 1) := by decide +kernel
theorem dX12_laughOf_26 : decode cX12_laughOf 26 = .ok (.invokevirtual 206, 3) := by decide +kernel
theorem dX12_laughOf_29 : decode cX12_laughOf 29 = .ok (.aload_n 0, 1) := by decide +kernel
theorem dX12_laughOf_30 : decode cX12_laughOf 30 = .ok (.getfield 196, 3) := by decide +kernel
theorem dX12_laughOf_33 : decode cX12_laughOf 33 = .ok (.ifCond .ne 53, 3) := by decide +kernel
theorem dX12_laughOf_36 : decode cX12_laughOf 36 = .ok (.lconst 1, 1) := by decide +kernel
theorem dX12_laughOf_37 : decode cX12_laughOf 37 = .ok (.lstore 8, 2) := by decide +kernel
theorem dX12_laughOf_39 : decode cX12_laughOf 39 = .ok (.iconst 0, 1) := by decide +kernel
theorem dX12_laughOf_40 : decode cX12_laughOf 40 = .ok (.istore 10, 2) := by decide +kernel
theorem dX12_laughOf_42 : decode cX12_laughOf 42 = .ok (.iload 10, 2) := by decide +kernel
theorem dX12_laughOf_44 : decode cX12_laughOf 44 = .ok (.iload_n 3, 1) := by decide +kernel
theorem dX12_laughOf_45 : decode cX12_laughOf 45 = .ok (.if_icmp .ge 34, 3) := by decide +kernel
theorem dX12_laughOf_48 : decode cX12_laughOf 48 = .ok (.lload 8, 2) := by decide +kernel
theorem dX12_laughOf_50 : decode cX12_laughOf 50 = .ok (.iload 7, 2) := by decide +kernel
theorem dX12_laughOf_52 : decode cX12_laughOf 52 = .ok (.iload 10, 2) := by decide +kernel
theorem dX12_laughOf_54 : decode cX12_laughOf 54 = .ok (.invokestatic 180, 3) := by decide +kernel
theorem dX12_laughOf_57 : decode cX12_laughOf 57 = .ok (.ifCond .eq 8, 3) := by decide +kernel
theorem dX12_laughOf_60 : decode cX12_laughOf 60 = .ok (.iload_n 1, 1) := by decide +kernel
theorem dX12_laughOf_61 : decode cX12_laughOf 61 = .ok (.i2l, 1) := by decide +kernel
theorem dX12_laughOf_62 : decode cX12_laughOf 62 = .ok (.goto 8, 3) := by decide +kernel
theorem dX12_laughOf_65 : decode cX12_laughOf 65 = .ok (.bipush 16, 2) := by decide +kernel
theorem dX12_laughOf_67 : decode cX12_laughOf 67 = .ok (.iload_n 1, 1) := by decide +kernel
theorem dX12_laughOf_68 : decode cX12_laughOf 68 = .ok (.isub, 1) := by decide +kernel
theorem dX12_laughOf_69 : decode cX12_laughOf 69 = .ok (.i2l, 1) := by decide +kernel
theorem dX12_laughOf_70 : decode cX12_laughOf 70 = .ok (.lmul, 1) := by decide +kernel
theorem dX12_laughOf_71 : decode cX12_laughOf 71 = .ok (.lstore 8, 2) := by decide +kernel
theorem dX12_laughOf_73 : decode cX12_laughOf 73 = .ok (.iinc 10 1, 3) := by decide +kernel
theorem dX12_laughOf_76 : decode cX12_laughOf 76 = .ok (.goto (-34), 3) := by decide +kernel
theorem dX12_laughOf_79 : decode cX12_laughOf 79 = .ok (.lload 5, 2) := by decide +kernel
theorem dX12_laughOf_81 : decode cX12_laughOf 81 = .ok (.lload 8, 2) := by decide +kernel
theorem dX12_laughOf_83 : decode cX12_laughOf 83 = .ok (.ladd, 1) := by decide +kernel
theorem dX12_laughOf_84 : decode cX12_laughOf 84 = .ok (.lstore 5, 2) := by decide +kernel
theorem dX12_laughOf_86 : decode cX12_laughOf 86 = .ok (.iinc 7 1, 3) := by decide +kernel
theorem dX12_laughOf_89 : decode cX12_laughOf 89 = .ok (.goto (-83), 3) := by decide +kernel
theorem dX12_laughOf_92 : decode cX12_laughOf 92 = .ok (.aload_n 0, 1) := by decide +kernel
theorem dX12_laughOf_93 : decode cX12_laughOf 93 = .ok (.ldc 58, 2) := by decide +kernel
theorem dX12_laughOf_95 : decode cX12_laughOf 95 = .ok (.putfield 59, 3) := by decide +kernel
theorem dX12_laughOf_98 : decode cX12_laughOf 98 = .ok (.lload 5, 2) := by decide +kernel
theorem dX12_laughOf_100 : decode cX12_laughOf 100 = .ok (.lconst 1, 1) := by decide +kernel
theorem dX12_laughOf_101 : decode cX12_laughOf 101 = .ok (.iconst 4, 1) := by decide +kernel
theorem dX12_laughOf_102 : decode cX12_laughOf 102 = .ok (.iload_n 3, 1) := by decide +kernel
theorem dX12_laughOf_103 : decode cX12_laughOf 103 = .ok (.imul, 1) := by decide +kernel
theorem dX12_laughOf_104 : decode cX12_laughOf 104 = .ok (.lshl, 1) := by decide +kernel
theorem dX12_laughOf_105 : decode cX12_laughOf 105 = .ok (.iload 4, 2) := by decide +kernel
theorem dX12_laughOf_107 : decode cX12_laughOf 107 = .ok (.invokestatic 262, 3) := by decide +kernel
theorem dX12_laughOf_110 : decode cX12_laughOf 110 = .ok (.lreturn, 1) := by decide +kernel
theorem dX12_laugh_0 : decode cX12_laugh 0 = .ok (.aload_n 0, 1) := by decide +kernel
theorem dX12_laugh_1 : decode cX12_laugh 1 = .ok (.invokevirtual 141, 3) := by decide +kernel
theorem dX12_laugh_4 : decode cX12_laugh 4 = .ok (.aload_n 0, 1) := by decide +kernel
theorem dX12_laugh_5 : decode cX12_laugh 5 = .ok (.invokevirtual 266, 3) := by decide +kernel
theorem dX12_laugh_8 : decode cX12_laugh 8 = .ok (.istore 4, 2) := by decide +kernel
theorem dX12_laugh_10 : decode cX12_laugh 10 = .ok (.iload_n 1, 1) := by decide +kernel
theorem dX12_laugh_11 : decode cX12_laugh 11 = .ok (.i2l, 1) := by decide +kernel
theorem dX12_laugh_12 : decode cX12_laugh 12 = .ok (.lconst 0, 1) := by decide +kernel
theorem dX12_laugh_13 : decode cX12_laugh 13 = .ok (.ldc2_w 269, 3) := by decide +kernel
theorem dX12_laugh_16 : decode cX12_laugh 16 = .ok (.invokestatic 65, 3) := by decide +kernel
theorem dX12_laugh_19 : decode cX12_laugh 19 = .ok (.ifCond .eq 37, 3) := by decide +kernel
theorem dX12_laugh_22 : decode cX12_laugh 22 = .ok (.aload_n 0, 1) := by decide +kernel
theorem dX12_laugh_23 : decode cX12_laugh 23 = .ok (.iload_n 2, 1) := by decide +kernel
theorem dX12_laugh_24 : decode cX12_laugh 24 = .ok (.invokevirtual 212, 3) := by decide +kernel
theorem dX12_laugh_27 : decode cX12_laugh 27 = .ok (.ifCond .eq 29, 3) := by decide +kernel
theorem dX12_laugh_30 : decode cX12_laugh 30 = .ok (.iload_n 3, 1) := by decide +kernel
theorem dX12_laugh_31 : decode cX12_laugh 31 = .ok (.invokestatic 152, 3) := by decide +kernel
theorem dX12_laugh_34 : decode cX12_laugh 34 = .ok (.ifCond .eq 22, 3) := by decide +kernel
theorem dX12_laugh_37 : decode cX12_laugh 37 = .ok (.iload 4, 2) := by decide +kernel
theorem dX12_laugh_39 : decode cX12_laugh 39 = .ok (.bipush 10, 2) := by decide +kernel
theorem dX12_laugh_41 : decode cX12_laugh 41 = .ok (.if_icmp .gt 15, 3) := by decide +kernel
theorem dX12_laugh_44 : decode cX12_laugh 44 = .ok (.aload_n 0, 1) := by decide +kernel
theorem dX12_laugh_45 : decode cX12_laugh 45 = .ok (.iload_n 1, 1) := by decide +kernel
theorem dX12_laugh_46 : decode cX12_laugh 46 = .ok (.iload_n 2, 1) := by decide +kernel
theorem dX12_laugh_47 : decode cX12_laugh 47 = .ok (.iload 4, 2) := by decide +kernel
theorem dX12_laugh_49 : decode cX12_laugh 49 = .ok (.iload_n 3, 1) := by decide +kernel
theorem dX12_laugh_50 : decode cX12_laugh 50 = .ok (.invokevirtual 271, 3) := by decide +kernel
theorem dX12_laugh_53 : decode cX12_laugh 53 = .ok (.goto 8, 3) := by decide +kernel
theorem dX12_laugh_56 : decode cX12_laugh 56 = .ok (.bipush (-2), 2) := by decide +kernel
theorem dX12_laugh_58 : decode cX12_laugh 58 = .ok (.invokestatic 275, 3) := by decide +kernel
theorem dX12_laugh_61 : decode cX12_laugh 61 = .ok (.lreturn, 1) := by decide +kernel
theorem dX12_lot_0 : decode cX12_lot 0 = .ok (.aload_n 0, 1) := by decide +kernel
theorem dX12_lot_1 : decode cX12_lot 1 = .ok (.ldc_w 279, 3) := by decide +kernel
theorem dX12_lot_4 : decode cX12_lot 4 = .ok (.aload_n 0, 1) := by decide +kernel
theorem dX12_lot_5 : decode cX12_lot 5 = .ok (.getfield 280, 3) := by decide +kernel
theorem dX12_lot_8 : decode cX12_lot 8 = .ok (.imul, 1) := by decide +kernel
theorem dX12_lot_9 : decode cX12_lot 9 = .ok (.sipush 12345, 3) := by decide +kernel
theorem dX12_lot_12 : decode cX12_lot 12 = .ok (.iadd, 1) := by decide +kernel
theorem dX12_lot_13 : decode cX12_lot 13 = .ok (.putfield 280, 3) := by decide +kernel
theorem dX12_lot_16 : decode cX12_lot 16 = .ok (.aload_n 0, 1) := by decide +kernel
theorem dX12_lot_17 : decode cX12_lot 17 = .ok (.getfield 280, 3) := by decide +kernel
theorem dX12_lot_20 : decode cX12_lot 20 = .ok (.bipush 16, 2) := by decide +kernel
theorem dX12_lot_22 : decode cX12_lot 22 = .ok (.iushr, 1) := by decide +kernel
theorem dX12_lot_23 : decode cX12_lot 23 = .ok (.iload_n 1, 1) := by decide +kernel
theorem dX12_lot_24 : decode cX12_lot 24 = .ok (.irem, 1) := by decide +kernel
theorem dX12_lot_25 : decode cX12_lot 25 = .ok (.ireturn, 1) := by decide +kernel
theorem dX12_lakesOf_0 : decode cX12_lakesOf 0 = .ok (.aload_n 0, 1) := by decide +kernel
theorem dX12_lakesOf_1 : decode cX12_lakesOf 1 = .ok (.iload_n 1, 1) := by decide +kernel
theorem dX12_lakesOf_2 : decode cX12_lakesOf 2 = .ok (.putfield 280, 3) := by decide +kernel
theorem dX12_lakesOf_5 : decode cX12_lakesOf 5 = .ok (.iconst 0, 1) := by decide +kernel
theorem dX12_lakesOf_6 : decode cX12_lakesOf 6 = .ok (.istore 4, 2) := by decide +kernel
theorem dX12_lakesOf_8 : decode cX12_lakesOf 8 = .ok (.iconst 0, 1) := by decide +kernel
theorem dX12_lakesOf_9 : decode cX12_lakesOf 9 = .ok (.istore 5, 2) := by decide +kernel
theorem dX12_lakesOf_11 : decode cX12_lakesOf 11 = .ok (.iload 5, 2) := by decide +kernel
theorem dX12_lakesOf_13 : decode cX12_lakesOf 13 = .ok (.iload_n 2, 1) := by decide +kernel
theorem dX12_lakesOf_14 : decode cX12_lakesOf 14 = .ok (.if_icmp .ge 120, 3) := by decide +kernel
theorem dX12_lakesOf_17 : decode cX12_lakesOf 17 = .ok (.aload_n 0, 1) := by decide +kernel
theorem dX12_lakesOf_18 : decode cX12_lakesOf 18 = .ok (.getfield 116, 3) := by decide +kernel
theorem dX12_lakesOf_21 : decode cX12_lakesOf 21 = .ok (.ifCond .le 113, 3) := by decide +kernel
theorem dX12_lakesOf_24 : decode cX12_lakesOf 24 = .ok (.aload_n 0, 1) := by decide +kernel
theorem dX12_lakesOf_25 : decode cX12_lakesOf 25 = .ok (.getfield 122, 3) := by decide +kernel
theorem dX12_lakesOf_28 : decode cX12_lakesOf 28 = .ok (.iconst 1, 1) := by decide +kernel
theorem dX12_lakesOf_29 : decode cX12_lakesOf 29 = .ok (.if_icmp .le 105, 3) := by decide +kernel
theorem dX12_lakesOf_32 : decode cX12_lakesOf 32 = .ok (.aload_n 0, 1) := by decide +kernel
theorem dX12_lakesOf_33 : decode cX12_lakesOf 33 = .ok (.aload_n 0, 1) := by decide +kernel
theorem dX12_lakesOf_34 : decode cX12_lakesOf 34 = .ok (.getfield 116, 3) := by decide +kernel
theorem dX12_lakesOf_37 : decode cX12_lakesOf 37 = .ok (.invokevirtual 283, 3) := by decide +kernel
theorem dX12_lakesOf_40 : decode cX12_lakesOf 40 = .ok (.istore 6, 2) := by decide +kernel
theorem dX12_lakesOf_42 : decode cX12_lakesOf 42 = .ok (.aload_n 0, 1) := by decide +kernel
theorem dX12_lakesOf_43 : decode cX12_lakesOf 43 = .ok (.aload_n 0, 1) := by decide +kernel
theorem dX12_lakesOf_44 : decode cX12_lakesOf 44 = .ok (.getfield 122, 3) := by decide +kernel
theorem dX12_lakesOf_47 : decode cX12_lakesOf 47 = .ok (.invokevirtual 283, 3) := by decide +kernel
theorem dX12_lakesOf_50 : decode cX12_lakesOf 50 = .ok (.istore 7, 2) := by decide +kernel
theorem dX12_lakesOf_52 : decode cX12_lakesOf 52 = .ok (.aload_n 0, 1) := by decide +kernel
theorem dX12_lakesOf_53 : decode cX12_lakesOf 53 = .ok (.aload_n 0, 1) := by decide +kernel
theorem dX12_lakesOf_54 : decode cX12_lakesOf 54 = .ok (.getfield 122, 3) := by decide +kernel
theorem dX12_lakesOf_57 : decode cX12_lakesOf 57 = .ok (.iconst 1, 1) := by decide +kernel
theorem dX12_lakesOf_58 : decode cX12_lakesOf 58 = .ok (.isub, 1) := by decide +kernel
theorem dX12_lakesOf_59 : decode cX12_lakesOf 59 = .ok (.invokevirtual 283, 3) := by decide +kernel
theorem dX12_lakesOf_62 : decode cX12_lakesOf 62 = .ok (.istore 8, 2) := by decide +kernel
theorem dX12_lakesOf_64 : decode cX12_lakesOf 64 = .ok (.iload 8, 2) := by decide +kernel
theorem dX12_lakesOf_66 : decode cX12_lakesOf 66 = .ok (.iload 8, 2) := by decide +kernel
theorem dX12_lakesOf_68 : decode cX12_lakesOf 68 = .ok (.iload 7, 2) := by decide +kernel
theorem dX12_lakesOf_70 : decode cX12_lakesOf 70 = .ok (.if_icmp .lt 7, 3) := by decide +kernel
theorem dX12_lakesOf_73 : decode cX12_lakesOf 73 = .ok (.iconst 1, 1) := by decide +kernel
theorem dX12_lakesOf_74 : decode cX12_lakesOf 74 = .ok (.goto 4, 3) := by decide +kernel
theorem dX12_lakesOf_77 : decode cX12_lakesOf 77 = .ok (.iconst 0, 1) := by decide +kernel
theorem dX12_lakesOf_78 : decode cX12_lakesOf 78 = .ok (.iadd, 1) := by decide +kernel
theorem dX12_lakesOf_79 : decode cX12_lakesOf 79 = .ok (.istore 8, 2) := by decide +kernel
theorem dX12_lakesOf_81 : decode cX12_lakesOf 81 = .ok (.aload_n 0, 1) := by decide +kernel
theorem dX12_lakesOf_82 : decode cX12_lakesOf 82 = .ok (.iload 6, 2) := by decide +kernel
theorem dX12_lakesOf_84 : decode cX12_lakesOf 84 = .ok (.iload 7, 2) := by decide +kernel
theorem dX12_lakesOf_86 : decode cX12_lakesOf 86 = .ok (.iload 8, 2) := by decide +kernel
theorem dX12_lakesOf_88 : decode cX12_lakesOf 88 = .ok (.aload_n 0, 1) := by decide +kernel
theorem dX12_lakesOf_89 : decode cX12_lakesOf 89 = .ok (.bipush 9, 2) := by decide +kernel
theorem dX12_lakesOf_91 : decode cX12_lakesOf 91 = .ok (.invokevirtual 283, 3) := by decide +kernel
theorem dX12_lakesOf_94 : decode cX12_lakesOf 94 = .ok (.iconst 1, 1) := by decide +kernel
theorem dX12_lakesOf_95 : decode cX12_lakesOf 95 = .ok (.iadd, 1) := by decide +kernel
theorem dX12_lakesOf_96 : decode cX12_lakesOf 96 = .ok (.bipush 24, 2) := by decide +kernel
theorem dX12_lakesOf_98 : decode cX12_lakesOf 98 = .ok (.iconst 0, 1) := by decide +kernel
theorem dX12_lakesOf_99 : decode cX12_lakesOf 99 = .ok (.invokevirtual 202, 3) := by decide +kernel
theorem dX12_lakesOf_102 : decode cX12_lakesOf 102 = .ok (.iload 4, 2) := by decide +kernel
theorem dX12_lakesOf_104 : decode cX12_lakesOf 104 = .ok (.aload_n 0, 1) := by decide +kernel
theorem dX12_lakesOf_105 : decode cX12_lakesOf 105 = .ok (.getfield 196, 3) := by decide +kernel
theorem dX12_lakesOf_108 : decode cX12_lakesOf 108 = .ok (.iload_n 3, 1) := by decide +kernel
theorem dX12_lakesOf_109 : decode cX12_lakesOf 109 = .ok (.ifCond .ne 7, 3) := by decide +kernel
theorem dX12_lakesOf_112 : decode cX12_lakesOf 112 = .ok (.iconst 0, 1) := by decide +kernel
theorem dX12_lakesOf_113 : decode cX12_lakesOf 113 = .ok (.goto 4, 3) := by decide +kernel
theorem dX12_lakesOf_116 : decode cX12_lakesOf 116 = .ok (.iconst 3, 1) := by decide +kernel
theorem dX12_lakesOf_117 : decode cX12_lakesOf 117 = .ok (.if_icmp .ne 7, 3) := by decide +kernel
theorem dX12_lakesOf_120 : decode cX12_lakesOf 120 = .ok (.iconst 1, 1) := by decide +kernel
theorem dX12_lakesOf_121 : decode cX12_lakesOf 121 = .ok (.goto 4, 3) := by decide +kernel
theorem dX12_lakesOf_124 : decode cX12_lakesOf 124 = .ok (.iconst 0, 1) := by decide +kernel
theorem dX12_lakesOf_125 : decode cX12_lakesOf 125 = .ok (.iadd, 1) := by decide +kernel
theorem dX12_lakesOf_126 : decode cX12_lakesOf 126 = .ok (.istore 4, 2) := by decide +kernel
theorem dX12_lakesOf_128 : decode cX12_lakesOf 128 = .ok (.iinc 5 1, 3) := by decide +kernel
theorem dX12_lakesOf_131 : decode cX12_lakesOf 131 = .ok (.goto (-120), 3) := by decide +kernel
theorem dX12_lakesOf_134 : decode cX12_lakesOf 134 = .ok (.iload 4, 2) := by decide +kernel
theorem dX12_lakesOf_136 : decode cX12_lakesOf 136 = .ok (.ireturn, 1) := by decide +kernel
theorem dX12_lakes_0 : decode cX12_lakes 0 = .ok (.aload_n 0, 1) := by decide +kernel
theorem dX12_lakes_1 : decode cX12_lakes 1 = .ok (.invokevirtual 141, 3) := by decide +kernel
theorem dX12_lakes_4 : decode cX12_lakes 4 = .ok (.iload_n 2, 1) := by decide +kernel
theorem dX12_lakes_5 : decode cX12_lakes 5 = .ok (.i2l, 1) := by decide +kernel
theorem dX12_lakes_6 : decode cX12_lakes 6 = .ok (.lconst 1, 1) := by decide +kernel
theorem dX12_lakes_7 : decode cX12_lakes 7 = .ok (.ldc2_w 286, 3) := by decide +kernel
theorem dX12_lakes_10 : decode cX12_lakes 10 = .ok (.invokestatic 65, 3) := by decide +kernel
theorem dX12_lakes_13 : decode cX12_lakes 13 = .ok (.ifCond .eq 20, 3) := by decide +kernel
theorem dX12_lakes_16 : decode cX12_lakes 16 = .ok (.iload_n 3, 1) := by decide +kernel
theorem dX12_lakes_17 : decode cX12_lakes 17 = .ok (.invokestatic 152, 3) := by decide +kernel
theorem dX12_lakes_20 : decode cX12_lakes 20 = .ok (.ifCond .eq 13, 3) := by decide +kernel
theorem dX12_lakes_23 : decode cX12_lakes 23 = .ok (.aload_n 0, 1) := by decide +kernel
theorem dX12_lakes_24 : decode cX12_lakes 24 = .ok (.iload_n 1, 1) := by decide +kernel
theorem dX12_lakes_25 : decode cX12_lakes 25 = .ok (.iload_n 2, 1) := by decide +kernel
theorem dX12_lakes_26 : decode cX12_lakes 26 = .ok (.iload_n 3, 1) := by decide +kernel
theorem dX12_lakes_27 : decode cX12_lakes 27 = .ok (.invokevirtual 288, 3) := by decide +kernel
theorem dX12_lakes_30 : decode cX12_lakes 30 = .ok (.goto 5, 3) := by decide +kernel
theorem dX12_lakes_33 : decode cX12_lakes 33 = .ok (.bipush (-2), 2) := by decide +kernel
theorem dX12_lakes_35 : decode cX12_lakes 35 = .ok (.ireturn, 1) := by decide +kernel
theorem dX12_write_0 : decode cX12_write 0 = .ok (.aload_n 0, 1) := by decide +kernel
theorem dX12_write_1 : decode cX12_write 1 = .ok (.iload_n 1, 1) := by decide +kernel
theorem dX12_write_2 : decode cX12_write 2 = .ok (.invokevirtual 212, 3) := by decide +kernel
theorem dX12_write_5 : decode cX12_write 5 = .ok (.ifCond .eq 17, 3) := by decide +kernel
theorem dX12_write_8 : decode cX12_write 8 = .ok (.iload_n 2, 1) := by decide +kernel
theorem dX12_write_9 : decode cX12_write 9 = .ok (.invokestatic 152, 3) := by decide +kernel
theorem dX12_write_12 : decode cX12_write 12 = .ok (.ifCond .eq 10, 3) := by decide +kernel
theorem dX12_write_15 : decode cX12_write 15 = .ok (.iload_n 3, 1) := by decide +kernel
theorem dX12_write_16 : decode cX12_write 16 = .ok (.invokestatic 74, 3) := by decide +kernel
theorem dX12_write_19 : decode cX12_write 19 = .ok (.ifCond .ne 6, 3) := by decide +kernel
theorem dX12_write_22 : decode cX12_write 22 = .ok (.bipush (-2), 2) := by decide +kernel
theorem dX12_write_24 : decode cX12_write 24 = .ok (.ireturn, 1) := by decide +kernel
theorem dX12_write_25 : decode cX12_write 25 = .ok (.aload_n 0, 1) := by decide +kernel
theorem dX12_write_26 : decode cX12_write 26 = .ok (.getfield 7, 3) := by decide +kernel
theorem dX12_write_29 : decode cX12_write 29 = .ok (.iload_n 3, 1) := by decide +kernel
theorem dX12_write_30 : decode cX12_write 30 = .ok (.iaload, 1) := by decide +kernel
theorem dX12_write_31 : decode cX12_write 31 = .ok (.ifCond .ge 9, 3) := by decide +kernel
theorem dX12_write_34 : decode cX12_write 34 = .ok (.aload_n 0, 1) := by decide +kernel
theorem dX12_write_35 : decode cX12_write 35 = .ok (.iconst 1, 1) := by decide +kernel
theorem dX12_write_36 : decode cX12_write 36 = .ok (.invokevirtual 80, 3) := by decide +kernel
theorem dX12_write_39 : decode cX12_write 39 = .ok (.ireturn, 1) := by decide +kernel
theorem dX12_write_40 : decode cX12_write 40 = .ok (.aload_n 0, 1) := by decide +kernel
theorem dX12_write_41 : decode cX12_write 41 = .ok (.invokevirtual 141, 3) := by decide +kernel
theorem dX12_write_44 : decode cX12_write 44 = .ok (.aload_n 0, 1) := by decide +kernel
theorem dX12_write_45 : decode cX12_write 45 = .ok (.iload_n 1, 1) := by decide +kernel
theorem dX12_write_46 : decode cX12_write 46 = .ok (.invokevirtual 206, 3) := by decide +kernel
theorem dX12_write_49 : decode cX12_write 49 = .ok (.aload_n 0, 1) := by decide +kernel
theorem dX12_write_50 : decode cX12_write 50 = .ok (.getfield 13, 3) := by decide +kernel
theorem dX12_write_53 : decode cX12_write 53 = .ok (.iload_n 3, 1) := by decide +kernel
theorem dX12_write_54 : decode cX12_write 54 = .ok (.iaload, 1) := by decide +kernel
theorem dX12_write_55 : decode cX12_write 55 = .ok (.aload_n 0, 1) := by decide +kernel
theorem dX12_write_56 : decode cX12_write 56 = .ok (.getfield 107, 3) := by decide +kernel
theorem dX12_write_59 : decode cX12_write 59 = .ok (.invokestatic 291, 3) := by decide +kernel
theorem dX12_write_62 : decode cX12_write 62 = .ok (.istore 4, 2) := by decide +kernel
theorem dX12_write_64 : decode cX12_write 64 = .ok (.iconst 0, 1) := by decide +kernel
theorem dX12_write_65 : decode cX12_write 65 = .ok (.istore 5, 2) := by decide +kernel
theorem dX12_write_67 : decode cX12_write 67 = .ok (.iload 5, 2) := by decide +kernel
theorem dX12_write_69 : decode cX12_write 69 = .ok (.iload 4, 2) := by decide +kernel
theorem dX12_write_71 : decode cX12_write 71 = .ok (.if_icmp .ge 54, 3) := by decide +kernel
theorem dX12_write_74 : decode cX12_write 74 = .ok (.aload_n 0, 1) := by decide +kernel
theorem dX12_write_75 : decode cX12_write 75 = .ok (.getfield 16, 3) := by decide +kernel
theorem dX12_write_78 : decode cX12_write 78 = .ok (.bipush 60, 2) := by decide +kernel
theorem dX12_write_80 : decode cX12_write 80 = .ok (.iload_n 3, 1) := by decide +kernel
theorem dX12_write_81 : decode cX12_write 81 = .ok (.imul, 1) := by decide +kernel
theorem dX12_write_82 : decode cX12_write 82 = .ok (.iload 5, 2) := by decide +kernel
theorem dX12_write_84 : decode cX12_write 84 = .ok (.iadd, 1) := by decide +kernel
theorem dX12_write_85 : decode cX12_write 85 = .ok (.aload_n 0, 1) := by decide +kernel
theorem dX12_write_86 : decode cX12_write 86 = .ok (.getfield 7, 3) := by decide +kernel
theorem dX12_write_89 : decode cX12_write 89 = .ok (.iload_n 3, 1) := by decide +kernel
theorem dX12_write_90 : decode cX12_write 90 = .ok (.iaload, 1) := by decide +kernel
theorem dX12_write_91 : decode cX12_write 91 = .ok (.iload 5, 2) := by decide +kernel
theorem dX12_write_93 : decode cX12_write 93 = .ok (.aload_n 0, 1) := by decide +kernel
theorem dX12_write_94 : decode cX12_write 94 = .ok (.getfield 190, 3) := by decide +kernel
theorem dX12_write_97 : decode cX12_write 97 = .ok (.if_icmp .ge 17, 3) := by decide +kernel
theorem dX12_write_100 : decode cX12_write 100 = .ok (.aload_n 0, 1) := by decide +kernel
theorem dX12_write_101 : decode cX12_write 101 = .ok (.getfield 40, 3) := by decide +kernel
theorem dX12_write_104 : decode cX12_write 104 = .ok (.iconst 4, 1) := by decide +kernel
theorem dX12_write_105 : decode cX12_write 105 = .ok (.iload 5, 2) := by decide +kernel
theorem dX12_write_107 : decode cX12_write 107 = .ok (.imul, 1) := by decide +kernel
theorem dX12_write_108 : decode cX12_write 108 = .ok (.iload_n 2, 1) := by decide +kernel
theorem dX12_write_109 : decode cX12_write 109 = .ok (.iadd, 1) := by decide +kernel
theorem dX12_write_110 : decode cX12_write 110 = .ok (.iaload, 1) := by decide +kernel
theorem dX12_write_111 : decode cX12_write 111 = .ok (.goto 4, 3) := by decide +kernel
theorem dX12_write_114 : decode cX12_write 114 = .ok (.iconst (-1), 1) := by decide +kernel
theorem dX12_write_115 : decode cX12_write 115 = .ok (.invokestatic 88, 3) := by decide +kernel
theorem dX12_write_118 : decode cX12_write 118 = .ok (.iastore, 1) := by decide +kernel
theorem dX12_write_119 : decode cX12_write 119 = .ok (.iinc 5 1, 3) := by decide +kernel
theorem dX12_write_122 : decode cX12_write 122 = .ok (.goto (-55), 3) := by decide +kernel
theorem dX12_write_125 : decode cX12_write 125 = .ok (.iload 4, 2) := by decide +kernel
theorem dX12_write_127 : decode cX12_write 127 = .ok (.ireturn, 1) := by decide +kernel
theorem dX12_count_0 : decode cX12_count 0 = .ok (.aload_n 0, 1) := by decide +kernel
theorem dX12_count_1 : decode cX12_count 1 = .ok (.invokevirtual 141, 3) := by decide +kernel
theorem dX12_count_4 : decode cX12_count 4 = .ok (.iload_n 1, 1) := by decide +kernel
theorem dX12_count_5 : decode cX12_count 5 = .ok (.tableswitch 90 0 8 #[51, 56, 61, 66, 66, 66, 75, 80, 85], 51) := by decide +kernel
theorem dX12_count_56 : decode cX12_count 56 = .ok (.aload_n 0, 1) := by decide +kernel
theorem dX12_count_57 : decode cX12_count 57 = .ok (.getfield 107, 3) := by decide +kernel
theorem dX12_count_60 : decode cX12_count 60 = .ok (.ireturn, 1) := by decide +kernel
theorem dX12_count_61 : decode cX12_count 61 = .ok (.aload_n 0, 1) := by decide +kernel
theorem dX12_count_62 : decode cX12_count 62 = .ok (.getfield 116, 3) := by decide +kernel
theorem dX12_count_65 : decode cX12_count 65 = .ok (.ireturn, 1) := by decide +kernel
theorem dX12_count_66 : decode cX12_count 66 = .ok (.aload_n 0, 1) := by decide +kernel
theorem dX12_count_67 : decode cX12_count 67 = .ok (.getfield 122, 3) := by decide +kernel
theorem dX12_count_70 : decode cX12_count 70 = .ok (.ireturn, 1) := by decide +kernel
theorem dX12_count_71 : decode cX12_count 71 = .ok (.aload_n 0, 1) := by decide +kernel
theorem dX12_count_72 : decode cX12_count 72 = .ok (.getfield 25, 3) := by decide +kernel
theorem dX12_count_75 : decode cX12_count 75 = .ok (.iload_n 1, 1) := by decide +kernel
theorem dX12_count_76 : decode cX12_count 76 = .ok (.iconst 3, 1) := by decide +kernel
theorem dX12_count_77 : decode cX12_count 77 = .ok (.isub, 1) := by decide +kernel
theorem dX12_count_78 : decode cX12_count 78 = .ok (.iaload, 1) := by decide +kernel
theorem dX12_count_79 : decode cX12_count 79 = .ok (.ireturn, 1) := by decide +kernel
theorem dX12_count_80 : decode cX12_count 80 = .ok (.aload_n 0, 1) := by decide +kernel
theorem dX12_count_81 : decode cX12_count 81 = .ok (.getfield 159, 3) := by decide +kernel
theorem dX12_count_84 : decode cX12_count 84 = .ok (.ireturn, 1) := by decide +kernel
theorem dX12_count_85 : decode cX12_count 85 = .ok (.aload_n 0, 1) := by decide +kernel
theorem dX12_count_86 : decode cX12_count 86 = .ok (.getfield 240, 3) := by decide +kernel
theorem dX12_count_89 : decode cX12_count 89 = .ok (.ireturn, 1) := by decide +kernel
theorem dX12_count_90 : decode cX12_count 90 = .ok (.aload_n 0, 1) := by decide +kernel
theorem dX12_count_91 : decode cX12_count 91 = .ok (.getfield 69, 3) := by decide +kernel
theorem dX12_count_94 : decode cX12_count 94 = .ok (.ireturn, 1) := by decide +kernel
theorem dX12_count_95 : decode cX12_count 95 = .ok (.bipush (-2), 2) := by decide +kernel
theorem dX12_count_97 : decode cX12_count 97 = .ok (.ireturn, 1) := by decide +kernel
theorem dX12_tellsFlight_0 : decode cX12_tellsFlight 0 = .ok (.lload_n 1, 1) := by decide +kernel
theorem dX12_tellsFlight_1 : decode cX12_tellsFlight 1 = .ok (.lstore 4, 2) := by decide +kernel
theorem dX12_tellsFlight_3 : decode cX12_tellsFlight 3 = .ok (.iconst 0, 1) := by decide +kernel
theorem dX12_tellsFlight_4 : decode cX12_tellsFlight 4 = .ok (.istore 6, 2) := by decide +kernel
theorem dX12_tellsFlight_6 : decode cX12_tellsFlight 6 = .ok (.iload 6, 2) := by decide +kernel
theorem dX12_tellsFlight_8 : decode cX12_tellsFlight 8 = .ok (.iconst 3, 1) := by decide +kernel
theorem dX12_tellsFlight_9 : decode cX12_tellsFlight 9 = .ok (.if_icmp .ge 26, 3) := by decide +kernel
theorem dX12_tellsFlight_12 : decode cX12_tellsFlight 12 = .ok (.ldc2_w 294, 3) := by decide +kernel
theorem dX12_tellsFlight_15 : decode cX12_tellsFlight 15 = .ok (.lload 4, 2) := by decide +kernel
theorem dX12_tellsFlight_17 : decode cX12_tellsFlight 17 = .ok (.lmul, 1) := by decide +kernel
theorem dX12_tellsFlight_18 : decode cX12_tellsFlight 18 = .ok (.aload_n 0, 1) := by decide +kernel
theorem dX12_tellsFlight_19 : decode cX12_tellsFlight 19 = .ok (.iload_n 3, 1) := by decide +kernel
theorem dX12_tellsFlight_20 : decode cX12_tellsFlight 20 = .ok (.iload 6, 2) := by decide +kernel
theorem dX12_tellsFlight_22 : decode cX12_tellsFlight 22 = .ok (.invokevirtual 215, 3) := by decide +kernel
theorem dX12_tellsFlight_25 : decode cX12_tellsFlight 25 = .ok (.i2l, 1) := by decide +kernel
theorem dX12_tellsFlight_26 : decode cX12_tellsFlight 26 = .ok (.ladd, 1) := by decide +kernel
theorem dX12_tellsFlight_27 : decode cX12_tellsFlight 27 = .ok (.lstore 4, 2) := by decide +kernel
theorem dX12_tellsFlight_29 : decode cX12_tellsFlight 29 = .ok (.iinc 6 1, 3) := by decide +kernel
theorem dX12_tellsFlight_32 : decode cX12_tellsFlight 32 = .ok (.goto (-26), 3) := by decide +kernel
theorem dX12_tellsFlight_35 : decode cX12_tellsFlight 35 = .ok (.iconst 0, 1) := by decide +kernel
theorem dX12_tellsFlight_36 : decode cX12_tellsFlight 36 = .ok (.istore 6, 2) := by decide +kernel
theorem dX12_tellsFlight_38 : decode cX12_tellsFlight 38 = .ok (.iload 6, 2) := by decide +kernel
theorem dX12_tellsFlight_40 : decode cX12_tellsFlight 40 = .ok (.iconst 4, 1) := by decide +kernel
theorem dX12_tellsFlight_41 : decode cX12_tellsFlight 41 = .ok (.if_icmp .ge 27, 3) := by decide +kernel
theorem dX12_tellsFlight_44 : decode cX12_tellsFlight 44 = .ok (.ldc2_w 294, 3) := by decide +kernel
theorem dX12_tellsFlight_47 : decode cX12_tellsFlight 47 = .ok (.lload 4, 2) := by decide +kernel
theorem dX12_tellsFlight_49 : decode cX12_tellsFlight 49 = .ok (.lmul, 1) := by decide +kernel
theorem dX12_tellsFlight_50 : decode cX12_tellsFlight 50 = .ok (.aload_n 0, 1) := by decide +kernel
theorem dX12_tellsFlight_51 : decode cX12_tellsFlight 51 = .ok (.iload_n 3, 1) := by decide +kernel
theorem dX12_tellsFlight_52 : decode cX12_tellsFlight 52 = .ok (.iconst 3, 1) := by decide +kernel
theorem dX12_tellsFlight_53 : decode cX12_tellsFlight 53 = .ok (.iload 6, 2) := by decide +kernel
theorem dX12_tellsFlight_55 : decode cX12_tellsFlight 55 = .ok (.invokevirtual 296, 3) := by decide +kernel
theorem dX12_tellsFlight_58 : decode cX12_tellsFlight 58 = .ok (.i2l, 1) := by decide +kernel
theorem dX12_tellsFlight_59 : decode cX12_tellsFlight 59 = .ok (.ladd, 1) := by decide +kernel
theorem dX12_tellsFlight_60 : decode cX12_tellsFlight 60 = .ok (.lstore 4, 2) := by decide +kernel
theorem dX12_tellsFlight_62 : decode cX12_tellsFlight 62 = .ok (.iinc 6 1, 3) := by decide +kernel
theorem dX12_tellsFlight_65 : decode cX12_tellsFlight 65 = .ok (.goto (-27), 3) := by decide +kernel
theorem dX12_tellsFlight_68 : decode cX12_tellsFlight 68 = .ok (.iconst (-1), 1) := by decide +kernel
theorem dX12_tellsFlight_69 : decode cX12_tellsFlight 69 = .ok (.istore 6, 2) := by decide +kernel
theorem dX12_tellsFlight_71 : decode cX12_tellsFlight 71 = .ok (.iload 6, 2) := by decide +kernel
theorem dX12_tellsFlight_73 : decode cX12_tellsFlight 73 = .ok (.iconst 3, 1) := by decide +kernel
theorem dX12_tellsFlight_74 : decode cX12_tellsFlight 74 = .ok (.if_icmp .ge 26, 3) := by decide +kernel
theorem dX12_tellsFlight_77 : decode cX12_tellsFlight 77 = .ok (.ldc2_w 294, 3) := by decide +kernel
theorem dX12_tellsFlight_80 : decode cX12_tellsFlight 80 = .ok (.lload 4, 2) := by decide +kernel
theorem dX12_tellsFlight_82 : decode cX12_tellsFlight 82 = .ok (.lmul, 1) := by decide +kernel
theorem dX12_tellsFlight_83 : decode cX12_tellsFlight 83 = .ok (.aload_n 0, 1) := by decide +kernel
theorem dX12_tellsFlight_84 : decode cX12_tellsFlight 84 = .ok (.iload_n 3, 1) := by decide +kernel
theorem dX12_tellsFlight_85 : decode cX12_tellsFlight 85 = .ok (.iload 6, 2) := by decide +kernel
theorem dX12_tellsFlight_87 : decode cX12_tellsFlight 87 = .ok (.invokevirtual 226, 3) := by decide +kernel
theorem dX12_tellsFlight_90 : decode cX12_tellsFlight 90 = .ok (.i2l, 1) := by decide +kernel
theorem dX12_tellsFlight_91 : decode cX12_tellsFlight 91 = .ok (.ladd, 1) := by decide +kernel
theorem dX12_tellsFlight_92 : decode cX12_tellsFlight 92 = .ok (.lstore 4, 2) := by decide +kernel
theorem dX12_tellsFlight_94 : decode cX12_tellsFlight 94 = .ok (.iinc 6 1, 3) := by decide +kernel
theorem dX12_tellsFlight_97 : decode cX12_tellsFlight 97 = .ok (.goto (-26), 3) := by decide +kernel
theorem dX12_tellsFlight_100 : decode cX12_tellsFlight 100 = .ok (.ldc2_w 294, 3) := by decide +kernel
theorem dX12_tellsFlight_103 : decode cX12_tellsFlight 103 = .ok (.lload 4, 2) := by decide +kernel
theorem dX12_tellsFlight_105 : decode cX12_tellsFlight 105 = .ok (.lmul, 1) := by decide +kernel
theorem dX12_tellsFlight_106 : decode cX12_tellsFlight 106 = .ok (.aload_n 0, 1) := by decide +kernel
theorem dX12_tellsFlight_107 : decode cX12_tellsFlight 107 = .ok (.iload_n 3, 1) := by decide +kernel
theorem dX12_tellsFlight_108 : decode cX12_tellsFlight 108 = .ok (.iconst 0, 1) := by decide +kernel
theorem dX12_tellsFlight_109 : decode cX12_tellsFlight 109 = .ok (.invokevirtual 232, 3) := by decide +kernel
theorem dX12_tellsFlight_112 : decode cX12_tellsFlight 112 = .ok (.i2l, 1) := by decide +kernel
theorem dX12_tellsFlight_113 : decode cX12_tellsFlight 113 = .ok (.ladd, 1) := by decide +kernel
theorem dX12_tellsFlight_114 : decode cX12_tellsFlight 114 = .ok (.lstore 4, 2) := by decide +kernel
theorem dX12_tellsFlight_116 : decode cX12_tellsFlight 116 = .ok (.ldc2_w 294, 3) := by decide +kernel
theorem dX12_tellsFlight_119 : decode cX12_tellsFlight 119 = .ok (.lload 4, 2) := by decide +kernel
theorem dX12_tellsFlight_121 : decode cX12_tellsFlight 121 = .ok (.lmul, 1) := by decide +kernel
theorem dX12_tellsFlight_122 : decode cX12_tellsFlight 122 = .ok (.aload_n 0, 1) := by decide +kernel
theorem dX12_tellsFlight_123 : decode cX12_tellsFlight 123 = .ok (.iload_n 3, 1) := by decide +kernel
theorem dX12_tellsFlight_124 : decode cX12_tellsFlight 124 = .ok (.iconst 1, 1) := by decide +kernel
theorem dX12_tellsFlight_125 : decode cX12_tellsFlight 125 = .ok (.invokevirtual 232, 3) := by decide +kernel
theorem dX12_tellsFlight_128 : decode cX12_tellsFlight 128 = .ok (.i2l, 1) := by decide +kernel
theorem dX12_tellsFlight_129 : decode cX12_tellsFlight 129 = .ok (.ladd, 1) := by decide +kernel
theorem dX12_tellsFlight_130 : decode cX12_tellsFlight 130 = .ok (.lstore 4, 2) := by decide +kernel
theorem dX12_tellsFlight_132 : decode cX12_tellsFlight 132 = .ok (.ldc2_w 294, 3) := by decide +kernel
theorem dX12_tellsFlight_135 : decode cX12_tellsFlight 135 = .ok (.lload 4, 2) := by decide +kernel
theorem dX12_tellsFlight_137 : decode cX12_tellsFlight 137 = .ok (.lmul, 1) := by decide +kernel
theorem dX12_tellsFlight_138 : decode cX12_tellsFlight 138 = .ok (.aload_n 0, 1) := by decide +kernel
theorem dX12_tellsFlight_139 : decode cX12_tellsFlight 139 = .ok (.iload_n 3, 1) := by decide +kernel
theorem dX12_tellsFlight_140 : decode cX12_tellsFlight 140 = .ok (.iconst 0, 1) := by decide +kernel
theorem dX12_tellsFlight_141 : decode cX12_tellsFlight 141 = .ok (.invokevirtual 235, 3) := by decide +kernel
theorem dX12_tellsFlight_144 : decode cX12_tellsFlight 144 = .ok (.i2l, 1) := by decide +kernel
theorem dX12_tellsFlight_145 : decode cX12_tellsFlight 145 = .ok (.ladd, 1) := by decide +kernel
theorem dX12_tellsFlight_146 : decode cX12_tellsFlight 146 = .ok (.lstore 4, 2) := by decide +kernel
theorem dX12_tellsFlight_148 : decode cX12_tellsFlight 148 = .ok (.ldc2_w 294, 3) := by decide +kernel
theorem dX12_tellsFlight_151 : decode cX12_tellsFlight 151 = .ok (.lload 4, 2) := by decide +kernel
theorem dX12_tellsFlight_153 : decode cX12_tellsFlight 153 = .ok (.lmul, 1) := by decide +kernel
theorem dX12_tellsFlight_154 : decode cX12_tellsFlight 154 = .ok (.aload_n 0, 1) := by decide +kernel
theorem dX12_tellsFlight_155 : decode cX12_tellsFlight 155 = .ok (.iload_n 3, 1) := by decide +kernel
theorem dX12_tellsFlight_156 : decode cX12_tellsFlight 156 = .ok (.iconst 1, 1) := by decide +kernel
theorem dX12_tellsFlight_157 : decode cX12_tellsFlight 157 = .ok (.invokevirtual 235, 3) := by decide +kernel
theorem dX12_tellsFlight_160 : decode cX12_tellsFlight 160 = .ok (.i2l, 1) := by decide +kernel
theorem dX12_tellsFlight_161 : decode cX12_tellsFlight 161 = .ok (.ladd, 1) := by decide +kernel
theorem dX12_tellsFlight_162 : decode cX12_tellsFlight 162 = .ok (.lstore 4, 2) := by decide +kernel
theorem dX12_tellsFlight_164 : decode cX12_tellsFlight 164 = .ok (.ldc2_w 294, 3) := by decide +kernel
theorem dX12_tellsFlight_167 : decode cX12_tellsFlight 167 = .ok (.lload 4, 2) := by decide +kernel
theorem dX12_tellsFlight_169 : decode cX12_tellsFlight 169 = .ok (.lmul, 1) := by decide +kernel
theorem dX12_tellsFlight_170 : decode cX12_tellsFlight 170 = .ok (.aload_n 0, 1) := by decide +kernel
theorem dX12_tellsFlight_171 : decode cX12_tellsFlight 171 = .ok (.iload_n 3, 1) := by decide +kernel
theorem dX12_tellsFlight_172 : decode cX12_tellsFlight 172 = .ok (.invokevirtual 250, 3) := by decide +kernel
theorem dX12_tellsFlight_175 : decode cX12_tellsFlight 175 = .ok (.i2l, 1) := by decide +kernel
theorem dX12_tellsFlight_176 : decode cX12_tellsFlight 176 = .ok (.ladd, 1) := by decide +kernel
theorem dX12_tellsFlight_177 : decode cX12_tellsFlight 177 = .ok (.lstore 4, 2) := by decide +kernel
theorem dX12_tellsFlight_179 : decode cX12_tellsFlight 179 = .ok (.ldc2_w 294, 3) := by decide +kernel
theorem dX12_tellsFlight_182 : decode cX12_tellsFlight 182 = .ok (.lload 4, 2) := by decide +kernel
theorem dX12_tellsFlight_184 : decode cX12_tellsFlight 184 = .ok (.lmul, 1) := by decide +kernel
theorem dX12_tellsFlight_185 : decode cX12_tellsFlight 185 = .ok (.aload_n 0, 1) := by decide +kernel
theorem dX12_tellsFlight_186 : decode cX12_tellsFlight 186 = .ok (.iconst 5, 1) := by decide +kernel
theorem dX12_tellsFlight_187 : decode cX12_tellsFlight 187 = .ok (.iload_n 3, 1) := by decide +kernel
theorem dX12_tellsFlight_188 : decode cX12_tellsFlight 188 = .ok (.iconst 0, 1) := by decide +kernel
theorem dX12_tellsFlight_189 : decode cX12_tellsFlight 189 = .ok (.invokevirtual 299, 3) := by decide +kernel
