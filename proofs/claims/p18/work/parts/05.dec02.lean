theorem dX10_comesTo_5 : decode cX10_comesTo 5 = .ok (.iconst 0, 1) := by decide +kernel
theorem dX10_comesTo_6 : decode cX10_comesTo 6 = .ok (.aload_n 0, 1) := by decide +kernel
theorem dX10_comesTo_7 : decode cX10_comesTo 7 = .ok (.getfield 27, 3) := by decide +kernel
theorem dX10_comesTo_10 : decode cX10_comesTo 10 = .ok (.getfield 78, 3) := by decide +kernel
theorem dX10_comesTo_13 : decode cX10_comesTo 13 = .ok (.iload_n 1, 1) := by decide +kernel
theorem dX10_comesTo_14 : decode cX10_comesTo 14 = .ok (.invokevirtual 113, 3) := by decide +kernel
theorem dX10_comesTo_17 : decode cX10_comesTo 17 = .ok (.ireturn, 1) := by decide +kernel
theorem dX10_goOn_0 : decode cX10_goOn 0 = .ok (.iconst 0, 1) := by decide +kernel
theorem dX10_goOn_1 : decode cX10_goOn 1 = .ok (.iload_n 3, 1) := by decide +kernel
theorem dX10_goOn_2 : decode cX10_goOn 2 = .ok (.iconst 5, 1) := by decide +kernel
theorem dX10_goOn_3 : decode cX10_goOn 3 = .ok (.isub, 1) := by decide +kernel
theorem dX10_goOn_4 : decode cX10_goOn 4 = .ok (.invokestatic 117, 3) := by decide +kernel
theorem dX10_goOn_7 : decode cX10_goOn 7 = .ok (.istore 4, 2) := by decide +kernel
theorem dX10_goOn_9 : decode cX10_goOn 9 = .ok (.iload_n 1, 1) := by decide +kernel
theorem dX10_goOn_10 : decode cX10_goOn 10 = .ok (.istore 5, 2) := by decide +kernel
theorem dX10_goOn_12 : decode cX10_goOn 12 = .ok (.iload 5, 2) := by decide +kernel
theorem dX10_goOn_14 : decode cX10_goOn 14 = .ok (.iload_n 2, 1) := by decide +kernel
theorem dX10_goOn_15 : decode cX10_goOn 15 = .ok (.if_icmp .ge 124, 3) := by decide +kernel
theorem dX10_goOn_18 : decode cX10_goOn 18 = .ok (.iload 5, 2) := by decide +kernel
theorem dX10_goOn_20 : decode cX10_goOn 20 = .ok (.aload_n 0, 1) := by decide +kernel
theorem dX10_goOn_21 : decode cX10_goOn 21 = .ok (.getfield 52, 3) := by decide +kernel
theorem dX10_goOn_24 : decode cX10_goOn 24 = .ok (.if_icmp .lt 11, 3) := by decide +kernel
theorem dX10_goOn_27 : decode cX10_goOn 27 = .ok (.aload_n 0, 1) := by decide +kernel
theorem dX10_goOn_28 : decode cX10_goOn 28 = .ok (.iconst 1, 1) := by decide +kernel
theorem dX10_goOn_29 : decode cX10_goOn 29 = .ok (.putfield 109, 3) := by decide +kernel
theorem dX10_goOn_32 : decode cX10_goOn 32 = .ok (.iload 5, 2) := by decide +kernel
theorem dX10_goOn_34 : decode cX10_goOn 34 = .ok (.ireturn, 1) := by decide +kernel
theorem dX10_goOn_35 : decode cX10_goOn 35 = .ok (.aload_n 0, 1) := by decide +kernel
theorem dX10_goOn_36 : decode cX10_goOn 36 = .ok (.dup, 1) := by decide +kernel
theorem dX10_goOn_37 : decode cX10_goOn 37 = .ok (.getfield 106, 3) := by decide +kernel
theorem dX10_goOn_40 : decode cX10_goOn 40 = .ok (.iload 4, 2) := by decide +kernel
theorem dX10_goOn_42 : decode cX10_goOn 42 = .ok (.iadd, 1) := by decide +kernel
theorem dX10_goOn_43 : decode cX10_goOn 43 = .ok (.putfield 106, 3) := by decide +kernel
theorem dX10_goOn_46 : decode cX10_goOn 46 = .ok (.aload_n 0, 1) := by decide +kernel
theorem dX10_goOn_47 : decode cX10_goOn 47 = .ok (.getfield 106, 3) := by decide +kernel
theorem dX10_goOn_50 : decode cX10_goOn 50 = .ok (.bipush 20, 2) := by decide +kernel
theorem dX10_goOn_52 : decode cX10_goOn 52 = .ok (.if_icmp .le 11, 3) := by decide +kernel
theorem dX10_goOn_55 : decode cX10_goOn 55 = .ok (.aload_n 0, 1) := by decide +kernel
theorem dX10_goOn_56 : decode cX10_goOn 56 = .ok (.iconst 2, 1) := by decide +kernel
theorem dX10_goOn_57 : decode cX10_goOn 57 = .ok (.putfield 109, 3) := by decide +kernel
theorem dX10_goOn_60 : decode cX10_goOn 60 = .ok (.iload 5, 2) := by decide +kernel
theorem dX10_goOn_62 : decode cX10_goOn 62 = .ok (.ireturn, 1) := by decide +kernel
theorem dX10_goOn_63 : decode cX10_goOn 63 = .ok (.aload_n 0, 1) := by decide +kernel
theorem dX10_goOn_64 : decode cX10_goOn 64 = .ok (.getfield 27, 3) := by decide +kernel
theorem dX10_goOn_67 : decode cX10_goOn 67 = .ok (.iload 5, 2) := by decide +kernel
theorem dX10_goOn_69 : decode cX10_goOn 69 = .ok (.invokevirtual 90, 3) := by decide +kernel
theorem dX10_goOn_72 : decode cX10_goOn 72 = .ok (.istore 6, 2) := by decide +kernel
theorem dX10_goOn_74 : decode cX10_goOn 74 = .ok (.iload 6, 2) := by decide +kernel
theorem dX10_goOn_76 : decode cX10_goOn 76 = .ok (.bipush 6, 2) := by decide +kernel
theorem dX10_goOn_78 : decode cX10_goOn 78 = .ok (.if_icmp .ge 38, 3) := by decide +kernel
theorem dX10_goOn_81 : decode cX10_goOn 81 = .ok (.aload_n 0, 1) := by decide +kernel
theorem dX10_goOn_82 : decode cX10_goOn 82 = .ok (.dup, 1) := by decide +kernel
theorem dX10_goOn_83 : decode cX10_goOn 83 = .ok (.getfield 103, 3) := by decide +kernel
theorem dX10_goOn_86 : decode cX10_goOn 86 = .ok (.aload_n 0, 1) := by decide +kernel
theorem dX10_goOn_87 : decode cX10_goOn 87 = .ok (.iload 6, 2) := by decide +kernel
theorem dX10_goOn_89 : decode cX10_goOn 89 = .ok (.iload_n 3, 1) := by decide +kernel
theorem dX10_goOn_90 : decode cX10_goOn 90 = .ok (.invokevirtual 122, 3) := by decide +kernel
theorem dX10_goOn_93 : decode cX10_goOn 93 = .ok (.iadd, 1) := by decide +kernel
theorem dX10_goOn_94 : decode cX10_goOn 94 = .ok (.putfield 103, 3) := by decide +kernel
theorem dX10_goOn_97 : decode cX10_goOn 97 = .ok (.aload_n 0, 1) := by decide +kernel
theorem dX10_goOn_98 : decode cX10_goOn 98 = .ok (.getfield 103, 3) := by decide +kernel
theorem dX10_goOn_101 : decode cX10_goOn 101 = .ok (.aload_n 0, 1) := by decide +kernel
theorem dX10_goOn_102 : decode cX10_goOn 102 = .ok (.getfield 66, 3) := by decide +kernel
theorem dX10_goOn_105 : decode cX10_goOn 105 = .ok (.if_icmp .le 28, 3) := by decide +kernel
theorem dX10_goOn_108 : decode cX10_goOn 108 = .ok (.aload_n 0, 1) := by decide +kernel
theorem dX10_goOn_109 : decode cX10_goOn 109 = .ok (.iconst 3, 1) := by decide +kernel
theorem dX10_goOn_110 : decode cX10_goOn 110 = .ok (.putfield 109, 3) := by decide +kernel
theorem dX10_goOn_113 : decode cX10_goOn 113 = .ok (.iload 5, 2) := by decide +kernel
theorem dX10_goOn_115 : decode cX10_goOn 115 = .ok (.ireturn, 1) := by decide +kernel
theorem dX10_goOn_116 : decode cX10_goOn 116 = .ok (.iload 6, 2) := by decide +kernel
theorem dX10_goOn_118 : decode cX10_goOn 118 = .ok (.bipush 7, 2) := by decide +kernel
theorem dX10_goOn_120 : decode cX10_goOn 120 = .ok (.if_icmp .ne 13, 3) := by decide +kernel
theorem dX10_goOn_123 : decode cX10_goOn 123 = .ok (.aload_n 0, 1) := by decide +kernel
theorem dX10_goOn_124 : decode cX10_goOn 124 = .ok (.iconst 0, 1) := by decide +kernel
theorem dX10_goOn_125 : decode cX10_goOn 125 = .ok (.putfield 103, 3) := by decide +kernel
theorem dX10_goOn_128 : decode cX10_goOn 128 = .ok (.aload_n 0, 1) := by decide +kernel
theorem dX10_goOn_129 : decode cX10_goOn 129 = .ok (.iconst 0, 1) := by decide +kernel
theorem dX10_goOn_130 : decode cX10_goOn 130 = .ok (.putfield 106, 3) := by decide +kernel
theorem dX10_goOn_133 : decode cX10_goOn 133 = .ok (.iinc 5 1, 3) := by decide +kernel
theorem dX10_goOn_136 : decode cX10_goOn 136 = .ok (.goto (-124), 3) := by decide +kernel
theorem dX10_goOn_139 : decode cX10_goOn 139 = .ok (.iload_n 2, 1) := by decide +kernel
theorem dX10_goOn_140 : decode cX10_goOn 140 = .ok (.ireturn, 1) := by decide +kernel
theorem dX10_insult_0 : decode cX10_insult 0 = .ok (.aload_n 0, 1) := by decide +kernel
theorem dX10_insult_1 : decode cX10_insult 1 = .ok (.getfield 125, 3) := by decide +kernel
theorem dX10_insult_4 : decode cX10_insult 4 = .ok (.iload_n 1, 1) := by decide +kernel
theorem dX10_insult_5 : decode cX10_insult 5 = .ok (.ishr, 1) := by decide +kernel
theorem dX10_insult_6 : decode cX10_insult 6 = .ok (.iconst 1, 1) := by decide +kernel
theorem dX10_insult_7 : decode cX10_insult 7 = .ok (.iand, 1) := by decide +kernel
theorem dX10_insult_8 : decode cX10_insult 8 = .ok (.iconst 1, 1) := by decide +kernel
theorem dX10_insult_9 : decode cX10_insult 9 = .ok (.if_icmp .eq 25, 3) := by decide +kernel
theorem dX10_insult_12 : decode cX10_insult 12 = .ok (.aload_n 0, 1) := by decide +kernel
theorem dX10_insult_13 : decode cX10_insult 13 = .ok (.getfield 60, 3) := by decide +kernel
theorem dX10_insult_16 : decode cX10_insult 16 = .ok (.iconst 1, 1) := by decide +kernel
theorem dX10_insult_17 : decode cX10_insult 17 = .ok (.if_icmp .eq 17, 3) := by decide +kernel
theorem dX10_insult_20 : decode cX10_insult 20 = .ok (.aload_n 0, 1) := by decide +kernel
theorem dX10_insult_21 : decode cX10_insult 21 = .ok (.getfield 60, 3) := by decide +kernel
theorem dX10_insult_24 : decode cX10_insult 24 = .ok (.iconst 3, 1) := by decide +kernel
theorem dX10_insult_25 : decode cX10_insult 25 = .ok (.if_icmp .ne 11, 3) := by decide +kernel
theorem dX10_insult_28 : decode cX10_insult 28 = .ok (.iload_n 2, 1) := by decide +kernel
theorem dX10_insult_29 : decode cX10_insult 29 = .ok (.bipush 7, 2) := by decide +kernel
theorem dX10_insult_31 : decode cX10_insult 31 = .ok (.if_icmp .lt 5, 3) := by decide +kernel
theorem dX10_insult_34 : decode cX10_insult 34 = .ok (.iconst 0, 1) := by decide +kernel
theorem dX10_insult_35 : decode cX10_insult 35 = .ok (.ireturn, 1) := by decide +kernel
theorem dX10_insult_36 : decode cX10_insult 36 = .ok (.iload_n 1, 1) := by decide +kernel
theorem dX10_insult_37 : decode cX10_insult 37 = .ok (.aload_n 0, 1) := by decide +kernel
theorem dX10_insult_38 : decode cX10_insult 38 = .ok (.getfield 63, 3) := by decide +kernel
theorem dX10_insult_41 : decode cX10_insult 41 = .ok (.if_icmp .ne 12, 3) := by decide +kernel
theorem dX10_insult_44 : decode cX10_insult 44 = .ok (.iconst 2, 1) := by decide +kernel
theorem dX10_insult_45 : decode cX10_insult 45 = .ok (.bipush 10, 2) := by decide +kernel
theorem dX10_insult_47 : decode cX10_insult 47 = .ok (.iload_n 2, 1) := by decide +kernel
theorem dX10_insult_48 : decode cX10_insult 48 = .ok (.isub, 1) := by decide +kernel
theorem dX10_insult_49 : decode cX10_insult 49 = .ok (.imul, 1) := by decide +kernel
theorem dX10_insult_50 : decode cX10_insult 50 = .ok (.goto 7, 3) := by decide +kernel
theorem dX10_insult_53 : decode cX10_insult 53 = .ok (.bipush 10, 2) := by decide +kernel
theorem dX10_insult_55 : decode cX10_insult 55 = .ok (.iload_n 2, 1) := by decide +kernel
theorem dX10_insult_56 : decode cX10_insult 56 = .ok (.isub, 1) := by decide +kernel
theorem dX10_insult_57 : decode cX10_insult 57 = .ok (.istore_n 3, 1) := by decide +kernel
theorem dX10_insult_58 : decode cX10_insult 58 = .ok (.aload_n 0, 1) := by decide +kernel
theorem dX10_insult_59 : decode cX10_insult 59 = .ok (.getfield 60, 3) := by decide +kernel
theorem dX10_insult_62 : decode cX10_insult 62 = .ok (.iconst 2, 1) := by decide +kernel
theorem dX10_insult_63 : decode cX10_insult 63 = .ok (.if_icmp .ne 9, 3) := by decide +kernel
theorem dX10_insult_66 : decode cX10_insult 66 = .ok (.iload_n 3, 1) := by decide +kernel
theorem dX10_insult_67 : decode cX10_insult 67 = .ok (.iconst 1, 1) := by decide +kernel
theorem dX10_insult_68 : decode cX10_insult 68 = .ok (.iadd, 1) := by decide +kernel
theorem dX10_insult_69 : decode cX10_insult 69 = .ok (.goto 4, 3) := by decide +kernel
theorem dX10_insult_72 : decode cX10_insult 72 = .ok (.iload_n 3, 1) := by decide +kernel
theorem dX10_insult_73 : decode cX10_insult 73 = .ok (.ireturn, 1) := by decide +kernel
theorem dX11_init_0 : decode cX11_init 0 = .ok (.aload_n 0, 1) := by decide +kernel
theorem dX11_init_1 : decode cX11_init 1 = .ok (.invokespecial 1, 3) := by decide +kernel
theorem dX11_init_4 : decode cX11_init 4 = .ok (.aload_n 0, 1) := by decide +kernel
theorem dX11_init_5 : decode cX11_init 5 = .ok (.new 7, 3) := by decide +kernel
theorem dX11_init_8 : decode cX11_init 8 = .ok (.dup, 1) := by decide +kernel
theorem dX11_init_9 : decode cX11_init 9 = .ok (.invokespecial 9, 3) := by decide +kernel
theorem dX11_init_12 : decode cX11_init 12 = .ok (.putfield 10, 3) := by decide +kernel
theorem dX11_init_15 : decode cX11_init 15 = .ok (.aload_n 0, 1) := by decide +kernel
theorem dX11_init_16 : decode cX11_init 16 = .ok (.new 16, 3) := by decide +kernel
theorem dX11_init_19 : decode cX11_init 19 = .ok (.dup, 1) := by decide +kernel
theorem dX11_init_20 : decode cX11_init 20 = .ok (.invokespecial 18, 3) := by decide +kernel
theorem dX11_init_23 : decode cX11_init 23 = .ok (.putfield 19, 3) := by decide +kernel
theorem dX11_init_26 : decode cX11_init 26 = .ok (.aload_n 0, 1) := by decide +kernel
theorem dX11_init_27 : decode cX11_init 27 = .ok (.new 23, 3) := by decide +kernel
theorem dX11_init_30 : decode cX11_init 30 = .ok (.dup, 1) := by decide +kernel
theorem dX11_init_31 : decode cX11_init 31 = .ok (.invokespecial 25, 3) := by decide +kernel
theorem dX11_init_34 : decode cX11_init 34 = .ok (.putfield 26, 3) := by decide +kernel
theorem dX11_init_37 : decode cX11_init 37 = .ok (.aload_n 0, 1) := by decide +kernel
theorem dX11_init_38 : decode cX11_init 38 = .ok (.new 30, 3) := by decide +kernel
theorem dX11_init_41 : decode cX11_init 41 = .ok (.dup, 1) := by decide +kernel
theorem dX11_init_42 : decode cX11_init 42 = .ok (.invokespecial 32, 3) := by decide +kernel
theorem dX11_init_45 : decode cX11_init 45 = .ok (.putfield 33, 3) := by decide +kernel
theorem dX11_init_48 : decode cX11_init 48 = .ok (.aload_n 0, 1) := by decide +kernel
theorem dX11_init_49 : decode cX11_init 49 = .ok (.new 37, 3) := by decide +kernel
theorem dX11_init_52 : decode cX11_init 52 = .ok (.dup, 1) := by decide +kernel
theorem dX11_init_53 : decode cX11_init 53 = .ok (.aload_n 0, 1) := by decide +kernel
theorem dX11_init_54 : decode cX11_init 54 = .ok (.getfield 10, 3) := by decide +kernel
theorem dX11_init_57 : decode cX11_init 57 = .ok (.aload_n 0, 1) := by decide +kernel
theorem dX11_init_58 : decode cX11_init 58 = .ok (.getfield 19, 3) := by decide +kernel
theorem dX11_init_61 : decode cX11_init 61 = .ok (.aload_n 0, 1) := by decide +kernel
theorem dX11_init_62 : decode cX11_init 62 = .ok (.getfield 26, 3) := by decide +kernel
theorem dX11_init_65 : decode cX11_init 65 = .ok (.invokespecial 39, 3) := by decide +kernel
theorem dX11_init_68 : decode cX11_init 68 = .ok (.putfield 42, 3) := by decide +kernel
theorem dX11_init_71 : decode cX11_init 71 = .ok (.aload_n 0, 1) := by decide +kernel
theorem dX11_init_72 : decode cX11_init 72 = .ok (.new 46, 3) := by decide +kernel
theorem dX11_init_75 : decode cX11_init 75 = .ok (.dup, 1) := by decide +kernel
theorem dX11_init_76 : decode cX11_init 76 = .ok (.invokespecial 48, 3) := by decide +kernel
theorem dX11_init_79 : decode cX11_init 79 = .ok (.putfield 49, 3) := by decide +kernel
theorem dX11_init_82 : decode cX11_init 82 = .ok (.aload_n 0, 1) := by decide +kernel
theorem dX11_init_83 : decode cX11_init 83 = .ok (.new 53, 3) := by decide +kernel
theorem dX11_init_86 : decode cX11_init 86 = .ok (.dup, 1) := by decide +kernel
theorem dX11_init_87 : decode cX11_init 87 = .ok (.invokespecial 55, 3) := by decide +kernel
theorem dX11_init_90 : decode cX11_init 90 = .ok (.putfield 56, 3) := by decide +kernel
theorem dX11_init_93 : decode cX11_init 93 = .ok (.aload_n 0, 1) := by decide +kernel
theorem dX11_init_94 : decode cX11_init 94 = .ok (.new 60, 3) := by decide +kernel
theorem dX11_init_97 : decode cX11_init 97 = .ok (.dup, 1) := by decide +kernel
theorem dX11_init_98 : decode cX11_init 98 = .ok (.invokespecial 62, 3) := by decide +kernel
theorem dX11_init_101 : decode cX11_init 101 = .ok (.putfield 63, 3) := by decide +kernel
theorem dX11_init_104 : decode cX11_init 104 = .ok (.aload_n 0, 1) := by decide +kernel
theorem dX11_init_105 : decode cX11_init 105 = .ok (.bipush 8, 2) := by decide +kernel
theorem dX11_init_107 : decode cX11_init 107 = .ok (.newarray .int, 2) := by decide +kernel
theorem dX11_init_109 : decode cX11_init 109 = .ok (.putfield 67, 3) := by decide +kernel
theorem dX11_init_112 : decode cX11_init 112 = .ok (.aload_n 0, 1) := by decide +kernel
theorem dX11_init_113 : decode cX11_init 113 = .ok (.bipush 8, 2) := by decide +kernel
theorem dX11_init_115 : decode cX11_init 115 = .ok (.newarray .int, 2) := by decide +kernel
theorem dX11_init_117 : decode cX11_init 117 = .ok (.putfield 71, 3) := by decide +kernel
theorem dX11_init_120 : decode cX11_init 120 = .ok (.aload_n 0, 1) := by decide +kernel
theorem dX11_init_121 : decode cX11_init 121 = .ok (.bipush 25, 2) := by decide +kernel
theorem dX11_init_123 : decode cX11_init 123 = .ok (.newarray .int, 2) := by decide +kernel
theorem dX11_init_125 : decode cX11_init 125 = .ok (.putfield 74, 3) := by decide +kernel
theorem dX11_init_128 : decode cX11_init 128 = .ok (.aload_n 0, 1) := by decide +kernel
theorem dX11_init_129 : decode cX11_init 129 = .ok (.iconst 4, 1) := by decide +kernel
theorem dX11_init_130 : decode cX11_init 130 = .ok (.anewarray 77, 3) := by decide +kernel
theorem dX11_init_133 : decode cX11_init 133 = .ok (.putfield 79, 3) := by decide +kernel
theorem dX11_init_136 : decode cX11_init 136 = .ok (.iconst 0, 1) := by decide +kernel
theorem dX11_init_137 : decode cX11_init 137 = .ok (.istore_n 1, 1) := by decide +kernel
theorem dX11_init_138 : decode cX11_init 138 = .ok (.iload_n 1, 1) := by decide +kernel
theorem dX11_init_139 : decode cX11_init 139 = .ok (.iconst 4, 1) := by decide +kernel
theorem dX11_init_140 : decode cX11_init 140 = .ok (.if_icmp .ge 22, 3) := by decide +kernel
theorem dX11_init_143 : decode cX11_init 143 = .ok (.aload_n 0, 1) := by decide +kernel
theorem dX11_init_144 : decode cX11_init 144 = .ok (.getfield 79, 3) := by decide +kernel
theorem dX11_init_147 : decode cX11_init 147 = .ok (.iload_n 1, 1) := by decide +kernel
theorem dX11_init_148 : decode cX11_init 148 = .ok (.new 77, 3) := by decide +kernel
theorem dX11_init_151 : decode cX11_init 151 = .ok (.dup, 1) := by decide +kernel
theorem dX11_init_152 : decode cX11_init 152 = .ok (.invokespecial 83, 3) := by decide +kernel
theorem dX11_init_155 : decode cX11_init 155 = .ok (.aastore, 1) := by decide +kernel
theorem dX11_init_156 : decode cX11_init 156 = .ok (.iinc 1 1, 3) := by decide +kernel
theorem dX11_init_159 : decode cX11_init 159 = .ok (.goto (-21), 3) := by decide +kernel
theorem dX11_init_162 : decode cX11_init 162 = .ok (.return_, 1) := by decide +kernel
theorem dX11_type_0 : decode cX11_type 0 = .ok (.aload_n 0, 1) := by decide +kernel
theorem dX11_type_1 : decode cX11_type 1 = .ok (.iload_n 1, 1) := by decide +kernel
theorem dX11_type_2 : decode cX11_type 2 = .ok (.invokevirtual 84, 3) := by decide +kernel
theorem dX11_type_5 : decode cX11_type 5 = .ok (.astore_n 3, 1) := by decide +kernel
theorem dX11_type_6 : decode cX11_type 6 = .ok (.aload_n 3, 1) := by decide +kernel
theorem dX11_type_7 : decode cX11_type 7 = .ok (.ifnull 14, 3) := by decide +kernel
theorem dX11_type_10 : decode cX11_type 10 = .ok (.iload_n 2, 1) := by decide +kernel
theorem dX11_type_11 : decode cX11_type 11 = .ok (.ifCond .lt 10, 3) := by decide +kernel
theorem dX11_type_14 : decode cX11_type 14 = .ok (.iload_n 2, 1) := by decide +kernel
theorem dX11_type_15 : decode cX11_type 15 = .ok (.sipush 255, 3) := by decide +kernel
theorem dX11_type_18 : decode cX11_type 18 = .ok (.if_icmp .le 6, 3) := by decide +kernel
theorem dX11_type_21 : decode cX11_type 21 = .ok (.bipush (-2), 2) := by decide +kernel
theorem dX11_type_23 : decode cX11_type 23 = .ok (.ireturn, 1) := by decide +kernel
theorem dX11_type_24 : decode cX11_type 24 = .ok (.aload_n 3, 1) := by decide +kernel
theorem dX11_type_25 : decode cX11_type 25 = .ok (.invokevirtual 88, 3) := by decide +kernel
theorem dX11_type_28 : decode cX11_type 28 = .ok (.ifCond .eq 6, 3) := by decide +kernel
theorem dX11_type_31 : decode cX11_type 31 = .ok (.bipush (-4), 2) := by decide +kernel
theorem dX11_type_33 : decode cX11_type 33 = .ok (.ireturn, 1) := by decide +kernel
theorem dX11_type_34 : decode cX11_type 34 = .ok (.aload_n 3, 1) := by decide +kernel
theorem dX11_type_35 : decode cX11_type 35 = .ok (.iload_n 2, 1) := by decide +kernel
theorem dX11_type_36 : decode cX11_type 36 = .ok (.invokevirtual 94, 3) := by decide +kernel
theorem dX11_type_39 : decode cX11_type 39 = .ok (.aload_n 3, 1) := by decide +kernel
theorem dX11_type_40 : decode cX11_type 40 = .ok (.getfield 98, 3) := by decide +kernel
theorem dX11_type_43 : decode cX11_type 43 = .ok (.ireturn, 1) := by decide +kernel
theorem dX11_wipe_0 : decode cX11_wipe 0 = .ok (.aload_n 0, 1) := by decide +kernel
theorem dX11_wipe_1 : decode cX11_wipe 1 = .ok (.iload_n 1, 1) := by decide +kernel
theorem dX11_wipe_2 : decode cX11_wipe 2 = .ok (.invokevirtual 84, 3) := by decide +kernel
theorem dX11_wipe_5 : decode cX11_wipe 5 = .ok (.astore_n 2, 1) := by decide +kernel
theorem dX11_wipe_6 : decode cX11_wipe 6 = .ok (.aload_n 2, 1) := by decide +kernel
theorem dX11_wipe_7 : decode cX11_wipe 7 = .ok (.ifnonnull 6, 3) := by decide +kernel
theorem dX11_wipe_10 : decode cX11_wipe 10 = .ok (.bipush (-2), 2) := by decide +kernel
theorem dX11_wipe_12 : decode cX11_wipe 12 = .ok (.ireturn, 1) := by decide +kernel
theorem dX11_wipe_13 : decode cX11_wipe 13 = .ok (.aload_n 2, 1) := by decide +kernel
theorem dX11_wipe_14 : decode cX11_wipe 14 = .ok (.getfield 98, 3) := by decide +kernel
theorem dX11_wipe_17 : decode cX11_wipe 17 = .ok (.istore_n 3, 1) := by decide +kernel
theorem dX11_wipe_18 : decode cX11_wipe 18 = .ok (.aload_n 2, 1) := by decide +kernel
theorem dX11_wipe_19 : decode cX11_wipe 19 = .ok (.iconst 0, 1) := by decide +kernel
theorem dX11_wipe_20 : decode cX11_wipe 20 = .ok (.invokevirtual 102, 3) := by decide +kernel
theorem dX11_wipe_23 : decode cX11_wipe 23 = .ok (.iload_n 3, 1) := by decide +kernel
theorem dX11_wipe_24 : decode cX11_wipe 24 = .ok (.ireturn, 1) := by decide +kernel
theorem dX11_undo_0 : decode cX11_undo 0 = .ok (.aload_n 0, 1) := by decide +kernel
theorem dX11_undo_1 : decode cX11_undo 1 = .ok (.iload_n 1, 1) := by decide +kernel
theorem dX11_undo_2 : decode cX11_undo 2 = .ok (.invokevirtual 84, 3) := by decide +kernel
theorem dX11_undo_5 : decode cX11_undo 5 = .ok (.astore_n 2, 1) := by decide +kernel
theorem dX11_undo_6 : decode cX11_undo 6 = .ok (.aload_n 2, 1) := by decide +kernel
theorem dX11_undo_7 : decode cX11_undo 7 = .ok (.ifnonnull 6, 3) := by decide +kernel
theorem dX11_undo_10 : decode cX11_undo 10 = .ok (.bipush (-2), 2) := by decide +kernel
theorem dX11_undo_12 : decode cX11_undo 12 = .ok (.ireturn, 1) := by decide +kernel
theorem dX11_undo_13 : decode cX11_undo 13 = .ok (.aload_n 2, 1) := by decide +kernel
theorem dX11_undo_14 : decode cX11_undo 14 = .ok (.getfield 98, 3) := by decide +kernel
theorem dX11_undo_17 : decode cX11_undo 17 = .ok (.ifCond .ne 6, 3) := by decide +kernel
theorem dX11_undo_20 : decode cX11_undo 20 = .ok (.bipush (-3), 2) := by decide +kernel
theorem dX11_undo_22 : decode cX11_undo 22 = .ok (.ireturn, 1) := by decide +kernel
theorem dX11_undo_23 : decode cX11_undo 23 = .ok (.aload_n 2, 1) := by decide +kernel
theorem dX11_undo_24 : decode cX11_undo 24 = .ok (.aload_n 2, 1) := by decide +kernel
theorem dX11_undo_25 : decode cX11_undo 25 = .ok (.getfield 98, 3) := by decide +kernel
theorem dX11_undo_28 : decode cX11_undo 28 = .ok (.iconst 1, 1) := by decide +kernel
theorem dX11_undo_29 : decode cX11_undo 29 = .ok (.isub, 1) := by decide +kernel
theorem dX11_undo_30 : decode cX11_undo 30 = .ok (.invokevirtual 102, 3) := by decide +kernel
theorem dX11_undo_33 : decode cX11_undo 33 = .ok (.aload_n 2, 1) := by decide +kernel
theorem dX11_undo_34 : decode cX11_undo 34 = .ok (.getfield 98, 3) := by decide +kernel
theorem dX11_undo_37 : decode cX11_undo 37 = .ok (.ireturn, 1) := by decide +kernel
theorem dX11_fault_0 : decode cX11_fault 0 = .ok (.aload_n 0, 1) := by decide +kernel
theorem dX11_fault_1 : decode cX11_fault 1 = .ok (.iload_n 1, 1) := by decide +kernel
theorem dX11_fault_2 : decode cX11_fault 2 = .ok (.invokevirtual 84, 3) := by decide +kernel
theorem dX11_fault_5 : decode cX11_fault 5 = .ok (.astore_n 2, 1) := by decide +kernel
theorem dX11_fault_6 : decode cX11_fault 6 = .ok (.aload_n 2, 1) := by decide +kernel
theorem dX11_fault_7 : decode cX11_fault 7 = .ok (.ifnonnull 8, 3) := by decide +kernel
theorem dX11_fault_10 : decode cX11_fault 10 = .ok (.bipush (-2), 2) := by decide +kernel
theorem dX11_fault_12 : decode cX11_fault 12 = .ok (.goto 7, 3) := by decide +kernel
theorem dX11_fault_15 : decode cX11_fault 15 = .ok (.aload_n 2, 1) := by decide +kernel
theorem dX11_fault_16 : decode cX11_fault 16 = .ok (.getfield 105, 3) := by decide +kernel
theorem dX11_fault_19 : decode cX11_fault 19 = .ok (.ireturn, 1) := by decide +kernel
theorem dX11_mile_0 : decode cX11_mile 0 = .ok (.iload_n 1, 1) := by decide +kernel
theorem dX11_mile_1 : decode cX11_mile 1 = .ok (.ifCond .lt 9, 3) := by decide +kernel
theorem dX11_mile_4 : decode cX11_mile 4 = .ok (.iload_n 1, 1) := by decide +kernel
theorem dX11_mile_5 : decode cX11_mile 5 = .ok (.bipush 24, 2) := by decide +kernel
theorem dX11_mile_7 : decode cX11_mile 7 = .ok (.if_icmp .lt 6, 3) := by decide +kernel
theorem dX11_mile_10 : decode cX11_mile 10 = .ok (.bipush (-2), 2) := by decide +kernel
theorem dX11_mile_12 : decode cX11_mile 12 = .ok (.ireturn, 1) := by decide +kernel
theorem dX11_mile_13 : decode cX11_mile 13 = .ok (.iload_n 1, 1) := by decide +kernel
theorem dX11_mile_14 : decode cX11_mile 14 = .ok (.aload_n 0, 1) := by decide +kernel
theorem dX11_mile_15 : decode cX11_mile 15 = .ok (.getfield 10, 3) := by decide +kernel
theorem dX11_mile_18 : decode cX11_mile 18 = .ok (.getfield 108, 3) := by decide +kernel
theorem dX11_mile_21 : decode cX11_mile 21 = .ok (.if_icmp .ge 14, 3) := by decide +kernel
theorem dX11_mile_24 : decode cX11_mile 24 = .ok (.aload_n 0, 1) := by decide +kernel
theorem dX11_mile_25 : decode cX11_mile 25 = .ok (.getfield 10, 3) := by decide +kernel
theorem dX11_mile_28 : decode cX11_mile 28 = .ok (.iload_n 1, 1) := by decide +kernel
theorem dX11_mile_29 : decode cX11_mile 29 = .ok (.invokevirtual 111, 3) := by decide +kernel
theorem dX11_mile_32 : decode cX11_mile 32 = .ok (.goto 4, 3) := by decide +kernel
theorem dX11_mile_35 : decode cX11_mile 35 = .ok (.iconst (-1), 1) := by decide +kernel
theorem dX11_mile_36 : decode cX11_mile 36 = .ok (.ireturn, 1) := by decide +kernel
theorem dX11_passenger_0 : decode cX11_passenger 0 = .ok (.aload_n 0, 1) := by decide +kernel
theorem dX11_passenger_1 : decode cX11_passenger 1 = .ok (.getfield 19, 3) := by decide +kernel
theorem dX11_passenger_4 : decode cX11_passenger 4 = .ok (.iload_n 1, 1) := by decide +kernel
theorem dX11_passenger_5 : decode cX11_passenger 5 = .ok (.invokevirtual 115, 3) := by decide +kernel
theorem dX11_passenger_8 : decode cX11_passenger 8 = .ok (.ifCond .eq 12, 3) := by decide +kernel
theorem dX11_passenger_11 : decode cX11_passenger 11 = .ok (.iload_n 2, 1) := by decide +kernel
theorem dX11_passenger_12 : decode cX11_passenger 12 = .ok (.ifCond .lt 8, 3) := by decide +kernel
theorem dX11_passenger_15 : decode cX11_passenger 15 = .ok (.iload_n 2, 1) := by decide +kernel
theorem dX11_passenger_16 : decode cX11_passenger 16 = .ok (.iconst 3, 1) := by decide +kernel
theorem dX11_passenger_17 : decode cX11_passenger 17 = .ok (.if_icmp .le 6, 3) := by decide +kernel
theorem dX11_passenger_20 : decode cX11_passenger 20 = .ok (.bipush (-2), 2) := by decide +kernel
theorem dX11_passenger_22 : decode cX11_passenger 22 = .ok (.ireturn, 1) := by decide +kernel
theorem dX11_passenger_23 : decode cX11_passenger 23 = .ok (.aload_n 0, 1) := by decide +kernel
theorem dX11_passenger_24 : decode cX11_passenger 24 = .ok (.getfield 19, 3) := by decide +kernel
theorem dX11_passenger_27 : decode cX11_passenger 27 = .ok (.iload_n 1, 1) := by decide +kernel
theorem dX11_passenger_28 : decode cX11_passenger 28 = .ok (.iload_n 2, 1) := by decide +kernel
theorem dX11_passenger_29 : decode cX11_passenger 29 = .ok (.invokevirtual 119, 3) := by decide +kernel
theorem dX11_passenger_32 : decode cX11_passenger 32 = .ok (.ireturn, 1) := by decide +kernel
theorem dX11_goose_0 : decode cX11_goose 0 = .ok (.aload_n 0, 1) := by decide +kernel
theorem dX11_goose_1 : decode cX11_goose 1 = .ok (.getfield 26, 3) := by decide +kernel
theorem dX11_goose_4 : decode cX11_goose 4 = .ok (.iload_n 1, 1) := by decide +kernel
theorem dX11_goose_5 : decode cX11_goose 5 = .ok (.invokevirtual 123, 3) := by decide +kernel
theorem dX11_goose_8 : decode cX11_goose 8 = .ok (.ifCond .eq 12, 3) := by decide +kernel
theorem dX11_goose_11 : decode cX11_goose 11 = .ok (.iload_n 2, 1) := by decide +kernel
theorem dX11_goose_12 : decode cX11_goose 12 = .ok (.ifCond .lt 8, 3) := by decide +kernel
theorem dX11_goose_15 : decode cX11_goose 15 = .ok (.iload_n 2, 1) := by decide +kernel
theorem dX11_goose_16 : decode cX11_goose 16 = .ok (.iconst 1, 1) := by decide +kernel
theorem dX11_goose_17 : decode cX11_goose 17 = .ok (.if_icmp .le 6, 3) := by decide +kernel
theorem dX11_goose_20 : decode cX11_goose 20 = .ok (.bipush (-2), 2) := by decide +kernel
theorem dX11_goose_22 : decode cX11_goose 22 = .ok (.ireturn, 1) := by decide +kernel
theorem dX11_goose_23 : decode cX11_goose 23 = .ok (.aload_n 0, 1) := by decide +kernel
theorem dX11_goose_24 : decode cX11_goose 24 = .ok (.getfield 26, 3) := by decide +kernel
theorem dX11_goose_27 : decode cX11_goose 27 = .ok (.iload_n 1, 1) := by decide +kernel
theorem dX11_goose_28 : decode cX11_goose 28 = .ok (.iload_n 2, 1) := by decide +kernel
theorem dX11_goose_29 : decode cX11_goose 29 = .ok (.invokevirtual 124, 3) := by decide +kernel
theorem dX11_goose_32 : decode cX11_goose 32 = .ok (.ireturn, 1) := by decide +kernel
theorem dX11_flight_0 : decode cX11_flight 0 = .ok (.aload_n 0, 1) := by decide +kernel
theorem dX11_flight_1 : decode cX11_flight 1 = .ok (.getfield 33, 3) := by decide +kernel
theorem dX11_flight_4 : decode cX11_flight 4 = .ok (.iload_n 1, 1) := by decide +kernel
theorem dX11_flight_5 : decode cX11_flight 5 = .ok (.iload_n 2, 1) := by decide +kernel
theorem dX11_flight_6 : decode cX11_flight 6 = .ok (.iload_n 3, 1) := by decide +kernel
theorem dX11_flight_7 : decode cX11_flight 7 = .ok (.iload 4, 2) := by decide +kernel
theorem dX11_flight_9 : decode cX11_flight 9 = .ok (.invokevirtual 125, 3) := by decide +kernel
theorem dX11_flight_12 : decode cX11_flight 12 = .ok (.ireturn, 1) := by decide +kernel
theorem dX11_back_0 : decode cX11_back 0 = .ok (.aload_n 0, 1) := by decide +kernel
theorem dX11_back_1 : decode cX11_back 1 = .ok (.getfield 33, 3) := by decide +kernel
theorem dX11_back_4 : decode cX11_back 4 = .ok (.getfield 128, 3) := by decide +kernel
theorem dX11_back_7 : decode cX11_back 7 = .ok (.ifCond .ne 6, 3) := by decide +kernel
theorem dX11_back_10 : decode cX11_back 10 = .ok (.bipush (-3), 2) := by decide +kernel
theorem dX11_back_12 : decode cX11_back 12 = .ok (.ireturn, 1) := by decide +kernel
theorem dX11_back_13 : decode cX11_back 13 = .ok (.aload_n 0, 1) := by decide +kernel
theorem dX11_back_14 : decode cX11_back 14 = .ok (.getfield 33, 3) := by decide +kernel
theorem dX11_back_17 : decode cX11_back 17 = .ok (.dup, 1) := by decide +kernel
theorem dX11_back_18 : decode cX11_back 18 = .ok (.getfield 128, 3) := by decide +kernel
theorem dX11_back_21 : decode cX11_back 21 = .ok (.iconst 1, 1) := by decide +kernel
theorem dX11_back_22 : decode cX11_back 22 = .ok (.isub, 1) := by decide +kernel
theorem dX11_back_23 : decode cX11_back 23 = .ok (.putfield 128, 3) := by decide +kernel
theorem dX11_back_26 : decode cX11_back 26 = .ok (.aload_n 0, 1) := by decide +kernel
theorem dX11_back_27 : decode cX11_back 27 = .ok (.getfield 33, 3) := by decide +kernel
theorem dX11_back_30 : decode cX11_back 30 = .ok (.getfield 128, 3) := by decide +kernel
theorem dX11_back_33 : decode cX11_back 33 = .ok (.ireturn, 1) := by decide +kernel
theorem dX11_read_0 : decode cX11_read 0 = .ok (.aload_n 0, 1) := by decide +kernel
theorem dX11_read_1 : decode cX11_read 1 = .ok (.iload_n 1, 1) := by decide +kernel
theorem dX11_read_2 : decode cX11_read 2 = .ok (.invokevirtual 129, 3) := by decide +kernel
theorem dX11_read_5 : decode cX11_read 5 = .ok (.astore_n 2, 1) := by decide +kernel
theorem dX11_read_6 : decode cX11_read 6 = .ok (.aload_n 2, 1) := by decide +kernel
theorem dX11_read_7 : decode cX11_read 7 = .ok (.ifnonnull 6, 3) := by decide +kernel
theorem dX11_read_10 : decode cX11_read 10 = .ok (.bipush (-2), 2) := by decide +kernel
theorem dX11_read_12 : decode cX11_read 12 = .ok (.ireturn, 1) := by decide +kernel
theorem dX11_read_13 : decode cX11_read 13 = .ok (.aload_n 2, 1) := by decide +kernel
theorem dX11_read_14 : decode cX11_read 14 = .ok (.getfield 133, 3) := by decide +kernel
theorem dX11_read_17 : decode cX11_read 17 = .ok (.ifCond .eq 9, 3) := by decide +kernel
theorem dX11_read_20 : decode cX11_read 20 = .ok (.aload_n 0, 1) := by decide +kernel
theorem dX11_read_21 : decode cX11_read 21 = .ok (.iconst 1, 1) := by decide +kernel
theorem dX11_read_22 : decode cX11_read 22 = .ok (.invokevirtual 137, 3) := by decide +kernel
theorem dX11_read_25 : decode cX11_read 25 = .ok (.ireturn, 1) := by decide +kernel
theorem dX11_read_26 : decode cX11_read 26 = .ok (.iconst 0, 1) := by decide +kernel
theorem dX11_read_27 : decode cX11_read 27 = .ok (.istore_n 3, 1) := by decide +kernel
theorem dX11_read_28 : decode cX11_read 28 = .ok (.iconst 0, 1) := by decide +kernel
theorem dX11_read_29 : decode cX11_read 29 = .ok (.istore 4, 2) := by decide +kernel
theorem dX11_read_31 : decode cX11_read 31 = .ok (.iload 4, 2) := by decide +kernel
theorem dX11_read_33 : decode cX11_read 33 = .ok (.iconst 3, 1) := by decide +kernel
theorem dX11_read_34 : decode cX11_read 34 = .ok (.iadd, 1) := by decide +kernel
theorem dX11_read_35 : decode cX11_read 35 = .ok (.aload_n 2, 1) := by decide +kernel
theorem dX11_read_36 : decode cX11_read 36 = .ok (.getfield 140, 3) := by decide +kernel
theorem dX11_read_39 : decode cX11_read 39 = .ok (.if_icmp .ge 58, 3) := by decide +kernel
theorem dX11_read_42 : decode cX11_read 42 = .ok (.aload_n 0, 1) := by decide +kernel
theorem dX11_read_43 : decode cX11_read 43 = .ok (.getfield 33, 3) := by decide +kernel
theorem dX11_read_46 : decode cX11_read 46 = .ok (.aload_n 2, 1) := by decide +kernel
theorem dX11_read_47 : decode cX11_read 47 = .ok (.iload 4, 2) := by decide +kernel
theorem dX11_read_49 : decode cX11_read 49 = .ok (.invokevirtual 143, 3) := by decide +kernel
theorem dX11_read_52 : decode cX11_read 52 = .ok (.aload_n 2, 1) := by decide +kernel
theorem dX11_read_53 : decode cX11_read 53 = .ok (.iload 4, 2) := by decide +kernel
theorem dX11_read_55 : decode cX11_read 55 = .ok (.iconst 1, 1) := by decide +kernel
theorem dX11_read_56 : decode cX11_read 56 = .ok (.iadd, 1) := by decide +kernel
theorem dX11_read_57 : decode cX11_read 57 = .ok (.invokevirtual 143, 3) := by decide +kernel
theorem dX11_read_60 : decode cX11_read 60 = .ok (.aload_n 2, 1) := by decide +kernel
theorem dX11_read_61 : decode cX11_read 61 = .ok (.iload 4, 2) := by decide +kernel
theorem dX11_read_63 : decode cX11_read 63 = .ok (.iconst 2, 1) := by decide +kernel
theorem dX11_read_64 : decode cX11_read 64 = .ok (.iadd, 1) := by decide +kernel
theorem dX11_read_65 : decode cX11_read 65 = .ok (.invokevirtual 143, 3) := by decide +kernel
theorem dX11_read_68 : decode cX11_read 68 = .ok (.aload_n 2, 1) := by decide +kernel
theorem dX11_read_69 : decode cX11_read 69 = .ok (.iload 4, 2) := by decide +kernel
theorem dX11_read_71 : decode cX11_read 71 = .ok (.iconst 3, 1) := by decide +kernel
theorem dX11_read_72 : decode cX11_read 72 = .ok (.iadd, 1) := by decide +kernel
theorem dX11_read_73 : decode cX11_read 73 = .ok (.invokevirtual 143, 3) := by decide +kernel
theorem dX11_read_76 : decode cX11_read 76 = .ok (.invokevirtual 125, 3) := by decide +kernel
theorem dX11_read_79 : decode cX11_read 79 = .ok (.istore 5, 2) := by decide +kernel
theorem dX11_read_81 : decode cX11_read 81 = .ok (.iload 5, 2) := by decide +kernel
theorem dX11_read_83 : decode cX11_read 83 = .ok (.ifCond .ge 5, 3) := by decide +kernel
theorem dX11_read_86 : decode cX11_read 86 = .ok (.iload_n 3, 1) := by decide +kernel
theorem dX11_read_87 : decode cX11_read 87 = .ok (.ireturn, 1) := by decide +kernel
theorem dX11_read_88 : decode cX11_read 88 = .ok (.iinc 3 1, 3) := by decide +kernel
theorem dX11_read_91 : decode cX11_read 91 = .ok (.iinc 4 4, 3) := by decide +kernel
theorem dX11_read_94 : decode cX11_read 94 = .ok (.goto (-63), 3) := by decide +kernel
theorem dX11_read_97 : decode cX11_read 97 = .ok (.iload_n 3, 1) := by decide +kernel
theorem dX11_read_98 : decode cX11_read 98 = .ok (.ireturn, 1) := by decide +kernel
theorem dX11_learn_0 : decode cX11_learn 0 = .ok (.iload_n 1, 1) := by decide +kernel
theorem dX11_learn_1 : decode cX11_learn 1 = .ok (.ifCond .lt 9, 3) := by decide +kernel
theorem dX11_learn_4 : decode cX11_learn 4 = .ok (.iload_n 1, 1) := by decide +kernel
theorem dX11_learn_5 : decode cX11_learn 5 = .ok (.bipush 64, 2) := by decide +kernel
theorem dX11_learn_7 : decode cX11_learn 7 = .ok (.if_icmp .lt 6, 3) := by decide +kernel
theorem dX11_learn_10 : decode cX11_learn 10 = .ok (.bipush (-2), 2) := by decide +kernel
theorem dX11_learn_12 : decode cX11_learn 12 = .ok (.ireturn, 1) := by decide +kernel
theorem dX11_learn_13 : decode cX11_learn 13 = .ok (.aload_n 0, 1) := by decide +kernel
theorem dX11_learn_14 : decode cX11_learn 14 = .ok (.getfield 146, 3) := by decide +kernel
theorem dX11_learn_17 : decode cX11_learn 17 = .ok (.istore_n 2, 1) := by decide +kernel
theorem dX11_learn_18 : decode cX11_learn 18 = .ok (.aload_n 0, 1) := by decide +kernel
theorem dX11_learn_19 : decode cX11_learn 19 = .ok (.iload_n 1, 1) := by decide +kernel
theorem dX11_learn_20 : decode cX11_learn 20 = .ok (.putfield 146, 3) := by decide +kernel
theorem dX11_learn_23 : decode cX11_learn 23 = .ok (.iload_n 2, 1) := by decide +kernel
theorem dX11_learn_24 : decode cX11_learn 24 = .ok (.ireturn, 1) := by decide +kernel
theorem dX11_comes_0 : decode cX11_comes 0 = .ok (.aload_n 0, 1) := by decide +kernel
theorem dX11_comes_1 : decode cX11_comes 1 = .ok (.getfield 33, 3) := by decide +kernel
theorem dX11_comes_4 : decode cX11_comes 4 = .ok (.iload_n 1, 1) := by decide +kernel
theorem dX11_comes_5 : decode cX11_comes 5 = .ok (.invokevirtual 149, 3) := by decide +kernel
theorem dX11_comes_8 : decode cX11_comes 8 = .ok (.ifCond .eq 12, 3) := by decide +kernel
theorem dX11_comes_11 : decode cX11_comes 11 = .ok (.iload_n 2, 1) := by decide +kernel
theorem dX11_comes_12 : decode cX11_comes 12 = .ok (.ifCond .lt 8, 3) := by decide +kernel
theorem dX11_comes_15 : decode cX11_comes 15 = .ok (.iload_n 2, 1) := by decide +kernel
theorem dX11_comes_16 : decode cX11_comes 16 = .ok (.iconst 2, 1) := by decide +kernel
theorem dX11_comes_17 : decode cX11_comes 17 = .ok (.if_icmp .le 6, 3) := by decide +kernel
theorem dX11_comes_20 : decode cX11_comes 20 = .ok (.bipush (-2), 2) := by decide +kernel
theorem dX11_comes_22 : decode cX11_comes 22 = .ok (.ireturn, 1) := by decide +kernel
theorem dX11_comes_23 : decode cX11_comes 23 = .ok (.aload_n 0, 1) := by decide +kernel
theorem dX11_comes_24 : decode cX11_comes 24 = .ok (.iload_n 1, 1) := by decide +kernel
theorem dX11_comes_25 : decode cX11_comes 25 = .ok (.invokevirtual 150, 3) := by decide +kernel
theorem dX11_comes_28 : decode cX11_comes 28 = .ok (.aload_n 0, 1) := by decide +kernel
theorem dX11_comes_29 : decode cX11_comes 29 = .ok (.getfield 42, 3) := by decide +kernel
theorem dX11_comes_32 : decode cX11_comes 32 = .ok (.aload_n 0, 1) := by decide +kernel
theorem dX11_comes_33 : decode cX11_comes 33 = .ok (.getfield 33, 3) := by decide +kernel
theorem dX11_comes_36 : decode cX11_comes 36 = .ok (.iload_n 1, 1) := by decide +kernel
theorem dX11_comes_37 : decode cX11_comes 37 = .ok (.invokevirtual 153, 3) := by decide +kernel
theorem dX11_comes_40 : decode cX11_comes 40 = .ok (.invokevirtual 156, 3) := by decide +kernel
theorem dX11_comes_43 : decode cX11_comes 43 = .ok (.istore_n 3, 1) := by decide +kernel
theorem dX11_comes_44 : decode cX11_comes 44 = .ok (.iload_n 2, 1) := by decide +kernel
theorem dX11_comes_45 : decode cX11_comes 45 = .ok (.ifCond .ne 5, 3) := by decide +kernel
theorem dX11_comes_48 : decode cX11_comes 48 = .ok (.iload_n 3, 1) := by decide +kernel
theorem dX11_comes_49 : decode cX11_comes 49 = .ok (.ireturn, 1) := by decide +kernel
theorem dX11_comes_50 : decode cX11_comes 50 = .ok (.iload_n 2, 1) := by decide +kernel
theorem dX11_comes_51 : decode cX11_comes 51 = .ok (.iconst 1, 1) := by decide +kernel
theorem dX11_comes_52 : decode cX11_comes 52 = .ok (.if_icmp .ne 11, 3) := by decide +kernel
theorem dX11_comes_55 : decode cX11_comes 55 = .ok (.aload_n 0, 1) := by decide +kernel
theorem dX11_comes_56 : decode cX11_comes 56 = .ok (.getfield 42, 3) := by decide +kernel
theorem dX11_comes_59 : decode cX11_comes 59 = .ok (.getfield 159, 3) := by decide +kernel
theorem dX11_comes_62 : decode cX11_comes 62 = .ok (.ireturn, 1) := by decide +kernel
theorem dX11_comes_63 : decode cX11_comes 63 = .ok (.aload_n 0, 1) := by decide +kernel
theorem dX11_comes_64 : decode cX11_comes 64 = .ok (.getfield 42, 3) := by decide +kernel
theorem dX11_comes_67 : decode cX11_comes 67 = .ok (.getfield 159, 3) := by decide +kernel
theorem dX11_comes_70 : decode cX11_comes 70 = .ok (.ifCond .eq 18, 3) := by decide +kernel
theorem dX11_comes_73 : decode cX11_comes 73 = .ok (.aload_n 0, 1) := by decide +kernel
theorem dX11_comes_74 : decode cX11_comes 74 = .ok (.getfield 10, 3) := by decide +kernel
theorem dX11_comes_77 : decode cX11_comes 77 = .ok (.iload_n 3, 1) := by decide +kernel
theorem dX11_comes_78 : decode cX11_comes 78 = .ok (.invokevirtual 162, 3) := by decide +kernel
theorem dX11_comes_81 : decode cX11_comes 81 = .ok (.ifCond .eq 7, 3) := by decide +kernel
theorem dX11_comes_84 : decode cX11_comes 84 = .ok (.iconst 1, 1) := by decide +kernel
theorem dX11_comes_85 : decode cX11_comes 85 = .ok (.goto 4, 3) := by decide +kernel
theorem dX11_comes_88 : decode cX11_comes 88 = .ok (.iconst 0, 1) := by decide +kernel
theorem dX11_comes_89 : decode cX11_comes 89 = .ok (.istore 4, 2) := by decide +kernel
theorem dX11_comes_91 : decode cX11_comes 91 = .ok (.iload 4, 2) := by decide +kernel
theorem dX11_comes_93 : decode cX11_comes 93 = .ok (.ifCond .eq 14, 3) := by decide +kernel
theorem dX11_comes_96 : decode cX11_comes 96 = .ok (.aload_n 0, 1) := by decide +kernel
theorem dX11_comes_97 : decode cX11_comes 97 = .ok (.getfield 10, 3) := by decide +kernel
theorem dX11_comes_100 : decode cX11_comes 100 = .ok (.iload_n 3, 1) := by decide +kernel
theorem dX11_comes_101 : decode cX11_comes 101 = .ok (.invokevirtual 111, 3) := by decide +kernel
theorem dX11_comes_104 : decode cX11_comes 104 = .ok (.goto 4, 3) := by decide +kernel
theorem dX11_comes_107 : decode cX11_comes 107 = .ok (.iconst (-1), 1) := by decide +kernel
theorem dX11_comes_108 : decode cX11_comes 108 = .ok (.ireturn, 1) := by decide +kernel
theorem dX11_behind_0 : decode cX11_behind 0 = .ok (.aload_n 0, 1) := by decide +kernel
theorem dX11_behind_1 : decode cX11_behind 1 = .ok (.getfield 33, 3) := by decide +kernel
theorem dX11_behind_4 : decode cX11_behind 4 = .ok (.iload_n 1, 1) := by decide +kernel
theorem dX11_behind_5 : decode cX11_behind 5 = .ok (.invokevirtual 149, 3) := by decide +kernel
theorem dX11_behind_8 : decode cX11_behind 8 = .ok (.ifCond .eq 23, 3) := by decide +kernel
theorem dX11_behind_11 : decode cX11_behind 11 = .ok (.aload_n 0, 1) := by decide +kernel
theorem dX11_behind_12 : decode cX11_behind 12 = .ok (.getfield 10, 3) := by decide +kernel
theorem dX11_behind_15 : decode cX11_behind 15 = .ok (.iload_n 2, 1) := by decide +kernel
theorem dX11_behind_16 : decode cX11_behind 16 = .ok (.invokevirtual 165, 3) := by decide +kernel
theorem dX11_behind_19 : decode cX11_behind 19 = .ok (.ifCond .eq 12, 3) := by decide +kernel
theorem dX11_behind_22 : decode cX11_behind 22 = .ok (.iload_n 3, 1) := by decide +kernel
theorem dX11_behind_23 : decode cX11_behind 23 = .ok (.ifCond .lt 8, 3) := by decide +kernel
theorem dX11_behind_26 : decode cX11_behind 26 = .ok (.iload_n 3, 1) := by decide +kernel
theorem dX11_behind_27 : decode cX11_behind 27 = .ok (.iconst 3, 1) := by decide +kernel
theorem dX11_behind_28 : decode cX11_behind 28 = .ok (.if_icmp .le 6, 3) := by decide +kernel
theorem dX11_behind_31 : decode cX11_behind 31 = .ok (.bipush (-2), 2) := by decide +kernel
theorem dX11_behind_33 : decode cX11_behind 33 = .ok (.ireturn, 1) := by decide +kernel
theorem dX11_behind_34 : decode cX11_behind 34 = .ok (.aload_n 0, 1) := by decide +kernel
theorem dX11_behind_35 : decode cX11_behind 35 = .ok (.iload_n 1, 1) := by decide +kernel
theorem dX11_behind_36 : decode cX11_behind 36 = .ok (.invokevirtual 150, 3) := by decide +kernel
theorem dX11_behind_39 : decode cX11_behind 39 = .ok (.iload_n 3, 1) := by decide +kernel
theorem dX11_behind_40 : decode cX11_behind 40 = .ok (.iconst 2, 1) := by decide +kernel
theorem dX11_behind_41 : decode cX11_behind 41 = .ok (.if_icmp .ge 13, 3) := by decide +kernel
theorem dX11_behind_44 : decode cX11_behind 44 = .ok (.aload_n 0, 1) := by decide +kernel
theorem dX11_behind_45 : decode cX11_behind 45 = .ok (.iload_n 1, 1) := by decide +kernel
theorem dX11_behind_46 : decode cX11_behind 46 = .ok (.iload_n 2, 1) := by decide +kernel
theorem dX11_behind_47 : decode cX11_behind 47 = .ok (.iload_n 3, 1) := by decide +kernel
theorem dX11_behind_48 : decode cX11_behind 48 = .ok (.invokevirtual 166, 3) := by decide +kernel
theorem dX11_behind_51 : decode cX11_behind 51 = .ok (.goto 10, 3) := by decide +kernel
theorem dX11_behind_54 : decode cX11_behind 54 = .ok (.aload_n 0, 1) := by decide +kernel
theorem dX11_behind_55 : decode cX11_behind 55 = .ok (.iload_n 1, 1) := by decide +kernel
theorem dX11_behind_56 : decode cX11_behind 56 = .ok (.iload_n 2, 1) := by decide +kernel
theorem dX11_behind_57 : decode cX11_behind 57 = .ok (.iload_n 3, 1) := by decide +kernel
theorem dX11_behind_58 : decode cX11_behind 58 = .ok (.invokevirtual 170, 3) := by decide +kernel
theorem dX11_behind_61 : decode cX11_behind 61 = .ok (.ireturn, 1) := by decide +kernel
theorem dX11_farthest_0 : decode cX11_farthest 0 = .ok (.iconst (-1), 1) := by decide +kernel
theorem dX11_farthest_1 : decode cX11_farthest 1 = .ok (.istore_n 1, 1) := by decide +kernel
theorem dX11_farthest_2 : decode cX11_farthest 2 = .ok (.iconst (-1), 1) := by decide +kernel
theorem dX11_farthest_3 : decode cX11_farthest 3 = .ok (.istore_n 2, 1) := by decide +kernel
theorem dX11_farthest_4 : decode cX11_farthest 4 = .ok (.iconst 0, 1) := by decide +kernel
theorem dX11_farthest_5 : decode cX11_farthest 5 = .ok (.istore_n 3, 1) := by decide +kernel
theorem dX11_farthest_6 : decode cX11_farthest 6 = .ok (.iload_n 3, 1) := by decide +kernel
theorem dX11_farthest_7 : decode cX11_farthest 7 = .ok (.aload_n 0, 1) := by decide +kernel
theorem dX11_farthest_8 : decode cX11_farthest 8 = .ok (.getfield 33, 3) := by decide +kernel
theorem dX11_farthest_11 : decode cX11_farthest 11 = .ok (.getfield 128, 3) := by decide +kernel
theorem dX11_farthest_14 : decode cX11_farthest 14 = .ok (.if_icmp .ge 64, 3) := by decide +kernel
theorem dX11_farthest_17 : decode cX11_farthest 17 = .ok (.aload_n 0, 1) := by decide +kernel
theorem dX11_farthest_18 : decode cX11_farthest 18 = .ok (.iload_n 3, 1) := by decide +kernel
theorem dX11_farthest_19 : decode cX11_farthest 19 = .ok (.invokevirtual 150, 3) := by decide +kernel
theorem dX11_farthest_22 : decode cX11_farthest 22 = .ok (.aload_n 0, 1) := by decide +kernel
theorem dX11_farthest_23 : decode cX11_farthest 23 = .ok (.getfield 42, 3) := by decide +kernel
theorem dX11_farthest_26 : decode cX11_farthest 26 = .ok (.aload_n 0, 1) := by decide +kernel
theorem dX11_farthest_27 : decode cX11_farthest 27 = .ok (.getfield 33, 3) := by decide +kernel
theorem dX11_farthest_30 : decode cX11_farthest 30 = .ok (.iload_n 3, 1) := by decide +kernel
theorem dX11_farthest_31 : decode cX11_farthest 31 = .ok (.invokevirtual 153, 3) := by decide +kernel
theorem dX11_farthest_34 : decode cX11_farthest 34 = .ok (.invokevirtual 156, 3) := by decide +kernel
theorem dX11_farthest_37 : decode cX11_farthest 37 = .ok (.istore 4, 2) := by decide +kernel
theorem dX11_farthest_39 : decode cX11_farthest 39 = .ok (.iconst 2, 1) := by decide +kernel
theorem dX11_farthest_40 : decode cX11_farthest 40 = .ok (.iload 4, 2) := by decide +kernel
theorem dX11_farthest_42 : decode cX11_farthest 42 = .ok (.imul, 1) := by decide +kernel
theorem dX11_farthest_43 : decode cX11_farthest 43 = .ok (.aload_n 0, 1) := by decide +kernel
theorem dX11_farthest_44 : decode cX11_farthest 44 = .ok (.getfield 42, 3) := by decide +kernel
theorem dX11_farthest_47 : decode cX11_farthest 47 = .ok (.getfield 159, 3) := by decide +kernel
theorem dX11_farthest_50 : decode cX11_farthest 50 = .ok (.ifCond .ne 7, 3) := by decide +kernel
theorem dX11_farthest_53 : decode cX11_farthest 53 = .ok (.iconst 1, 1) := by decide +kernel
theorem dX11_farthest_54 : decode cX11_farthest 54 = .ok (.goto 4, 3) := by decide +kernel
theorem dX11_farthest_57 : decode cX11_farthest 57 = .ok (.iconst 0, 1) := by decide +kernel
theorem dX11_farthest_58 : decode cX11_farthest 58 = .ok (.iadd, 1) := by decide +kernel
theorem dX11_farthest_59 : decode cX11_farthest 59 = .ok (.istore 5, 2) := by decide +kernel
theorem dX11_farthest_61 : decode cX11_farthest 61 = .ok (.iload 5, 2) := by decide +kernel
theorem dX11_farthest_63 : decode cX11_farthest 63 = .ok (.iload_n 2, 1) := by decide +kernel
theorem dX11_farthest_64 : decode cX11_farthest 64 = .ok (.if_icmp .le 8, 3) := by decide +kernel
theorem dX11_farthest_67 : decode cX11_farthest 67 = .ok (.iload 5, 2) := by decide +kernel
theorem dX11_farthest_69 : decode cX11_farthest 69 = .ok (.istore_n 2, 1) := by decide +kernel
theorem dX11_farthest_70 : decode cX11_farthest 70 = .ok (.iload_n 3, 1) := by decide +kernel
theorem dX11_farthest_71 : decode cX11_farthest 71 = .ok (.istore_n 1, 1) := by decide +kernel
theorem dX11_farthest_72 : decode cX11_farthest 72 = .ok (.iinc 3 1, 3) := by decide +kernel
theorem dX11_farthest_75 : decode cX11_farthest 75 = .ok (.goto (-69), 3) := by decide +kernel
theorem dX11_farthest_78 : decode cX11_farthest 78 = .ok (.iload_n 1, 1) := by decide +kernel
theorem dX11_farthest_79 : decode cX11_farthest 79 = .ok (.ireturn, 1) := by decide +kernel
theorem dX11_climb_0 : decode cX11_climb 0 = .ok (.aload_n 0, 1) := by decide +kernel
theorem dX11_climb_1 : decode cX11_climb 1 = .ok (.getfield 33, 3) := by decide +kernel
theorem dX11_climb_4 : decode cX11_climb 4 = .ok (.iload_n 1, 1) := by decide +kernel
theorem dX11_climb_5 : decode cX11_climb 5 = .ok (.invokevirtual 149, 3) := by decide +kernel
theorem dX11_climb_8 : decode cX11_climb 8 = .ok (.ifCond .eq 13, 3) := by decide +kernel
theorem dX11_climb_11 : decode cX11_climb 11 = .ok (.iload_n 2, 1) := by decide +kernel
theorem dX11_climb_12 : decode cX11_climb 12 = .ok (.iconst (-1), 1) := by decide +kernel
theorem dX11_climb_13 : decode cX11_climb 13 = .ok (.if_icmp .lt 8, 3) := by decide +kernel
theorem dX11_climb_16 : decode cX11_climb 16 = .ok (.iload_n 2, 1) := by decide +kernel
theorem dX11_climb_17 : decode cX11_climb 17 = .ok (.iconst 2, 1) := by decide +kernel
theorem dX11_climb_18 : decode cX11_climb 18 = .ok (.if_icmp .le 6, 3) := by decide +kernel
theorem dX11_climb_21 : decode cX11_climb 21 = .ok (.bipush (-2), 2) := by decide +kernel
theorem dX11_climb_23 : decode cX11_climb 23 = .ok (.ireturn, 1) := by decide +kernel
theorem dX11_climb_24 : decode cX11_climb 24 = .ok (.aload_n 0, 1) := by decide +kernel
theorem dX11_climb_25 : decode cX11_climb 25 = .ok (.iload_n 1, 1) := by decide +kernel
theorem dX11_climb_26 : decode cX11_climb 26 = .ok (.invokevirtual 150, 3) := by decide +kernel
theorem dX11_climb_29 : decode cX11_climb 29 = .ok (.aload_n 0, 1) := by decide +kernel
theorem dX11_climb_30 : decode cX11_climb 30 = .ok (.getfield 49, 3) := by decide +kernel
theorem dX11_climb_33 : decode cX11_climb 33 = .ok (.aload_n 0, 1) := by decide +kernel
theorem dX11_climb_34 : decode cX11_climb 34 = .ok (.getfield 42, 3) := by decide +kernel
theorem dX11_climb_37 : decode cX11_climb 37 = .ok (.aload_n 0, 1) := by decide +kernel
theorem dX11_climb_38 : decode cX11_climb 38 = .ok (.getfield 10, 3) := by decide +kernel
theorem dX11_climb_41 : decode cX11_climb 41 = .ok (.getfield 108, 3) := by decide +kernel
theorem dX11_climb_44 : decode cX11_climb 44 = .ok (.invokevirtual 173, 3) := by decide +kernel
theorem dX11_climb_47 : decode cX11_climb 47 = .ok (.aload_n 0, 1) := by decide +kernel
theorem dX11_climb_48 : decode cX11_climb 48 = .ok (.getfield 49, 3) := by decide +kernel
theorem dX11_climb_51 : decode cX11_climb 51 = .ok (.iload_n 2, 1) := by decide +kernel
theorem dX11_climb_52 : decode cX11_climb 52 = .ok (.invokevirtual 177, 3) := by decide +kernel
theorem dX11_climb_55 : decode cX11_climb 55 = .ok (.ireturn, 1) := by decide +kernel
theorem dX11_practice_0 : decode cX11_practice 0 = .ok (.aload_n 0, 1) := by decide +kernel
theorem dX11_practice_1 : decode cX11_practice 1 = .ok (.getfield 33, 3) := by decide +kernel
theorem dX11_practice_4 : decode cX11_practice 4 = .ok (.iload_n 1, 1) := by decide +kernel
theorem dX11_practice_5 : decode cX11_practice 5 = .ok (.invokevirtual 149, 3) := by decide +kernel
theorem dX11_practice_8 : decode cX11_practice 8 = .ok (.ifCond .eq 12, 3) := by decide +kernel
