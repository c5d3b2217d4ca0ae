theorem dX0_init_0 : decode cX0_init 0 = .ok (.aload_n 0, 1) := by decide +kernel
theorem dX0_init_1 : decode cX0_init 1 = .ok (.invokespecial 3, 3) := by decide +kernel
theorem dX0_init_4 : decode cX0_init 4 = .ok (.return_, 1) := by decide +kernel
theorem dX0_told_0 : decode cX0_told 0 = .ok (.iload_n 1, 1) := by decide +kernel
theorem dX0_told_1 : decode cX0_told 1 = .ok (.tableswitch 42 0 2 #[27, 32, 37], 27) := by decide +kernel
theorem dX0_told_28 : decode cX0_told 28 = .ok (.aload_n 0, 1) := by decide +kernel
theorem dX0_told_29 : decode cX0_told 29 = .ok (.getfield 9, 3) := by decide +kernel
theorem dX0_told_32 : decode cX0_told 32 = .ok (.ireturn, 1) := by decide +kernel
theorem dX0_told_33 : decode cX0_told 33 = .ok (.aload_n 0, 1) := by decide +kernel
theorem dX0_told_34 : decode cX0_told 34 = .ok (.getfield 15, 3) := by decide +kernel
theorem dX0_told_37 : decode cX0_told 37 = .ok (.ireturn, 1) := by decide +kernel
theorem dX0_told_38 : decode cX0_told 38 = .ok (.aload_n 0, 1) := by decide +kernel
theorem dX0_told_39 : decode cX0_told 39 = .ok (.getfield 18, 3) := by decide +kernel
theorem dX0_told_42 : decode cX0_told 42 = .ok (.ireturn, 1) := by decide +kernel
theorem dX0_told_43 : decode cX0_told 43 = .ok (.aload_n 0, 1) := by decide +kernel
theorem dX0_told_44 : decode cX0_told 44 = .ok (.getfield 21, 3) := by decide +kernel
theorem dX0_told_47 : decode cX0_told 47 = .ok (.ireturn, 1) := by decide +kernel
theorem dX0_plan_0 : decode cX0_plan 0 = .ok (.aload_n 0, 1) := by decide +kernel
theorem dX0_plan_1 : decode cX0_plan 1 = .ok (.iconst (-1), 1) := by decide +kernel
theorem dX0_plan_2 : decode cX0_plan 2 = .ok (.putfield 21, 3) := by decide +kernel
theorem dX0_plan_5 : decode cX0_plan 5 = .ok (.iconst 1, 1) := by decide +kernel
theorem dX0_plan_6 : decode cX0_plan 6 = .ok (.istore_n 3, 1) := by decide +kernel
theorem dX0_plan_7 : decode cX0_plan 7 = .ok (.iload_n 3, 1) := by decide +kernel
theorem dX0_plan_8 : decode cX0_plan 8 = .ok (.bipush 9, 2) := by decide +kernel
theorem dX0_plan_10 : decode cX0_plan 10 = .ok (.if_icmp .gt 117, 3) := by decide +kernel
theorem dX0_plan_13 : decode cX0_plan 13 = .ok (.aload_n 0, 1) := by decide +kernel
theorem dX0_plan_14 : decode cX0_plan 14 = .ok (.getfield 21, 3) := by decide +kernel
theorem dX0_plan_17 : decode cX0_plan 17 = .ok (.aload_n 1, 1) := by decide +kernel
theorem dX0_plan_18 : decode cX0_plan 18 = .ok (.getfield 24, 3) := by decide +kernel
theorem dX0_plan_21 : decode cX0_plan 21 = .ok (.if_icmp .ge 106, 3) := by decide +kernel
theorem dX0_plan_24 : decode cX0_plan 24 = .ok (.aload_n 1, 1) := by decide +kernel
theorem dX0_plan_25 : decode cX0_plan 25 = .ok (.invokevirtual 29, 3) := by decide +kernel
theorem dX0_plan_28 : decode cX0_plan 28 = .ok (.iconst 1, 1) := by decide +kernel
theorem dX0_plan_29 : decode cX0_plan 29 = .ok (.istore 4, 2) := by decide +kernel
theorem dX0_plan_31 : decode cX0_plan 31 = .ok (.iconst 1, 1) := by decide +kernel
theorem dX0_plan_32 : decode cX0_plan 32 = .ok (.istore 5, 2) := by decide +kernel
theorem dX0_plan_34 : decode cX0_plan 34 = .ok (.iload 5, 2) := by decide +kernel
theorem dX0_plan_36 : decode cX0_plan 36 = .ok (.bipush 24, 2) := by decide +kernel
theorem dX0_plan_38 : decode cX0_plan 38 = .ok (.if_icmp .ge 83, 3) := by decide +kernel
theorem dX0_plan_41 : decode cX0_plan 41 = .ok (.iload 4, 2) := by decide +kernel
theorem dX0_plan_43 : decode cX0_plan 43 = .ok (.ifCond .eq 78, 3) := by decide +kernel
theorem dX0_plan_46 : decode cX0_plan 46 = .ok (.aload_n 0, 1) := by decide +kernel
theorem dX0_plan_47 : decode cX0_plan 47 = .ok (.getfield 21, 3) := by decide +kernel
theorem dX0_plan_50 : decode cX0_plan 50 = .ok (.aload_n 1, 1) := by decide +kernel
theorem dX0_plan_51 : decode cX0_plan 51 = .ok (.getfield 24, 3) := by decide +kernel
theorem dX0_plan_54 : decode cX0_plan 54 = .ok (.if_icmp .ge 67, 3) := by decide +kernel
theorem dX0_plan_57 : decode cX0_plan 57 = .ok (.aload_n 1, 1) := by decide +kernel
theorem dX0_plan_58 : decode cX0_plan 58 = .ok (.iload 5, 2) := by decide +kernel
theorem dX0_plan_60 : decode cX0_plan 60 = .ok (.iconst 1, 1) := by decide +kernel
theorem dX0_plan_61 : decode cX0_plan 61 = .ok (.isub, 1) := by decide +kernel
theorem dX0_plan_62 : decode cX0_plan 62 = .ok (.iload 5, 2) := by decide +kernel
theorem dX0_plan_64 : decode cX0_plan 64 = .ok (.iload_n 2, 1) := by decide +kernel
theorem dX0_plan_65 : decode cX0_plan 65 = .ok (.invokestatic 32, 3) := by decide +kernel
theorem dX0_plan_68 : decode cX0_plan 68 = .ok (.iload_n 3, 1) := by decide +kernel
theorem dX0_plan_69 : decode cX0_plan 69 = .ok (.invokevirtual 38, 3) := by decide +kernel
theorem dX0_plan_72 : decode cX0_plan 72 = .ok (.istore 6, 2) := by decide +kernel
theorem dX0_plan_74 : decode cX0_plan 74 = .ok (.iload 6, 2) := by decide +kernel
theorem dX0_plan_76 : decode cX0_plan 76 = .ok (.iload 5, 2) := by decide +kernel
theorem dX0_plan_78 : decode cX0_plan 78 = .ok (.if_icmp .ne 7, 3) := by decide +kernel
theorem dX0_plan_81 : decode cX0_plan 81 = .ok (.iconst 1, 1) := by decide +kernel
theorem dX0_plan_82 : decode cX0_plan 82 = .ok (.goto 4, 3) := by decide +kernel
theorem dX0_plan_85 : decode cX0_plan 85 = .ok (.iconst 0, 1) := by decide +kernel
theorem dX0_plan_86 : decode cX0_plan 86 = .ok (.istore 4, 2) := by decide +kernel
theorem dX0_plan_88 : decode cX0_plan 88 = .ok (.iload 4, 2) := by decide +kernel
theorem dX0_plan_90 : decode cX0_plan 90 = .ok (.ifCond .eq 15, 3) := by decide +kernel
theorem dX0_plan_93 : decode cX0_plan 93 = .ok (.aload_n 0, 1) := by decide +kernel
theorem dX0_plan_94 : decode cX0_plan 94 = .ok (.aload_n 1, 1) := by decide +kernel
theorem dX0_plan_95 : decode cX0_plan 95 = .ok (.iload_n 2, 1) := by decide +kernel
theorem dX0_plan_96 : decode cX0_plan 96 = .ok (.iload_n 3, 1) := by decide +kernel
theorem dX0_plan_97 : decode cX0_plan 97 = .ok (.iload 5, 2) := by decide +kernel
theorem dX0_plan_99 : decode cX0_plan 99 = .ok (.invokevirtual 42, 3) := by decide +kernel
theorem dX0_plan_102 : decode cX0_plan 102 = .ok (.goto 13, 3) := by decide +kernel
theorem dX0_plan_105 : decode cX0_plan 105 = .ok (.aload_n 0, 1) := by decide +kernel
theorem dX0_plan_106 : decode cX0_plan 106 = .ok (.iload 6, 2) := by decide +kernel
theorem dX0_plan_108 : decode cX0_plan 108 = .ok (.iload_n 3, 1) := by decide +kernel
theorem dX0_plan_109 : decode cX0_plan 109 = .ok (.iload 5, 2) := by decide +kernel
theorem dX0_plan_111 : decode cX0_plan 111 = .ok (.iconst 1, 1) := by decide +kernel
theorem dX0_plan_112 : decode cX0_plan 112 = .ok (.invokevirtual 46, 3) := by decide +kernel
theorem dX0_plan_115 : decode cX0_plan 115 = .ok (.iinc 5 1, 3) := by decide +kernel
theorem dX0_plan_118 : decode cX0_plan 118 = .ok (.goto (-84), 3) := by decide +kernel
theorem dX0_plan_121 : decode cX0_plan 121 = .ok (.iinc 3 1, 3) := by decide +kernel
theorem dX0_plan_124 : decode cX0_plan 124 = .ok (.goto (-117), 3) := by decide +kernel
theorem dX0_plan_127 : decode cX0_plan 127 = .ok (.return_, 1) := by decide +kernel
theorem dX0_trySecond_0 : decode cX0_trySecond 0 = .ok (.aload_n 1, 1) := by decide +kernel
theorem dX0_trySecond_1 : decode cX0_trySecond 1 = .ok (.getfield 50, 3) := by decide +kernel
theorem dX0_trySecond_4 : decode cX0_trySecond 4 = .ok (.istore 5, 2) := by decide +kernel
theorem dX0_trySecond_6 : decode cX0_trySecond 6 = .ok (.aload_n 1, 1) := by decide +kernel
theorem dX0_trySecond_7 : decode cX0_trySecond 7 = .ok (.getfield 53, 3) := by decide +kernel
theorem dX0_trySecond_10 : decode cX0_trySecond 10 = .ok (.istore 6, 2) := by decide +kernel
theorem dX0_trySecond_12 : decode cX0_trySecond 12 = .ok (.iconst 1, 1) := by decide +kernel
theorem dX0_trySecond_13 : decode cX0_trySecond 13 = .ok (.istore 7, 2) := by decide +kernel
theorem dX0_trySecond_15 : decode cX0_trySecond 15 = .ok (.iload 7, 2) := by decide +kernel
theorem dX0_trySecond_17 : decode cX0_trySecond 17 = .ok (.bipush 9, 2) := by decide +kernel
theorem dX0_trySecond_19 : decode cX0_trySecond 19 = .ok (.if_icmp .gt 39, 3) := by decide +kernel
theorem dX0_trySecond_22 : decode cX0_trySecond 22 = .ok (.aload_n 0, 1) := by decide +kernel
theorem dX0_trySecond_23 : decode cX0_trySecond 23 = .ok (.aload_n 1, 1) := by decide +kernel
theorem dX0_trySecond_24 : decode cX0_trySecond 24 = .ok (.iload 4, 2) := by decide +kernel
theorem dX0_trySecond_26 : decode cX0_trySecond 26 = .ok (.iload_n 2, 1) := by decide +kernel
theorem dX0_trySecond_27 : decode cX0_trySecond 27 = .ok (.iload 7, 2) := by decide +kernel
theorem dX0_trySecond_29 : decode cX0_trySecond 29 = .ok (.invokevirtual 38, 3) := by decide +kernel
theorem dX0_trySecond_32 : decode cX0_trySecond 32 = .ok (.iload_n 3, 1) := by decide +kernel
theorem dX0_trySecond_33 : decode cX0_trySecond 33 = .ok (.iload 4, 2) := by decide +kernel
theorem dX0_trySecond_35 : decode cX0_trySecond 35 = .ok (.iload 7, 2) := by decide +kernel
theorem dX0_trySecond_37 : decode cX0_trySecond 37 = .ok (.invokevirtual 46, 3) := by decide +kernel
theorem dX0_trySecond_40 : decode cX0_trySecond 40 = .ok (.aload_n 1, 1) := by decide +kernel
theorem dX0_trySecond_41 : decode cX0_trySecond 41 = .ok (.iload 5, 2) := by decide +kernel
theorem dX0_trySecond_43 : decode cX0_trySecond 43 = .ok (.putfield 50, 3) := by decide +kernel
theorem dX0_trySecond_46 : decode cX0_trySecond 46 = .ok (.aload_n 1, 1) := by decide +kernel
theorem dX0_trySecond_47 : decode cX0_trySecond 47 = .ok (.iload 6, 2) := by decide +kernel
theorem dX0_trySecond_49 : decode cX0_trySecond 49 = .ok (.putfield 53, 3) := by decide +kernel
theorem dX0_trySecond_52 : decode cX0_trySecond 52 = .ok (.iinc 7 1, 3) := by decide +kernel
theorem dX0_trySecond_55 : decode cX0_trySecond 55 = .ok (.goto (-40), 3) := by decide +kernel
theorem dX0_trySecond_58 : decode cX0_trySecond 58 = .ok (.return_, 1) := by decide +kernel
theorem dX0_note_0 : decode cX0_note 0 = .ok (.iload_n 1, 1) := by decide +kernel
theorem dX0_note_1 : decode cX0_note 1 = .ok (.aload_n 0, 1) := by decide +kernel
theorem dX0_note_2 : decode cX0_note 2 = .ok (.getfield 21, 3) := by decide +kernel
theorem dX0_note_5 : decode cX0_note 5 = .ok (.if_icmp .le 24, 3) := by decide +kernel
theorem dX0_note_8 : decode cX0_note 8 = .ok (.aload_n 0, 1) := by decide +kernel
theorem dX0_note_9 : decode cX0_note 9 = .ok (.iload_n 1, 1) := by decide +kernel
theorem dX0_note_10 : decode cX0_note 10 = .ok (.putfield 21, 3) := by decide +kernel
theorem dX0_note_13 : decode cX0_note 13 = .ok (.aload_n 0, 1) := by decide +kernel
theorem dX0_note_14 : decode cX0_note 14 = .ok (.iload_n 2, 1) := by decide +kernel
theorem dX0_note_15 : decode cX0_note 15 = .ok (.putfield 9, 3) := by decide +kernel
theorem dX0_note_18 : decode cX0_note 18 = .ok (.aload_n 0, 1) := by decide +kernel
theorem dX0_note_19 : decode cX0_note 19 = .ok (.iload_n 3, 1) := by decide +kernel
theorem dX0_note_20 : decode cX0_note 20 = .ok (.putfield 15, 3) := by decide +kernel
theorem dX0_note_23 : decode cX0_note 23 = .ok (.aload_n 0, 1) := by decide +kernel
theorem dX0_note_24 : decode cX0_note 24 = .ok (.iload 4, 2) := by decide +kernel
theorem dX0_note_26 : decode cX0_note 26 = .ok (.putfield 18, 3) := by decide +kernel
theorem dX0_note_29 : decode cX0_note 29 = .ok (.return_, 1) := by decide +kernel
theorem dX1_init_0 : decode cX1_init 0 = .ok (.aload_n 0, 1) := by decide +kernel
theorem dX1_init_1 : decode cX1_init 1 = .ok (.invokespecial 3, 3) := by decide +kernel
theorem dX1_init_4 : decode cX1_init 4 = .ok (.aload_n 0, 1) := by decide +kernel
theorem dX1_init_5 : decode cX1_init 5 = .ok (.bipush 32, 2) := by decide +kernel
theorem dX1_init_7 : decode cX1_init 7 = .ok (.newarray .int, 2) := by decide +kernel
theorem dX1_init_9 : decode cX1_init 9 = .ok (.putfield 9, 3) := by decide +kernel
theorem dX1_init_12 : decode cX1_init 12 = .ok (.return_, 1) := by decide +kernel
theorem dX1_append_0 : decode cX1_append 0 = .ok (.iload_n 1, 1) := by decide +kernel
theorem dX1_append_1 : decode cX1_append 1 = .ok (.ifCond .lt 47, 3) := by decide +kernel
theorem dX1_append_4 : decode cX1_append 4 = .ok (.iload_n 1, 1) := by decide +kernel
theorem dX1_append_5 : decode cX1_append 5 = .ok (.bipush 7, 2) := by decide +kernel
theorem dX1_append_7 : decode cX1_append 7 = .ok (.if_icmp .gt 41, 3) := by decide +kernel
theorem dX1_append_10 : decode cX1_append 10 = .ok (.iload_n 2, 1) := by decide +kernel
theorem dX1_append_11 : decode cX1_append 11 = .ok (.ifCond .lt 37, 3) := by decide +kernel
theorem dX1_append_14 : decode cX1_append 14 = .ok (.iload_n 2, 1) := by decide +kernel
theorem dX1_append_15 : decode cX1_append 15 = .ok (.bipush 7, 2) := by decide +kernel
theorem dX1_append_17 : decode cX1_append 17 = .ok (.if_icmp .gt 31, 3) := by decide +kernel
theorem dX1_append_20 : decode cX1_append 20 = .ok (.iload_n 3, 1) := by decide +kernel
theorem dX1_append_21 : decode cX1_append 21 = .ok (.ifCond .lt 27, 3) := by decide +kernel
theorem dX1_append_24 : decode cX1_append 24 = .ok (.iload_n 3, 1) := by decide +kernel
theorem dX1_append_25 : decode cX1_append 25 = .ok (.bipush 7, 2) := by decide +kernel
theorem dX1_append_27 : decode cX1_append 27 = .ok (.if_icmp .gt 21, 3) := by decide +kernel
theorem dX1_append_30 : decode cX1_append 30 = .ok (.iload_n 2, 1) := by decide +kernel
theorem dX1_append_31 : decode cX1_append 31 = .ok (.iload_n 3, 1) := by decide +kernel
theorem dX1_append_32 : decode cX1_append 32 = .ok (.if_icmp .eq 16, 3) := by decide +kernel
theorem dX1_append_35 : decode cX1_append 35 = .ok (.iload 4, 2) := by decide +kernel
theorem dX1_append_37 : decode cX1_append 37 = .ok (.iconst 1, 1) := by decide +kernel
theorem dX1_append_38 : decode cX1_append 38 = .ok (.if_icmp .lt 10, 3) := by decide +kernel
theorem dX1_append_41 : decode cX1_append 41 = .ok (.iload 4, 2) := by decide +kernel
theorem dX1_append_43 : decode cX1_append 43 = .ok (.bipush 9, 2) := by decide +kernel
theorem dX1_append_45 : decode cX1_append 45 = .ok (.if_icmp .le 6, 3) := by decide +kernel
theorem dX1_append_48 : decode cX1_append 48 = .ok (.bipush (-2), 2) := by decide +kernel
theorem dX1_append_50 : decode cX1_append 50 = .ok (.ireturn, 1) := by decide +kernel
theorem dX1_append_51 : decode cX1_append 51 = .ok (.aload_n 0, 1) := by decide +kernel
theorem dX1_append_52 : decode cX1_append 52 = .ok (.getfield 15, 3) := by decide +kernel
theorem dX1_append_55 : decode cX1_append 55 = .ok (.ifCond .lt 12, 3) := by decide +kernel
theorem dX1_append_58 : decode cX1_append 58 = .ok (.aload_n 0, 1) := by decide +kernel
theorem dX1_append_59 : decode cX1_append 59 = .ok (.getfield 15, 3) := by decide +kernel
theorem dX1_append_62 : decode cX1_append 62 = .ok (.bipush 8, 2) := by decide +kernel
theorem dX1_append_64 : decode cX1_append 64 = .ok (.if_icmp .lt 6, 3) := by decide +kernel
theorem dX1_append_67 : decode cX1_append 67 = .ok (.bipush (-4), 2) := by decide +kernel
theorem dX1_append_69 : decode cX1_append 69 = .ok (.ireturn, 1) := by decide +kernel
theorem dX1_append_70 : decode cX1_append 70 = .ok (.aload_n 0, 1) := by decide +kernel
theorem dX1_append_71 : decode cX1_append 71 = .ok (.getfield 9, 3) := by decide +kernel
theorem dX1_append_74 : decode cX1_append 74 = .ok (.iconst 4, 1) := by decide +kernel
theorem dX1_append_75 : decode cX1_append 75 = .ok (.aload_n 0, 1) := by decide +kernel
theorem dX1_append_76 : decode cX1_append 76 = .ok (.getfield 15, 3) := by decide +kernel
theorem dX1_append_79 : decode cX1_append 79 = .ok (.imul, 1) := by decide +kernel
theorem dX1_append_80 : decode cX1_append 80 = .ok (.iload_n 1, 1) := by decide +kernel
theorem dX1_append_81 : decode cX1_append 81 = .ok (.iastore, 1) := by decide +kernel
theorem dX1_append_82 : decode cX1_append 82 = .ok (.aload_n 0, 1) := by decide +kernel
theorem dX1_append_83 : decode cX1_append 83 = .ok (.getfield 9, 3) := by decide +kernel
theorem dX1_append_86 : decode cX1_append 86 = .ok (.iconst 4, 1) := by decide +kernel
theorem dX1_append_87 : decode cX1_append 87 = .ok (.aload_n 0, 1) := by decide +kernel
theorem dX1_append_88 : decode cX1_append 88 = .ok (.getfield 15, 3) := by decide +kernel
theorem dX1_append_91 : decode cX1_append 91 = .ok (.imul, 1) := by decide +kernel
theorem dX1_append_92 : decode cX1_append 92 = .ok (.iconst 1, 1) := by decide +kernel
theorem dX1_append_93 : decode cX1_append 93 = .ok (.iadd, 1) := by decide +kernel
theorem dX1_append_94 : decode cX1_append 94 = .ok (.iload_n 2, 1) := by decide +kernel
theorem dX1_append_95 : decode cX1_append 95 = .ok (.iastore, 1) := by decide +kernel
theorem dX1_append_96 : decode cX1_append 96 = .ok (.aload_n 0, 1) := by decide +kernel
theorem dX1_append_97 : decode cX1_append 97 = .ok (.getfield 9, 3) := by decide +kernel
theorem dX1_append_100 : decode cX1_append 100 = .ok (.iconst 4, 1) := by decide +kernel
theorem dX1_append_101 : decode cX1_append 101 = .ok (.aload_n 0, 1) := by decide +kernel
theorem dX1_append_102 : decode cX1_append 102 = .ok (.getfield 15, 3) := by decide +kernel
theorem dX1_append_105 : decode cX1_append 105 = .ok (.imul, 1) := by decide +kernel
theorem dX1_append_106 : decode cX1_append 106 = .ok (.iconst 2, 1) := by decide +kernel
theorem dX1_append_107 : decode cX1_append 107 = .ok (.iadd, 1) := by decide +kernel
theorem dX1_append_108 : decode cX1_append 108 = .ok (.iload_n 3, 1) := by decide +kernel
theorem dX1_append_109 : decode cX1_append 109 = .ok (.iastore, 1) := by decide +kernel
theorem dX1_append_110 : decode cX1_append 110 = .ok (.aload_n 0, 1) := by decide +kernel
theorem dX1_append_111 : decode cX1_append 111 = .ok (.getfield 9, 3) := by decide +kernel
theorem dX1_append_114 : decode cX1_append 114 = .ok (.iconst 4, 1) := by decide +kernel
theorem dX1_append_115 : decode cX1_append 115 = .ok (.aload_n 0, 1) := by decide +kernel
theorem dX1_append_116 : decode cX1_append 116 = .ok (.getfield 15, 3) := by decide +kernel
theorem dX1_append_119 : decode cX1_append 119 = .ok (.imul, 1) := by decide +kernel
theorem dX1_append_120 : decode cX1_append 120 = .ok (.iconst 3, 1) := by decide +kernel
theorem dX1_append_121 : decode cX1_append 121 = .ok (.iadd, 1) := by decide +kernel
theorem dX1_append_122 : decode cX1_append 122 = .ok (.iload 4, 2) := by decide +kernel
theorem dX1_append_124 : decode cX1_append 124 = .ok (.iastore, 1) := by decide +kernel
theorem dX1_append_125 : decode cX1_append 125 = .ok (.aload_n 0, 1) := by decide +kernel
theorem dX1_append_126 : decode cX1_append 126 = .ok (.dup, 1) := by decide +kernel
theorem dX1_append_127 : decode cX1_append 127 = .ok (.getfield 15, 3) := by decide +kernel
theorem dX1_append_130 : decode cX1_append 130 = .ok (.iconst 1, 1) := by decide +kernel
theorem dX1_append_131 : decode cX1_append 131 = .ok (.iadd, 1) := by decide +kernel
theorem dX1_append_132 : decode cX1_append 132 = .ok (.putfield 15, 3) := by decide +kernel
theorem dX1_append_135 : decode cX1_append 135 = .ok (.aload_n 0, 1) := by decide +kernel
theorem dX1_append_136 : decode cX1_append 136 = .ok (.getfield 15, 3) := by decide +kernel
theorem dX1_append_139 : decode cX1_append 139 = .ok (.ireturn, 1) := by decide +kernel
theorem dX1_has_0 : decode cX1_has 0 = .ok (.iload_n 1, 1) := by decide +kernel
theorem dX1_has_1 : decode cX1_has 1 = .ok (.ifCond .lt 15, 3) := by decide +kernel
theorem dX1_has_4 : decode cX1_has 4 = .ok (.iload_n 1, 1) := by decide +kernel
theorem dX1_has_5 : decode cX1_has 5 = .ok (.aload_n 0, 1) := by decide +kernel
theorem dX1_has_6 : decode cX1_has 6 = .ok (.getfield 15, 3) := by decide +kernel
theorem dX1_has_9 : decode cX1_has 9 = .ok (.if_icmp .ge 7, 3) := by decide +kernel
theorem dX1_has_12 : decode cX1_has 12 = .ok (.iconst 1, 1) := by decide +kernel
theorem dX1_has_13 : decode cX1_has 13 = .ok (.goto 4, 3) := by decide +kernel
theorem dX1_has_16 : decode cX1_has 16 = .ok (.iconst 0, 1) := by decide +kernel
theorem dX1_has_17 : decode cX1_has 17 = .ok (.ireturn, 1) := by decide +kernel
theorem dX1_passengerOf_0 : decode cX1_passengerOf 0 = .ok (.aload_n 0, 1) := by decide +kernel
theorem dX1_passengerOf_1 : decode cX1_passengerOf 1 = .ok (.iload_n 1, 1) := by decide +kernel
theorem dX1_passengerOf_2 : decode cX1_passengerOf 2 = .ok (.iconst 0, 1) := by decide +kernel
theorem dX1_passengerOf_3 : decode cX1_passengerOf 3 = .ok (.invokevirtual 19, 3) := by decide +kernel
theorem dX1_passengerOf_6 : decode cX1_passengerOf 6 = .ok (.ireturn, 1) := by decide +kernel
theorem dX1_leftOf_0 : decode cX1_leftOf 0 = .ok (.aload_n 0, 1) := by decide +kernel
theorem dX1_leftOf_1 : decode cX1_leftOf 1 = .ok (.iload_n 1, 1) := by decide +kernel
theorem dX1_leftOf_2 : decode cX1_leftOf 2 = .ok (.iconst 1, 1) := by decide +kernel
theorem dX1_leftOf_3 : decode cX1_leftOf 3 = .ok (.invokevirtual 19, 3) := by decide +kernel
theorem dX1_leftOf_6 : decode cX1_leftOf 6 = .ok (.ireturn, 1) := by decide +kernel
theorem dX1_rightOf_0 : decode cX1_rightOf 0 = .ok (.aload_n 0, 1) := by decide +kernel
theorem dX1_rightOf_1 : decode cX1_rightOf 1 = .ok (.iload_n 1, 1) := by decide +kernel
theorem dX1_rightOf_2 : decode cX1_rightOf 2 = .ok (.iconst 2, 1) := by decide +kernel
theorem dX1_rightOf_3 : decode cX1_rightOf 3 = .ok (.invokevirtual 19, 3) := by decide +kernel
theorem dX1_rightOf_6 : decode cX1_rightOf 6 = .ok (.ireturn, 1) := by decide +kernel
theorem dX1_heightOf_0 : decode cX1_heightOf 0 = .ok (.aload_n 0, 1) := by decide +kernel
theorem dX1_heightOf_1 : decode cX1_heightOf 1 = .ok (.iload_n 1, 1) := by decide +kernel
theorem dX1_heightOf_2 : decode cX1_heightOf 2 = .ok (.iconst 3, 1) := by decide +kernel
theorem dX1_heightOf_3 : decode cX1_heightOf 3 = .ok (.invokevirtual 19, 3) := by decide +kernel
theorem dX1_heightOf_6 : decode cX1_heightOf 6 = .ok (.ireturn, 1) := by decide +kernel
theorem dX1_item_0 : decode cX1_item 0 = .ok (.aload_n 0, 1) := by decide +kernel
theorem dX1_item_1 : decode cX1_item 1 = .ok (.iload_n 1, 1) := by decide +kernel
theorem dX1_item_2 : decode cX1_item 2 = .ok (.invokevirtual 23, 3) := by decide +kernel
theorem dX1_item_5 : decode cX1_item 5 = .ok (.ifCond .eq 29, 3) := by decide +kernel
theorem dX1_item_8 : decode cX1_item 8 = .ok (.iconst 4, 1) := by decide +kernel
theorem dX1_item_9 : decode cX1_item 9 = .ok (.iload_n 1, 1) := by decide +kernel
theorem dX1_item_10 : decode cX1_item 10 = .ok (.imul, 1) := by decide +kernel
theorem dX1_item_11 : decode cX1_item 11 = .ok (.iload_n 2, 1) := by decide +kernel
theorem dX1_item_12 : decode cX1_item 12 = .ok (.iadd, 1) := by decide +kernel
theorem dX1_item_13 : decode cX1_item 13 = .ok (.aload_n 0, 1) := by decide +kernel
theorem dX1_item_14 : decode cX1_item 14 = .ok (.getfield 9, 3) := by decide +kernel
theorem dX1_item_17 : decode cX1_item 17 = .ok (.arraylength, 1) := by decide +kernel
theorem dX1_item_18 : decode cX1_item 18 = .ok (.if_icmp .ge 16, 3) := by decide +kernel
theorem dX1_item_21 : decode cX1_item 21 = .ok (.aload_n 0, 1) := by decide +kernel
theorem dX1_item_22 : decode cX1_item 22 = .ok (.getfield 9, 3) := by decide +kernel
theorem dX1_item_25 : decode cX1_item 25 = .ok (.iconst 4, 1) := by decide +kernel
theorem dX1_item_26 : decode cX1_item 26 = .ok (.iload_n 1, 1) := by decide +kernel
theorem dX1_item_27 : decode cX1_item 27 = .ok (.imul, 1) := by decide +kernel
theorem dX1_item_28 : decode cX1_item 28 = .ok (.iload_n 2, 1) := by decide +kernel
theorem dX1_item_29 : decode cX1_item 29 = .ok (.iadd, 1) := by decide +kernel
theorem dX1_item_30 : decode cX1_item 30 = .ok (.iaload, 1) := by decide +kernel
theorem dX1_item_31 : decode cX1_item 31 = .ok (.goto 4, 3) := by decide +kernel
theorem dX1_item_34 : decode cX1_item 34 = .ok (.iconst (-1), 1) := by decide +kernel
theorem dX1_item_35 : decode cX1_item 35 = .ok (.ireturn, 1) := by decide +kernel
theorem dX2_init_0 : decode cX2_init 0 = .ok (.aload_n 0, 1) := by decide +kernel
theorem dX2_init_1 : decode cX2_init 1 = .ok (.bipush 23, 2) := by decide +kernel
theorem dX2_init_3 : decode cX2_init 3 = .ok (.invokespecial 3, 3) := by decide +kernel
theorem dX2_init_6 : decode cX2_init 6 = .ok (.return_, 1) := by decide +kernel
theorem dX2_worth_0 : decode cX2_worth 0 = .ok (.iload_n 1, 1) := by decide +kernel
theorem dX2_worth_1 : decode cX2_worth 1 = .ok (.iconst 3, 1) := by decide +kernel
theorem dX2_worth_2 : decode cX2_worth 2 = .ok (.irem, 1) := by decide +kernel
theorem dX2_worth_3 : decode cX2_worth 3 = .ok (.lookupswitch 67 #[(0, 25), (1, 46)], 25) := by decide +kernel
theorem dX2_worth_28 : decode cX2_worth 28 = .ok (.iload_n 2, 1) := by decide +kernel
theorem dX2_worth_29 : decode cX2_worth 29 = .ok (.bipush 49, 2) := by decide +kernel
theorem dX2_worth_31 : decode cX2_worth 31 = .ok (.if_icmp .lt 16, 3) := by decide +kernel
theorem dX2_worth_34 : decode cX2_worth 34 = .ok (.iload_n 2, 1) := by decide +kernel
theorem dX2_worth_35 : decode cX2_worth 35 = .ok (.bipush 57, 2) := by decide +kernel
theorem dX2_worth_37 : decode cX2_worth 37 = .ok (.if_icmp .gt 10, 3) := by decide +kernel
theorem dX2_worth_40 : decode cX2_worth 40 = .ok (.iload_n 2, 1) := by decide +kernel
theorem dX2_worth_41 : decode cX2_worth 41 = .ok (.bipush 48, 2) := by decide +kernel
theorem dX2_worth_43 : decode cX2_worth 43 = .ok (.isub, 1) := by decide +kernel
theorem dX2_worth_44 : decode cX2_worth 44 = .ok (.goto 4, 3) := by decide +kernel
theorem dX2_worth_47 : decode cX2_worth 47 = .ok (.iconst (-1), 1) := by decide +kernel
theorem dX2_worth_48 : decode cX2_worth 48 = .ok (.ireturn, 1) := by decide +kernel
theorem dX2_worth_49 : decode cX2_worth 49 = .ok (.iload_n 2, 1) := by decide +kernel
theorem dX2_worth_50 : decode cX2_worth 50 = .ok (.bipush 48, 2) := by decide +kernel
theorem dX2_worth_52 : decode cX2_worth 52 = .ok (.if_icmp .lt 16, 3) := by decide +kernel
theorem dX2_worth_55 : decode cX2_worth 55 = .ok (.iload_n 2, 1) := by decide +kernel
theorem dX2_worth_56 : decode cX2_worth 56 = .ok (.bipush 57, 2) := by decide +kernel
theorem dX2_worth_58 : decode cX2_worth 58 = .ok (.if_icmp .gt 10, 3) := by decide +kernel
theorem dX2_worth_61 : decode cX2_worth 61 = .ok (.iload_n 2, 1) := by decide +kernel
theorem dX2_worth_62 : decode cX2_worth 62 = .ok (.bipush 48, 2) := by decide +kernel
theorem dX2_worth_64 : decode cX2_worth 64 = .ok (.isub, 1) := by decide +kernel
theorem dX2_worth_65 : decode cX2_worth 65 = .ok (.goto 4, 3) := by decide +kernel
theorem dX2_worth_68 : decode cX2_worth 68 = .ok (.iconst (-1), 1) := by decide +kernel
theorem dX2_worth_69 : decode cX2_worth 69 = .ok (.ireturn, 1) := by decide +kernel
theorem dX2_worth_70 : decode cX2_worth 70 = .ok (.iload_n 2, 1) := by decide +kernel
theorem dX2_worth_71 : decode cX2_worth 71 = .ok (.bipush 59, 2) := by decide +kernel
theorem dX2_worth_73 : decode cX2_worth 73 = .ok (.if_icmp .ne 7, 3) := by decide +kernel
theorem dX2_worth_76 : decode cX2_worth 76 = .ok (.iconst 0, 1) := by decide +kernel
theorem dX2_worth_77 : decode cX2_worth 77 = .ok (.goto 4, 3) := by decide +kernel
theorem dX2_worth_80 : decode cX2_worth 80 = .ok (.iconst (-1), 1) := by decide +kernel
theorem dX2_worth_81 : decode cX2_worth 81 = .ok (.ireturn, 1) := by decide +kernel
theorem dX2_thingsIn_0 : decode cX2_thingsIn 0 = .ok (.iload_n 1, 1) := by decide +kernel
theorem dX2_thingsIn_1 : decode cX2_thingsIn 1 = .ok (.ifCond .ne 5, 3) := by decide +kernel
theorem dX2_thingsIn_4 : decode cX2_thingsIn 4 = .ok (.iconst 0, 1) := by decide +kernel
theorem dX2_thingsIn_5 : decode cX2_thingsIn 5 = .ok (.ireturn, 1) := by decide +kernel
theorem dX2_thingsIn_6 : decode cX2_thingsIn 6 = .ok (.iload_n 1, 1) := by decide +kernel
theorem dX2_thingsIn_7 : decode cX2_thingsIn 7 = .ok (.iconst 3, 1) := by decide +kernel
theorem dX2_thingsIn_8 : decode cX2_thingsIn 8 = .ok (.irem, 1) := by decide +kernel
theorem dX2_thingsIn_9 : decode cX2_thingsIn 9 = .ok (.iconst 2, 1) := by decide +kernel
theorem dX2_thingsIn_10 : decode cX2_thingsIn 10 = .ok (.if_icmp .ne 11, 3) := by decide +kernel
theorem dX2_thingsIn_13 : decode cX2_thingsIn 13 = .ok (.iload_n 1, 1) := by decide +kernel
theorem dX2_thingsIn_14 : decode cX2_thingsIn 14 = .ok (.iconst 1, 1) := by decide +kernel
theorem dX2_thingsIn_15 : decode cX2_thingsIn 15 = .ok (.iadd, 1) := by decide +kernel
theorem dX2_thingsIn_16 : decode cX2_thingsIn 16 = .ok (.iconst 3, 1) := by decide +kernel
theorem dX2_thingsIn_17 : decode cX2_thingsIn 17 = .ok (.idiv, 1) := by decide +kernel
theorem dX2_thingsIn_18 : decode cX2_thingsIn 18 = .ok (.goto 4, 3) := by decide +kernel
theorem dX2_thingsIn_21 : decode cX2_thingsIn 21 = .ok (.iconst (-1), 1) := by decide +kernel
theorem dX2_thingsIn_22 : decode cX2_thingsIn 22 = .ok (.ireturn, 1) := by decide +kernel
theorem dX2_told_0 : decode cX2_told 0 = .ok (.aload_n 0, 1) := by decide +kernel
theorem dX2_told_1 : decode cX2_told 1 = .ok (.iconst 3, 1) := by decide +kernel
theorem dX2_told_2 : decode cX2_told 2 = .ok (.iload_n 1, 1) := by decide +kernel
theorem dX2_told_3 : decode cX2_told 3 = .ok (.imul, 1) := by decide +kernel
theorem dX2_told_4 : decode cX2_told 4 = .ok (.iload_n 2, 1) := by decide +kernel
theorem dX2_told_5 : decode cX2_told 5 = .ok (.iadd, 1) := by decide +kernel
theorem dX2_told_6 : decode cX2_told 6 = .ok (.invokevirtual 9, 3) := by decide +kernel
theorem dX2_told_9 : decode cX2_told 9 = .ok (.ireturn, 1) := by decide +kernel
theorem dX3_init_0 : decode cX3_init 0 = .ok (.aload_n 0, 1) := by decide +kernel
theorem dX3_init_1 : decode cX3_init 1 = .ok (.invokespecial 1, 3) := by decide +kernel
theorem dX3_init_4 : decode cX3_init 4 = .ok (.return_, 1) := by decide +kernel
theorem dX3_setOut_0 : decode cX3_setOut 0 = .ok (.aload_n 0, 1) := by decide +kernel
theorem dX3_setOut_1 : decode cX3_setOut 1 = .ok (.aload_n 0, 1) := by decide +kernel
theorem dX3_setOut_2 : decode cX3_setOut 2 = .ok (.getfield 7, 3) := by decide +kernel
theorem dX3_setOut_5 : decode cX3_setOut 5 = .ok (.putfield 13, 3) := by decide +kernel
theorem dX3_setOut_8 : decode cX3_setOut 8 = .ok (.aload_n 0, 1) := by decide +kernel
theorem dX3_setOut_9 : decode cX3_setOut 9 = .ok (.iconst 0, 1) := by decide +kernel
theorem dX3_setOut_10 : decode cX3_setOut 10 = .ok (.putfield 16, 3) := by decide +kernel
theorem dX3_setOut_13 : decode cX3_setOut 13 = .ok (.return_, 1) := by decide +kernel
theorem dX3_flyMile_0 : decode cX3_flyMile 0 = .ok (.aload_n 0, 1) := by decide +kernel
theorem dX3_flyMile_1 : decode cX3_flyMile 1 = .ok (.dup, 1) := by decide +kernel
theorem dX3_flyMile_2 : decode cX3_flyMile 2 = .ok (.getfield 16, 3) := by decide +kernel
theorem dX3_flyMile_5 : decode cX3_flyMile 5 = .ok (.iconst 1, 1) := by decide +kernel
theorem dX3_flyMile_6 : decode cX3_flyMile 6 = .ok (.iadd, 1) := by decide +kernel
theorem dX3_flyMile_7 : decode cX3_flyMile 7 = .ok (.putfield 16, 3) := by decide +kernel
theorem dX3_flyMile_10 : decode cX3_flyMile 10 = .ok (.aload_n 0, 1) := by decide +kernel
theorem dX3_flyMile_11 : decode cX3_flyMile 11 = .ok (.getfield 16, 3) := by decide +kernel
theorem dX3_flyMile_14 : decode cX3_flyMile 14 = .ok (.aload_n 0, 1) := by decide +kernel
theorem dX3_flyMile_15 : decode cX3_flyMile 15 = .ok (.getfield 19, 3) := by decide +kernel
theorem dX3_flyMile_18 : decode cX3_flyMile 18 = .ok (.if_icmp .ne 18, 3) := by decide +kernel
theorem dX3_flyMile_21 : decode cX3_flyMile 21 = .ok (.aload_n 0, 1) := by decide +kernel
theorem dX3_flyMile_22 : decode cX3_flyMile 22 = .ok (.dup, 1) := by decide +kernel
theorem dX3_flyMile_23 : decode cX3_flyMile 23 = .ok (.getfield 13, 3) := by decide +kernel
theorem dX3_flyMile_26 : decode cX3_flyMile 26 = .ok (.iconst 1, 1) := by decide +kernel
theorem dX3_flyMile_27 : decode cX3_flyMile 27 = .ok (.isub, 1) := by decide +kernel
theorem dX3_flyMile_28 : decode cX3_flyMile 28 = .ok (.putfield 13, 3) := by decide +kernel
theorem dX3_flyMile_31 : decode cX3_flyMile 31 = .ok (.aload_n 0, 1) := by decide +kernel
theorem dX3_flyMile_32 : decode cX3_flyMile 32 = .ok (.iconst 0, 1) := by decide +kernel
theorem dX3_flyMile_33 : decode cX3_flyMile 33 = .ok (.putfield 16, 3) := by decide +kernel
theorem dX3_flyMile_36 : decode cX3_flyMile 36 = .ok (.return_, 1) := by decide +kernel
theorem dX3_rest_0 : decode cX3_rest 0 = .ok (.aload_n 0, 1) := by decide +kernel
theorem dX3_rest_1 : decode cX3_rest 1 = .ok (.getfield 13, 3) := by decide +kernel
theorem dX3_rest_4 : decode cX3_rest 4 = .ok (.aload_n 0, 1) := by decide +kernel
theorem dX3_rest_5 : decode cX3_rest 5 = .ok (.getfield 7, 3) := by decide +kernel
theorem dX3_rest_8 : decode cX3_rest 8 = .ok (.if_icmp .ge 13, 3) := by decide +kernel
theorem dX3_rest_11 : decode cX3_rest 11 = .ok (.aload_n 0, 1) := by decide +kernel
theorem dX3_rest_12 : decode cX3_rest 12 = .ok (.dup, 1) := by decide +kernel
theorem dX3_rest_13 : decode cX3_rest 13 = .ok (.getfield 13, 3) := by decide +kernel
theorem dX3_rest_16 : decode cX3_rest 16 = .ok (.iconst 1, 1) := by decide +kernel
theorem dX3_rest_17 : decode cX3_rest 17 = .ok (.iadd, 1) := by decide +kernel
theorem dX3_rest_18 : decode cX3_rest 18 = .ok (.putfield 13, 3) := by decide +kernel
theorem dX3_rest_21 : decode cX3_rest 21 = .ok (.return_, 1) := by decide +kernel
theorem dX4_init_0 : decode cX4_init 0 = .ok (.aload_n 0, 1) := by decide +kernel
theorem dX4_init_1 : decode cX4_init 1 = .ok (.bipush 24, 2) := by decide +kernel
theorem dX4_init_3 : decode cX4_init 3 = .ok (.invokespecial 3, 3) := by decide +kernel
theorem dX4_init_6 : decode cX4_init 6 = .ok (.return_, 1) := by decide +kernel
theorem dX4_worth_0 : decode cX4_worth 0 = .ok (.iload_n 2, 1) := by decide +kernel
theorem dX4_worth_1 : decode cX4_worth 1 = .ok (.bipush 97, 2) := by decide +kernel
theorem dX4_worth_3 : decode cX4_worth 3 = .ok (.if_icmp .lt 14, 3) := by decide +kernel
theorem dX4_worth_6 : decode cX4_worth 6 = .ok (.iload_n 2, 1) := by decide +kernel
theorem dX4_worth_7 : decode cX4_worth 7 = .ok (.bipush 102, 2) := by decide +kernel
theorem dX4_worth_9 : decode cX4_worth 9 = .ok (.if_icmp .gt 8, 3) := by decide +kernel
theorem dX4_worth_12 : decode cX4_worth 12 = .ok (.iload_n 2, 1) := by decide +kernel
theorem dX4_worth_13 : decode cX4_worth 13 = .ok (.bipush 97, 2) := by decide +kernel
theorem dX4_worth_15 : decode cX4_worth 15 = .ok (.isub, 1) := by decide +kernel
theorem dX4_worth_16 : decode cX4_worth 16 = .ok (.ireturn, 1) := by decide +kernel
theorem dX4_worth_17 : decode cX4_worth 17 = .ok (.iload_n 2, 1) := by decide +kernel
theorem dX4_worth_18 : decode cX4_worth 18 = .ok (.lookupswitch 43 #[(105, 37), (111, 34), (119, 40)], 34) := by decide +kernel
theorem dX4_worth_52 : decode cX4_worth 52 = .ok (.bipush 6, 2) := by decide +kernel
theorem dX4_worth_54 : decode cX4_worth 54 = .ok (.ireturn, 1) := by decide +kernel
theorem dX4_worth_55 : decode cX4_worth 55 = .ok (.bipush 7, 2) := by decide +kernel
theorem dX4_worth_57 : decode cX4_worth 57 = .ok (.ireturn, 1) := by decide +kernel
theorem dX4_worth_58 : decode cX4_worth 58 = .ok (.bipush 8, 2) := by decide +kernel
theorem dX4_worth_60 : decode cX4_worth 60 = .ok (.ireturn, 1) := by decide +kernel
theorem dX4_worth_61 : decode cX4_worth 61 = .ok (.iconst (-1), 1) := by decide +kernel
theorem dX4_worth_62 : decode cX4_worth 62 = .ok (.ireturn, 1) := by decide +kernel
theorem dX4_thingsIn_0 : decode cX4_thingsIn 0 = .ok (.iload_n 1, 1) := by decide +kernel
theorem dX4_thingsIn_1 : decode cX4_thingsIn 1 = .ok (.ireturn, 1) := by decide +kernel
theorem dX4_isTown_0 : decode cX4_isTown 0 = .ok (.aload_n 0, 1) := by decide +kernel
theorem dX4_isTown_1 : decode cX4_isTown 1 = .ok (.iload_n 1, 1) := by decide +kernel
theorem dX4_isTown_2 : decode cX4_isTown 2 = .ok (.invokevirtual 9, 3) := by decide +kernel
theorem dX4_isTown_5 : decode cX4_isTown 5 = .ok (.ifCond .eq 17, 3) := by decide +kernel
theorem dX4_isTown_8 : decode cX4_isTown 8 = .ok (.aload_n 0, 1) := by decide +kernel
theorem dX4_isTown_9 : decode cX4_isTown 9 = .ok (.iload_n 1, 1) := by decide +kernel
theorem dX4_isTown_10 : decode cX4_isTown 10 = .ok (.invokevirtual 15, 3) := by decide +kernel
theorem dX4_isTown_13 : decode cX4_isTown 13 = .ok (.bipush 6, 2) := by decide +kernel
theorem dX4_isTown_15 : decode cX4_isTown 15 = .ok (.if_icmp .ge 7, 3) := by decide +kernel
theorem dX4_isTown_18 : decode cX4_isTown 18 = .ok (.iconst 1, 1) := by decide +kernel
theorem dX4_isTown_19 : decode cX4_isTown 19 = .ok (.goto 4, 3) := by decide +kernel
theorem dX4_isTown_22 : decode cX4_isTown 22 = .ok (.iconst 0, 1) := by decide +kernel
theorem dX4_isTown_23 : decode cX4_isTown 23 = .ok (.ireturn, 1) := by decide +kernel
theorem dX4_towns_0 : decode cX4_towns 0 = .ok (.iconst 0, 1) := by decide +kernel
theorem dX4_towns_1 : decode cX4_towns 1 = .ok (.istore_n 1, 1) := by decide +kernel
theorem dX4_towns_2 : decode cX4_towns 2 = .ok (.iconst 0, 1) := by decide +kernel
theorem dX4_towns_3 : decode cX4_towns 3 = .ok (.istore_n 2, 1) := by decide +kernel
theorem dX4_towns_4 : decode cX4_towns 4 = .ok (.iload_n 2, 1) := by decide +kernel
theorem dX4_towns_5 : decode cX4_towns 5 = .ok (.aload_n 0, 1) := by decide +kernel
theorem dX4_towns_6 : decode cX4_towns 6 = .ok (.getfield 19, 3) := by decide +kernel
theorem dX4_towns_9 : decode cX4_towns 9 = .ok (.if_icmp .ge 20, 3) := by decide +kernel
theorem dX4_towns_12 : decode cX4_towns 12 = .ok (.aload_n 0, 1) := by decide +kernel
theorem dX4_towns_13 : decode cX4_towns 13 = .ok (.iload_n 2, 1) := by decide +kernel
theorem dX4_towns_14 : decode cX4_towns 14 = .ok (.invokevirtual 23, 3) := by decide +kernel
theorem dX4_towns_17 : decode cX4_towns 17 = .ok (.ifCond .eq 6, 3) := by decide +kernel
theorem dX4_towns_20 : decode cX4_towns 20 = .ok (.iinc 1 1, 3) := by decide +kernel
theorem dX4_towns_23 : decode cX4_towns 23 = .ok (.iinc 2 1, 3) := by decide +kernel
theorem dX4_towns_26 : decode cX4_towns 26 = .ok (.goto (-22), 3) := by decide +kernel
theorem dX4_towns_29 : decode cX4_towns 29 = .ok (.iload_n 1, 1) := by decide +kernel
theorem dX4_towns_30 : decode cX4_towns 30 = .ok (.ireturn, 1) := by decide +kernel
theorem dX5_init_0 : decode cX5_init 0 = .ok (.aload_n 0, 1) := by decide +kernel
theorem dX5_init_1 : decode cX5_init 1 = .ok (.invokespecial 3, 3) := by decide +kernel
theorem dX5_init_4 : decode cX5_init 4 = .ok (.aload_n 0, 1) := by decide +kernel
theorem dX5_init_5 : decode cX5_init 5 = .ok (.bipush 46, 2) := by decide +kernel
theorem dX5_init_7 : decode cX5_init 7 = .ok (.newarray .long, 2) := by decide +kernel
theorem dX5_init_9 : decode cX5_init 9 = .ok (.putfield 9, 3) := by decide +kernel
theorem dX5_init_12 : decode cX5_init 12 = .ok (.return_, 1) := by decide +kernel
theorem dX5_weigh_0 : decode cX5_weigh 0 = .ok (.aload_n 0, 1) := by decide +kernel
theorem dX5_weigh_1 : decode cX5_weigh 1 = .ok (.lconst 0, 1) := by decide +kernel
theorem dX5_weigh_2 : decode cX5_weigh 2 = .ok (.putfield 15, 3) := by decide +kernel
theorem dX5_weigh_5 : decode cX5_weigh 5 = .ok (.aload_n 0, 1) := by decide +kernel
theorem dX5_weigh_6 : decode cX5_weigh 6 = .ok (.lconst 1, 1) := by decide +kernel
theorem dX5_weigh_7 : decode cX5_weigh 7 = .ok (.putfield 19, 3) := by decide +kernel
theorem dX5_weigh_10 : decode cX5_weigh 10 = .ok (.aload_n 2, 1) := by decide +kernel
theorem dX5_weigh_11 : decode cX5_weigh 11 = .ok (.getfield 22, 3) := by decide +kernel
theorem dX5_weigh_14 : decode cX5_weigh 14 = .ok (.ifCond .eq 17, 3) := by decide +kernel
theorem dX5_weigh_17 : decode cX5_weigh 17 = .ok (.aload_n 2, 1) := by decide +kernel
theorem dX5_weigh_18 : decode cX5_weigh 18 = .ok (.getfield 28, 3) := by decide +kernel
theorem dX5_weigh_21 : decode cX5_weigh 21 = .ok (.aload_n 2, 1) := by decide +kernel
theorem dX5_weigh_22 : decode cX5_weigh 22 = .ok (.getfield 32, 3) := by decide +kernel
theorem dX5_weigh_25 : decode cX5_weigh 25 = .ok (.getfield 36, 3) := by decide +kernel
theorem dX5_weigh_28 : decode cX5_weigh 28 = .ok (.if_icmp .ge 4, 3) := by decide +kernel
theorem dX5_weigh_31 : decode cX5_weigh 31 = .ok (.return_, 1) := by decide +kernel
theorem dX5_weigh_32 : decode cX5_weigh 32 = .ok (.aload_n 0, 1) := by decide +kernel
theorem dX5_weigh_33 : decode cX5_weigh 33 = .ok (.lconst 1, 1) := by decide +kernel
theorem dX5_weigh_34 : decode cX5_weigh 34 = .ok (.invokevirtual 41, 3) := by decide +kernel
theorem dX5_weigh_37 : decode cX5_weigh 37 = .ok (.iconst 0, 1) := by decide +kernel
theorem dX5_weigh_38 : decode cX5_weigh 38 = .ok (.istore 4, 2) := by decide +kernel
theorem dX5_weigh_40 : decode cX5_weigh 40 = .ok (.iconst 0, 1) := by decide +kernel
theorem dX5_weigh_41 : decode cX5_weigh 41 = .ok (.istore 5, 2) := by decide +kernel
theorem dX5_weigh_43 : decode cX5_weigh 43 = .ok (.iload 5, 2) := by decide +kernel
theorem dX5_weigh_45 : decode cX5_weigh 45 = .ok (.aload_n 2, 1) := by decide +kernel
theorem dX5_weigh_46 : decode cX5_weigh 46 = .ok (.getfield 32, 3) := by decide +kernel
theorem dX5_weigh_49 : decode cX5_weigh 49 = .ok (.getfield 36, 3) := by decide +kernel
theorem dX5_weigh_52 : decode cX5_weigh 52 = .ok (.if_icmp .ge 89, 3) := by decide +kernel
theorem dX5_weigh_55 : decode cX5_weigh 55 = .ok (.iload 4, 2) := by decide +kernel
theorem dX5_weigh_57 : decode cX5_weigh 57 = .ok (.iconst 0, 1) := by decide +kernel
theorem dX5_weigh_58 : decode cX5_weigh 58 = .ok (.iload_n 3, 1) := by decide +kernel
theorem dX5_weigh_59 : decode cX5_weigh 59 = .ok (.iconst 5, 1) := by decide +kernel
theorem dX5_weigh_60 : decode cX5_weigh 60 = .ok (.isub, 1) := by decide +kernel
theorem dX5_weigh_61 : decode cX5_weigh 61 = .ok (.invokestatic 45, 3) := by decide +kernel
theorem dX5_weigh_64 : decode cX5_weigh 64 = .ok (.iadd, 1) := by decide +kernel
theorem dX5_weigh_65 : decode cX5_weigh 65 = .ok (.istore 4, 2) := by decide +kernel
theorem dX5_weigh_67 : decode cX5_weigh 67 = .ok (.iload 4, 2) := by decide +kernel
theorem dX5_weigh_69 : decode cX5_weigh 69 = .ok (.bipush 20, 2) := by decide +kernel
theorem dX5_weigh_71 : decode cX5_weigh 71 = .ok (.if_icmp .le 9, 3) := by decide +kernel
theorem dX5_weigh_74 : decode cX5_weigh 74 = .ok (.aload_n 0, 1) := by decide +kernel
theorem dX5_weigh_75 : decode cX5_weigh 75 = .ok (.lconst 1, 1) := by decide +kernel
theorem dX5_weigh_76 : decode cX5_weigh 76 = .ok (.putfield 19, 3) := by decide +kernel
theorem dX5_weigh_79 : decode cX5_weigh 79 = .ok (.return_, 1) := by decide +kernel
theorem dX5_weigh_80 : decode cX5_weigh 80 = .ok (.aload_n 2, 1) := by decide +kernel
theorem dX5_weigh_81 : decode cX5_weigh 81 = .ok (.getfield 32, 3) := by decide +kernel
theorem dX5_weigh_84 : decode cX5_weigh 84 = .ok (.iload 5, 2) := by decide +kernel
theorem dX5_weigh_86 : decode cX5_weigh 86 = .ok (.invokevirtual 51, 3) := by decide +kernel
theorem dX5_weigh_89 : decode cX5_weigh 89 = .ok (.istore 6, 2) := by decide +kernel
theorem dX5_weigh_91 : decode cX5_weigh 91 = .ok (.iload 6, 2) := by decide +kernel
theorem dX5_weigh_93 : decode cX5_weigh 93 = .ok (.bipush 7, 2) := by decide +kernel
theorem dX5_weigh_95 : decode cX5_weigh 95 = .ok (.if_icmp .ne 17, 3) := by decide +kernel
theorem dX5_weigh_98 : decode cX5_weigh 98 = .ok (.aload_n 0, 1) := by decide +kernel
theorem dX5_weigh_99 : decode cX5_weigh 99 = .ok (.aload_n 0, 1) := by decide +kernel
theorem dX5_weigh_100 : decode cX5_weigh 100 = .ok (.invokevirtual 55, 3) := by decide +kernel
theorem dX5_weigh_103 : decode cX5_weigh 103 = .ok (.invokevirtual 41, 3) := by decide +kernel
theorem dX5_weigh_106 : decode cX5_weigh 106 = .ok (.iconst 0, 1) := by decide +kernel
theorem dX5_weigh_107 : decode cX5_weigh 107 = .ok (.istore 4, 2) := by decide +kernel
theorem dX5_weigh_109 : decode cX5_weigh 109 = .ok (.goto 26, 3) := by decide +kernel
theorem dX5_weigh_112 : decode cX5_weigh 112 = .ok (.iload 6, 2) := by decide +kernel
theorem dX5_weigh_114 : decode cX5_weigh 114 = .ok (.bipush 6, 2) := by decide +kernel
theorem dX5_weigh_116 : decode cX5_weigh 116 = .ok (.if_icmp .ge 19, 3) := by decide +kernel
theorem dX5_weigh_119 : decode cX5_weigh 119 = .ok (.aload_n 0, 1) := by decide +kernel
theorem dX5_weigh_120 : decode cX5_weigh 120 = .ok (.iload_n 1, 1) := by decide +kernel
theorem dX5_weigh_121 : decode cX5_weigh 121 = .ok (.aload_n 2, 1) := by decide +kernel
theorem dX5_weigh_122 : decode cX5_weigh 122 = .ok (.iload 6, 2) := by decide +kernel
theorem dX5_weigh_124 : decode cX5_weigh 124 = .ok (.iload_n 3, 1) := by decide +kernel
theorem dX5_weigh_125 : decode cX5_weigh 125 = .ok (.invokevirtual 59, 3) := by decide +kernel
theorem dX5_weigh_128 : decode cX5_weigh 128 = .ok (.aload_n 2, 1) := by decide +kernel
theorem dX5_weigh_129 : decode cX5_weigh 129 = .ok (.getfield 62, 3) := by decide +kernel
theorem dX5_weigh_132 : decode cX5_weigh 132 = .ok (.invokevirtual 65, 3) := by decide +kernel
theorem dX5_weigh_135 : decode cX5_weigh 135 = .ok (.iinc 5 1, 3) := by decide +kernel
theorem dX5_weigh_138 : decode cX5_weigh 138 = .ok (.goto (-95), 3) := by decide +kernel
theorem dX5_weigh_141 : decode cX5_weigh 141 = .ok (.aload_n 0, 1) := by decide +kernel
theorem dX5_weigh_142 : decode cX5_weigh 142 = .ok (.aload_n 0, 1) := by decide +kernel
theorem dX5_weigh_143 : decode cX5_weigh 143 = .ok (.invokevirtual 55, 3) := by decide +kernel
theorem dX5_weigh_146 : decode cX5_weigh 146 = .ok (.putfield 15, 3) := by decide +kernel
theorem dX5_weigh_149 : decode cX5_weigh 149 = .ok (.aload_n 0, 1) := by decide +kernel
theorem dX5_weigh_150 : decode cX5_weigh 150 = .ok (.invokevirtual 69, 3) := by decide +kernel
theorem dX5_weigh_153 : decode cX5_weigh 153 = .ok (.return_, 1) := by decide +kernel
theorem dX5_startCalm_0 : decode cX5_startCalm 0 = .ok (.iconst 1, 1) := by decide +kernel
theorem dX5_startCalm_1 : decode cX5_startCalm 1 = .ok (.istore_n 3, 1) := by decide +kernel
theorem dX5_startCalm_2 : decode cX5_startCalm 2 = .ok (.iload_n 3, 1) := by decide +kernel
theorem dX5_startCalm_3 : decode cX5_startCalm 3 = .ok (.aload_n 0, 1) := by decide +kernel
theorem dX5_startCalm_4 : decode cX5_startCalm 4 = .ok (.getfield 9, 3) := by decide +kernel
theorem dX5_startCalm_7 : decode cX5_startCalm 7 = .ok (.arraylength, 1) := by decide +kernel
theorem dX5_startCalm_8 : decode cX5_startCalm 8 = .ok (.if_icmp .ge 16, 3) := by decide +kernel
theorem dX5_startCalm_11 : decode cX5_startCalm 11 = .ok (.aload_n 0, 1) := by decide +kernel
theorem dX5_startCalm_12 : decode cX5_startCalm 12 = .ok (.getfield 9, 3) := by decide +kernel
theorem dX5_startCalm_15 : decode cX5_startCalm 15 = .ok (.iload_n 3, 1) := by decide +kernel
theorem dX5_startCalm_16 : decode cX5_startCalm 16 = .ok (.lconst 0, 1) := by decide +kernel
theorem dX5_startCalm_17 : decode cX5_startCalm 17 = .ok (.lastore, 1) := by decide +kernel
theorem dX5_startCalm_18 : decode cX5_startCalm 18 = .ok (.iinc 3 1, 3) := by decide +kernel
theorem dX5_startCalm_21 : decode cX5_startCalm 21 = .ok (.goto (-19), 3) := by decide +kernel
theorem dX5_startCalm_24 : decode cX5_startCalm 24 = .ok (.aload_n 0, 1) := by decide +kernel
theorem dX5_startCalm_25 : decode cX5_startCalm 25 = .ok (.getfield 9, 3) := by decide +kernel
theorem dX5_startCalm_28 : decode cX5_startCalm 28 = .ok (.iconst 0, 1) := by decide +kernel
theorem dX5_startCalm_29 : decode cX5_startCalm 29 = .ok (.lload_n 1, 1) := by decide +kernel
theorem dX5_startCalm_30 : decode cX5_startCalm 30 = .ok (.lastore, 1) := by decide +kernel
theorem dX5_startCalm_31 : decode cX5_startCalm 31 = .ok (.return_, 1) := by decide +kernel
theorem dX5_hear_0 : decode cX5_hear 0 = .ok (.iload_n 2, 1) := by decide +kernel
theorem dX5_hear_1 : decode cX5_hear 1 = .ok (.ifCond .gt 4, 3) := by decide +kernel
theorem dX5_hear_4 : decode cX5_hear 4 = .ok (.return_, 1) := by decide +kernel
theorem dX5_hear_5 : decode cX5_hear 5 = .ok (.aload_n 0, 1) := by decide +kernel
theorem dX5_hear_6 : decode cX5_hear 6 = .ok (.dup, 1) := by decide +kernel
theorem dX5_hear_7 : decode cX5_hear 7 = .ok (.getfield 19, 3) := by decide +kernel
theorem dX5_hear_10 : decode cX5_hear 10 = .ok (.ldc2_w 72, 3) := by decide +kernel
theorem dX5_hear_13 : decode cX5_hear 13 = .ok (.lmul, 1) := by decide +kernel
theorem dX5_hear_14 : decode cX5_hear 14 = .ok (.putfield 19, 3) := by decide +kernel
theorem dX5_hear_17 : decode cX5_hear 17 = .ok (.iload_n 3, 1) := by decide +kernel
theorem dX5_hear_18 : decode cX5_hear 18 = .ok (.bipush 45, 2) := by decide +kernel
theorem dX5_hear_20 : decode cX5_hear 20 = .ok (.invokestatic 74, 3) := by decide +kernel
theorem dX5_hear_23 : decode cX5_hear 23 = .ok (.istore 4, 2) := by decide +kernel
theorem dX5_hear_25 : decode cX5_hear 25 = .ok (.iload 4, 2) := by decide +kernel
theorem dX5_hear_27 : decode cX5_hear 27 = .ok (.ifCond .lt 56, 3) := by decide +kernel
theorem dX5_hear_30 : decode cX5_hear 30 = .ok (.iload 4, 2) := by decide +kernel
theorem dX5_hear_32 : decode cX5_hear 32 = .ok (.iload_n 2, 1) := by decide +kernel
theorem dX5_hear_33 : decode cX5_hear 33 = .ok (.if_icmp .lt 18, 3) := by decide +kernel
theorem dX5_hear_36 : decode cX5_hear 36 = .ok (.aload_n 0, 1) := by decide +kernel
theorem dX5_hear_37 : decode cX5_hear 37 = .ok (.getfield 9, 3) := by decide +kernel
theorem dX5_hear_40 : decode cX5_hear 40 = .ok (.iload 4, 2) := by decide +kernel
theorem dX5_hear_42 : decode cX5_hear 42 = .ok (.iload_n 2, 1) := by decide +kernel
theorem dX5_hear_43 : decode cX5_hear 43 = .ok (.isub, 1) := by decide +kernel
theorem dX5_hear_44 : decode cX5_hear 44 = .ok (.laload, 1) := by decide +kernel
theorem dX5_hear_45 : decode cX5_hear 45 = .ok (.iload_n 1, 1) := by decide +kernel
theorem dX5_hear_46 : decode cX5_hear 46 = .ok (.i2l, 1) := by decide +kernel
theorem dX5_hear_47 : decode cX5_hear 47 = .ok (.lmul, 1) := by decide +kernel
theorem dX5_hear_48 : decode cX5_hear 48 = .ok (.goto 4, 3) := by decide +kernel
theorem dX5_hear_51 : decode cX5_hear 51 = .ok (.lconst 0, 1) := by decide +kernel
theorem dX5_hear_52 : decode cX5_hear 52 = .ok (.lstore 5, 2) := by decide +kernel
theorem dX5_hear_54 : decode cX5_hear 54 = .ok (.aload_n 0, 1) := by decide +kernel
theorem dX5_hear_55 : decode cX5_hear 55 = .ok (.getfield 9, 3) := by decide +kernel
theorem dX5_hear_58 : decode cX5_hear 58 = .ok (.iload 4, 2) := by decide +kernel
theorem dX5_hear_60 : decode cX5_hear 60 = .ok (.aload_n 0, 1) := by decide +kernel
theorem dX5_hear_61 : decode cX5_hear 61 = .ok (.getfield 9, 3) := by decide +kernel
theorem dX5_hear_64 : decode cX5_hear 64 = .ok (.iload 4, 2) := by decide +kernel
theorem dX5_hear_66 : decode cX5_hear 66 = .ok (.laload, 1) := by decide +kernel
theorem dX5_hear_67 : decode cX5_hear 67 = .ok (.bipush 16, 2) := by decide +kernel
theorem dX5_hear_69 : decode cX5_hear 69 = .ok (.iload_n 1, 1) := by decide +kernel
theorem dX5_hear_70 : decode cX5_hear 70 = .ok (.isub, 1) := by decide +kernel
theorem dX5_hear_71 : decode cX5_hear 71 = .ok (.i2l, 1) := by decide +kernel
theorem dX5_hear_72 : decode cX5_hear 72 = .ok (.lmul, 1) := by decide +kernel
theorem dX5_hear_73 : decode cX5_hear 73 = .ok (.lload 5, 2) := by decide +kernel
theorem dX5_hear_75 : decode cX5_hear 75 = .ok (.ladd, 1) := by decide +kernel
theorem dX5_hear_76 : decode cX5_hear 76 = .ok (.lastore, 1) := by decide +kernel
theorem dX5_hear_77 : decode cX5_hear 77 = .ok (.iinc 4 (-1), 3) := by decide +kernel
theorem dX5_hear_80 : decode cX5_hear 80 = .ok (.goto (-55), 3) := by decide +kernel
theorem dX5_hear_83 : decode cX5_hear 83 = .ok (.return_, 1) := by decide +kernel
theorem dX5_sum_0 : decode cX5_sum 0 = .ok (.lconst 0, 1) := by decide +kernel
theorem dX5_sum_1 : decode cX5_sum 1 = .ok (.lstore_n 1, 1) := by decide +kernel
theorem dX5_sum_2 : decode cX5_sum 2 = .ok (.iconst 0, 1) := by decide +kernel
theorem dX5_sum_3 : decode cX5_sum 3 = .ok (.istore_n 3, 1) := by decide +kernel
theorem dX5_sum_4 : decode cX5_sum 4 = .ok (.iload_n 3, 1) := by decide +kernel
theorem dX5_sum_5 : decode cX5_sum 5 = .ok (.aload_n 0, 1) := by decide +kernel
theorem dX5_sum_6 : decode cX5_sum 6 = .ok (.getfield 9, 3) := by decide +kernel
theorem dX5_sum_9 : decode cX5_sum 9 = .ok (.arraylength, 1) := by decide +kernel
theorem dX5_sum_10 : decode cX5_sum 10 = .ok (.if_icmp .ge 18, 3) := by decide +kernel
