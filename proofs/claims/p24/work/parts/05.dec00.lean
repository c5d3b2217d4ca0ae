theorem dX0_init_0_a : (decode cX0_init 0 = .ok (.aload_n 0, 1)) ∧ (decode cX0_init 1 = .ok (.invokespecial 3, 3)) ∧ (decode cX0_init 4 = .ok (.return_, 1)) := by decide +kernel
theorem dX0_init_0 : decode cX0_init 0 = .ok (.aload_n 0, 1) := dX0_init_0_a.1
theorem dX0_init_1 : decode cX0_init 1 = .ok (.invokespecial 3, 3) := dX0_init_0_a.2.1
theorem dX0_init_4 : decode cX0_init 4 = .ok (.return_, 1) := dX0_init_0_a.2.2
theorem dX0_told_0_a : (decode cX0_told 0 = .ok (.iload_n 1, 1)) ∧ (decode cX0_told 1 = .ok (.tableswitch 42 0 2 #[27, 32, 37], 27)) ∧ (decode cX0_told 28 = .ok (.aload_n 0, 1)) ∧ (decode cX0_told 29 = .ok (.getfield 9, 3)) ∧ (decode cX0_told 32 = .ok (.ireturn, 1)) ∧ (decode cX0_told 33 = .ok (.aload_n 0, 1)) ∧ (decode cX0_told 34 = .ok (.getfield 15, 3)) ∧ (decode cX0_told 37 = .ok (.ireturn, 1)) ∧ (decode cX0_told 38 = .ok (.aload_n 0, 1)) ∧ (decode cX0_told 39 = .ok (.getfield 18, 3)) ∧ (decode cX0_told 42 = .ok (.ireturn, 1)) ∧ (decode cX0_told 43 = .ok (.aload_n 0, 1)) ∧ (decode cX0_told 44 = .ok (.getfield 21, 3)) ∧ (decode cX0_told 47 = .ok (.ireturn, 1)) := by decide +kernel
theorem dX0_told_0 : decode cX0_told 0 = .ok (.iload_n 1, 1) := dX0_told_0_a.1
theorem dX0_told_1 : decode cX0_told 1 = .ok (.tableswitch 42 0 2 #[27, 32, 37], 27) := dX0_told_0_a.2.1
theorem dX0_told_28 : decode cX0_told 28 = .ok (.aload_n 0, 1) := dX0_told_0_a.2.2.1
theorem dX0_told_29 : decode cX0_told 29 = .ok (.getfield 9, 3) := dX0_told_0_a.2.2.2.1
theorem dX0_told_32 : decode cX0_told 32 = .ok (.ireturn, 1) := dX0_told_0_a.2.2.2.2.1
theorem dX0_told_33 : decode cX0_told 33 = .ok (.aload_n 0, 1) := dX0_told_0_a.2.2.2.2.2.1
theorem dX0_told_34 : decode cX0_told 34 = .ok (.getfield 15, 3) := dX0_told_0_a.2.2.2.2.2.2.1
theorem dX0_told_37 : decode cX0_told 37 = .ok (.ireturn, 1) := dX0_told_0_a.2.2.2.2.2.2.2.1
theorem dX0_told_38 : decode cX0_told 38 = .ok (.aload_n 0, 1) := dX0_told_0_a.2.2.2.2.2.2.2.2.1
theorem dX0_told_39 : decode cX0_told 39 = .ok (.getfield 18, 3) := dX0_told_0_a.2.2.2.2.2.2.2.2.2.1
theorem dX0_told_42 : decode cX0_told 42 = .ok (.ireturn, 1) := dX0_told_0_a.2.2.2.2.2.2.2.2.2.2.1
theorem dX0_told_43 : decode cX0_told 43 = .ok (.aload_n 0, 1) := dX0_told_0_a.2.2.2.2.2.2.2.2.2.2.2.1
theorem dX0_told_44 : decode cX0_told 44 = .ok (.getfield 21, 3) := dX0_told_0_a.2.2.2.2.2.2.2.2.2.2.2.2.1
theorem dX0_told_47 : decode cX0_told 47 = .ok (.ireturn, 1) := dX0_told_0_a.2.2.2.2.2.2.2.2.2.2.2.2.2
theorem dX0_plan_0_a : (decode cX0_plan 0 = .ok (.aload_n 0, 1)) ∧ (decode cX0_plan 1 = .ok (.iconst (-1), 1)) ∧ (decode cX0_plan 2 = .ok (.putfield 21, 3)) ∧ (decode cX0_plan 5 = .ok (.iconst 1, 1)) ∧ (decode cX0_plan 6 = .ok (.istore_n 3, 1)) ∧ (decode cX0_plan 7 = .ok (.iload_n 3, 1)) ∧ (decode cX0_plan 8 = .ok (.bipush 9, 2)) ∧ (decode cX0_plan 10 = .ok (.if_icmp .gt 117, 3)) ∧ (decode cX0_plan 13 = .ok (.aload_n 0, 1)) ∧ (decode cX0_plan 14 = .ok (.getfield 21, 3)) ∧ (decode cX0_plan 17 = .ok (.aload_n 1, 1)) ∧ (decode cX0_plan 18 = .ok (.getfield 24, 3)) ∧ (decode cX0_plan 21 = .ok (.if_icmp .ge 106, 3)) ∧ (decode cX0_plan 24 = .ok (.aload_n 1, 1)) ∧ (decode cX0_plan 25 = .ok (.invokevirtual 29, 3)) ∧ (decode cX0_plan 28 = .ok (.iconst 1, 1)) := by decide +kernel
theorem dX0_plan_0 : decode cX0_plan 0 = .ok (.aload_n 0, 1) := dX0_plan_0_a.1
theorem dX0_plan_1 : decode cX0_plan 1 = .ok (.iconst (-1), 1) := dX0_plan_0_a.2.1
theorem dX0_plan_2 : decode cX0_plan 2 = .ok (.putfield 21, 3) := dX0_plan_0_a.2.2.1
theorem dX0_plan_5 : decode cX0_plan 5 = .ok (.iconst 1, 1) := dX0_plan_0_a.2.2.2.1
theorem dX0_plan_6 : decode cX0_plan 6 = .ok (.istore_n 3, 1) := dX0_plan_0_a.2.2.2.2.1
theorem dX0_plan_7 : decode cX0_plan 7 = .ok (.iload_n 3, 1) := dX0_plan_0_a.2.2.2.2.2.1
theorem dX0_plan_8 : decode cX0_plan 8 = .ok (.bipush 9, 2) := dX0_plan_0_a.2.2.2.2.2.2.1
theorem dX0_plan_10 : decode cX0_plan 10 = .ok (.if_icmp .gt 117, 3) := dX0_plan_0_a.2.2.2.2.2.2.2.1
theorem dX0_plan_13 : decode cX0_plan 13 = .ok (.aload_n 0, 1) := dX0_plan_0_a.2.2.2.2.2.2.2.2.1
theorem dX0_plan_14 : decode cX0_plan 14 = .ok (.getfield 21, 3) := dX0_plan_0_a.2.2.2.2.2.2.2.2.2.1
theorem dX0_plan_17 : decode cX0_plan 17 = .ok (.aload_n 1, 1) := dX0_plan_0_a.2.2.2.2.2.2.2.2.2.2.1
theorem dX0_plan_18 : decode cX0_plan 18 = .ok (.getfield 24, 3) := dX0_plan_0_a.2.2.2.2.2.2.2.2.2.2.2.1
theorem dX0_plan_21 : decode cX0_plan 21 = .ok (.if_icmp .ge 106, 3) := dX0_plan_0_a.2.2.2.2.2.2.2.2.2.2.2.2.1
theorem dX0_plan_24 : decode cX0_plan 24 = .ok (.aload_n 1, 1) := dX0_plan_0_a.2.2.2.2.2.2.2.2.2.2.2.2.2.1
theorem dX0_plan_25 : decode cX0_plan 25 = .ok (.invokevirtual 29, 3) := dX0_plan_0_a.2.2.2.2.2.2.2.2.2.2.2.2.2.2.1
theorem dX0_plan_28 : decode cX0_plan 28 = .ok (.iconst 1, 1) := dX0_plan_0_a.2.2.2.2.2.2.2.2.2.2.2.2.2.2.2
theorem dX0_plan_29_a : (decode cX0_plan 29 = .ok (.istore 4, 2)) ∧ (decode cX0_plan 31 = .ok (.iconst 1, 1)) ∧ (decode cX0_plan 32 = .ok (.istore 5, 2)) ∧ (decode cX0_plan 34 = .ok (.iload 5, 2)) ∧ (decode cX0_plan 36 = .ok (.bipush 24, 2)) ∧ (decode cX0_plan 38 = .ok (.if_icmp .ge 83, 3)) ∧ (decode cX0_plan 41 = .ok (.iload 4, 2)) ∧ (decode cX0_plan 43 = .ok (.ifCond .eq 78, 3)) ∧ (decode cX0_plan 46 = .ok (.aload_n 0, 1)) ∧ (decode cX0_plan 47 = .ok (.getfield 21, 3)) ∧ (decode cX0_plan 50 = .ok (.aload_n 1, 1)) ∧ (decode cX0_plan 51 = .ok (.getfield 24, 3)) ∧ (decode cX0_plan 54 = .ok (.if_icmp .ge 67, 3)) ∧ (decode cX0_plan 57 = .ok (.aload_n 1, 1)) ∧ (decode cX0_plan 58 = .ok (.iload 5, 2)) ∧ (decode cX0_plan 60 = .ok (.iconst 1, 1)) := by decide +kernel
theorem dX0_plan_29 : decode cX0_plan 29 = .ok (.istore 4, 2) := dX0_plan_29_a.1
theorem dX0_plan_31 : decode cX0_plan 31 = .ok (.iconst 1, 1) := dX0_plan_29_a.2.1
theorem dX0_plan_32 : decode cX0_plan 32 = .ok (.istore 5, 2) := dX0_plan_29_a.2.2.1
theorem dX0_plan_34 : decode cX0_plan 34 = .ok (.iload 5, 2) := dX0_plan_29_a.2.2.2.1
theorem dX0_plan_36 : decode cX0_plan 36 = .ok (.bipush 24, 2) := dX0_plan_29_a.2.2.2.2.1
theorem dX0_plan_38 : decode cX0_plan 38 = .ok (.if_icmp .ge 83, 3) := dX0_plan_29_a.2.2.2.2.2.1
theorem dX0_plan_41 : decode cX0_plan 41 = .ok (.iload 4, 2) := dX0_plan_29_a.2.2.2.2.2.2.1
theorem dX0_plan_43 : decode cX0_plan 43 = .ok (.ifCond .eq 78, 3) := dX0_plan_29_a.2.2.2.2.2.2.2.1
theorem dX0_plan_46 : decode cX0_plan 46 = .ok (.aload_n 0, 1) := dX0_plan_29_a.2.2.2.2.2.2.2.2.1
theorem dX0_plan_47 : decode cX0_plan 47 = .ok (.getfield 21, 3) := dX0_plan_29_a.2.2.2.2.2.2.2.2.2.1
theorem dX0_plan_50 : decode cX0_plan 50 = .ok (.aload_n 1, 1) := dX0_plan_29_a.2.2.2.2.2.2.2.2.2.2.1
theorem dX0_plan_51 : decode cX0_plan 51 = .ok (.getfield 24, 3) := dX0_plan_29_a.2.2.2.2.2.2.2.2.2.2.2.1
theorem dX0_plan_54 : decode cX0_plan 54 = .ok (.if_icmp .ge 67, 3) := dX0_plan_29_a.2.2.2.2.2.2.2.2.2.2.2.2.1
theorem dX0_plan_57 : decode cX0_plan 57 = .ok (.aload_n 1, 1) := dX0_plan_29_a.2.2.2.2.2.2.2.2.2.2.2.2.2.1
theorem dX0_plan_58 : decode cX0_plan 58 = .ok (.iload 5, 2) := dX0_plan_29_a.2.2.2.2.2.2.2.2.2.2.2.2.2.2.1
theorem dX0_plan_60 : decode cX0_plan 60 = .ok (.iconst 1, 1) := dX0_plan_29_a.2.2.2.2.2.2.2.2.2.2.2.2.2.2.2
theorem dX0_plan_61_a : (decode cX0_plan 61 = .ok (.isub, 1)) ∧ (decode cX0_plan 62 = .ok (.iload 5, 2)) ∧ (decode cX0_plan 64 = .ok (.iload_n 2, 1)) ∧ (decode cX0_plan 65 = .ok (.invokestatic 32, 3)) ∧ (decode cX0_plan 68 = .ok (.iload_n 3, 1)) ∧ (decode cX0_plan 69 = .ok (.invokevirtual 38, 3)) ∧ (decode cX0_plan 72 = .ok (.istore 6, 2)) ∧ (decode cX0_plan 74 = .ok (.iload 6, 2)) ∧ (decode cX0_plan 76 = .ok (.iload 5, 2)) ∧ (decode cX0_plan 78 = .ok (.if_icmp .ne 7, 3)) ∧ (decode cX0_plan 81 = .ok (.iconst 1, 1)) ∧ (decode cX0_plan 82 = .ok (.goto 4, 3)) ∧ (decode cX0_plan 85 = .ok (.iconst 0, 1)) ∧ (decode cX0_plan 86 = .ok (.istore 4, 2)) ∧ (decode cX0_plan 88 = .ok (.iload 4, 2)) ∧ (decode cX0_plan 90 = .ok (.ifCond .eq 15, 3)) := by decide +kernel
theorem dX0_plan_61 : decode cX0_plan 61 = .ok (.isub, 1) := dX0_plan_61_a.1
theorem dX0_plan_62 : decode cX0_plan 62 = .ok (.iload 5, 2) := dX0_plan_61_a.2.1
theorem dX0_plan_64 : decode cX0_plan 64 = .ok (.iload_n 2, 1) := dX0_plan_61_a.2.2.1
theorem dX0_plan_65 : decode cX0_plan 65 = .ok (.invokestatic 32, 3) := dX0_plan_61_a.2.2.2.1
theorem dX0_plan_68 : decode cX0_plan 68 = .ok (.iload_n 3, 1) := dX0_plan_61_a.2.2.2.2.1
theorem dX0_plan_69 : decode cX0_plan 69 = .ok (.invokevirtual 38, 3) := dX0_plan_61_a.2.2.2.2.2.1
theorem dX0_plan_72 : decode cX0_plan 72 = .ok (.istore 6, 2) := dX0_plan_61_a.2.2.2.2.2.2.1
theorem dX0_plan_74 : decode cX0_plan 74 = .ok (.iload 6, 2) := dX0_plan_61_a.2.2.2.2.2.2.2.1
theorem dX0_plan_76 : decode cX0_plan 76 = .ok (.iload 5, 2) := dX0_plan_61_a.2.2.2.2.2.2.2.2.1
theorem dX0_plan_78 : decode cX0_plan 78 = .ok (.if_icmp .ne 7, 3) := dX0_plan_61_a.2.2.2.2.2.2.2.2.2.1
theorem dX0_plan_81 : decode cX0_plan 81 = .ok (.iconst 1, 1) := dX0_plan_61_a.2.2.2.2.2.2.2.2.2.2.1
theorem dX0_plan_82 : decode cX0_plan 82 = .ok (.goto 4, 3) := dX0_plan_61_a.2.2.2.2.2.2.2.2.2.2.2.1
theorem dX0_plan_85 : decode cX0_plan 85 = .ok (.iconst 0, 1) := dX0_plan_61_a.2.2.2.2.2.2.2.2.2.2.2.2.1
theorem dX0_plan_86 : decode cX0_plan 86 = .ok (.istore 4, 2) := dX0_plan_61_a.2.2.2.2.2.2.2.2.2.2.2.2.2.1
theorem dX0_plan_88 : decode cX0_plan 88 = .ok (.iload 4, 2) := dX0_plan_61_a.2.2.2.2.2.2.2.2.2.2.2.2.2.2.1
theorem dX0_plan_90 : decode cX0_plan 90 = .ok (.ifCond .eq 15, 3) := dX0_plan_61_a.2.2.2.2.2.2.2.2.2.2.2.2.2.2.2
theorem dX0_plan_93_a : (decode cX0_plan 93 = .ok (.aload_n 0, 1)) ∧ (decode cX0_plan 94 = .ok (.aload_n 1, 1)) ∧ (decode cX0_plan 95 = .ok (.iload_n 2, 1)) ∧ (decode cX0_plan 96 = .ok (.iload_n 3, 1)) ∧ (decode cX0_plan 97 = .ok (.iload 5, 2)) ∧ (decode cX0_plan 99 = .ok (.invokevirtual 42, 3)) ∧ (decode cX0_plan 102 = .ok (.goto 13, 3)) ∧ (decode cX0_plan 105 = .ok (.aload_n 0, 1)) ∧ (decode cX0_plan 106 = .ok (.iload 6, 2)) ∧ (decode cX0_plan 108 = .ok (.iload_n 3, 1)) ∧ (decode cX0_plan 109 = .ok (.iload 5, 2)) ∧ (decode cX0_plan 111 = .ok (.iconst 1, 1)) ∧ (decode cX0_plan 112 = .ok (.invokevirtual 46, 3)) ∧ (decode cX0_plan 115 = .ok (.iinc 5 1, 3)) ∧ (decode cX0_plan 118 = .ok (.goto (-84), 3)) ∧ (decode cX0_plan 121 = .ok (.iinc 3 1, 3)) := by decide +kernel
theorem dX0_plan_93 : decode cX0_plan 93 = .ok (.aload_n 0, 1) := dX0_plan_93_a.1
theorem dX0_plan_94 : decode cX0_plan 94 = .ok (.aload_n 1, 1) := dX0_plan_93_a.2.1
theorem dX0_plan_95 : decode cX0_plan 95 = .ok (.iload_n 2, 1) := dX0_plan_93_a.2.2.1
theorem dX0_plan_96 : decode cX0_plan 96 = .ok (.iload_n 3, 1) := dX0_plan_93_a.2.2.2.1
theorem dX0_plan_97 : decode cX0_plan 97 = .ok (.iload 5, 2) := dX0_plan_93_a.2.2.2.2.1
theorem dX0_plan_99 : decode cX0_plan 99 = .ok (.invokevirtual 42, 3) := dX0_plan_93_a.2.2.2.2.2.1
theorem dX0_plan_102 : decode cX0_plan 102 = .ok (.goto 13, 3) := dX0_plan_93_a.2.2.2.2.2.2.1
theorem dX0_plan_105 : decode cX0_plan 105 = .ok (.aload_n 0, 1) := dX0_plan_93_a.2.2.2.2.2.2.2.1
theorem dX0_plan_106 : decode cX0_plan 106 = .ok (.iload 6, 2) := dX0_plan_93_a.2.2.2.2.2.2.2.2.1
theorem dX0_plan_108 : decode cX0_plan 108 = .ok (.iload_n 3, 1) := dX0_plan_93_a.2.2.2.2.2.2.2.2.2.1
theorem dX0_plan_109 : decode cX0_plan 109 = .ok (.iload 5, 2) := dX0_plan_93_a.2.2.2.2.2.2.2.2.2.2.1
theorem dX0_plan_111 : decode cX0_plan 111 = .ok (.iconst 1, 1) := dX0_plan_93_a.2.2.2.2.2.2.2.2.2.2.2.1
theorem dX0_plan_112 : decode cX0_plan 112 = .ok (.invokevirtual 46, 3) := dX0_plan_93_a.2.2.2.2.2.2.2.2.2.2.2.2.1
theorem dX0_plan_115 : decode cX0_plan 115 = .ok (.iinc 5 1, 3) := dX0_plan_93_a.2.2.2.2.2.2.2.2.2.2.2.2.2.1
theorem dX0_plan_118 : decode cX0_plan 118 = .ok (.goto (-84), 3) := dX0_plan_93_a.2.2.2.2.2.2.2.2.2.2.2.2.2.2.1
theorem dX0_plan_121 : decode cX0_plan 121 = .ok (.iinc 3 1, 3) := dX0_plan_93_a.2.2.2.2.2.2.2.2.2.2.2.2.2.2.2
theorem dX0_plan_124_a : (decode cX0_plan 124 = .ok (.goto (-117), 3)) ∧ (decode cX0_plan 127 = .ok (.return_, 1)) := by decide +kernel
theorem dX0_plan_124 : decode cX0_plan 124 = .ok (.goto (-117), 3) := dX0_plan_124_a.1
theorem dX0_plan_127 : decode cX0_plan 127 = .ok (.return_, 1) := dX0_plan_124_a.2
theorem dX0_trySecond_0_a : (decode cX0_trySecond 0 = .ok (.aload_n 1, 1)) ∧ (decode cX0_trySecond 1 = .ok (.getfield 50, 3)) ∧ (decode cX0_trySecond 4 = .ok (.istore 5, 2)) ∧ (decode cX0_trySecond 6 = .ok (.aload_n 1, 1)) ∧ (decode cX0_trySecond 7 = .ok (.getfield 53, 3)) ∧ (decode cX0_trySecond 10 = .ok (.istore 6, 2)) ∧ (decode cX0_trySecond 12 = .ok (.iconst 1, 1)) ∧ (decode cX0_trySecond 13 = .ok (.istore 7, 2)) ∧ (decode cX0_trySecond 15 = .ok (.iload 7, 2)) ∧ (decode cX0_trySecond 17 = .ok (.bipush 9, 2)) ∧ (decode cX0_trySecond 19 = .ok (.if_icmp .gt 39, 3)) ∧ (decode cX0_trySecond 22 = .ok (.aload_n 0, 1)) ∧ (decode cX0_trySecond 23 = .ok (.aload_n 1, 1)) ∧ (decode cX0_trySecond 24 = .ok (.iload 4, 2)) ∧ (decode cX0_trySecond 26 = .ok (.iload_n 2, 1)) ∧ (decode cX0_trySecond 27 = .ok (.iload 7, 2)) := by decide +kernel
theorem dX0_trySecond_0 : decode cX0_trySecond 0 = .ok (.aload_n 1, 1) := dX0_trySecond_0_a.1
theorem dX0_trySecond_1 : decode cX0_trySecond 1 = .ok (.getfield 50, 3) := dX0_trySecond_0_a.2.1
theorem dX0_trySecond_4 : decode cX0_trySecond 4 = .ok (.istore 5, 2) := dX0_trySecond_0_a.2.2.1
theorem dX0_trySecond_6 : decode cX0_trySecond 6 = .ok (.aload_n 1, 1) := dX0_trySecond_0_a.2.2.2.1
theorem dX0_trySecond_7 : decode cX0_trySecond 7 = .ok (.getfield 53, 3) := dX0_trySecond_0_a.2.2.2.2.1
theorem dX0_trySecond_10 : decode cX0_trySecond 10 = .ok (.istore 6, 2) := dX0_trySecond_0_a.2.2.2.2.2.1
theorem dX0_trySecond_12 : decode cX0_trySecond 12 = .ok (.iconst 1, 1) := dX0_trySecond_0_a.2.2.2.2.2.2.1
theorem dX0_trySecond_13 : decode cX0_trySecond 13 = .ok (.istore 7, 2) := dX0_trySecond_0_a.2.2.2.2.2.2.2.1
theorem dX0_trySecond_15 : decode cX0_trySecond 15 = .ok (.iload 7, 2) := dX0_trySecond_0_a.2.2.2.2.2.2.2.2.1
theorem dX0_trySecond_17 : decode cX0_trySecond 17 = .ok (.bipush 9, 2) := dX0_trySecond_0_a.2.2.2.2.2.2.2.2.2.1
theorem dX0_trySecond_19 : decode cX0_trySecond 19 = .ok (.if_icmp .gt 39, 3) := dX0_trySecond_0_a.2.2.2.2.2.2.2.2.2.2.1
theorem dX0_trySecond_22 : decode cX0_trySecond 22 = .ok (.aload_n 0, 1) := dX0_trySecond_0_a.2.2.2.2.2.2.2.2.2.2.2.1
theorem dX0_trySecond_23 : decode cX0_trySecond 23 = .ok (.aload_n 1, 1) := dX0_trySecond_0_a.2.2.2.2.2.2.2.2.2.2.2.2.1
theorem dX0_trySecond_24 : decode cX0_trySecond 24 = .ok (.iload 4, 2) := dX0_trySecond_0_a.2.2.2.2.2.2.2.2.2.2.2.2.2.1
theorem dX0_trySecond_26 : decode cX0_trySecond 26 = .ok (.iload_n 2, 1) := dX0_trySecond_0_a.2.2.2.2.2.2.2.2.2.2.2.2.2.2.1
theorem dX0_trySecond_27 : decode cX0_trySecond 27 = .ok (.iload 7, 2) := dX0_trySecond_0_a.2.2.2.2.2.2.2.2.2.2.2.2.2.2.2
theorem dX0_trySecond_29_a : (decode cX0_trySecond 29 = .ok (.invokevirtual 38, 3)) ∧ (decode cX0_trySecond 32 = .ok (.iload_n 3, 1)) ∧ (decode cX0_trySecond 33 = .ok (.iload 4, 2)) ∧ (decode cX0_trySecond 35 = .ok (.iload 7, 2)) ∧ (decode cX0_trySecond 37 = .ok (.invokevirtual 46, 3)) ∧ (decode cX0_trySecond 40 = .ok (.aload_n 1, 1)) ∧ (decode cX0_trySecond 41 = .ok (.iload 5, 2)) ∧ (decode cX0_trySecond 43 = .ok (.putfield 50, 3)) ∧ (decode cX0_trySecond 46 = .ok (.aload_n 1, 1)) ∧ (decode cX0_trySecond 47 = .ok (.iload 6, 2)) ∧ (decode cX0_trySecond 49 = .ok (.putfield 53, 3)) ∧ (decode cX0_trySecond 52 = .ok (.iinc 7 1, 3)) ∧ (decode cX0_trySecond 55 = .ok (.goto (-40), 3)) ∧ (decode cX0_trySecond 58 = .ok (.return_, 1)) := by decide +kernel
theorem dX0_trySecond_29 : decode cX0_trySecond 29 = .ok (.invokevirtual 38, 3) := dX0_trySecond_29_a.1
theorem dX0_trySecond_32 : decode cX0_trySecond 32 = .ok (.iload_n 3, 1) := dX0_trySecond_29_a.2.1
theorem dX0_trySecond_33 : decode cX0_trySecond 33 = .ok (.iload 4, 2) := dX0_trySecond_29_a.2.2.1
theorem dX0_trySecond_35 : decode cX0_trySecond 35 = .ok (.iload 7, 2) := dX0_trySecond_29_a.2.2.2.1
theorem dX0_trySecond_37 : decode cX0_trySecond 37 = .ok (.invokevirtual 46, 3) := dX0_trySecond_29_a.2.2.2.2.1
theorem dX0_trySecond_40 : decode cX0_trySecond 40 = .ok (.aload_n 1, 1) := dX0_trySecond_29_a.2.2.2.2.2.1
theorem dX0_trySecond_41 : decode cX0_trySecond 41 = .ok (.iload 5, 2) := dX0_trySecond_29_a.2.2.2.2.2.2.1
theorem dX0_trySecond_43 : decode cX0_trySecond 43 = .ok (.putfield 50, 3) := dX0_trySecond_29_a.2.2.2.2.2.2.2.1
theorem dX0_trySecond_46 : decode cX0_trySecond 46 = .ok (.aload_n 1, 1) := dX0_trySecond_29_a.2.2.2.2.2.2.2.2.1
theorem dX0_trySecond_47 : decode cX0_trySecond 47 = .ok (.iload 6, 2) := dX0_trySecond_29_a.2.2.2.2.2.2.2.2.2.1
theorem dX0_trySecond_49 : decode cX0_trySecond 49 = .ok (.putfield 53, 3) := dX0_trySecond_29_a.2.2.2.2.2.2.2.2.2.2.1
theorem dX0_trySecond_52 : decode cX0_trySecond 52 = .ok (.iinc 7 1, 3) := dX0_trySecond_29_a.2.2.2.2.2.2.2.2.2.2.2.1
theorem dX0_trySecond_55 : decode cX0_trySecond 55 = .ok (.goto (-40), 3) := dX0_trySecond_29_a.2.2.2.2.2.2.2.2.2.2.2.2.1
theorem dX0_trySecond_58 : decode cX0_trySecond 58 = .ok (.return_, 1) := dX0_trySecond_29_a.2.2.2.2.2.2.2.2.2.2.2.2.2
theorem dX0_note_0_a : (decode cX0_note 0 = .ok (.iload_n 1, 1)) ∧ (decode cX0_note 1 = .ok (.aload_n 0, 1)) ∧ (decode cX0_note 2 = .ok (.getfield 21, 3)) ∧ (decode cX0_note 5 = .ok (.if_icmp .le 24, 3)) ∧ (decode cX0_note 8 = .ok (.aload_n 0, 1)) ∧ (decode cX0_note 9 = .ok (.iload_n 1, 1)) ∧ (decode cX0_note 10 = .ok (.putfield 21, 3)) ∧ (decode cX0_note 13 = .ok (.aload_n 0, 1)) ∧ (decode cX0_note 14 = .ok (.iload_n 2, 1)) ∧ (decode cX0_note 15 = .ok (.putfield 9, 3)) ∧ (decode cX0_note 18 = .ok (.aload_n 0, 1)) ∧ (decode cX0_note 19 = .ok (.iload_n 3, 1)) ∧ (decode cX0_note 20 = .ok (.putfield 15, 3)) ∧ (decode cX0_note 23 = .ok (.aload_n 0, 1)) ∧ (decode cX0_note 24 = .ok (.iload 4, 2)) ∧ (decode cX0_note 26 = .ok (.putfield 18, 3)) := by decide +kernel
theorem dX0_note_0 : decode cX0_note 0 = .ok (.iload_n 1, 1) := dX0_note_0_a.1
theorem dX0_note_1 : decode cX0_note 1 = .ok (.aload_n 0, 1) := dX0_note_0_a.2.1
theorem dX0_note_2 : decode cX0_note 2 = .ok (.getfield 21, 3) := dX0_note_0_a.2.2.1
theorem dX0_note_5 : decode cX0_note 5 = .ok (.if_icmp .le 24, 3) := dX0_note_0_a.2.2.2.1
theorem dX0_note_8 : decode cX0_note 8 = .ok (.aload_n 0, 1) := dX0_note_0_a.2.2.2.2.1
theorem dX0_note_9 : decode cX0_note 9 = .ok (.iload_n 1, 1) := dX0_note_0_a.2.2.2.2.2.1
theorem dX0_note_10 : decode cX0_note 10 = .ok (.putfield 21, 3) := dX0_note_0_a.2.2.2.2.2.2.1
theorem dX0_note_13 : decode cX0_note 13 = .ok (.aload_n 0, 1) := dX0_note_0_a.2.2.2.2.2.2.2.1
theorem dX0_note_14 : decode cX0_note 14 = .ok (.iload_n 2, 1) := dX0_note_0_a.2.2.2.2.2.2.2.2.1
theorem dX0_note_15 : decode cX0_note 15 = .ok (.putfield 9, 3) := dX0_note_0_a.2.2.2.2.2.2.2.2.2.1
theorem dX0_note_18 : decode cX0_note 18 = .ok (.aload_n 0, 1) := dX0_note_0_a.2.2.2.2.2.2.2.2.2.2.1
theorem dX0_note_19 : decode cX0_note 19 = .ok (.iload_n 3, 1) := dX0_note_0_a.2.2.2.2.2.2.2.2.2.2.2.1
theorem dX0_note_20 : decode cX0_note 20 = .ok (.putfield 15, 3) := dX0_note_0_a.2.2.2.2.2.2.2.2.2.2.2.2.1
theorem dX0_note_23 : decode cX0_note 23 = .ok (.aload_n 0, 1) := dX0_note_0_a.2.2.2.2.2.2.2.2.2.2.2.2.2.1
theorem dX0_note_24 : decode cX0_note 24 = .ok (.iload 4, 2) := dX0_note_0_a.2.2.2.2.2.2.2.2.2.2.2.2.2.2.1
theorem dX0_note_26 : decode cX0_note 26 = .ok (.putfield 18, 3) := dX0_note_0_a.2.2.2.2.2.2.2.2.2.2.2.2.2.2.2
theorem dX0_note_29 : decode cX0_note 29 = .ok (.return_, 1) := by decide +kernel
theorem dX1_init_0_a : (decode cX1_init 0 = .ok (.aload_n 0, 1)) ∧ (decode cX1_init 1 = .ok (.invokespecial 3, 3)) ∧ (decode cX1_init 4 = .ok (.aload_n 0, 1)) ∧ (decode cX1_init 5 = .ok (.bipush 32, 2)) ∧ (decode cX1_init 7 = .ok (.newarray .int, 2)) ∧ (decode cX1_init 9 = .ok (.putfield 9, 3)) ∧ (decode cX1_init 12 = .ok (.return_, 1)) := by decide +kernel
theorem dX1_init_0 : decode cX1_init 0 = .ok (.aload_n 0, 1) := dX1_init_0_a.1
theorem dX1_init_1 : decode cX1_init 1 = .ok (.invokespecial 3, 3) := dX1_init_0_a.2.1
theorem dX1_init_4 : decode cX1_init 4 = .ok (.aload_n 0, 1) := dX1_init_0_a.2.2.1
theorem dX1_init_5 : decode cX1_init 5 = .ok (.bipush 32, 2) := dX1_init_0_a.2.2.2.1
theorem dX1_init_7 : decode cX1_init 7 = .ok (.newarray .int, 2) := dX1_init_0_a.2.2.2.2.1
theorem dX1_init_9 : decode cX1_init 9 = .ok (.putfield 9, 3) := dX1_init_0_a.2.2.2.2.2.1
theorem dX1_init_12 : decode cX1_init 12 = .ok (.return_, 1) := dX1_init_0_a.2.2.2.2.2.2
theorem dX1_append_0_a : (decode cX1_append 0 = .ok (.iload_n 1, 1)) ∧ (decode cX1_append 1 = .ok (.ifCond .lt 47, 3)) ∧ (decode cX1_append 4 = .ok (.iload_n 1, 1)) ∧ (decode cX1_append 5 = .ok (.bipush 7, 2)) ∧ (decode cX1_append 7 = .ok (.if_icmp .gt 41, 3)) ∧ (decode cX1_append 10 = .ok (.iload_n 2, 1)) ∧ (decode cX1_append 11 = .ok (.ifCond .lt 37, 3)) ∧ (decode cX1_append 14 = .ok (.iload_n 2, 1)) ∧ (decode cX1_append 15 = .ok (.bipush 7, 2)) ∧ (decode cX1_append 17 = .ok (.if_icmp .gt 31, 3)) ∧ (decode cX1_append 20 = .ok (.iload_n 3, 1)) ∧ (decode cX1_append 21 = .ok (.ifCond .lt 27, 3)) ∧ (decode cX1_append 24 = .ok (.iload_n 3, 1)) ∧ (decode cX1_append 25 = .ok (.bipush 7, 2)) ∧ (decode cX1_append 27 = .ok (.if_icmp .gt 21, 3)) ∧ (decode cX1_append 30 = .ok (.iload_n 2, 1)) := by decide +kernel
theorem dX1_append_0 : decode cX1_append 0 = .ok (.iload_n 1, 1) := dX1_append_0_a.1
theorem dX1_append_1 : decode cX1_append 1 = .ok (.ifCond .lt 47, 3) := dX1_append_0_a.2.1
theorem dX1_append_4 : decode cX1_append 4 = .ok (.iload_n 1, 1) := dX1_append_0_a.2.2.1
theorem dX1_append_5 : decode cX1_append 5 = .ok (.bipush 7, 2) := dX1_append_0_a.2.2.2.1
theorem dX1_append_7 : decode cX1_append 7 = .ok (.if_icmp .gt 41, 3) := dX1_append_0_a.2.2.2.2.1
theorem dX1_append_10 : decode cX1_append 10 = .ok (.iload_n 2, 1) := dX1_append_0_a.2.2.2.2.2.1
theorem dX1_append_11 : decode cX1_append 11 = .ok (.ifCond .lt 37, 3) := dX1_append_0_a.2.2.2.2.2.2.1
theorem dX1_append_14 : decode cX1_append 14 = .ok (.iload_n 2, 1) := dX1_append_0_a.2.2.2.2.2.2.2.1
theorem dX1_append_15 : decode cX1_append 15 = .ok (.bipush 7, 2) := dX1_append_0_a.2.2.2.2.2.2.2.2.1
theorem dX1_append_17 : decode cX1_append 17 = .ok (.if_icmp .gt 31, 3) := dX1_append_0_a.2.2.2.2.2.2.2.2.2.1
theorem dX1_append_20 : decode cX1_append 20 = .ok (.iload_n 3, 1) := dX1_append_0_a.2.2.2.2.2.2.2.2.2.2.1
theorem dX1_append_21 : decode cX1_append 21 = .ok (.ifCond .lt 27, 3) := dX1_append_0_a.2.2.2.2.2.2.2.2.2.2.2.1
theorem dX1_append_24 : decode cX1_append 24 = .ok (.iload_n 3, 1) := dX1_append_0_a.2.2.2.2.2.2.2.2.2.2.2.2.1
theorem dX1_append_25 : decode cX1_append 25 = .ok (.bipush 7, 2) := dX1_append_0_a.2.2.2.2.2.2.2.2.2.2.2.2.2.1
theorem dX1_append_27 : decode cX1_append 27 = .ok (.if_icmp .gt 21, 3) := dX1_append_0_a.2.2.2.2.2.2.2.2.2.2.2.2.2.2.1
theorem dX1_append_30 : decode cX1_append 30 = .ok (.iload_n 2, 1) := dX1_append_0_a.2.2.2.2.2.2.2.2.2.2.2.2.2.2.2
theorem dX1_append_31_a : (decode cX1_append 31 = .ok (.iload_n 3, 1)) ∧ (decode cX1_append 32 = .ok (.if_icmp .eq 16, 3)) ∧ (decode cX1_append 35 = .ok (.iload 4, 2)) ∧ (decode cX1_append 37 = .ok (.iconst 1, 1)) ∧ (decode cX1_append 38 = .ok (.if_icmp .lt 10, 3)) ∧ (decode cX1_append 41 = .ok (.iload 4, 2)) ∧ (decode cX1_append 43 = .ok (.bipush 9, 2)) ∧ (decode cX1_append 45 = .ok (.if_icmp .le 6, 3)) ∧ (decode cX1_append 48 = .ok (.bipush (-2), 2)) ∧ (decode cX1_append 50 = .ok (.ireturn, 1)) ∧ (decode cX1_append 51 = .ok (.aload_n 0, 1)) ∧ (decode cX1_append 52 = .ok (.getfield 15, 3)) ∧ (decode cX1_append 55 = .ok (.ifCond .lt 12, 3)) ∧ (decode cX1_append 58 = .ok (.aload_n 0, 1)) ∧ (decode cX1_append 59 = .ok (.getfield 15, 3)) ∧ (decode cX1_append 62 = .ok (.bipush 8, 2)) := by decide +kernel
theorem dX1_append_31 : decode cX1_append 31 = .ok (.iload_n 3, 1) := dX1_append_31_a.1
theorem dX1_append_32 : decode cX1_append 32 = .ok (.if_icmp .eq 16, 3) := dX1_append_31_a.2.1
theorem dX1_append_35 : decode cX1_append 35 = .ok (.iload 4, 2) := dX1_append_31_a.2.2.1
theorem dX1_append_37 : decode cX1_append 37 = .ok (.iconst 1, 1) := dX1_append_31_a.2.2.2.1
theorem dX1_append_38 : decode cX1_append 38 = .ok (.if_icmp .lt 10, 3) := dX1_append_31_a.2.2.2.2.1
theorem dX1_append_41 : decode cX1_append 41 = .ok (.iload 4, 2) := dX1_append_31_a.2.2.2.2.2.1
theorem dX1_append_43 : decode cX1_append 43 = .ok (.bipush 9, 2) := dX1_append_31_a.2.2.2.2.2.2.1
theorem dX1_append_45 : decode cX1_append 45 = .ok (.if_icmp .le 6, 3) := dX1_append_31_a.2.2.2.2.2.2.2.1
theorem dX1_append_48 : decode cX1_append 48 = .ok (.bipush (-2), 2) := dX1_append_31_a.2.2.2.2.2.2.2.2.1
theorem dX1_append_50 : decode cX1_append 50 = .ok (.ireturn, 1) := dX1_append_31_a.2.2.2.2.2.2.2.2.2.1
theorem dX1_append_51 : decode cX1_append 51 = .ok (.aload_n 0, 1) := dX1_append_31_a.2.2.2.2.2.2.2.2.2.2.1
theorem dX1_append_52 : decode cX1_append 52 = .ok (.getfield 15, 3) := dX1_append_31_a.2.2.2.2.2.2.2.2.2.2.2.1
theorem dX1_append_55 : decode cX1_append 55 = .ok (.ifCond .lt 12, 3) := dX1_append_31_a.2.2.2.2.2.2.2.2.2.2.2.2.1
theorem dX1_append_58 : decode cX1_append 58 = .ok (.aload_n 0, 1) := dX1_append_31_a.2.2.2.2.2.2.2.2.2.2.2.2.2.1
theorem dX1_append_59 : decode cX1_append 59 = .ok (.getfield 15, 3) := dX1_append_31_a.2.2.2.2.2.2.2.2.2.2.2.2.2.2.1
theorem dX1_append_62 : decode cX1_append 62 = .ok (.bipush 8, 2) := dX1_append_31_a.2.2.2.2.2.2.2.2.2.2.2.2.2.2.2
theorem dX1_append_64_a : (decode cX1_append 64 = .ok (.if_icmp .lt 6, 3)) ∧ (decode cX1_append 67 = .ok (.bipush (-4), 2)) ∧ (decode cX1_append 69 = .ok (.ireturn, 1)) ∧ (decode cX1_append 70 = .ok (.aload_n 0, 1)) ∧ (decode cX1_append 71 = .ok (.getfield 9, 3)) ∧ (decode cX1_append 74 = .ok (.iconst 4, 1)) ∧ (decode cX1_append 75 = .ok (.aload_n 0, 1)) ∧ (decode cX1_append 76 = .ok (.getfield 15, 3)) ∧ (decode cX1_append 79 = .ok (.imul, 1)) ∧ (decode cX1_append 80 = .ok (.iload_n 1, 1)) ∧ (decode cX1_append 81 = .ok (.iastore, 1)) ∧ (decode cX1_append 82 = .ok (.aload_n 0, 1)) ∧ (decode cX1_append 83 = .ok (.getfield 9, 3)) ∧ (decode cX1_append 86 = .ok (.iconst 4, 1)) ∧ (decode cX1_append 87 = .ok (.aload_n 0, 1)) ∧ (decode cX1_append 88 = .ok (.getfield 15, 3)) := by decide +kernel
theorem dX1_append_64 : decode cX1_append 64 = .ok (.if_icmp .lt 6, 3) := dX1_append_64_a.1
theorem dX1_append_67 : decode cX1_append 67 = .ok (.bipush (-4), 2) := dX1_append_64_a.2.1
theorem dX1_append_69 : decode cX1_append 69 = .ok (.ireturn, 1) := dX1_append_64_a.2.2.1
theorem dX1_append_70 : decode cX1_append 70 = .ok (.aload_n 0, 1) := dX1_append_64_a.2.2.2.1
theorem dX1_append_71 : decode cX1_append 71 = .ok (.getfield 9, 3) := dX1_append_64_a.2.2.2.2.1
theorem dX1_append_74 : decode cX1_append 74 = .ok (.iconst 4, 1) := dX1_append_64_a.2.2.2.2.2.1
theorem dX1_append_75 : decode cX1_append 75 = .ok (.aload_n 0, 1) := dX1_append_64_a.2.2.2.2.2.2.1
theorem dX1_append_76 : decode cX1_append 76 = .ok (.getfield 15, 3) := dX1_append_64_a.2.2.2.2.2.2.2.1
theorem dX1_append_79 : decode cX1_append 79 = .ok (.imul, 1) := dX1_append_64_a.2.2.2.2.2.2.2.2.1
theorem dX1_append_80 : decode cX1_append 80 = .ok (.iload_n 1, 1) := dX1_append_64_a.2.2.2.2.2.2.2.2.2.1
theorem dX1_append_81 : decode cX1_append 81 = .ok (.iastore, 1) := dX1_append_64_a.2.2.2.2.2.2.2.2.2.2.1
theorem dX1_append_82 : decode cX1_append 82 = .ok (.aload_n 0, 1) := dX1_append_64_a.2.2.2.2.2.2.2.2.2.2.2.1
theorem dX1_append_83 : decode cX1_append 83 = .ok (.getfield 9, 3) := dX1_append_64_a.2.2.2.2.2.2.2.2.2.2.2.2.1
theorem dX1_append_86 : decode cX1_append 86 = .ok (.iconst 4, 1) := dX1_append_64_a.2.2.2.2.2.2.2.2.2.2.2.2.2.1
theorem dX1_append_87 : decode cX1_append 87 = .ok (.aload_n 0, 1) := dX1_append_64_a.2.2.2.2.2.2.2.2.2.2.2.2.2.2.1
theorem dX1_append_88 : decode cX1_append 88 = .ok (.getfield 15, 3) := dX1_append_64_a.2.2.2.2.2.2.2.2.2.2.2.2.2.2.2
theorem dX1_append_91_a : (decode cX1_append 91 = .ok (.imul, 1)) ∧ (decode cX1_append 92 = .ok (.iconst 1, 1)) ∧ (decode cX1_append 93 = .ok (.iadd, 1)) ∧ (decode cX1_append 94 = .ok (.iload_n 2, 1)) ∧ (decode cX1_append 95 = .ok (.iastore, 1)) ∧ (decode cX1_append 96 = .ok (.aload_n 0, 1)) ∧ (decode cX1_append 97 = .ok (.getfield 9, 3)) ∧ (decode cX1_append 100 = .ok (.iconst 4, 1)) ∧ (decode cX1_append 101 = .ok (.aload_n 0, 1)) ∧ (decode cX1_append 102 = .ok (.getfield 15, 3)) ∧ (decode cX1_append 105 = .ok (.imul, 1)) ∧ (decode cX1_append 106 = .ok (.iconst 2, 1)) ∧ (decode cX1_append 107 = .ok (.iadd, 1)) ∧ (decode cX1_append 108 = .ok (.iload_n 3, 1)) ∧ (decode cX1_append 109 = .ok (.iastore, 1)) ∧ (decode cX1_append 110 = .ok (.aload_n 0, 1)) := by decide +kernel
theorem dX1_append_91 : decode cX1_append 91 = .ok (.imul, 1) := dX1_append_91_a.1
theorem dX1_append_92 : decode cX1_append 92 = .ok (.iconst 1, 1) := dX1_append_91_a.2.1
theorem dX1_append_93 : decode cX1_append 93 = .ok (.iadd, 1) := dX1_append_91_a.2.2.1
theorem dX1_append_94 : decode cX1_append 94 = .ok (.iload_n 2, 1) := dX1_append_91_a.2.2.2.1
theorem dX1_append_95 : decode cX1_append 95 = .ok (.iastore, 1) := dX1_append_91_a.2.2.2.2.1
theorem dX1_append_96 : decode cX1_append 96 = .ok (.aload_n 0, 1) := dX1_append_91_a.2.2.2.2.2.1
theorem dX1_append_97 : decode cX1_append 97 = .ok (.getfield 9, 3) := dX1_append_91_a.2.2.2.2.2.2.1
theorem dX1_append_100 : decode cX1_append 100 = .ok (.iconst 4, 1) := dX1_append_91_a.2.2.2.2.2.2.2.1
theorem dX1_append_101 : decode cX1_append 101 = .ok (.aload_n 0, 1) := dX1_append_91_a.2.2.2.2.2.2.2.2.1
theorem dX1_append_102 : decode cX1_append 102 = .ok (.getfield 15, 3) := dX1_append_91_a.2.2.2.2.2.2.2.2.2.1
theorem dX1_append_105 : decode cX1_append 105 = .ok (.imul, 1) := dX1_append_91_a.2.2.2.2.2.2.2.2.2.2.1
theorem dX1_append_106 : decode cX1_append 106 = .ok (.iconst 2, 1) := dX1_append_91_a.2.2.2.2.2.2.2.2.2.2.2.1
theorem dX1_append_107 : decode cX1_append 107 = .ok (.iadd, 1) := dX1_append_91_a.2.2.2.2.2.2.2.2.2.2.2.2.1
theorem dX1_append_108 : decode cX1_append 108 = .ok (.iload_n 3, 1) := dX1_append_91_a.2.2.2.2.2.2.2.2.2.2.2.2.2.1
theorem dX1_append_109 : decode cX1_append 109 = .ok (.iastore, 1) := dX1_append_91_a.2.2.2.2.2.2.2.2.2.2.2.2.2.2.1
theorem dX1_append_110 : decode cX1_append 110 = .ok (.aload_n 0, 1) := dX1_append_91_a.2.2.2.2.2.2.2.2.2.2.2.2.2.2.2
theorem dX1_append_111_a : (decode cX1_append 111 = .ok (.getfield 9, 3)) ∧ (decode cX1_append 114 = .ok (.iconst 4, 1)) ∧ (decode cX1_append 115 = .ok (.aload_n 0, 1)) ∧ (decode cX1_append 116 = .ok (.getfield 15, 3)) ∧ (decode cX1_append 119 = .ok (.imul, 1)) ∧ (decode cX1_append 120 = .ok (.iconst 3, 1)) ∧ (decode cX1_append 121 = .ok (.iadd, 1)) ∧ (decode cX1_append 122 = .ok (.iload 4, 2)) ∧ (decode cX1_append 124 = .ok (.iastore, 1)) ∧ (decode cX1_append 125 = .ok (.aload_n 0, 1)) ∧ (decode cX1_append 126 = .ok (.dup, 1)) ∧ (decode cX1_append 127 = .ok (.getfield 15, 3)) ∧ (decode cX1_append 130 = .ok (.iconst 1, 1)) ∧ (decode cX1_append 131 = .ok (.iadd, 1)) ∧ (decode cX1_append 132 = .ok (.putfield 15, 3)) ∧ (decode cX1_append 135 = .ok (.aload_n 0, 1)) := by decide +kernel
theorem dX1_append_111 : decode cX1_append 111 = .ok (.getfield 9, 3) := dX1_append_111_a.1
theorem dX1_append_114 : decode cX1_append 114 = .ok (.iconst 4, 1) := dX1_append_111_a.2.1
theorem dX1_append_115 : decode cX1_append 115 = .ok (.aload_n 0, 1) := dX1_append_111_a.2.2.1
theorem dX1_append_116 : decode cX1_append 116 = .ok (.getfield 15, 3) := dX1_append_111_a.2.2.2.1
theorem dX1_append_119 : decode cX1_append 119 = .ok (.imul, 1) := dX1_append_111_a.2.2.2.2.1
theorem dX1_append_120 : decode cX1_append 120 = .ok (.iconst 3, 1) := dX1_append_111_a.2.2.2.2.2.1
theorem dX1_append_121 : decode cX1_append 121 = .ok (.iadd, 1) := dX1_append_111_a.2.2.2.2.2.2.1
theorem dX1_append_122 : decode cX1_append 122 = .ok (.iload 4, 2) := dX1_append_111_a.2.2.2.2.2.2.2.1
theorem dX1_append_124 : decode cX1_append 124 = .ok (.iastore, 1) := dX1_append_111_a.2.2.2.2.2.2.2.2.1
theorem dX1_append_125 : decode cX1_append 125 = .ok (.aload_n 0, 1) := dX1_append_111_a.2.2.2.2.2.2.2.2.2.1
theorem dX1_append_126 : decode cX1_append 126 = .ok (.dup, 1) := dX1_append_111_a.2.2.2.2.2.2.2.2.2.2.1
theorem dX1_append_127 : decode cX1_append 127 = .ok (.getfield 15, 3) := dX1_append_111_a.2.2.2.2.2.2.2.2.2.2.2.1
theorem dX1_append_130 : decode cX1_append 130 = .ok (.iconst 1, 1) := dX1_append_111_a.2.2.2.2.2.2.2.2.2.2.2.2.1
theorem dX1_append_131 : decode cX1_append 131 = .ok (.iadd, 1) := dX1_append_111_a.2.2.2.2.2.2.2.2.2.2.2.2.2.1
theorem dX1_append_132 : decode cX1_append 132 = .ok (.putfield 15, 3) := dX1_append_111_a.2.2.2.2.2.2.2.2.2.2.2.2.2.2.1
theorem dX1_append_135 : decode cX1_append 135 = .ok (.aload_n 0, 1) := dX1_append_111_a.2.2.2.2.2.2.2.2.2.2.2.2.2.2.2
theorem dX1_append_136_a : (decode cX1_append 136 = .ok (.getfield 15, 3)) ∧ (decode cX1_append 139 = .ok (.ireturn, 1)) := by decide +kernel
theorem dX1_append_136 : decode cX1_append 136 = .ok (.getfield 15, 3) := dX1_append_136_a.1
theorem dX1_append_139 : decode cX1_append 139 = .ok (.ireturn, 1) := dX1_append_136_a.2
theorem dX1_has_0_a : (decode cX1_has 0 = .ok (.iload_n 1, 1)) ∧ (decode cX1_has 1 = .ok (.ifCond .lt 15, 3)) ∧ (decode cX1_has 4 = .ok (.iload_n 1, 1)) ∧ (decode cX1_has 5 = .ok (.aload_n 0, 1)) ∧ (decode cX1_has 6 = .ok (.getfield 15, 3)) ∧ (decode cX1_has 9 = .ok (.if_icmp .ge 7, 3)) ∧ (decode cX1_has 12 = .ok (.iconst 1, 1)) ∧ (decode cX1_has 13 = .ok (.goto 4, 3)) ∧ (decode cX1_has 16 = .ok (.iconst 0, 1)) ∧ (decode cX1_has 17 = .ok (.ireturn, 1)) := by decide +kernel
theorem dX1_has_0 : decode cX1_has 0 = .ok (.iload_n 1, 1) := dX1_has_0_a.1
theorem dX1_has_1 : decode cX1_has 1 = .ok (.ifCond .lt 15, 3) := dX1_has_0_a.2.1
theorem dX1_has_4 : decode cX1_has 4 = .ok (.iload_n 1, 1) := dX1_has_0_a.2.2.1
theorem dX1_has_5 : decode cX1_has 5 = .ok (.aload_n 0, 1) := dX1_has_0_a.2.2.2.1
theorem dX1_has_6 : decode cX1_has 6 = .ok (.getfield 15, 3) := dX1_has_0_a.2.2.2.2.1
theorem dX1_has_9 : decode cX1_has 9 = .ok (.if_icmp .ge 7, 3) := dX1_has_0_a.2.2.2.2.2.1
theorem dX1_has_12 : decode cX1_has 12 = .ok (.iconst 1, 1) := dX1_has_0_a.2.2.2.2.2.2.1
theorem dX1_has_13 : decode cX1_has 13 = .ok (.goto 4, 3) := dX1_has_0_a.2.2.2.2.2.2.2.1
theorem dX1_has_16 : decode cX1_has 16 = .ok (.iconst 0, 1) := dX1_has_0_a.2.2.2.2.2.2.2.2.1
theorem dX1_has_17 : decode cX1_has 17 = .ok (.ireturn, 1) := dX1_has_0_a.2.2.2.2.2.2.2.2.2
theorem dX1_passengerOf_0_a : (decode cX1_passengerOf 0 = .ok (.aload_n 0, 1)) ∧ (decode cX1_passengerOf 1 = .ok (.iload_n 1, 1)) ∧ (decode cX1_passengerOf 2 = .ok (.iconst 0, 1)) ∧ (decode cX1_passengerOf 3 = .ok (.invokevirtual 19, 3)) ∧ (decode cX1_passengerOf 6 = .ok (.ireturn, 1)) := by decide +kernel
theorem dX1_passengerOf_0 : decode cX1_passengerOf 0 = .ok (.aload_n 0, 1) := dX1_passengerOf_0_a.1
theorem dX1_passengerOf_1 : decode cX1_passengerOf 1 = .ok (.iload_n 1, 1) := dX1_passengerOf_0_a.2.1
theorem dX1_passengerOf_2 : decode cX1_passengerOf 2 = .ok (.iconst 0, 1) := dX1_passengerOf_0_a.2.2.1
theorem dX1_passengerOf_3 : decode cX1_passengerOf 3 = .ok (.invokevirtual 19, 3) := dX1_passengerOf_0_a.2.2.2.1
theorem dX1_passengerOf_6 : decode cX1_passengerOf 6 = .ok (.ireturn, 1) := dX1_passengerOf_0_a.2.2.2.2
theorem dX1_leftOf_0_a : (decode cX1_leftOf 0 = .ok (.aload_n 0, 1)) ∧ (decode cX1_leftOf 1 = .ok (.iload_n 1, 1)) ∧ (decode cX1_leftOf 2 = .ok (.iconst 1, 1)) ∧ (decode cX1_leftOf 3 = .ok (.invokevirtual 19, 3)) ∧ (decode cX1_leftOf 6 = .ok (.ireturn, 1)) := by decide +kernel
theorem dX1_leftOf_0 : decode cX1_leftOf 0 = .ok (.aload_n 0, 1) := dX1_leftOf_0_a.1
theorem dX1_leftOf_1 : decode cX1_leftOf 1 = .ok (.iload_n 1, 1) := dX1_leftOf_0_a.2.1
theorem dX1_leftOf_2 : decode cX1_leftOf 2 = .ok (.iconst 1, 1) := dX1_leftOf_0_a.2.2.1
theorem dX1_leftOf_3 : decode cX1_leftOf 3 = .ok (.invokevirtual 19, 3) := dX1_leftOf_0_a.2.2.2.1
theorem dX1_leftOf_6 : decode cX1_leftOf 6 = .ok (.ireturn, 1) := dX1_leftOf_0_a.2.2.2.2
theorem dX1_rightOf_0_a : (decode cX1_rightOf 0 = .ok (.aload_n 0, 1)) ∧ (decode cX1_rightOf 1 = .ok (.iload_n 1, 1)) ∧ (decode cX1_rightOf 2 = .ok (.iconst 2, 1)) ∧ (decode cX1_rightOf 3 = .ok (.invokevirtual 19, 3)) ∧ (decode cX1_rightOf 6 = .ok (.ireturn, 1)) := by decide +kernel
theorem dX1_rightOf_0 : decode cX1_rightOf 0 = .ok (.aload_n 0, 1) := dX1_rightOf_0_a.1
theorem dX1_rightOf_1 : decode cX1_rightOf 1 = .ok (.iload_n 1, 1) := dX1_rightOf_0_a.2.1
theorem dX1_rightOf_2 : decode cX1_rightOf 2 = .ok (.iconst 2, 1) := dX1_rightOf_0_a.2.2.1
theorem dX1_rightOf_3 : decode cX1_rightOf 3 = .ok (.invokevirtual 19, 3) := dX1_rightOf_0_a.2.2.2.1
theorem dX1_rightOf_6 : decode cX1_rightOf 6 = .ok (.ireturn, 1) := dX1_rightOf_0_a.2.2.2.2
theorem dX1_heightOf_0_a : (decode cX1_heightOf 0 = .ok (.aload_n 0, 1)) ∧ (decode cX1_heightOf 1 = .ok (.iload_n 1, 1)) ∧ (decode cX1_heightOf 2 = .ok (.iconst 3, 1)) ∧ (decode cX1_heightOf 3 = .ok (.invokevirtual 19, 3)) ∧ (decode cX1_heightOf 6 = .ok (.ireturn, 1)) := by decide +kernel
theorem dX1_heightOf_0 : decode cX1_heightOf 0 = .ok (.aload_n 0, 1) := dX1_heightOf_0_a.1
theorem dX1_heightOf_1 : decode cX1_heightOf 1 = .ok (.iload_n 1, 1) := dX1_heightOf_0_a.2.1
theorem dX1_heightOf_2 : decode cX1_heightOf 2 = .ok (.iconst 3, 1) := dX1_heightOf_0_a.2.2.1
theorem dX1_heightOf_3 : decode cX1_heightOf 3 = .ok (.invokevirtual 19, 3) := dX1_heightOf_0_a.2.2.2.1
theorem dX1_heightOf_6 : decode cX1_heightOf 6 = .ok (.ireturn, 1) := dX1_heightOf_0_a.2.2.2.2
theorem dX1_item_0_a : (decode cX1_item 0 = .ok (.aload_n 0, 1)) ∧ (decode cX1_item 1 = .ok (.iload_n 1, 1)) ∧ (decode cX1_item 2 = .ok (.invokevirtual 23, 3)) ∧ (decode cX1_item 5 = .ok (.ifCond .eq 29, 3)) ∧ (decode cX1_item 8 = .ok (.iconst 4, 1)) ∧ (decode cX1_item 9 = .ok (.iload_n 1, 1)) ∧ (decode cX1_item 10 = .ok (.imul, 1)) ∧ (decode cX1_item 11 = .ok (.iload_n 2, 1)) ∧ (decode cX1_item 12 = .ok (.iadd, 1)) ∧ (decode cX1_item 13 = .ok (.aload_n 0, 1)) ∧ (decode cX1_item 14 = .ok (.getfield 9, 3)) ∧ (decode cX1_item 17 = .ok (.arraylength, 1)) ∧ (decode cX1_item 18 = .ok (.if_icmp .ge 16, 3)) ∧ (decode cX1_item 21 = .ok (.aload_n 0, 1)) ∧ (decode cX1_item 22 = .ok (.getfield 9, 3)) ∧ (decode cX1_item 25 = .ok (.iconst 4, 1)) := by decide +kernel
theorem dX1_item_0 : decode cX1_item 0 = .ok (.aload_n 0, 1) := dX1_item_0_a.1
theorem dX1_item_1 : decode cX1_item 1 = .ok (.iload_n 1, 1) := dX1_item_0_a.2.1
theorem dX1_item_2 : decode cX1_item 2 = .ok (.invokevirtual 23, 3) := dX1_item_0_a.2.2.1
theorem dX1_item_5 : decode cX1_item 5 = .ok (.ifCond .eq 29, 3) := dX1_item_0_a.2.2.2.1
theorem dX1_item_8 : decode cX1_item 8 = .ok (.iconst 4, 1) := dX1_item_0_a.2.2.2.2.1
theorem dX1_item_9 : decode cX1_item 9 = .ok (.iload_n 1, 1) := dX1_item_0_a.2.2.2.2.2.1
theorem dX1_item_10 : decode cX1_item 10 = .ok (.imul, 1) := dX1_item_0_a.2.2.2.2.2.2.1
theorem dX1_item_11 : decode cX1_item 11 = .ok (.iload_n 2, 1) := dX1_item_0_a.2.2.2.2.2.2.2.1
theorem dX1_item_12 : decode cX1_item 12 = .ok (.iadd, 1) := dX1_item_0_a.2.2.2.2.2.2.2.2.1
theorem dX1_item_13 : decode cX1_item 13 = .ok (.aload_n 0, 1) := dX1_item_0_a.2.2.2.2.2.2.2.2.2.1
theorem dX1_item_14 : decode cX1_item 14 = .ok (.getfield 9, 3) := dX1_item_0_a.2.2.2.2.2.2.2.2.2.2.1
theorem dX1_item_17 : decode cX1_item 17 = .ok (.arraylength, 1) := dX1_item_0_a.2.2.2.2.2.2.2.2.2.2.2.1
theorem dX1_item_18 : decode cX1_item 18 = .ok (.if_icmp .ge 16, 3) := dX1_item_0_a.2.2.2.2.2.2.2.2.2.2.2.2.1
theorem dX1_item_21 : decode cX1_item 21 = .ok (.aload_n 0, 1) := dX1_item_0_a.2.2.2.2.2.2.2.2.2.2.2.2.2.1
theorem dX1_item_22 : decode cX1_item 22 = .ok (.getfield 9, 3) := dX1_item_0_a.2.2.2.2.2.2.2.2.2.2.2.2.2.2.1
theorem dX1_item_25 : decode cX1_item 25 = .ok (.iconst 4, 1) := dX1_item_0_a.2.2.2.2.2.2.2.2.2.2.2.2.2.2.2
theorem dX1_item_26_a : (decode cX1_item 26 = .ok (.iload_n 1, 1)) ∧ (decode cX1_item 27 = .ok (.imul, 1)) ∧ (decode cX1_item 28 = .ok (.iload_n 2, 1)) ∧ (decode cX1_item 29 = .ok (.iadd, 1)) ∧ (decode cX1_item 30 = .ok (.iaload, 1)) ∧ (decode cX1_item 31 = .ok (.goto 4, 3)) ∧ (decode cX1_item 34 = .ok (.iconst (-1), 1)) ∧ (decode cX1_item 35 = .ok (.ireturn, 1)) := by decide +kernel
theorem dX1_item_26 : decode cX1_item 26 = .ok (.iload_n 1, 1) := dX1_item_26_a.1
theorem dX1_item_27 : decode cX1_item 27 = .ok (.imul, 1) := dX1_item_26_a.2.1
theorem dX1_item_28 : decode cX1_item 28 = .ok (.iload_n 2, 1) := dX1_item_26_a.2.2.1
theorem dX1_item_29 : decode cX1_item 29 = .ok (.iadd, 1) := dX1_item_26_a.2.2.2.1
theorem dX1_item_30 : decode cX1_item 30 = .ok (.iaload, 1) := dX1_item_26_a.2.2.2.2.1
theorem dX1_item_31 : decode cX1_item 31 = .ok (.goto 4, 3) := dX1_item_26_a.2.2.2.2.2.1
theorem dX1_item_34 : decode cX1_item 34 = .ok (.iconst (-1), 1) := dX1_item_26_a.2.2.2.2.2.2.1
theorem dX1_item_35 : decode cX1_item 35 = .ok (.ireturn, 1) := dX1_item_26_a.2.2.2.2.2.2.2
theorem dX2_init_0_a : (decode cX2_init 0 = .ok (.aload_n 0, 1)) ∧ (decode cX2_init 1 = .ok (.bipush 23, 2)) ∧ (decode cX2_init 3 = .ok (.invokespecial 3, 3)) ∧ (decode cX2_init 6 = .ok (.return_, 1)) := by decide +kernel
theorem dX2_init_0 : decode cX2_init 0 = .ok (.aload_n 0, 1) := dX2_init_0_a.1
theorem dX2_init_1 : decode cX2_init 1 = .ok (.bipush 23, 2) := dX2_init_0_a.2.1
theorem dX2_init_3 : decode cX2_init 3 = .ok (.invokespecial 3, 3) := dX2_init_0_a.2.2.1
theorem dX2_init_6 : decode cX2_init 6 = .ok (.return_, 1) := dX2_init_0_a.2.2.2
theorem dX2_worth_0_a : (decode cX2_worth 0 = .ok (.iload_n 1, 1)) ∧ (decode cX2_worth 1 = .ok (.iconst 3, 1)) ∧ (decode cX2_worth 2 = .ok (.irem, 1)) ∧ (decode cX2_worth 3 = .ok (.lookupswitch 67 #[(0, 25), (1, 46)], 25)) ∧ (decode cX2_worth 28 = .ok (.iload_n 2, 1)) ∧ (decode cX2_worth 29 = .ok (.bipush 49, 2)) ∧ (decode cX2_worth 31 = .ok (.if_icmp .lt 16, 3)) ∧ (decode cX2_worth 34 = .ok (.iload_n 2, 1)) ∧ (decode cX2_worth 35 = .ok (.bipush 57, 2)) ∧ (decode cX2_worth 37 = .ok (.if_icmp .gt 10, 3)) ∧ (decode cX2_worth 40 = .ok (.iload_n 2, 1)) ∧ (decode cX2_worth 41 = .ok (.bipush 48, 2)) ∧ (decode cX2_worth 43 = .ok (.isub, 1)) ∧ (decode cX2_worth 44 = .ok (.goto 4, 3)) ∧ (decode cX2_worth 47 = .ok (.iconst (-1), 1)) ∧ (decode cX2_worth 48 = .ok (.ireturn, 1)) := by decide +kernel
theorem dX2_worth_0 : decode cX2_worth 0 = .ok (.iload_n 1, 1) := dX2_worth_0_a.1
theorem dX2_worth_1 : decode cX2_worth 1 = .ok (.iconst 3, 1) := dX2_worth_0_a.2.1
theorem dX2_worth_2 : decode cX2_worth 2 = .ok (.irem, 1) := dX2_worth_0_a.2.2.1
theorem dX2_worth_3 : decode cX2_worth 3 = .ok (.lookupswitch 67 #[(0, 25), (1, 46)], 25) := dX2_worth_0_a.2.2.2.1
theorem dX2_worth_28 : decode cX2_worth 28 = .ok (.iload_n 2, 1) := dX2_worth_0_a.2.2.2.2.1
theorem dX2_worth_29 : decode cX2_worth 29 = .ok (.bipush 49, 2) := dX2_worth_0_a.2.2.2.2.2.1
theorem dX2_worth_31 : decode cX2_worth 31 = .ok (.if_icmp .lt 16, 3) := dX2_worth_0_a.2.2.2.2.2.2.1
theorem dX2_worth_34 : decode cX2_worth 34 = .ok (.iload_n 2, 1) := dX2_worth_0_a.2.2.2.2.2.2.2.1
theorem dX2_worth_35 : decode cX2_worth 35 = .ok (.bipush 57, 2) := dX2_worth_0_a.2.2.2.2.2.2.2.2.1
theorem dX2_worth_37 : decode cX2_worth 37 = .ok (.if_icmp .gt 10, 3) := dX2_worth_0_a.2.2.2.2.2.2.2.2.2.1
theorem dX2_worth_40 : decode cX2_worth 40 = .ok (.iload_n 2, 1) := dX2_worth_0_a.2.2.2.2.2.2.2.2.2.2.1
theorem dX2_worth_41 : decode cX2_worth 41 = .ok (.bipush 48, 2) := dX2_worth_0_a.2.2.2.2.2.2.2.2.2.2.2.1
theorem dX2_worth_43 : decode cX2_worth 43 = .ok (.isub, 1) := dX2_worth_0_a.2.2.2.2.2.2.2.2.2.2.2.2.1
theorem dX2_worth_44 : decode cX2_worth 44 = .ok (.goto 4, 3) := dX2_worth_0_a.2.2.2.2.2.2.2.2.2.2.2.2.2.1
theorem dX2_worth_47 : decode cX2_worth 47 = .ok (.iconst (-1), 1) := dX2_worth_0_a.2.2.2.2.2.2.2.2.2.2.2.2.2.2.1
theorem dX2_worth_48 : decode cX2_worth 48 = .ok (.ireturn, 1) := dX2_worth_0_a.2.2.2.2.2.2.2.2.2.2.2.2.2.2.2
theorem dX2_worth_49_a : (decode cX2_worth 49 = .ok (.iload_n 2, 1)) ∧ (decode cX2_worth 50 = .ok (.bipush 48, 2)) ∧ (decode cX2_worth 52 = .ok (.if_icmp .lt 16, 3)) ∧ (decode cX2_worth 55 = .ok (.iload_n 2, 1)) ∧ (decode cX2_worth 56 = .ok (.bipush 57, 2)) ∧ (decode cX2_worth 58 = .ok (.if_icmp .gt 10, 3)) ∧ (decode cX2_worth 61 = .ok (.iload_n 2, 1)) ∧ (decode cX2_worth 62 = .ok (.bipush 48, 2)) ∧ (decode cX2_worth 64 = .ok (.isub, 1)) ∧ (decode cX2_worth 65 = .ok (.goto 4, 3)) ∧ (decode cX2_worth 68 = .ok (.iconst (-1), 1)) ∧ (decode cX2_worth 69 = .ok (.ireturn, 1)) ∧ (decode cX2_worth 70 = .ok (.iload_n 2, 1)) ∧ (decode cX2_worth 71 = .ok (.bipush 59, 2)) ∧ (decode cX2_worth 73 = .ok (.if_icmp .ne 7, 3)) ∧ (decode cX2_worth 76 = .ok (.iconst 0, 1)) := by decide +kernel
theorem dX2_worth_49 : decode cX2_worth 49 = .ok (.iload_n 2, 1) := dX2_worth_49_a.1
theorem dX2_worth_50 : decode cX2_worth 50 = .ok (.bipush 48, 2) := dX2_worth_49_a.2.1
theorem dX2_worth_52 : decode cX2_worth 52 = .ok (.if_icmp .lt 16, 3) := dX2_worth_49_a.2.2.1
theorem dX2_worth_55 : decode cX2_worth 55 = .ok (.iload_n 2, 1) := dX2_worth_49_a.2.2.2.1
theorem dX2_worth_56 : decode cX2_worth 56 = .ok (.bipush 57, 2) := dX2_worth_49_a.2.2.2.2.1
theorem dX2_worth_58 : decode cX2_worth 58 = .ok (.if_icmp .gt 10, 3) := dX2_worth_49_a.2.2.2.2.2.1
theorem dX2_worth_61 : decode cX2_worth 61 = .ok (.iload_n 2, 1) := dX2_worth_49_a.2.2.2.2.2.2.1
theorem dX2_worth_62 : decode cX2_worth 62 = .ok (.bipush 48, 2) := dX2_worth_49_a.2.2.2.2.2.2.2.1
theorem dX2_worth_64 : decode cX2_worth 64 = .ok (.isub, 1) := dX2_worth_49_a.2.2.2.2.2.2.2.2.1
theorem dX2_worth_65 : decode cX2_worth 65 = .ok (.goto 4, 3) := dX2_worth_49_a.2.2.2.2.2.2.2.2.2.1
theorem dX2_worth_68 : decode cX2_worth 68 = .ok (.iconst (-1), 1) := dX2_worth_49_a.2.2.2.2.2.2.2.2.2.2.1
theorem dX2_worth_69 : decode cX2_worth 69 = .ok (.ireturn, 1) := dX2_worth_49_a.2.2.2.2.2.2.2.2.2.2.2.1
theorem dX2_worth_70 : decode cX2_worth 70 = .ok (.iload_n 2, 1) := dX2_worth_49_a.2.2.2.2.2.2.2.2.2.2.2.2.1
theorem dX2_worth_71 : decode cX2_worth 71 = .ok (.bipush 59, 2) := dX2_worth_49_a.2.2.2.2.2.2.2.2.2.2.2.2.2.1
theorem dX2_worth_73 : decode cX2_worth 73 = .ok (.if_icmp .ne 7, 3) := dX2_worth_49_a.2.2.2.2.2.2.2.2.2.2.2.2.2.2.1
theorem dX2_worth_76 : decode cX2_worth 76 = .ok (.iconst 0, 1) := dX2_worth_49_a.2.2.2.2.2.2.2.2.2.2.2.2.2.2.2
theorem dX2_worth_77_a : (decode cX2_worth 77 = .ok (.goto 4, 3)) ∧ (decode cX2_worth 80 = .ok (.iconst (-1), 1)) ∧ (decode cX2_worth 81 = .ok (.ireturn, 1)) := by decide +kernel
theorem dX2_worth_77 : decode cX2_worth 77 = .ok (.goto 4, 3) := dX2_worth_77_a.1
theorem dX2_worth_80 : decode cX2_worth 80 = .ok (.iconst (-1), 1) := dX2_worth_77_a.2.1
theorem dX2_worth_81 : decode cX2_worth 81 = .ok (.ireturn, 1) := dX2_worth_77_a.2.2
theorem dX2_thingsIn_0_a : (decode cX2_thingsIn 0 = .ok (.iload_n 1, 1)) ∧ (decode cX2_thingsIn 1 = .ok (.ifCond .ne 5, 3)) ∧ (decode cX2_thingsIn 4 = .ok (.iconst 0, 1)) ∧ (decode cX2_thingsIn 5 = .ok (.ireturn, 1)) ∧ (decode cX2_thingsIn 6 = .ok (.iload_n 1, 1)) ∧ (decode cX2_thingsIn 7 = .ok (.iconst 3, 1)) ∧ (decode cX2_thingsIn 8 = .ok (.irem, 1)) ∧ (decode cX2_thingsIn 9 = .ok (.iconst 2, 1)) ∧ (decode cX2_thingsIn 10 = .ok (.if_icmp .ne 11, 3)) ∧ (decode cX2_thingsIn 13 = .ok (.iload_n 1, 1)) ∧ (decode cX2_thingsIn 14 = .ok (.iconst 1, 1)) ∧ (decode cX2_thingsIn 15 = .ok (.iadd, 1)) ∧ (decode cX2_thingsIn 16 = .ok (.iconst 3, 1)) ∧ (decode cX2_thingsIn 17 = .ok (.idiv, 1)) ∧ (decode cX2_thingsIn 18 = .ok (.goto 4, 3)) ∧ (decode cX2_thingsIn 21 = .ok (.iconst (-1), 1)) := by decide +kernel
theorem dX2_thingsIn_0 : decode cX2_thingsIn 0 = .ok (.iload_n 1, 1) := dX2_thingsIn_0_a.1
theorem dX2_thingsIn_1 : decode cX2_thingsIn 1 = .ok (.ifCond .ne 5, 3) := dX2_thingsIn_0_a.2.1
theorem dX2_thingsIn_4 : decode cX2_thingsIn 4 = .ok (.iconst 0, 1) := dX2_thingsIn_0_a.2.2.1
theorem dX2_thingsIn_5 : decode cX2_thingsIn 5 = .ok (.ireturn, 1) := dX2_thingsIn_0_a.2.2.2.1
theorem dX2_thingsIn_6 : decode cX2_thingsIn 6 = .ok (.iload_n 1, 1) := dX2_thingsIn_0_a.2.2.2.2.1
theorem dX2_thingsIn_7 : decode cX2_thingsIn 7 = .ok (.iconst 3, 1) := dX2_thingsIn_0_a.2.2.2.2.2.1
theorem dX2_thingsIn_8 : decode cX2_thingsIn 8 = .ok (.irem, 1) := dX2_thingsIn_0_a.2.2.2.2.2.2.1
theorem dX2_thingsIn_9 : decode cX2_thingsIn 9 = .ok (.iconst 2, 1) := dX2_thingsIn_0_a.2.2.2.2.2.2.2.1
theorem dX2_thingsIn_10 : decode cX2_thingsIn 10 = .ok (.if_icmp .ne 11, 3) := dX2_thingsIn_0_a.2.2.2.2.2.2.2.2.1
theorem dX2_thingsIn_13 : decode cX2_thingsIn 13 = .ok (.iload_n 1, 1) := dX2_thingsIn_0_a.2.2.2.2.2.2.2.2.2.1
theorem dX2_thingsIn_14 : decode cX2_thingsIn 14 = .ok (.iconst 1, 1) := dX2_thingsIn_0_a.2.2.2.2.2.2.2.2.2.2.1
theorem dX2_thingsIn_15 : decode cX2_thingsIn 15 = .ok (.iadd, 1) := dX2_thingsIn_0_a.2.2.2.2.2.2.2.2.2.2.2.1
theorem dX2_thingsIn_16 : decode cX2_thingsIn 16 = .ok (.iconst 3, 1) := dX2_thingsIn_0_a.2.2.2.2.2.2.2.2.2.2.2.2.1
theorem dX2_thingsIn_17 : decode cX2_thingsIn 17 = .ok (.idiv, 1) := dX2_thingsIn_0_a.2.2.2.2.2.2.2.2.2.2.2.2.2.1
theorem dX2_thingsIn_18 : decode cX2_thingsIn 18 = .ok (.goto 4, 3) := dX2_thingsIn_0_a.2.2.2.2.2.2.2.2.2.2.2.2.2.2.1
theorem dX2_thingsIn_21 : decode cX2_thingsIn 21 = .ok (.iconst (-1), 1) := dX2_thingsIn_0_a.2.2.2.2.2.2.2.2.2.2.2.2.2.2.2
theorem dX2_thingsIn_22 : decode cX2_thingsIn 22 = .ok (.ireturn, 1) := by decide +kernel
theorem dX2_told_0_a : (decode cX2_told 0 = .ok (.aload_n 0, 1)) ∧ (decode cX2_told 1 = .ok (.iconst 3, 1)) ∧ (decode cX2_told 2 = .ok (.iload_n 1, 1)) ∧ (decode cX2_told 3 = .ok (.imul, 1)) ∧ (decode cX2_told 4 = .ok (.iload_n 2, 1)) ∧ (decode cX2_told 5 = .ok (.iadd, 1)) ∧ (decode cX2_told 6 = .ok (.invokevirtual 9, 3)) ∧ (decode cX2_told 9 = .ok (.ireturn, 1)) := by decide +kernel
theorem dX2_told_0 : decode cX2_told 0 = .ok (.aload_n 0, 1) := dX2_told_0_a.1
theorem dX2_told_1 : decode cX2_told 1 = .ok (.iconst 3, 1) := dX2_told_0_a.2.1
theorem dX2_told_2 : decode cX2_told 2 = .ok (.iload_n 1, 1) := dX2_told_0_a.2.2.1
theorem dX2_told_3 : decode cX2_told 3 = .ok (.imul, 1) := dX2_told_0_a.2.2.2.1
theorem dX2_told_4 : decode cX2_told 4 = .ok (.iload_n 2, 1) := dX2_told_0_a.2.2.2.2.1
theorem dX2_told_5 : decode cX2_told 5 = .ok (.iadd, 1) := dX2_told_0_a.2.2.2.2.2.1
theorem dX2_told_6 : decode cX2_told 6 = .ok (.invokevirtual 9, 3) := dX2_told_0_a.2.2.2.2.2.2.1
theorem dX2_told_9 : decode cX2_told 9 = .ok (.ireturn, 1) := dX2_told_0_a.2.2.2.2.2.2.2
theorem dX3_init_0_a : (decode cX3_init 0 = .ok (.aload_n 0, 1)) ∧ (decode cX3_init 1 = .ok (.invokespecial 1, 3)) ∧ (decode cX3_init 4 = .ok (.return_, 1)) := by decide +kernel
theorem dX3_init_0 : decode cX3_init 0 = .ok (.aload_n 0, 1) := dX3_init_0_a.1
theorem dX3_init_1 : decode cX3_init 1 = .ok (.invokespecial 1, 3) := dX3_init_0_a.2.1
theorem dX3_init_4 : decode cX3_init 4 = .ok (.return_, 1) := dX3_init_0_a.2.2
theorem dX3_setOut_0_a : (decode cX3_setOut 0 = .ok (.aload_n 0, 1)) ∧ (decode cX3_setOut 1 = .ok (.aload_n 0, 1)) ∧ (decode cX3_setOut 2 = .ok (.getfield 7, 3)) ∧ (decode cX3_setOut 5 = .ok (.putfield 13, 3)) ∧ (decode cX3_setOut 8 = .ok (.aload_n 0, 1)) ∧ (decode cX3_setOut 9 = .ok (.iconst 0, 1)) ∧ (decode cX3_setOut 10 = .ok (.putfield 16, 3)) ∧ (decode cX3_setOut 13 = .ok (.return_, 1)) := by decide +kernel
theorem dX3_setOut_0 : decode cX3_setOut 0 = .ok (.aload_n 0, 1) := dX3_setOut_0_a.1
theorem dX3_setOut_1 : decode cX3_setOut 1 = .ok (.aload_n 0, 1) := dX3_setOut_0_a.2.1
theorem dX3_setOut_2 : decode cX3_setOut 2 = .ok (.getfield 7, 3) := dX3_setOut_0_a.2.2.1
theorem dX3_setOut_5 : decode cX3_setOut 5 = .ok (.putfield 13, 3) := dX3_setOut_0_a.2.2.2.1
theorem dX3_setOut_8 : decode cX3_setOut 8 = .ok (.aload_n 0, 1) := dX3_setOut_0_a.2.2.2.2.1
theorem dX3_setOut_9 : decode cX3_setOut 9 = .ok (.iconst 0, 1) := dX3_setOut_0_a.2.2.2.2.2.1
theorem dX3_setOut_10 : decode cX3_setOut 10 = .ok (.putfield 16, 3) := dX3_setOut_0_a.2.2.2.2.2.2.1
theorem dX3_setOut_13 : decode cX3_setOut 13 = .ok (.return_, 1) := dX3_setOut_0_a.2.2.2.2.2.2.2
theorem dX3_flyMile_0_a : (decode cX3_flyMile 0 = .ok (.aload_n 0, 1)) ∧ (decode cX3_flyMile 1 = .ok (.dup, 1)) ∧ (decode cX3_flyMile 2 = .ok (.getfield 16, 3)) ∧ (decode cX3_flyMile 5 = .ok (.iconst 1, 1)) ∧ (decode cX3_flyMile 6 = .ok (.iadd, 1)) ∧ (decode cX3_flyMile 7 = .ok (.putfield 16, 3)) ∧ (decode cX3_flyMile 10 = .ok (.aload_n 0, 1)) ∧ (decode cX3_flyMile 11 = .ok (.getfield 16, 3)) ∧ (decode cX3_flyMile 14 = .ok (.aload_n 0, 1)) ∧ (decode cX3_flyMile 15 = .ok (.getfield 19, 3)) ∧ (decode cX3_flyMile 18 = .ok (.if_icmp .ne 18, 3)) ∧ (decode cX3_flyMile 21 = .ok (.aload_n 0, 1)) ∧ (decode cX3_flyMile 22 = .ok (.dup, 1)) ∧ (decode cX3_flyMile 23 = .ok (.getfield 13, 3)) ∧ (decode cX3_flyMile 26 = .ok (.iconst 1, 1)) ∧ (decode cX3_flyMile 27 = .ok (.isub, 1)) := by decide +kernel
theorem dX3_flyMile_0 : decode cX3_flyMile 0 = .ok (.aload_n 0, 1) := dX3_flyMile_0_a.1
theorem dX3_flyMile_1 : decode cX3_flyMile 1 = .ok (.dup, 1) := dX3_flyMile_0_a.2.1
theorem dX3_flyMile_2 : decode cX3_flyMile 2 = .ok (.getfield 16, 3) := dX3_flyMile_0_a.2.2.1
theorem dX3_flyMile_5 : decode cX3_flyMile 5 = .ok (.iconst 1, 1) := dX3_flyMile_0_a.2.2.2.1
theorem dX3_flyMile_6 : decode cX3_flyMile 6 = .ok (.iadd, 1) := dX3_flyMile_0_a.2.2.2.2.1
theorem dX3_flyMile_7 : decode cX3_flyMile 7 = .ok (.putfield 16, 3) := dX3_flyMile_0_a.2.2.2.2.2.1
theorem dX3_flyMile_10 : decode cX3_flyMile 10 = .ok (.aload_n 0, 1) := dX3_flyMile_0_a.2.2.2.2.2.2.1
theorem dX3_flyMile_11 : decode cX3_flyMile 11 = .ok (.getfield 16, 3) := dX3_flyMile_0_a.2.2.2.2.2.2.2.1
theorem dX3_flyMile_14 : decode cX3_flyMile 14 = .ok (.aload_n 0, 1) := dX3_flyMile_0_a.2.2.2.2.2.2.2.2.1
theorem dX3_flyMile_15 : decode cX3_flyMile 15 = .ok (.getfield 19, 3) := dX3_flyMile_0_a.2.2.2.2.2.2.2.2.2.1
theorem dX3_flyMile_18 : decode cX3_flyMile 18 = .ok (.if_icmp .ne 18, 3) := dX3_flyMile_0_a.2.2.2.2.2.2.2.2.2.2.1
theorem dX3_flyMile_21 : decode cX3_flyMile 21 = .ok (.aload_n 0, 1) := dX3_flyMile_0_a.2.2.2.2.2.2.2.2.2.2.2.1
theorem dX3_flyMile_22 : decode cX3_flyMile 22 = .ok (.dup, 1) := dX3_flyMile_0_a.2.2.2.2.2.2.2.2.2.2.2.2.1
theorem dX3_flyMile_23 : decode cX3_flyMile 23 = .ok (.getfield 13, 3) := dX3_flyMile_0_a.2.2.2.2.2.2.2.2.2.2.2.2.2.1
theorem dX3_flyMile_26 : decode cX3_flyMile 26 = .ok (.iconst 1, 1) := dX3_flyMile_0_a.2.2.2.2.2.2.2.2.2.2.2.2.2.2.1
theorem dX3_flyMile_27 : decode cX3_flyMile 27 = .ok (.isub, 1) := dX3_flyMile_0_a.2.2.2.2.2.2.2.2.2.2.2.2.2.2.2
theorem dX3_flyMile_28_a : (decode cX3_flyMile 28 = .ok (.putfield 13, 3)) ∧ (decode cX3_flyMile 31 = .ok (.aload_n 0, 1)) ∧ (decode cX3_flyMile 32 = .ok (.iconst 0, 1)) ∧ (decode cX3_flyMile 33 = .ok (.putfield 16, 3)) ∧ (decode cX3_flyMile 36 = .ok (.return_, 1)) := by decide +kernel
theorem dX3_flyMile_28 : decode cX3_flyMile 28 = .ok (.putfield 13, 3) := dX3_flyMile_28_a.1
theorem dX3_flyMile_31 : decode cX3_flyMile 31 = .ok (.aload_n 0, 1) := dX3_flyMile_28_a.2.1
theorem dX3_flyMile_32 : decode cX3_flyMile 32 = .ok (.iconst 0, 1) := dX3_flyMile_28_a.2.2.1
theorem dX3_flyMile_33 : decode cX3_flyMile 33 = .ok (.putfield 16, 3) := dX3_flyMile_28_a.2.2.2.1
theorem dX3_flyMile_36 : decode cX3_flyMile 36 = .ok (.return_, 1) := dX3_flyMile_28_a.2.2.2.2
theorem dX3_rest_0_a : (decode cX3_rest 0 = .ok (.aload_n 0, 1)) ∧ (decode cX3_rest 1 = .ok (.getfield 13, 3)) ∧ (decode cX3_rest 4 = .ok (.aload_n 0, 1)) ∧ (decode cX3_rest 5 = .ok (.getfield 7, 3)) ∧ (decode cX3_rest 8 = .ok (.if_icmp .ge 13, 3)) ∧ (decode cX3_rest 11 = .ok (.aload_n 0, 1)) ∧ (decode cX3_rest 12 = .ok (.dup, 1)) ∧ (decode cX3_rest 13 = .ok (.getfield 13, 3)) ∧ (decode cX3_rest 16 = .ok (.iconst 1, 1)) ∧ (decode cX3_rest 17 = .ok (.iadd, 1)) ∧ (decode cX3_rest 18 = .ok (.putfield 13, 3)) ∧ (decode cX3_rest 21 = .ok (.return_, 1)) := by decide +kernel
theorem dX3_rest_0 : decode cX3_rest 0 = .ok (.aload_n 0, 1) := dX3_rest_0_a.1
theorem dX3_rest_1 : decode cX3_rest 1 = .ok (.getfield 13, 3) := dX3_rest_0_a.2.1
theorem dX3_rest_4 : decode cX3_rest 4 = .ok (.aload_n 0, 1) := dX3_rest_0_a.2.2.1
theorem dX3_rest_5 : decode cX3_rest 5 = .ok (.getfield 7, 3) := dX3_rest_0_a.2.2.2.1
theorem dX3_rest_8 : decode cX3_rest 8 = .ok (.if_icmp .ge 13, 3) := dX3_rest_0_a.2.2.2.2.1
theorem dX3_rest_11 : decode cX3_rest 11 = .ok (.aload_n 0, 1) := dX3_rest_0_a.2.2.2.2.2.1
theorem dX3_rest_12 : decode cX3_rest 12 = .ok (.dup, 1) := dX3_rest_0_a.2.2.2.2.2.2.1
theorem dX3_rest_13 : decode cX3_rest 13 = .ok (.getfield 13, 3) := dX3_rest_0_a.2.2.2.2.2.2.2.1
theorem dX3_rest_16 : decode cX3_rest 16 = .ok (.iconst 1, 1) := dX3_rest_0_a.2.2.2.2.2.2.2.2.1
theorem dX3_rest_17 : decode cX3_rest 17 = .ok (.iadd, 1) := dX3_rest_0_a.2.2.2.2.2.2.2.2.2.1
theorem dX3_rest_18 : decode cX3_rest 18 = .ok (.putfield 13, 3) := dX3_rest_0_a.2.2.2.2.2.2.2.2.2.2.1
theorem dX3_rest_21 : decode cX3_rest 21 = .ok (.return_, 1) := dX3_rest_0_a.2.2.2.2.2.2.2.2.2.2.2
theorem dX4_init_0_a : (decode cX4_init 0 = .ok (.aload_n 0, 1)) ∧ (decode cX4_init 1 = .ok (.bipush 24, 2)) ∧ (decode cX4_init 3 = .ok (.invokespecial 3, 3)) ∧ (decode cX4_init 6 = .ok (.return_, 1)) := by decide +kernel
theorem dX4_init_0 : decode cX4_init 0 = .ok (.aload_n 0, 1) := dX4_init_0_a.1
theorem dX4_init_1 : decode cX4_init 1 = .ok (.bipush 24, 2) := dX4_init_0_a.2.1
theorem dX4_init_3 : decode cX4_init 3 = .ok (.invokespecial 3, 3) := dX4_init_0_a.2.2.1
theorem dX4_init_6 : decode cX4_init 6 = .ok (.return_, 1) := dX4_init_0_a.2.2.2
theorem dX4_worth_0_a : (decode cX4_worth 0 = .ok (.iload_n 2, 1)) ∧ (decode cX4_worth 1 = .ok (.bipush 97, 2)) ∧ (decode cX4_worth 3 = .ok (.if_icmp .lt 14, 3)) ∧ (decode cX4_worth 6 = .ok (.iload_n 2, 1)) ∧ (decode cX4_worth 7 = .ok (.bipush 102, 2)) ∧ (decode cX4_worth 9 = .ok (.if_icmp .gt 8, 3)) ∧ (decode cX4_worth 12 = .ok (.iload_n 2, 1)) ∧ (decode cX4_worth 13 = .ok (.bipush 97, 2)) ∧ (decode cX4_worth 15 = .ok (.isub, 1)) ∧ (decode cX4_worth 16 = .ok (.ireturn, 1)) ∧ (decode cX4_worth 17 = .ok (.iload_n 2, 1)) ∧ (decode cX4_worth 18 = .ok (.lookupswitch 43 #[(105, 37), (111, 34), (119, 40)], 34)) ∧ (decode cX4_worth 52 = .ok (.bipush 6, 2)) ∧ (decode cX4_worth 54 = .ok (.ireturn, 1)) ∧ (decode cX4_worth 55 = .ok (.bipush 7, 2)) ∧ (decode cX4_worth 57 = .ok (.ireturn, 1)) := by decide +kernel
theorem dX4_worth_0 : decode cX4_worth 0 = .ok (.iload_n 2, 1) := dX4_worth_0_a.1
theorem dX4_worth_1 : decode cX4_worth 1 = .ok (.bipush 97, 2) := dX4_worth_0_a.2.1
theorem dX4_worth_3 : decode cX4_worth 3 = .ok (.if_icmp .lt 14, 3) := dX4_worth_0_a.2.2.1
theorem dX4_worth_6 : decode cX4_worth 6 = .ok (.iload_n 2, 1) := dX4_worth_0_a.2.2.2.1
theorem dX4_worth_7 : decode cX4_worth 7 = .ok (.bipush 102, 2) := dX4_worth_0_a.2.2.2.2.1
theorem dX4_worth_9 : decode cX4_worth 9 = .ok (.if_icmp .gt 8, 3) := dX4_worth_0_a.2.2.2.2.2.1
theorem dX4_worth_12 : decode cX4_worth 12 = .ok (.iload_n 2, 1) := dX4_worth_0_a.2.2.2.2.2.2.1
theorem dX4_worth_13 : decode cX4_worth 13 = .ok (.bipush 97, 2) := dX4_worth_0_a.2.2.2.2.2.2.2.1
theorem dX4_worth_15 : decode cX4_worth 15 = .ok (.isub, 1) := dX4_worth_0_a.2.2.2.2.2.2.2.2.1
theorem dX4_worth_16 : decode cX4_worth 16 = .ok (.ireturn, 1) := dX4_worth_0_a.2.2.2.2.2.2.2.2.2.1
theorem dX4_worth_17 : decode cX4_worth 17 = .ok (.iload_n 2, 1) := dX4_worth_0_a.2.2.2.2.2.2.2.2.2.2.1
theorem dX4_worth_18 : decode cX4_worth 18 = .ok (.lookupswitch 43 #[(105, 37), (111, 34), (119, 40)], 34) := dX4_worth_0_a.2.2.2.2.2.2.2.2.2.2.2.1
theorem dX4_worth_52 : decode cX4_worth 52 = .ok (.bipush 6, 2) := dX4_worth_0_a.2.2.2.2.2.2.2.2.2.2.2.2.1
theorem dX4_worth_54 : decode cX4_worth 54 = .ok (.ireturn, 1) := dX4_worth_0_a.2.2.2.2.2.2.2.2.2.2.2.2.2.1
theorem dX4_worth_55 : decode cX4_worth 55 = .ok (.bipush 7, 2) := dX4_worth_0_a.2.2.2.2.2.2.2.2.2.2.2.2.2.2.1
theorem dX4_worth_57 : decode cX4_worth 57 = .ok (.ireturn, 1) := dX4_worth_0_a.2.2.2.2.2.2.2.2.2.2.2.2.2.2.2
theorem dX4_worth_58_a : (decode cX4_worth 58 = .ok (.bipush 8, 2)) ∧ (decode cX4_worth 60 = .ok (.ireturn, 1)) ∧ (decode cX4_worth 61 = .ok (.iconst (-1), 1)) ∧ (decode cX4_worth 62 = .ok (.ireturn, 1)) := by decide +kernel
theorem dX4_worth_58 : decode cX4_worth 58 = .ok (.bipush 8, 2) := dX4_worth_58_a.1
theorem dX4_worth_60 : decode cX4_worth 60 = .ok (.ireturn, 1) := dX4_worth_58_a.2.1
theorem dX4_worth_61 : decode cX4_worth 61 = .ok (.iconst (-1), 1) := dX4_worth_58_a.2.2.1
theorem dX4_worth_62 : decode cX4_worth 62 = .ok (.ireturn, 1) := dX4_worth_58_a.2.2.2
theorem dX4_thingsIn_0_a : (decode cX4_thingsIn 0 = .ok (.iload_n 1, 1)) ∧ (decode cX4_thingsIn 1 = .ok (.ireturn, 1)) := by decide +kernel
theorem dX4_thingsIn_0 : decode cX4_thingsIn 0 = .ok (.iload_n 1, 1) := dX4_thingsIn_0_a.1
theorem dX4_thingsIn_1 : decode cX4_thingsIn 1 = .ok (.ireturn, 1) := dX4_thingsIn_0_a.2
theorem dX4_isTown_0_a : (decode cX4_isTown 0 = .ok (.aload_n 0, 1)) ∧ (decode cX4_isTown 1 = .ok (.iload_n 1, 1)) ∧ (decode cX4_isTown 2 = .ok (.invokevirtual 9, 3)) ∧ (decode cX4_isTown 5 = .ok (.ifCond .eq 17, 3)) ∧ (decode cX4_isTown 8 = .ok (.aload_n 0, 1)) ∧ (decode cX4_isTown 9 = .ok (.iload_n 1, 1)) ∧ (decode cX4_isTown 10 = .ok (.invokevirtual 15, 3)) ∧ (decode cX4_isTown 13 = .ok (.bipush 6, 2)) ∧ (decode cX4_isTown 15 = .ok (.if_icmp .ge 7, 3)) ∧ (decode cX4_isTown 18 = .ok (.iconst 1, 1)) ∧ (decode cX4_isTown 19 = .ok (.goto 4, 3)) ∧ (decode cX4_isTown 22 = .ok (.iconst 0, 1)) ∧ (decode cX4_isTown 23 = .ok (.ireturn, 1)) := by decide +kernel
theorem dX4_isTown_0 : decode cX4_isTown 0 = .ok (.aload_n 0, 1) := dX4_isTown_0_a.1
theorem dX4_isTown_1 : decode cX4_isTown 1 = .ok (.iload_n 1, 1) := dX4_isTown_0_a.2.1
theorem dX4_isTown_2 : decode cX4_isTown 2 = .ok (.invokevirtual 9, 3) := dX4_isTown_0_a.2.2.1
theorem dX4_isTown_5 : decode cX4_isTown 5 = .ok (.ifCond .eq 17, 3) := dX4_isTown_0_a.2.2.2.1
theorem dX4_isTown_8 : decode cX4_isTown 8 = .ok (.aload_n 0, 1) := dX4_isTown_0_a.2.2.2.2.1
theorem dX4_isTown_9 : decode cX4_isTown 9 = .ok (.iload_n 1, 1) := dX4_isTown_0_a.2.2.2.2.2.1
theorem dX4_isTown_10 : decode cX4_isTown 10 = .ok (.invokevirtual 15, 3) := dX4_isTown_0_a.2.2.2.2.2.2.1
theorem dX4_isTown_13 : decode cX4_isTown 13 = .ok (.bipush 6, 2) := dX4_isTown_0_a.2.2.2.2.2.2.2.1
theorem dX4_isTown_15 : decode cX4_isTown 15 = .ok (.if_icmp .ge 7, 3) := dX4_isTown_0_a.2.2.2.2.2.2.2.2.1
theorem dX4_isTown_18 : decode cX4_isTown 18 = .ok (.iconst 1, 1) := dX4_isTown_0_a.2.2.2.2.2.2.2.2.2.1
theorem dX4_isTown_19 : decode cX4_isTown 19 = .ok (.goto 4, 3) := dX4_isTown_0_a.2.2.2.2.2.2.2.2.2.2.1
theorem dX4_isTown_22 : decode cX4_isTown 22 = .ok (.iconst 0, 1) := dX4_isTown_0_a.2.2.2.2.2.2.2.2.2.2.2.1
theorem dX4_isTown_23 : decode cX4_isTown 23 = .ok (.ireturn, 1) := dX4_isTown_0_a.2.2.2.2.2.2.2.2.2.2.2.2
theorem dX4_towns_0_a : (decode cX4_towns 0 = .ok (.iconst 0, 1)) ∧ (decode cX4_towns 1 = .ok (.istore_n 1, 1)) ∧ (decode cX4_towns 2 = .ok (.iconst 0, 1)) ∧ (decode cX4_towns 3 = .ok (.istore_n 2, 1)) ∧ (decode cX4_towns 4 = .ok (.iload_n 2, 1)) ∧ (decode cX4_towns 5 = .ok (.aload_n 0, 1)) ∧ (decode cX4_towns 6 = .ok (.getfield 19, 3)) ∧ (decode cX4_towns 9 = .ok (.if_icmp .ge 20, 3)) ∧ (decode cX4_towns 12 = .ok (.aload_n 0, 1)) ∧ (decode cX4_towns 13 = .ok (.iload_n 2, 1)) ∧ (decode cX4_towns 14 = .ok (.invokevirtual 23, 3)) ∧ (decode cX4_towns 17 = .ok (.ifCond .eq 6, 3)) ∧ (decode cX4_towns 20 = .ok (.iinc 1 1, 3)) ∧ (decode cX4_towns 23 = .ok (.iinc 2 1, 3)) ∧ (decode cX4_towns 26 = .ok (.goto (-22), 3)) ∧ (decode cX4_towns 29 = .ok (.iload_n 1, 1)) := by decide +kernel
theorem dX4_towns_0 : decode cX4_towns 0 = .ok (.iconst 0, 1) := dX4_towns_0_a.1
theorem dX4_towns_1 : decode cX4_towns 1 = .ok (.istore_n 1, 1) := dX4_towns_0_a.2.1
theorem dX4_towns_2 : decode cX4_towns 2 = .ok (.iconst 0, 1) := dX4_towns_0_a.2.2.1
theorem dX4_towns_3 : decode cX4_towns 3 = .ok (.istore_n 2, 1) := dX4_towns_0_a.2.2.2.1
theorem dX4_towns_4 : decode cX4_towns 4 = .ok (.iload_n 2, 1) := dX4_towns_0_a.2.2.2.2.1
theorem dX4_towns_5 : decode cX4_towns 5 = .ok (.aload_n 0, 1) := dX4_towns_0_a.2.2.2.2.2.1
theorem dX4_towns_6 : decode cX4_towns 6 = .ok (.getfield 19, 3) := dX4_towns_0_a.2.2.2.2.2.2.1
theorem dX4_towns_9 : decode cX4_towns 9 = .ok (.if_icmp .ge 20, 3) := dX4_towns_0_a.2.2.2.2.2.2.2.1
theorem dX4_towns_12 : decode cX4_towns 12 = .ok (.aload_n 0, 1) := dX4_towns_0_a.2.2.2.2.2.2.2.2.1
theorem dX4_towns_13 : decode cX4_towns 13 = .ok (.iload_n 2, 1) := dX4_towns_0_a.2.2.2.2.2.2.2.2.2.1
theorem dX4_towns_14 : decode cX4_towns 14 = .ok (.invokevirtual 23, 3) := dX4_towns_0_a.2.2.2.2.2.2.2.2.2.2.1
theorem dX4_towns_17 : decode cX4_towns 17 = .ok (.ifCond .eq 6, 3) := dX4_towns_0_a.2.2.2.2.2.2.2.2.2.2.2.1
theorem dX4_towns_20 : decode cX4_towns 20 = .ok (.iinc 1 1, 3) := dX4_towns_0_a.2.2.2.2.2.2.2.2.2.2.2.2.1
theorem dX4_towns_23 : decode cX4_towns 23 = .ok (.iinc 2 1, 3) := dX4_towns_0_a.2.2.2.2.2.2.2.2.2.2.2.2.2.1
theorem dX4_towns_26 : decode cX4_towns 26 = .ok (.goto (-22), 3) := dX4_towns_0_a.2.2.2.2.2.2.2.2.2.2.2.2.2.2.1
theorem dX4_towns_29 : decode cX4_towns 29 = .ok (.iload_n 1, 1) := dX4_towns_0_a.2.2.2.2.2.2.2.2.2.2.2.2.2.2.2
theorem dX4_towns_30 : decode cX4_towns 30 = .ok (.ireturn, 1) := by decide +kernel
theorem dX5_init_0_a : (decode cX5_init 0 = .ok (.aload_n 0, 1)) ∧ (decode cX5_init 1 = .ok (.invokespecial 3, 3)) ∧ (decode cX5_init 4 = .ok (.aload_n 0, 1)) ∧ (decode cX5_init 5 = .ok (.bipush 46, 2)) ∧ (decode cX5_init 7 = .ok (.newarray .long, 2)) ∧ (decode cX5_init 9 = .ok (.putfield 9, 3)) ∧ (decode cX5_init 12 = .ok (.return_, 1)) := by decide +kernel
theorem dX5_init_0 : decode cX5_init 0 = .ok (.aload_n 0, 1) := dX5_init_0_a.1
theorem dX5_init_1 : decode cX5_init 1 = .ok (.invokespecial 3, 3) := dX5_init_0_a.2.1
theorem dX5_init_4 : decode cX5_init 4 = .ok (.aload_n 0, 1) := dX5_init_0_a.2.2.1
theorem dX5_init_5 : decode cX5_init 5 = .ok (.bipush 46, 2) := dX5_init_0_a.2.2.2.1
theorem dX5_init_7 : decode cX5_init 7 = .ok (.newarray .long, 2) := dX5_init_0_a.2.2.2.2.1
theorem dX5_init_9 : decode cX5_init 9 = .ok (.putfield 9, 3) := dX5_init_0_a.2.2.2.2.2.1
theorem dX5_init_12 : decode cX5_init 12 = .ok (.return_, 1) := dX5_init_0_a.2.2.2.2.2.2
theorem dX5_weigh_0_a : (decode cX5_weigh 0 = .ok (.aload_n 0, 1)) ∧ (decode cX5_weigh 1 = .ok (.lconst 0, 1)) ∧ (decode cX5_weigh 2 = .ok (.putfield 15, 3)) ∧ (decode cX5_weigh 5 = .ok (.aload_n 0, 1)) ∧ (decode cX5_weigh 6 = .ok (.lconst 1, 1)) ∧ (decode cX5_weigh 7 = .ok (.putfield 19, 3)) ∧ (decode cX5_weigh 10 = .ok (.aload_n 2, 1)) ∧ (decode cX5_weigh 11 = .ok (.getfield 22, 3)) ∧ (decode cX5_weigh 14 = .ok (.ifCond .eq 17, 3)) ∧ (decode cX5_weigh 17 = .ok (.aload_n 2, 1)) ∧ (decode cX5_weigh 18 = .ok (.getfield 28, 3)) ∧ (decode cX5_weigh 21 = .ok (.aload_n 2, 1)) ∧ (decode cX5_weigh 22 = .ok (.getfield 32, 3)) ∧ (decode cX5_weigh 25 = .ok (.getfield 36, 3)) ∧ (decode cX5_weigh 28 = .ok (.if_icmp .ge 4, 3)) ∧ (decode cX5_weigh 31 = .ok (.return_, 1)) := by decide +kernel
theorem dX5_weigh_0 : decode cX5_weigh 0 = .ok (.aload_n 0, 1) := dX5_weigh_0_a.1
theorem dX5_weigh_1 : decode cX5_weigh 1 = .ok (.lconst 0, 1) := dX5_weigh_0_a.2.1
theorem dX5_weigh_2 : decode cX5_weigh 2 = .ok (.putfield 15, 3) := dX5_weigh_0_a.2.2.1
theorem dX5_weigh_5 : decode cX5_weigh 5 = .ok (.aload_n 0, 1) := dX5_weigh_0_a.2.2.2.1
theorem dX5_weigh_6 : decode cX5_weigh 6 = .ok (.lconst 1, 1) := dX5_weigh_0_a.2.2.2.2.1
theorem dX5_weigh_7 : decode cX5_weigh 7 = .ok (.putfield 19, 3) := dX5_weigh_0_a.2.2.2.2.2.1
theorem dX5_weigh_10 : decode cX5_weigh 10 = .ok (.aload_n 2, 1) := dX5_weigh_0_a.2.2.2.2.2.2.1
theorem dX5_weigh_11 : decode cX5_weigh 11 = .ok (.getfield 22, 3) := dX5_weigh_0_a.2.2.2.2.2.2.2.1
theorem dX5_weigh_14 : decode cX5_weigh 14 = .ok (.ifCond .eq 17, 3) := dX5_weigh_0_a.2.2.2.2.2.2.2.2.1
theorem dX5_weigh_17 : decode cX5_weigh 17 = .ok (.aload_n 2, 1) := dX5_weigh_0_a.2.2.2.2.2.2.2.2.2.1
theorem dX5_weigh_18 : decode cX5_weigh 18 = .ok (.getfield 28, 3) := dX5_weigh_0_a.2.2.2.2.2.2.2.2.2.2.1
theorem dX5_weigh_21 : decode cX5_weigh 21 = .ok (.aload_n 2, 1) := dX5_weigh_0_a.2.2.2.2.2.2.2.2.2.2.2.1
theorem dX5_weigh_22 : decode cX5_weigh 22 = .ok (.getfield 32, 3) := dX5_weigh_0_a.2.2.2.2.2.2.2.2.2.2.2.2.1
theorem dX5_weigh_25 : decode cX5_weigh 25 = .ok (.getfield 36, 3) := dX5_weigh_0_a.2.2.2.2.2.2.2.2.2.2.2.2.2.1
theorem dX5_weigh_28 : decode cX5_weigh 28 = .ok (.if_icmp .ge 4, 3) := dX5_weigh_0_a.2.2.2.2.2.2.2.2.2.2.2.2.2.2.1
theorem dX5_weigh_31 : decode cX5_weigh 31 = .ok (.return_, 1) := dX5_weigh_0_a.2.2.2.2.2.2.2.2.2.2.2.2.2.2.2
theorem dX5_weigh_32_a : (decode cX5_weigh 32 = .ok (.aload_n 0, 1)) ∧ (decode cX5_weigh 33 = .ok (.lconst 1, 1)) ∧ (decode cX5_weigh 34 = .ok (.invokevirtual 41, 3)) ∧ (decode cX5_weigh 37 = .ok (.iconst 0, 1)) ∧ (decode cX5_weigh 38 = .ok (.istore 4, 2)) ∧ (decode cX5_weigh 40 = .ok (.iconst 0, 1)) ∧ (decode cX5_weigh 41 = .ok (.istore 5, 2)) ∧ (decode cX5_weigh 43 = .ok (.iload 5, 2)) ∧ (decode cX5_weigh 45 = .ok (.aload_n 2, 1)) ∧ (decode cX5_weigh 46 = .ok (.getfield 32, 3)) ∧ (decode cX5_weigh 49 = .ok (.getfield 36, 3)) ∧ (decode cX5_weigh 52 = .ok (.if_icmp .ge 89, 3)) ∧ (decode cX5_weigh 55 = .ok (.iload 4, 2)) ∧ (decode cX5_weigh 57 = .ok (.iconst 0, 1)) ∧ (decode cX5_weigh 58 = .ok (.iload_n 3, 1)) ∧ (decode cX5_weigh 59 = .ok (.iconst 5, 1)) := by decide +kernel
theorem dX5_weigh_32 : decode cX5_weigh 32 = .ok (.aload_n 0, 1) := dX5_weigh_32_a.1
theorem dX5_weigh_33 : decode cX5_weigh 33 = .ok (.lconst 1, 1) := dX5_weigh_32_a.2.1
theorem dX5_weigh_34 : decode cX5_weigh 34 = .ok (.invokevirtual 41, 3) := dX5_weigh_32_a.2.2.1
theorem dX5_weigh_37 : decode cX5_weigh 37 = .ok (.iconst 0, 1) := dX5_weigh_32_a.2.2.2.1
theorem dX5_weigh_38 : decode cX5_weigh 38 = .ok (.istore 4, 2) := dX5_weigh_32_a.2.2.2.2.1
theorem dX5_weigh_40 : decode cX5_weigh 40 = .ok (.iconst 0, 1) := dX5_weigh_32_a.2.2.2.2.2.1
theorem dX5_weigh_41 : decode cX5_weigh 41 = .ok (.istore 5, 2) := dX5_weigh_32_a.2.2.2.2.2.2.1
theorem dX5_weigh_43 : decode cX5_weigh 43 = .ok (.iload 5, 2) := dX5_weigh_32_a.2.2.2.2.2.2.2.1
theorem dX5_weigh_45 : decode cX5_weigh 45 = .ok (.aload_n 2, 1) := dX5_weigh_32_a.2.2.2.2.2.2.2.2.1
theorem dX5_weigh_46 : decode cX5_weigh 46 = .ok (.getfield 32, 3) := dX5_weigh_32_a.2.2.2.2.2.2.2.2.2.1
theorem dX5_weigh_49 : decode cX5_weigh 49 = .ok (.getfield 36, 3) := dX5_weigh_32_a.2.2.2.2.2.2.2.2.2.2.1
theorem dX5_weigh_52 : decode cX5_weigh 52 = .ok (.if_icmp .ge 89, 3) := dX5_weigh_32_a.2.2.2.2.2.2.2.2.2.2.2.1
theorem dX5_weigh_55 : decode cX5_weigh 55 = .ok (.iload 4, 2) := dX5_weigh_32_a.2.2.2.2.2.2.2.2.2.2.2.2.1
theorem dX5_weigh_57 : decode cX5_weigh 57 = .ok (.iconst 0, 1) := dX5_weigh_32_a.2.2.2.2.2.2.2.2.2.2.2.2.2.1
theorem dX5_weigh_58 : decode cX5_weigh 58 = .ok (.iload_n 3, 1) := dX5_weigh_32_a.2.2.2.2.2.2.2.2.2.2.2.2.2.2.1
theorem dX5_weigh_59 : decode cX5_weigh 59 = .ok (.iconst 5, 1) := dX5_weigh_32_a.2.2.2.2.2.2.2.2.2.2.2.2.2.2.2
theorem dX5_weigh_60_a : (decode cX5_weigh 60 = .ok (.isub, 1)) ∧ (decode cX5_weigh 61 = .ok (.invokestatic 45, 3)) ∧ (decode cX5_weigh 64 = .ok (.iadd, 1)) ∧ (decode cX5_weigh 65 = .ok (.istore 4, 2)) ∧ (decode cX5_weigh 67 = .ok (.iload 4, 2)) ∧ (decode cX5_weigh 69 = .ok (.bipush 20, 2)) ∧ (decode cX5_weigh 71 = .ok (.if_icmp .le 9, 3)) ∧ (decode cX5_weigh 74 = .ok (.aload_n 0, 1)) ∧ (decode cX5_weigh 75 = .ok (.lconst 1, 1)) ∧ (decode cX5_weigh 76 = .ok (.putfield 19, 3)) ∧ (decode cX5_weigh 79 = .ok (.return_, 1)) ∧ (decode cX5_weigh 80 = .ok (.aload_n 2, 1)) ∧ (decode cX5_weigh 81 = .ok (.getfield 32, 3)) ∧ (decode cX5_weigh 84 = .ok (.iload 5, 2)) ∧ (decode cX5_weigh 86 = .ok (.invokevirtual 51, 3)) ∧ (decode cX5_weigh 89 = .ok (.istore 6, 2)) := by decide +kernel
theorem dX5_weigh_60 : decode cX5_weigh 60 = .ok (.isub, 1) := dX5_weigh_60_a.1
theorem dX5_weigh_61 : decode cX5_weigh 61 = .ok (.invokestatic 45, 3) := dX5_weigh_60_a.2.1
theorem dX5_weigh_64 : decode cX5_weigh 64 = .ok (.iadd, 1) := dX5_weigh_60_a.2.2.1
theorem dX5_weigh_65 : decode cX5_weigh 65 = .ok (.istore 4, 2) := dX5_weigh_60_a.2.2.2.1
theorem dX5_weigh_67 : decode cX5_weigh 67 = .ok (.iload 4, 2) := dX5_weigh_60_a.2.2.2.2.1
theorem dX5_weigh_69 : decode cX5_weigh 69 = .ok (.bipush 20, 2) := dX5_weigh_60_a.2.2.2.2.2.1
theorem dX5_weigh_71 : decode cX5_weigh 71 = .ok (.if_icmp .le 9, 3) := dX5_weigh_60_a.2.2.2.2.2.2.1
theorem dX5_weigh_74 : decode cX5_weigh 74 = .ok (.aload_n 0, 1) := dX5_weigh_60_a.2.2.2.2.2.2.2.1
theorem dX5_weigh_75 : decode cX5_weigh 75 = .ok (.lconst 1, 1) := dX5_weigh_60_a.2.2.2.2.2.2.2.2.1
theorem dX5_weigh_76 : decode cX5_weigh 76 = .ok (.putfield 19, 3) := dX5_weigh_60_a.2.2.2.2.2.2.2.2.2.1
theorem dX5_weigh_79 : decode cX5_weigh 79 = .ok (.return_, 1) := dX5_weigh_60_a.2.2.2.2.2.2.2.2.2.2.1
theorem dX5_weigh_80 : decode cX5_weigh 80 = .ok (.aload_n 2, 1) := dX5_weigh_60_a.2.2.2.2.2.2.2.2.2.2.2.1
theorem dX5_weigh_81 : decode cX5_weigh 81 = .ok (.getfield 32, 3) := dX5_weigh_60_a.2.2.2.2.2.2.2.2.2.2.2.2.1
theorem dX5_weigh_84 : decode cX5_weigh 84 = .ok (.iload 5, 2) := dX5_weigh_60_a.2.2.2.2.2.2.2.2.2.2.2.2.2.1
theorem dX5_weigh_86 : decode cX5_weigh 86 = .ok (.invokevirtual 51, 3) := dX5_weigh_60_a.2.2.2.2.2.2.2.2.2.2.2.2.2.2.1
theorem dX5_weigh_89 : decode cX5_weigh 89 = .ok (.istore 6, 2) := dX5_weigh_60_a.2.2.2.2.2.2.2.2.2.2.2.2.2.2.2
theorem dX5_weigh_91_a : (decode cX5_weigh 91 = .ok (.iload 6, 2)) ∧ (decode cX5_weigh 93 = .ok (.bipush 7, 2)) ∧ (decode cX5_weigh 95 = .ok (.if_icmp .ne 17, 3)) ∧ (decode cX5_weigh 98 = .ok (.aload_n 0, 1)) ∧ (decode cX5_weigh 99 = .ok (.aload_n 0, 1)) ∧ (decode cX5_weigh 100 = .ok (.invokevirtual 55, 3)) ∧ (decode cX5_weigh 103 = .ok (.invokevirtual 41, 3)) ∧ (decode cX5_weigh 106 = .ok (.iconst 0, 1)) ∧ (decode cX5_weigh 107 = .ok (.istore 4, 2)) ∧ (decode cX5_weigh 109 = .ok (.goto 26, 3)) ∧ (decode cX5_weigh 112 = .ok (.iload 6, 2)) ∧ (decode cX5_weigh 114 = .ok (.bipush 6, 2)) ∧ (decode cX5_weigh 116 = .ok (.if_icmp .ge 19, 3)) ∧ (decode cX5_weigh 119 = .ok (.aload_n 0, 1)) ∧ (decode cX5_weigh 120 = .ok (.iload_n 1, 1)) ∧ (decode cX5_weigh 121 = .ok (.aload_n 2, 1)) := by decide +kernel
theorem dX5_weigh_91 : decode cX5_weigh 91 = .ok (.iload 6, 2) := dX5_weigh_91_a.1
theorem dX5_weigh_93 : decode cX5_weigh 93 = .ok (.bipush 7, 2) := dX5_weigh_91_a.2.1
theorem dX5_weigh_95 : decode cX5_weigh 95 = .ok (.if_icmp .ne 17, 3) := dX5_weigh_91_a.2.2.1
theorem dX5_weigh_98 : decode cX5_weigh 98 = .ok (.aload_n 0, 1) := dX5_weigh_91_a.2.2.2.1
theorem dX5_weigh_99 : decode cX5_weigh 99 = .ok (.aload_n 0, 1) := dX5_weigh_91_a.2.2.2.2.1
theorem dX5_weigh_100 : decode cX5_weigh 100 = .ok (.invokevirtual 55, 3) := dX5_weigh_91_a.2.2.2.2.2.1
theorem dX5_weigh_103 : decode cX5_weigh 103 = .ok (.invokevirtual 41, 3) := dX5_weigh_91_a.2.2.2.2.2.2.1
theorem dX5_weigh_106 : decode cX5_weigh 106 = .ok (.iconst 0, 1) := dX5_weigh_91_a.2.2.2.2.2.2.2.1
theorem dX5_weigh_107 : decode cX5_weigh 107 = .ok (.istore 4, 2) := dX5_weigh_91_a.2.2.2.2.2.2.2.2.1
theorem dX5_weigh_109 : decode cX5_weigh 109 = .ok (.goto 26, 3) := dX5_weigh_91_a.2.2.2.2.2.2.2.2.2.1
theorem dX5_weigh_112 : decode cX5_weigh 112 = .ok (.iload 6, 2) := dX5_weigh_91_a.2.2.2.2.2.2.2.2.2.2.1
theorem dX5_weigh_114 : decode cX5_weigh 114 = .ok (.bipush 6, 2) := dX5_weigh_91_a.2.2.2.2.2.2.2.2.2.2.2.1
theorem dX5_weigh_116 : decode cX5_weigh 116 = .ok (.if_icmp .ge 19, 3) := dX5_weigh_91_a.2.2.2.2.2.2.2.2.2.2.2.2.1
theorem dX5_weigh_119 : decode cX5_weigh 119 = .ok (.aload_n 0, 1) := dX5_weigh_91_a.2.2.2.2.2.2.2.2.2.2.2.2.2.1
theorem dX5_weigh_120 : decode cX5_weigh 120 = .ok (.iload_n 1, 1) := dX5_weigh_91_a.2.2.2.2.2.2.2.2.2.2.2.2.2.2.1
theorem dX5_weigh_121 : decode cX5_weigh 121 = .ok (.aload_n 2, 1) := dX5_weigh_91_a.2.2.2.2.2.2.2.2.2.2.2.2.2.2.2
theorem dX5_weigh_122_a : (decode cX5_weigh 122 = .ok (.iload 6, 2)) ∧ (decode cX5_weigh 124 = .ok (.iload_n 3, 1)) ∧ (decode cX5_weigh 125 = .ok (.invokevirtual 59, 3)) ∧ (decode cX5_weigh 128 = .ok (.aload_n 2, 1)) ∧ (decode cX5_weigh 129 = .ok (.getfield 62, 3)) ∧ (decode cX5_weigh 132 = .ok (.invokevirtual 65, 3)) ∧ (decode cX5_weigh 135 = .ok (.iinc 5 1, 3)) ∧ (decode cX5_weigh 138 = .ok (.goto (-95), 3)) ∧ (decode cX5_weigh 141 = .ok (.aload_n 0, 1)) ∧ (decode cX5_weigh 142 = .ok (.aload_n 0, 1)) ∧ (decode cX5_weigh 143 = .ok (.invokevirtual 55, 3)) ∧ (decode cX5_weigh 146 = .ok (.putfield 15, 3)) ∧ (decode cX5_weigh 149 = .ok (.aload_n 0, 1)) ∧ (decode cX5_weigh 150 = .ok (.invokevirtual 69, 3)) ∧ (decode cX5_weigh 153 = .ok (.return_, 1)) := by decide +kernel
theorem dX5_weigh_122 : decode cX5_weigh 122 = .ok (.iload 6, 2) := dX5_weigh_122_a.1
theorem dX5_weigh_124 : decode cX5_weigh 124 = .ok (.iload_n 3, 1) := dX5_weigh_122_a.2.1
theorem dX5_weigh_125 : decode cX5_weigh 125 = .ok (.invokevirtual 59, 3) := dX5_weigh_122_a.2.2.1
theorem dX5_weigh_128 : decode cX5_weigh 128 = .ok (.aload_n 2, 1) := dX5_weigh_122_a.2.2.2.1
theorem dX5_weigh_129 : decode cX5_weigh 129 = .ok (.getfield 62, 3) := dX5_weigh_122_a.2.2.2.2.1
theorem dX5_weigh_132 : decode cX5_weigh 132 = .ok (.invokevirtual 65, 3) := dX5_weigh_122_a.2.2.2.2.2.1
theorem dX5_weigh_135 : decode cX5_weigh 135 = .ok (.iinc 5 1, 3) := dX5_weigh_122_a.2.2.2.2.2.2.1
theorem dX5_weigh_138 : decode cX5_weigh 138 = .ok (.goto (-95), 3) := dX5_weigh_122_a.2.2.2.2.2.2.2.1
theorem dX5_weigh_141 : decode cX5_weigh 141 = .ok (.aload_n 0, 1) := dX5_weigh_122_a.2.2.2.2.2.2.2.2.1
theorem dX5_weigh_142 : decode cX5_weigh 142 = .ok (.aload_n 0, 1) := dX5_weigh_122_a.2.2.2.2.2.2.2.2.2.1
theorem dX5_weigh_143 : decode cX5_weigh 143 = .ok (.invokevirtual 55, 3) := dX5_weigh_122_a.2.2.2.2.2.2.2.2.2.2.1
theorem dX5_weigh_146 : decode cX5_weigh 146 = .ok (.putfield 15, 3) := dX5_weigh_122_a.2.2.2.2.2.2.2.2.2.2.2.1
theorem dX5_weigh_149 : decode cX5_weigh 149 = .ok (.aload_n 0, 1) := dX5_weigh_122_a.2.2.2.2.2.2.2.2.2.2.2.2.1
theorem dX5_weigh_150 : decode cX5_weigh 150 = .ok (.invokevirtual 69, 3) := dX5_weigh_122_a.2.2.2.2.2.2.2.2.2.2.2.2.2.1
theorem dX5_weigh_153 : decode cX5_weigh 153 = .ok (.return_, 1) := dX5_weigh_122_a.2.2.2.2.2.2.2.2.2.2.2.2.2.2
theorem dX5_startCalm_0_a : (decode cX5_startCalm 0 = .ok (.iconst 1, 1)) ∧ (decode cX5_startCalm 1 = .ok (.istore_n 3, 1)) ∧ (decode cX5_startCalm 2 = .ok (.iload_n 3, 1)) ∧ (decode cX5_startCalm 3 = .ok (.aload_n 0, 1)) ∧ (decode cX5_startCalm 4 = .ok (.getfield 9, 3)) ∧ (decode cX5_startCalm 7 = .ok (.arraylength, 1)) ∧ (decode cX5_startCalm 8 = .ok (.if_icmp .ge 16, 3)) ∧ (decode cX5_startCalm 11 = .ok (.aload_n 0, 1)) ∧ (decode cX5_startCalm 12 = .ok (.getfield 9, 3)) ∧ (decode cX5_startCalm 15 = .ok (.iload_n 3, 1)) ∧ (decode cX5_startCalm 16 = .ok (.lconst 0, 1)) ∧ (decode cX5_startCalm 17 = .ok (.lastore, 1)) ∧ (decode cX5_startCalm 18 = .ok (.iinc 3 1, 3)) ∧ (decode cX5_startCalm 21 = .ok (.goto (-19), 3)) ∧ (decode cX5_startCalm 24 = .ok (.aload_n 0, 1)) ∧ (decode cX5_startCalm 25 = .ok (.getfield 9, 3)) := by decide +kernel
theorem dX5_startCalm_0 : decode cX5_startCalm 0 = .ok (.iconst 1, 1) := dX5_startCalm_0_a.1
theorem dX5_startCalm_1 : decode cX5_startCalm 1 = .ok (.istore_n 3, 1) := dX5_startCalm_0_a.2.1
theorem dX5_startCalm_2 : decode cX5_startCalm 2 = .ok (.iload_n 3, 1) := dX5_startCalm_0_a.2.2.1
theorem dX5_startCalm_3 : decode cX5_startCalm 3 = .ok (.aload_n 0, 1) := dX5_startCalm_0_a.2.2.2.1
theorem dX5_startCalm_4 : decode cX5_startCalm 4 = .ok (.getfield 9, 3) := dX5_startCalm_0_a.2.2.2.2.1
theorem dX5_startCalm_7 : decode cX5_startCalm 7 = .ok (.arraylength, 1) := dX5_startCalm_0_a.2.2.2.2.2.1
theorem dX5_startCalm_8 : decode cX5_startCalm 8 = .ok (.if_icmp .ge 16, 3) := dX5_startCalm_0_a.2.2.2.2.2.2.1
theorem dX5_startCalm_11 : decode cX5_startCalm 11 = .ok (.aload_n 0, 1) := dX5_startCalm_0_a.2.2.2.2.2.2.2.1
theorem dX5_startCalm_12 : decode cX5_startCalm 12 = .ok (.getfield 9, 3) := dX5_startCalm_0_a.2.2.2.2.2.2.2.2.1
theorem dX5_startCalm_15 : decode cX5_startCalm 15 = .ok (.iload_n 3, 1) := dX5_startCalm_0_a.2.2.2.2.2.2.2.2.2.1
theorem dX5_startCalm_16 : decode cX5_startCalm 16 = .ok (.lconst 0, 1) := dX5_startCalm_0_a.2.2.2.2.2.2.2.2.2.2.1
theorem dX5_startCalm_17 : decode cX5_startCalm 17 = .ok (.lastore, 1) := dX5_startCalm_0_a.2.2.2.2.2.2.2.2.2.2.2.1
theorem dX5_startCalm_18 : decode cX5_startCalm 18 = .ok (.iinc 3 1, 3) := dX5_startCalm_0_a.2.2.2.2.2.2.2.2.2.2.2.2.1
theorem dX5_startCalm_21 : decode cX5_startCalm 21 = .ok (.goto (-19), 3) := dX5_startCalm_0_a.2.2.2.2.2.2.2.2.2.2.2.2.2.1
theorem dX5_startCalm_24 : decode cX5_startCalm 24 = .ok (.aload_n 0, 1) := dX5_startCalm_0_a.2.2.2.2.2.2.2.2.2.2.2.2.2.2.1
theorem dX5_startCalm_25 : decode cX5_startCalm 25 = .ok (.getfield 9, 3) := dX5_startCalm_0_a.2.2.2.2.2.2.2.2.2.2.2.2.2.2.2
theorem dX5_startCalm_28_a : (decode cX5_startCalm 28 = .ok (.iconst 0, 1)) ∧ (decode cX5_startCalm 29 = .ok (.lload_n 1, 1)) ∧ (decode cX5_startCalm 30 = .ok (.lastore, 1)) ∧ (decode cX5_startCalm 31 = .ok (.return_, 1)) := by decide +kernel
theorem dX5_startCalm_28 : decode cX5_startCalm 28 = .ok (.iconst 0, 1) := dX5_startCalm_28_a.1
theorem dX5_startCalm_29 : decode cX5_startCalm 29 = .ok (.lload_n 1, 1) := dX5_startCalm_28_a.2.1
theorem dX5_startCalm_30 : decode cX5_startCalm 30 = .ok (.lastore, 1) := dX5_startCalm_28_a.2.2.1
theorem dX5_startCalm_31 : decode cX5_startCalm 31 = .ok (.return_, 1) := dX5_startCalm_28_a.2.2.2
theorem dX5_hear_0_a : (decode cX5_hear 0 = .ok (.iload_n 2, 1)) ∧ (decode cX5_hear 1 = .ok (.ifCond .gt 4, 3)) ∧ (decode cX5_hear 4 = .ok (.return_, 1)) ∧ (decode cX5_hear 5 = .ok (.aload_n 0, 1)) ∧ (decode cX5_hear 6 = .ok (.dup, 1)) ∧ (decode cX5_hear 7 = .ok (.getfield 19, 3)) ∧ (decode cX5_hear 10 = .ok (.ldc2_w 72, 3)) ∧ (decode cX5_hear 13 = .ok (.lmul, 1)) ∧ (decode cX5_hear 14 = .ok (.putfield 19, 3)) ∧ (decode cX5_hear 17 = .ok (.iload_n 3, 1)) ∧ (decode cX5_hear 18 = .ok (.bipush 45, 2)) ∧ (decode cX5_hear 20 = .ok (.invokestatic 74, 3)) ∧ (decode cX5_hear 23 = .ok (.istore 4, 2)) ∧ (decode cX5_hear 25 = .ok (.iload 4, 2)) ∧ (decode cX5_hear 27 = .ok (.ifCond .lt 56, 3)) ∧ (decode cX5_hear 30 = .ok (.iload 4, 2)) := by decide +kernel
theorem dX5_hear_0 : decode cX5_hear 0 = .ok (.iload_n 2, 1) := dX5_hear_0_a.1
theorem dX5_hear_1 : decode cX5_hear 1 = .ok (.ifCond .gt 4, 3) := dX5_hear_0_a.2.1
theorem dX5_hear_4 : decode cX5_hear 4 = .ok (.return_, 1) := dX5_hear_0_a.2.2.1
theorem dX5_hear_5 : decode cX5_hear 5 = .ok (.aload_n 0, 1) := dX5_hear_0_a.2.2.2.1
theorem dX5_hear_6 : decode cX5_hear 6 = .ok (.dup, 1) := dX5_hear_0_a.2.2.2.2.1
theorem dX5_hear_7 : decode cX5_hear 7 = .ok (.getfield 19, 3) := dX5_hear_0_a.2.2.2.2.2.1
theorem dX5_hear_10 : decode cX5_hear 10 = .ok (.ldc2_w 72, 3) := dX5_hear_0_a.2.2.2.2.2.2.1
theorem dX5_hear_13 : decode cX5_hear 13 = .ok (.lmul, 1) := dX5_hear_0_a.2.2.2.2.2.2.2.1
theorem dX5_hear_14 : decode cX5_hear 14 = .ok (.putfield 19, 3) := dX5_hear_0_a.2.2.2.2.2.2.2.2.1
theorem dX5_hear_17 : decode cX5_hear 17 = .ok (.iload_n 3, 1) := dX5_hear_0_a.2.2.2.2.2.2.2.2.2.1
theorem dX5_hear_18 : decode cX5_hear 18 = .ok (.bipush 45, 2) := dX5_hear_0_a.2.2.2.2.2.2.2.2.2.2.1
theorem dX5_hear_20 : decode cX5_hear 20 = .ok (.invokestatic 74, 3) := dX5_hear_0_a.2.2.2.2.2.2.2.2.2.2.2.1
theorem dX5_hear_23 : decode cX5_hear 23 = .ok (.istore 4, 2) := dX5_hear_0_a.2.2.2.2.2.2.2.2.2.2.2.2.1
theorem dX5_hear_25 : decode cX5_hear 25 = .ok (.iload 4, 2) := dX5_hear_0_a.2.2.2.2.2.2.2.2.2.2.2.2.2.1
theorem dX5_hear_27 : decode cX5_hear 27 = .ok (.ifCond .lt 56, 3) := dX5_hear_0_a.2.2.2.2.2.2.2.2.2.2.2.2.2.2.1
theorem dX5_hear_30 : decode cX5_hear 30 = .ok (.iload 4, 2) := dX5_hear_0_a.2.2.2.2.2.2.2.2.2.2.2.2.2.2.2
theorem dX5_hear_32_a : (decode cX5_hear 32 = .ok (.iload_n 2, 1)) ∧ (decode cX5_hear 33 = .ok (.if_icmp .lt 18, 3)) ∧ (decode cX5_hear 36 = .ok (.aload_n 0, 1)) ∧ (decode cX5_hear 37 = .ok (.getfield 9, 3)) ∧ (decode cX5_hear 40 = .ok (.iload 4, 2)) ∧ (decode cX5_hear 42 = .ok (.iload_n 2, 1)) ∧ (decode cX5_hear 43 = .ok (.isub, 1)) ∧ (decode cX5_hear 44 = .ok (.laload, 1)) ∧ (decode cX5_hear 45 = .ok (.iload_n 1, 1)) ∧ (decode cX5_hear 46 = .ok (.i2l, 1)) ∧ (decode cX5_hear 47 = .ok (.lmul, 1)) ∧ (decode cX5_hear 48 = .ok (.goto 4, 3)) ∧ (decode cX5_hear 51 = .ok (.lconst 0, 1)) ∧ (decode cX5_hear 52 = .ok (.lstore 5, 2)) ∧ (decode cX5_hear 54 = .ok (.aload_n 0, 1)) ∧ (decode cX5_hear 55 = .ok (.getfield 9, 3)) := by decide +kernel
theorem dX5_hear_32 : decode cX5_hear 32 = .ok (.iload_n 2, 1) := dX5_hear_32_a.1
theorem dX5_hear_33 : decode cX5_hear 33 = .ok (.if_icmp .lt 18, 3) := dX5_hear_32_a.2.1
theorem dX5_hear_36 : decode cX5_hear 36 = .ok (.aload_n 0, 1) := dX5_hear_32_a.2.2.1
theorem dX5_hear_37 : decode cX5_hear 37 = .ok (.getfield 9, 3) := dX5_hear_32_a.2.2.2.1
theorem dX5_hear_40 : decode cX5_hear 40 = .ok (.iload 4, 2) := dX5_hear_32_a.2.2.2.2.1
theorem dX5_hear_42 : decode cX5_hear 42 = .ok (.iload_n 2, 1) := dX5_hear_32_a.2.2.2.2.2.1
theorem dX5_hear_43 : decode cX5_hear 43 = .ok (.isub, 1) := dX5_hear_32_a.2.2.2.2.2.2.1
theorem dX5_hear_44 : decode cX5_hear 44 = .ok (.laload, 1) := dX5_hear_32_a.2.2.2.2.2.2.2.1
theorem dX5_hear_45 : decode cX5_hear 45 = .ok (.iload_n 1, 1) := dX5_hear_32_a.2.2.2.2.2.2.2.2.1
theorem dX5_hear_46 : decode cX5_hear 46 = .ok (.i2l, 1) := dX5_hear_32_a.2.2.2.2.2.2.2.2.2.1
theorem dX5_hear_47 : decode cX5_hear 47 = .ok (.lmul, 1) := dX5_hear_32_a.2.2.2.2.2.2.2.2.2.2.1
theorem dX5_hear_48 : decode cX5_hear 48 = .ok (.goto 4, 3) := dX5_hear_32_a.2.2.2.2.2.2.2.2.2.2.2.1
theorem dX5_hear_51 : decode cX5_hear 51 = .ok (.lconst 0, 1) := dX5_hear_32_a.2.2.2.2.2.2.2.2.2.2.2.2.1
theorem dX5_hear_52 : decode cX5_hear 52 = .ok (.lstore 5, 2) := dX5_hear_32_a.2.2.2.2.2.2.2.2.2.2.2.2.2.1
theorem dX5_hear_54 : decode cX5_hear 54 = .ok (.aload_n 0, 1) := dX5_hear_32_a.2.2.2.2.2.2.2.2.2.2.2.2.2.2.1
theorem dX5_hear_55 : decode cX5_hear 55 = .ok (.getfield 9, 3) := dX5_hear_32_a.2.2.2.2.2.2.2.2.2.2.2.2.2.2.2
theorem dX5_hear_58_a : (decode cX5_hear 58 = .ok (.iload 4, 2)) ∧ (decode cX5_hear 60 = .ok (.aload_n 0, 1)) ∧ (decode cX5_hear 61 = .ok (.getfield 9, 3)) ∧ (decode cX5_hear 64 = .ok (.iload 4, 2)) ∧ (decode cX5_hear 66 = .ok (.laload, 1)) ∧ (decode cX5_hear 67 = .ok (.bipush 16, 2)) ∧ (decode cX5_hear 69 = .ok (.iload_n 1, 1)) ∧ (decode cX5_hear 70 = .ok (.isub, 1)) ∧ (decode cX5_hear 71 = .ok (.i2l, 1)) ∧ (decode cX5_hear 72 = .ok (.lmul, 1)) ∧ (decode cX5_hear 73 = .ok (.lload 5, 2)) ∧ (decode cX5_hear 75 = .ok (.ladd, 1)) ∧ (decode cX5_hear 76 = .ok (.lastore, 1)) ∧ (decode cX5_hear 77 = .ok (.iinc 4 (-1), 3)) ∧ (decode cX5_hear 80 = .ok (.goto (-55), 3)) ∧ (decode cX5_hear 83 = .ok (.return_, 1)) := by decide +kernel
theorem dX5_hear_58 : decode cX5_hear 58 = .ok (.iload 4, 2) := dX5_hear_58_a.1
theorem dX5_hear_60 : decode cX5_hear 60 = .ok (.aload_n 0, 1) := dX5_hear_58_a.2.1
theorem dX5_hear_61 : decode cX5_hear 61 = .ok (.getfield 9, 3) := dX5_hear_58_a.2.2.1
theorem dX5_hear_64 : decode cX5_hear 64 = .ok (.iload 4, 2) := dX5_hear_58_a.2.2.2.1
theorem dX5_hear_66 : decode cX5_hear 66 = .ok (.laload, 1) := dX5_hear_58_a.2.2.2.2.1
theorem dX5_hear_67 : decode cX5_hear 67 = .ok (.bipush 16, 2) := dX5_hear_58_a.2.2.2.2.2.1
theorem dX5_hear_69 : decode cX5_hear 69 = .ok (.iload_n 1, 1) := dX5_hear_58_a.2.2.2.2.2.2.1
theorem dX5_hear_70 : decode cX5_hear 70 = .ok (.isub, 1) := dX5_hear_58_a.2.2.2.2.2.2.2.1
theorem dX5_hear_71 : decode cX5_hear 71 = .ok (.i2l, 1) := dX5_hear_58_a.2.2.2.2.2.2.2.2.1
theorem dX5_hear_72 : decode cX5_hear 72 = .ok (.lmul, 1) := dX5_hear_58_a.2.2.2.2.2.2.2.2.2.1
theorem dX5_hear_73 : decode cX5_hear 73 = .ok (.lload 5, 2) := dX5_hear_58_a.2.2.2.2.2.2.2.2.2.2.1
theorem dX5_hear_75 : decode cX5_hear 75 = .ok (.ladd, 1) := dX5_hear_58_a.2.2.2.2.2.2.2.2.2.2.2.1
theorem dX5_hear_76 : decode cX5_hear 76 = .ok (.lastore, 1) := dX5_hear_58_a.2.2.2.2.2.2.2.2.2.2.2.2.1
theorem dX5_hear_77 : decode cX5_hear 77 = .ok (.iinc 4 (-1), 3) := dX5_hear_58_a.2.2.2.2.2.2.2.2.2.2.2.2.2.1
theorem dX5_hear_80 : decode cX5_hear 80 = .ok (.goto (-55), 3) := dX5_hear_58_a.2.2.2.2.2.2.2.2.2.2.2.2.2.2.1
theorem dX5_hear_83 : decode cX5_hear 83 = .ok (.return_, 1) := dX5_hear_58_a.2.2.2.2.2.2.2.2.2.2.2.2.2.2.2
theorem dX5_sum_0_a : (decode cX5_sum 0 = .ok (.lconst 0, 1)) ∧ (decode cX5_sum 1 = .ok (.lstore_n 1, 1)) ∧ (decode cX5_sum 2 = .ok (.iconst 0, 1)) ∧ (decode cX5_sum 3 = .ok (.istore_n 3, 1)) ∧ (decode cX5_sum 4 = .ok (.iload_n 3, 1)) ∧ (decode cX5_sum 5 = .ok (.aload_n 0, 1)) ∧ (decode cX5_sum 6 = .ok (.getfield 9, 3)) ∧ (decode cX5_sum 9 = .ok (.arraylength, 1)) ∧ (decode cX5_sum 10 = .ok (.if_icmp .ge 18, 3)) ∧ (decode cX5_sum 13 = .ok (.lload_n 1, 1)) ∧ (decode cX5_sum 14 = .ok (.aload_n 0, 1)) ∧ (decode cX5_sum 15 = .ok (.getfield 9, 3)) ∧ (decode cX5_sum 18 = .ok (.iload_n 3, 1)) ∧ (decode cX5_sum 19 = .ok (.laload, 1)) ∧ (decode cX5_sum 20 = .ok (.ladd, 1)) ∧ (decode cX5_sum 21 = .ok (.lstore_n 1, 1)) := by decide +kernel
theorem dX5_sum_0 : decode cX5_sum 0 = .ok (.lconst 0, 1) := dX5_sum_0_a.1
theorem dX5_sum_1 : decode cX5_sum 1 = .ok (.lstore_n 1, 1) := dX5_sum_0_a.2.1
theorem dX5_sum_2 : decode cX5_sum 2 = .ok (.iconst 0, 1) := dX5_sum_0_a.2.2.1
theorem dX5_sum_3 : decode cX5_sum 3 = .ok (.istore_n 3, 1) := dX5_sum_0_a.2.2.2.1
theorem dX5_sum_4 : decode cX5_sum 4 = .ok (.iload_n 3, 1) := dX5_sum_0_a.2.2.2.2.1
theorem dX5_sum_5 : decode cX5_sum 5 = .ok (.aload_n 0, 1) := dX5_sum_0_a.2.2.2.2.2.1
theorem dX5_sum_6 : decode cX5_sum 6 = .ok (.getfield 9, 3) := dX5_sum_0_a.2.2.2.2.2.2.1
theorem dX5_sum_9 : decode cX5_sum 9 = .ok (.arraylength, 1) := dX5_sum_0_a.2.2.2.2.2.2.2.1
theorem dX5_sum_10 : decode cX5_sum 10 = .ok (.if_icmp .ge 18, 3) := dX5_sum_0_a.2.2.2.2.2.2.2.2.1
theorem dX5_sum_13 : decode cX5_sum 13 = .ok (.lload_n 1, 1) := dX5_sum_0_a.2.2.2.2.2.2.2.2.2.1
theorem dX5_sum_14 : decode cX5_sum 14 = .ok (.aload_n 0, 1) := dX5_sum_0_a.2.2.2.2.2.2.2.2.2.2.1
theorem dX5_sum_15 : decode cX5_sum 15 = .ok (.getfield 9, 3) := dX5_sum_0_a.2.2.2.2.2.2.2.2.2.2.2.1
theorem dX5_sum_18 : decode cX5_sum 18 = .ok (.iload_n 3, 1) := dX5_sum_0_a.2.2.2.2.2.2.2.2.2.2.2.2.1
theorem dX5_sum_19 : decode cX5_sum 19 = .ok (.laload, 1) := dX5_sum_0_a.2.2.2.2.2.2.2.2.2.2.2.2.2.1
theorem dX5_sum_20 : decode cX5_sum 20 = .ok (.ladd, 1) := dX5_sum_0_a.2.2.2.2.2.2.2.2.2.2.2.2.2.2.1
theorem dX5_sum_21 : decode cX5_sum 21 = .ok (.lstore_n 1, 1) := dX5_sum_0_a.2.2.2.2.2.2.2.2.2.2.2.2.2.2.2
theorem dX5_sum_22_a : (decode cX5_sum 22 = .ok (.iinc 3 1, 3)) ∧ (decode cX5_sum 25 = .ok (.goto (-21), 3)) ∧ (decode cX5_sum 28 = .ok (.lload_n 1, 1)) ∧ (decode cX5_sum 29 = .ok (.lreturn, 1)) := by decide +kernel
theorem dX5_sum_22 : decode cX5_sum 22 = .ok (.iinc 3 1, 3) := dX5_sum_22_a.1
theorem dX5_sum_25 : decode cX5_sum 25 = .ok (.goto (-21), 3) := dX5_sum_22_a.2.1
theorem dX5_sum_28 : decode cX5_sum 28 = .ok (.lload_n 1, 1) := dX5_sum_22_a.2.2.1
theorem dX5_sum_29 : decode cX5_sum 29 = .ok (.lreturn, 1) := dX5_sum_22_a.2.2.2
theorem dX5_reduce_0_a : (decode cX5_reduce 0 = .ok (.iconst 0, 1)) ∧ (decode cX5_reduce 1 = .ok (.istore_n 1, 1)) ∧ (decode cX5_reduce 2 = .ok (.iload_n 1, 1)) ∧ (decode cX5_reduce 3 = .ok (.bipush 63, 2)) ∧ (decode cX5_reduce 5 = .ok (.if_icmp .ge 55, 3)) ∧ (decode cX5_reduce 8 = .ok (.aload_n 0, 1)) ∧ (decode cX5_reduce 9 = .ok (.getfield 19, 3)) ∧ (decode cX5_reduce 12 = .ok (.lconst 1, 1)) ∧ (decode cX5_reduce 13 = .ok (.lcmp, 1)) ∧ (decode cX5_reduce 14 = .ok (.ifCond .le 46, 3)) ∧ (decode cX5_reduce 17 = .ok (.aload_n 0, 1)) ∧ (decode cX5_reduce 18 = .ok (.getfield 15, 3)) ∧ (decode cX5_reduce 21 = .ok (.ldc2_w 77, 3)) ∧ (decode cX5_reduce 24 = .ok (.lrem, 1)) ∧ (decode cX5_reduce 25 = .ok (.lconst 0, 1)) ∧ (decode cX5_reduce 26 = .ok (.lcmp, 1)) := by decide +kernel
theorem dX5_reduce_0 : decode cX5_reduce 0 = .ok (.iconst 0, 1) := dX5_reduce_0_a.1
theorem dX5_reduce_1 : decode cX5_reduce 1 = .ok (.istore_n 1, 1) := dX5_reduce_0_a.2.1
theorem dX5_reduce_2 : decode cX5_reduce 2 = .ok (.iload_n 1, 1) := dX5_reduce_0_a.2.2.1
theorem dX5_reduce_3 : decode cX5_reduce 3 = .ok (.bipush 63, 2) := dX5_reduce_0_a.2.2.2.1
theorem dX5_reduce_5 : decode cX5_reduce 5 = .ok (.if_icmp .ge 55, 3) := dX5_reduce_0_a.2.2.2.2.1
theorem dX5_reduce_8 : decode cX5_reduce 8 = .ok (.aload_n 0, 1) := dX5_reduce_0_a.2.2.2.2.2.1
theorem dX5_reduce_9 : decode cX5_reduce 9 = .ok (.getfield 19, 3) := dX5_reduce_0_a.2.2.2.2.2.2.1
theorem dX5_reduce_12 : decode cX5_reduce 12 = .ok (.lconst 1, 1) := dX5_reduce_0_a.2.2.2.2.2.2.2.1
theorem dX5_reduce_13 : decode cX5_reduce 13 = .ok (.lcmp, 1) := dX5_reduce_0_a.2.2.2.2.2.2.2.2.1
theorem dX5_reduce_14 : decode cX5_reduce 14 = .ok (.ifCond .le 46, 3) := dX5_reduce_0_a.2.2.2.2.2.2.2.2.2.1
theorem dX5_reduce_17 : decode cX5_reduce 17 = .ok (.aload_n 0, 1) := dX5_reduce_0_a.2.2.2.2.2.2.2.2.2.2.1
theorem dX5_reduce_18 : decode cX5_reduce 18 = .ok (.getfield 15, 3) := dX5_reduce_0_a.2.2.2.2.2.2.2.2.2.2.2.1
theorem dX5_reduce_21 : decode cX5_reduce 21 = .ok (.ldc2_w 77, 3) := dX5_reduce_0_a.2.2.2.2.2.2.2.2.2.2.2.2.1
theorem dX5_reduce_24 : decode cX5_reduce 24 = .ok (.lrem, 1) := dX5_reduce_0_a.2.2.2.2.2.2.2.2.2.2.2.2.2.1
theorem dX5_reduce_25 : decode cX5_reduce 25 = .ok (.lconst 0, 1) := dX5_reduce_0_a.2.2.2.2.2.2.2.2.2.2.2.2.2.2.1
theorem dX5_reduce_26 : decode cX5_reduce 26 = .ok (.lcmp, 1) := dX5_reduce_0_a.2.2.2.2.2.2.2.2.2.2.2.2.2.2.2
theorem dX5_reduce_27_a : (decode cX5_reduce 27 = .ok (.ifCond .ne 33, 3)) ∧ (decode cX5_reduce 30 = .ok (.aload_n 0, 1)) ∧ (decode cX5_reduce 31 = .ok (.dup, 1)) ∧ (decode cX5_reduce 32 = .ok (.getfield 15, 3)) ∧ (decode cX5_reduce 35 = .ok (.ldc2_w 77, 3)) ∧ (decode cX5_reduce 38 = .ok (.ldiv, 1)) ∧ (decode cX5_reduce 39 = .ok (.putfield 15, 3)) ∧ (decode cX5_reduce 42 = .ok (.aload_n 0, 1)) ∧ (decode cX5_reduce 43 = .ok (.dup, 1)) ∧ (decode cX5_reduce 44 = .ok (.getfield 19, 3)) ∧ (decode cX5_reduce 47 = .ok (.ldc2_w 77, 3)) ∧ (decode cX5_reduce 50 = .ok (.ldiv, 1)) ∧ (decode cX5_reduce 51 = .ok (.putfield 19, 3)) ∧ (decode cX5_reduce 54 = .ok (.iinc 1 1, 3)) ∧ (decode cX5_reduce 57 = .ok (.goto (-55), 3)) ∧ (decode cX5_reduce 60 = .ok (.return_, 1)) := by decide +kernel
theorem dX5_reduce_27 : decode cX5_reduce 27 = .ok (.ifCond .ne 33, 3) := dX5_reduce_27_a.1
theorem dX5_reduce_30 : decode cX5_reduce 30 = .ok (.aload_n 0, 1) := dX5_reduce_27_a.2.1
theorem dX5_reduce_31 : decode cX5_reduce 31 = .ok (.dup, 1) := dX5_reduce_27_a.2.2.1
theorem dX5_reduce_32 : decode cX5_reduce 32 = .ok (.getfield 15, 3) := dX5_reduce_27_a.2.2.2.1
theorem dX5_reduce_35 : decode cX5_reduce 35 = .ok (.ldc2_w 77, 3) := dX5_reduce_27_a.2.2.2.2.1
theorem dX5_reduce_38 : decode cX5_reduce 38 = .ok (.ldiv, 1) := dX5_reduce_27_a.2.2.2.2.2.1
theorem dX5_reduce_39 : decode cX5_reduce 39 = .ok (.putfield 15, 3) := dX5_reduce_27_a.2.2.2.2.2.2.1
theorem dX5_reduce_42 : decode cX5_reduce 42 = .ok (.aload_n 0, 1) := dX5_reduce_27_a.2.2.2.2.2.2.2.1
theorem dX5_reduce_43 : decode cX5_reduce 43 = .ok (.dup, 1) := dX5_reduce_27_a.2.2.2.2.2.2.2.2.1
theorem dX5_reduce_44 : decode cX5_reduce 44 = .ok (.getfield 19, 3) := dX5_reduce_27_a.2.2.2.2.2.2.2.2.2.1
theorem dX5_reduce_47 : decode cX5_reduce 47 = .ok (.ldc2_w 77, 3) := dX5_reduce_27_a.2.2.2.2.2.2.2.2.2.2.1
theorem dX5_reduce_50 : decode cX5_reduce 50 = .ok (.ldiv, 1) := dX5_reduce_27_a.2.2.2.2.2.2.2.2.2.2.2.1
theorem dX5_reduce_51 : decode cX5_reduce 51 = .ok (.putfield 19, 3) := dX5_reduce_27_a.2.2.2.2.2.2.2.2.2.2.2.2.1
theorem dX5_reduce_54 : decode cX5_reduce 54 = .ok (.iinc 1 1, 3) := dX5_reduce_27_a.2.2.2.2.2.2.2.2.2.2.2.2.2.1
theorem dX5_reduce_57 : decode cX5_reduce 57 = .ok (.goto (-55), 3) := dX5_reduce_27_a.2.2.2.2.2.2.2.2.2.2.2.2.2.2.1
theorem dX5_reduce_60 : decode cX5_reduce 60 = .ok (.return_, 1) := dX5_reduce_27_a.2.2.2.2.2.2.2.2.2.2.2.2.2.2.2
theorem dX6_init_0_a : (decode cX6_init 0 = .ok (.aload_n 0, 1)) ∧ (decode cX6_init 1 = .ok (.invokespecial 1, 3)) ∧ (decode cX6_init 4 = .ok (.return_, 1)) := by decide +kernel
theorem dX6_init_0 : decode cX6_init 0 = .ok (.aload_n 0, 1) := dX6_init_0_a.1
theorem dX6_init_1 : decode cX6_init 1 = .ok (.invokespecial 1, 3) := dX6_init_0_a.2.1
theorem dX6_init_4 : decode cX6_init 4 = .ok (.return_, 1) := dX6_init_0_a.2.2
theorem dX6_draw_0_a : (decode cX6_draw 0 = .ok (.aload_n 0, 1)) ∧ (decode cX6_draw 1 = .ok (.ldc 7, 2)) ∧ (decode cX6_draw 3 = .ok (.aload_n 0, 1)) ∧ (decode cX6_draw 4 = .ok (.getfield 8, 3)) ∧ (decode cX6_draw 7 = .ok (.imul, 1)) ∧ (decode cX6_draw 8 = .ok (.sipush 12345, 3)) ∧ (decode cX6_draw 11 = .ok (.iadd, 1)) ∧ (decode cX6_draw 12 = .ok (.putfield 8, 3)) ∧ (decode cX6_draw 15 = .ok (.iload_n 1, 1)) ∧ (decode cX6_draw 16 = .ok (.ifCond .le 15, 3)) ∧ (decode cX6_draw 19 = .ok (.aload_n 0, 1)) ∧ (decode cX6_draw 20 = .ok (.getfield 8, 3)) ∧ (decode cX6_draw 23 = .ok (.bipush 16, 2)) ∧ (decode cX6_draw 25 = .ok (.iushr, 1)) ∧ (decode cX6_draw 26 = .ok (.iload_n 1, 1)) ∧ (decode cX6_draw 27 = .ok (.irem, 1)) := by decide +kernel
theorem dX6_draw_0 : decode cX6_draw 0 = .ok (.aload_n 0, 1) := dX6_draw_0_a.1
theorem dX6_draw_1 : decode cX6_draw 1 = .ok (.ldc 7, 2) := dX6_draw_0_a.2.1
theorem dX6_draw_3 : decode cX6_draw 3 = .ok (.aload_n 0, 1) := dX6_draw_0_a.2.2.1
theorem dX6_draw_4 : decode cX6_draw 4 = .ok (.getfield 8, 3) := dX6_draw_0_a.2.2.2.1
theorem dX6_draw_7 : decode cX6_draw 7 = .ok (.imul, 1) := dX6_draw_0_a.2.2.2.2.1
theorem dX6_draw_8 : decode cX6_draw 8 = .ok (.sipush 12345, 3) := dX6_draw_0_a.2.2.2.2.2.1
theorem dX6_draw_11 : decode cX6_draw 11 = .ok (.iadd, 1) := dX6_draw_0_a.2.2.2.2.2.2.1
theorem dX6_draw_12 : decode cX6_draw 12 = .ok (.putfield 8, 3) := dX6_draw_0_a.2.2.2.2.2.2.2.1
theorem dX6_draw_15 : decode cX6_draw 15 = .ok (.iload_n 1, 1) := dX6_draw_0_a.2.2.2.2.2.2.2.2.1
theorem dX6_draw_16 : decode cX6_draw 16 = .ok (.ifCond .le 15, 3) := dX6_draw_0_a.2.2.2.2.2.2.2.2.2.1
theorem dX6_draw_19 : decode cX6_draw 19 = .ok (.aload_n 0, 1) := dX6_draw_0_a.2.2.2.2.2.2.2.2.2.2.1
theorem dX6_draw_20 : decode cX6_draw 20 = .ok (.getfield 8, 3) := dX6_draw_0_a.2.2.2.2.2.2.2.2.2.2.2.1
theorem dX6_draw_23 : decode cX6_draw 23 = .ok (.bipush 16, 2) := dX6_draw_0_a.2.2.2.2.2.2.2.2.2.2.2.2.1
theorem dX6_draw_25 : decode cX6_draw 25 = .ok (.iushr, 1) := dX6_draw_0_a.2.2.2.2.2.2.2.2.2.2.2.2.2.1
theorem dX6_draw_26 : decode cX6_draw 26 = .ok (.iload_n 1, 1) := dX6_draw_0_a.2.2.2.2.2.2.2.2.2.2.2.2.2.2.1
theorem dX6_draw_27 : decode cX6_draw 27 = .ok (.irem, 1) := dX6_draw_0_a.2.2.2.2.2.2.2.2.2.2.2.2.2.2.2
theorem dX6_draw_28_a : (decode cX6_draw 28 = .ok (.goto 4, 3)) ∧ (decode cX6_draw 31 = .ok (.iconst 0, 1)) ∧ (decode cX6_draw 32 = .ok (.ireturn, 1)) := by decide +kernel
theorem dX6_draw_28 : decode cX6_draw 28 = .ok (.goto 4, 3) := dX6_draw_28_a.1
theorem dX6_draw_31 : decode cX6_draw 31 = .ok (.iconst 0, 1) := dX6_draw_28_a.2.1
theorem dX6_draw_32 : decode cX6_draw 32 = .ok (.ireturn, 1) := dX6_draw_28_a.2.2
theorem dX7_init_0_a : (decode cX7_init 0 = .ok (.aload_n 0, 1)) ∧ (decode cX7_init 1 = .ok (.bipush 39, 2)) ∧ (decode cX7_init 3 = .ok (.invokespecial 3, 3)) ∧ (decode cX7_init 6 = .ok (.return_, 1)) := by decide +kernel
theorem dX7_init_0 : decode cX7_init 0 = .ok (.aload_n 0, 1) := dX7_init_0_a.1
theorem dX7_init_1 : decode cX7_init 1 = .ok (.bipush 39, 2) := dX7_init_0_a.2.1
theorem dX7_init_3 : decode cX7_init 3 = .ok (.invokespecial 3, 3) := dX7_init_0_a.2.2.1
theorem dX7_init_6 : decode cX7_init 6 = .ok (.return_, 1) := dX7_init_0_a.2.2.2
theorem dX7_worth_0_a : (decode cX7_worth 0 = .ok (.iload_n 1, 1)) ∧ (decode cX7_worth 1 = .ok (.iconst 5, 1)) ∧ (decode cX7_worth 2 = .ok (.irem, 1)) ∧ (decode cX7_worth 3 = .ok (.tableswitch 71 0 4 #[33, 38, 71, 71, 59], 33)) ∧ (decode cX7_worth 36 = .ok (.iload_n 2, 1)) ∧ (decode cX7_worth 37 = .ok (.invokestatic 9, 3)) ∧ (decode cX7_worth 40 = .ok (.ireturn, 1)) ∧ (decode cX7_worth 41 = .ok (.iload_n 2, 1)) ∧ (decode cX7_worth 42 = .ok (.bipush 97, 2)) ∧ (decode cX7_worth 44 = .ok (.if_icmp .lt 16, 3)) ∧ (decode cX7_worth 47 = .ok (.iload_n 2, 1)) ∧ (decode cX7_worth 48 = .ok (.bipush 102, 2)) ∧ (decode cX7_worth 50 = .ok (.if_icmp .gt 10, 3)) ∧ (decode cX7_worth 53 = .ok (.iload_n 2, 1)) ∧ (decode cX7_worth 54 = .ok (.bipush 97, 2)) ∧ (decode cX7_worth 56 = .ok (.isub, 1)) := by decide +kernel
theorem dX7_worth_0 : decode cX7_worth 0 = .ok (.iload_n 1, 1) := dX7_worth_0_a.1
theorem dX7_worth_1 : decode cX7_worth 1 = .ok (.iconst 5, 1) := dX7_worth_0_a.2.1
theorem dX7_worth_2 : decode cX7_worth 2 = .ok (.irem, 1) := dX7_worth_0_a.2.2.1
theorem dX7_worth_3 : decode cX7_worth 3 = .ok (.tableswitch 71 0 4 #[33, 38, 71, 71, 59], 33) := dX7_worth_0_a.2.2.2.1
theorem dX7_worth_36 : decode cX7_worth 36 = .ok (.iload_n 2, 1) := dX7_worth_0_a.2.2.2.2.1
theorem dX7_worth_37 : decode cX7_worth 37 = .ok (.invokestatic 9, 3) := dX7_worth_0_a.2.2.2.2.2.1
theorem dX7_worth_40 : decode cX7_worth 40 = .ok (.ireturn, 1) := dX7_worth_0_a.2.2.2.2.2.2.1
theorem dX7_worth_41 : decode cX7_worth 41 = .ok (.iload_n 2, 1) := dX7_worth_0_a.2.2.2.2.2.2.2.1
theorem dX7_worth_42 : decode cX7_worth 42 = .ok (.bipush 97, 2) := dX7_worth_0_a.2.2.2.2.2.2.2.2.1
theorem dX7_worth_44 : decode cX7_worth 44 = .ok (.if_icmp .lt 16, 3) := dX7_worth_0_a.2.2.2.2.2.2.2.2.2.1
theorem dX7_worth_47 : decode cX7_worth 47 = .ok (.iload_n 2, 1) := dX7_worth_0_a.2.2.2.2.2.2.2.2.2.2.1
theorem dX7_worth_48 : decode cX7_worth 48 = .ok (.bipush 102, 2) := dX7_worth_0_a.2.2.2.2.2.2.2.2.2.2.2.1
theorem dX7_worth_50 : decode cX7_worth 50 = .ok (.if_icmp .gt 10, 3) := dX7_worth_0_a.2.2.2.2.2.2.2.2.2.2.2.2.1
theorem dX7_worth_53 : decode cX7_worth 53 = .ok (.iload_n 2, 1) := dX7_worth_0_a.2.2.2.2.2.2.2.2.2.2.2.2.2.1
theorem dX7_worth_54 : decode cX7_worth 54 = .ok (.bipush 97, 2) := dX7_worth_0_a.2.2.2.2.2.2.2.2.2.2.2.2.2.2.1
theorem dX7_worth_56 : decode cX7_worth 56 = .ok (.isub, 1) := dX7_worth_0_a.2.2.2.2.2.2.2.2.2.2.2.2.2.2.2
theorem dX7_worth_57_a : (decode cX7_worth 57 = .ok (.goto 4, 3)) ∧ (decode cX7_worth 60 = .ok (.iconst (-1), 1)) ∧ (decode cX7_worth 61 = .ok (.ireturn, 1)) ∧ (decode cX7_worth 62 = .ok (.iload_n 2, 1)) ∧ (decode cX7_worth 63 = .ok (.bipush 59, 2)) ∧ (decode cX7_worth 65 = .ok (.if_icmp .ne 7, 3)) ∧ (decode cX7_worth 68 = .ok (.iconst 0, 1)) ∧ (decode cX7_worth 69 = .ok (.goto 4, 3)) ∧ (decode cX7_worth 72 = .ok (.iconst (-1), 1)) ∧ (decode cX7_worth 73 = .ok (.ireturn, 1)) ∧ (decode cX7_worth 74 = .ok (.iload_n 2, 1)) ∧ (decode cX7_worth 75 = .ok (.bipush 49, 2)) ∧ (decode cX7_worth 77 = .ok (.if_icmp .lt 16, 3)) ∧ (decode cX7_worth 80 = .ok (.iload_n 2, 1)) ∧ (decode cX7_worth 81 = .ok (.bipush 57, 2)) ∧ (decode cX7_worth 83 = .ok (.if_icmp .gt 10, 3)) := by decide +kernel
theorem dX7_worth_57 : decode cX7_worth 57 = .ok (.goto 4, 3) := dX7_worth_57_a.1
theorem dX7_worth_60 : decode cX7_worth 60 = .ok (.iconst (-1), 1) := dX7_worth_57_a.2.1
theorem dX7_worth_61 : decode cX7_worth 61 = .ok (.ireturn, 1) := dX7_worth_57_a.2.2.1
theorem dX7_worth_62 : decode cX7_worth 62 = .ok (.iload_n 2, 1) := dX7_worth_57_a.2.2.2.1
theorem dX7_worth_63 : decode cX7_worth 63 = .ok (.bipush 59, 2) := dX7_worth_57_a.2.2.2.2.1
theorem dX7_worth_65 : decode cX7_worth 65 = .ok (.if_icmp .ne 7, 3) := dX7_worth_57_a.2.2.2.2.2.1
theorem dX7_worth_68 : decode cX7_worth 68 = .ok (.iconst 0, 1) := dX7_worth_57_a.2.2.2.2.2.2.1
theorem dX7_worth_69 : decode cX7_worth 69 = .ok (.goto 4, 3) := dX7_worth_57_a.2.2.2.2.2.2.2.1
theorem dX7_worth_72 : decode cX7_worth 72 = .ok (.iconst (-1), 1) := dX7_worth_57_a.2.2.2.2.2.2.2.2.1
theorem dX7_worth_73 : decode cX7_worth 73 = .ok (.ireturn, 1) := dX7_worth_57_a.2.2.2.2.2.2.2.2.2.1
theorem dX7_worth_74 : decode cX7_worth 74 = .ok (.iload_n 2, 1) := dX7_worth_57_a.2.2.2.2.2.2.2.2.2.2.1
theorem dX7_worth_75 : decode cX7_worth 75 = .ok (.bipush 49, 2) := dX7_worth_57_a.2.2.2.2.2.2.2.2.2.2.2.1
theorem dX7_worth_77 : decode cX7_worth 77 = .ok (.if_icmp .lt 16, 3) := dX7_worth_57_a.2.2.2.2.2.2.2.2.2.2.2.2.1
theorem dX7_worth_80 : decode cX7_worth 80 = .ok (.iload_n 2, 1) := dX7_worth_57_a.2.2.2.2.2.2.2.2.2.2.2.2.2.1
theorem dX7_worth_81 : decode cX7_worth 81 = .ok (.bipush 57, 2) := dX7_worth_57_a.2.2.2.2.2.2.2.2.2.2.2.2.2.2.1
theorem dX7_worth_83 : decode cX7_worth 83 = .ok (.if_icmp .gt 10, 3) := dX7_worth_57_a.2.2.2.2.2.2.2.2.2.2.2.2.2.2.2
theorem dX7_worth_86_a : (decode cX7_worth 86 = .ok (.iload_n 2, 1)) ∧ (decode cX7_worth 87 = .ok (.bipush 48, 2)) ∧ (decode cX7_worth 89 = .ok (.isub, 1)) ∧ (decode cX7_worth 90 = .ok (.goto 4, 3)) ∧ (decode cX7_worth 93 = .ok (.iconst (-1), 1)) ∧ (decode cX7_worth 94 = .ok (.ireturn, 1)) := by decide +kernel
theorem dX7_worth_86 : decode cX7_worth 86 = .ok (.iload_n 2, 1) := dX7_worth_86_a.1
theorem dX7_worth_87 : decode cX7_worth 87 = .ok (.bipush 48, 2) := dX7_worth_86_a.2.1
theorem dX7_worth_89 : decode cX7_worth 89 = .ok (.isub, 1) := dX7_worth_86_a.2.2.1
theorem dX7_worth_90 : decode cX7_worth 90 = .ok (.goto 4, 3) := dX7_worth_86_a.2.2.2.1
theorem dX7_worth_93 : decode cX7_worth 93 = .ok (.iconst (-1), 1) := dX7_worth_86_a.2.2.2.2.1
theorem dX7_worth_94 : decode cX7_worth 94 = .ok (.ireturn, 1) := dX7_worth_86_a.2.2.2.2.2
theorem dX7_kind_0_a : (decode cX7_kind 0 = .ok (.iload_n 0, 1)) ∧ (decode cX7_kind 1 = .ok (.lookupswitch 51 #[(100, 45), (112, 47), (115, 49), (116, 43)], 43)) ∧ (decode cX7_kind 44 = .ok (.iconst 0, 1)) ∧ (decode cX7_kind 45 = .ok (.ireturn, 1)) ∧ (decode cX7_kind 46 = .ok (.iconst 1, 1)) ∧ (decode cX7_kind 47 = .ok (.ireturn, 1)) ∧ (decode cX7_kind 48 = .ok (.iconst 2, 1)) ∧ (decode cX7_kind 49 = .ok (.ireturn, 1)) ∧ (decode cX7_kind 50 = .ok (.iconst 3, 1)) ∧ (decode cX7_kind 51 = .ok (.ireturn, 1)) ∧ (decode cX7_kind 52 = .ok (.iconst (-1), 1)) ∧ (decode cX7_kind 53 = .ok (.ireturn, 1)) := by decide +kernel
theorem dX7_kind_0 : decode cX7_kind 0 = .ok (.iload_n 0, 1) := dX7_kind_0_a.1
theorem dX7_kind_1 : decode cX7_kind 1 = .ok (.lookupswitch 51 #[(100, 45), (112, 47), (115, 49), (116, 43)], 43) := dX7_kind_0_a.2.1
theorem dX7_kind_44 : decode cX7_kind 44 = .ok (.iconst 0, 1) := dX7_kind_0_a.2.2.1
theorem dX7_kind_45 : decode cX7_kind 45 = .ok (.ireturn, 1) := dX7_kind_0_a.2.2.2.1
theorem dX7_kind_46 : decode cX7_kind 46 = .ok (.iconst 1, 1) := dX7_kind_0_a.2.2.2.2.1
theorem dX7_kind_47 : decode cX7_kind 47 = .ok (.ireturn, 1) := dX7_kind_0_a.2.2.2.2.2.1
theorem dX7_kind_48 : decode cX7_kind 48 = .ok (.iconst 2, 1) := dX7_kind_0_a.2.2.2.2.2.2.1
theorem dX7_kind_49 : decode cX7_kind 49 = .ok (.ireturn, 1) := dX7_kind_0_a.2.2.2.2.2.2.2.1
theorem dX7_kind_50 : decode cX7_kind 50 = .ok (.iconst 3, 1) := dX7_kind_0_a.2.2.2.2.2.2.2.2.1
theorem dX7_kind_51 : decode cX7_kind 51 = .ok (.ireturn, 1) := dX7_kind_0_a.2.2.2.2.2.2.2.2.2.1
theorem dX7_kind_52 : decode cX7_kind 52 = .ok (.iconst (-1), 1) := dX7_kind_0_a.2.2.2.2.2.2.2.2.2.2.1
theorem dX7_kind_53 : decode cX7_kind 53 = .ok (.ireturn, 1) := dX7_kind_0_a.2.2.2.2.2.2.2.2.2.2.2
theorem dX7_thingsIn_0_a : (decode cX7_thingsIn 0 = .ok (.iload_n 1, 1)) ∧ (decode cX7_thingsIn 1 = .ok (.ifCond .ne 5, 3)) ∧ (decode cX7_thingsIn 4 = .ok (.iconst 0, 1)) ∧ (decode cX7_thingsIn 5 = .ok (.ireturn, 1)) ∧ (decode cX7_thingsIn 6 = .ok (.iload_n 1, 1)) ∧ (decode cX7_thingsIn 7 = .ok (.iconst 5, 1)) ∧ (decode cX7_thingsIn 8 = .ok (.irem, 1)) ∧ (decode cX7_thingsIn 9 = .ok (.iconst 4, 1)) ∧ (decode cX7_thingsIn 10 = .ok (.if_icmp .ne 11, 3)) ∧ (decode cX7_thingsIn 13 = .ok (.iload_n 1, 1)) ∧ (decode cX7_thingsIn 14 = .ok (.iconst 1, 1)) ∧ (decode cX7_thingsIn 15 = .ok (.iadd, 1)) ∧ (decode cX7_thingsIn 16 = .ok (.iconst 5, 1)) ∧ (decode cX7_thingsIn 17 = .ok (.idiv, 1)) ∧ (decode cX7_thingsIn 18 = .ok (.goto 4, 3)) ∧ (decode cX7_thingsIn 21 = .ok (.iconst (-1), 1)) := by decide +kernel
theorem dX7_thingsIn_0 : decode cX7_thingsIn 0 = .ok (.iload_n 1, 1) := dX7_thingsIn_0_a.1
theorem dX7_thingsIn_1 : decode cX7_thingsIn 1 = .ok (.ifCond .ne 5, 3) := dX7_thingsIn_0_a.2.1
theorem dX7_thingsIn_4 : decode cX7_thingsIn 4 = .ok (.iconst 0, 1) := dX7_thingsIn_0_a.2.2.1
theorem dX7_thingsIn_5 : decode cX7_thingsIn 5 = .ok (.ireturn, 1) := dX7_thingsIn_0_a.2.2.2.1
theorem dX7_thingsIn_6 : decode cX7_thingsIn 6 = .ok (.iload_n 1, 1) := dX7_thingsIn_0_a.2.2.2.2.1
theorem dX7_thingsIn_7 : decode cX7_thingsIn 7 = .ok (.iconst 5, 1) := dX7_thingsIn_0_a.2.2.2.2.2.1
theorem dX7_thingsIn_8 : decode cX7_thingsIn 8 = .ok (.irem, 1) := dX7_thingsIn_0_a.2.2.2.2.2.2.1
theorem dX7_thingsIn_9 : decode cX7_thingsIn 9 = .ok (.iconst 4, 1) := dX7_thingsIn_0_a.2.2.2.2.2.2.2.1
theorem dX7_thingsIn_10 : decode cX7_thingsIn 10 = .ok (.if_icmp .ne 11, 3) := dX7_thingsIn_0_a.2.2.2.2.2.2.2.2.1
theorem dX7_thingsIn_13 : decode cX7_thingsIn 13 = .ok (.iload_n 1, 1) := dX7_thingsIn_0_a.2.2.2.2.2.2.2.2.2.1
theorem dX7_thingsIn_14 : decode cX7_thingsIn 14 = .ok (.iconst 1, 1) := dX7_thingsIn_0_a.2.2.2.2.2.2.2.2.2.2.1
theorem dX7_thingsIn_15 : decode cX7_thingsIn 15 = .ok (.iadd, 1) := dX7_thingsIn_0_a.2.2.2.2.2.2.2.2.2.2.2.1
theorem dX7_thingsIn_16 : decode cX7_thingsIn 16 = .ok (.iconst 5, 1) := dX7_thingsIn_0_a.2.2.2.2.2.2.2.2.2.2.2.2.1
theorem dX7_thingsIn_17 : decode cX7_thingsIn 17 = .ok (.idiv, 1) := dX7_thingsIn_0_a.2.2.2.2.2.2.2.2.2.2.2.2.2.1
theorem dX7_thingsIn_18 : decode cX7_thingsIn 18 = .ok (.goto 4, 3) := dX7_thingsIn_0_a.2.2.2.2.2.2.2.2.2.2.2.2.2.2.1
theorem dX7_thingsIn_21 : decode cX7_thingsIn 21 = .ok (.iconst (-1), 1) := dX7_thingsIn_0_a.2.2.2.2.2.2.2.2.2.2.2.2.2.2.2
theorem dX7_thingsIn_22 : decode cX7_thingsIn 22 = .ok (.ireturn, 1) := by decide +kernel
theorem dX7_told_0_a : (decode cX7_told 0 = .ok (.aload_n 0, 1)) ∧ (decode cX7_told 1 = .ok (.iconst 5, 1)) ∧ (decode cX7_told 2 = .ok (.iload_n 1, 1)) ∧ (decode cX7_told 3 = .ok (.imul, 1)) ∧ (decode cX7_told 4 = .ok (.iload_n 2, 1)) ∧ (decode cX7_told 5 = .ok (.iadd, 1)) ∧ (decode cX7_told 6 = .ok (.invokevirtual 15, 3)) ∧ (decode cX7_told 9 = .ok (.ireturn, 1)) := by decide +kernel
theorem dX7_told_0 : decode cX7_told 0 = .ok (.aload_n 0, 1) := dX7_told_0_a.1
theorem dX7_told_1 : decode cX7_told 1 = .ok (.iconst 5, 1) := dX7_told_0_a.2.1
theorem dX7_told_2 : decode cX7_told 2 = .ok (.iload_n 1, 1) := dX7_told_0_a.2.2.1
theorem dX7_told_3 : decode cX7_told 3 = .ok (.imul, 1) := dX7_told_0_a.2.2.2.1
theorem dX7_told_4 : decode cX7_told 4 = .ok (.iload_n 2, 1) := dX7_told_0_a.2.2.2.2.1
theorem dX7_told_5 : decode cX7_told 5 = .ok (.iadd, 1) := dX7_told_0_a.2.2.2.2.2.1
theorem dX7_told_6 : decode cX7_told 6 = .ok (.invokevirtual 15, 3) := dX7_told_0_a.2.2.2.2.2.2.1
theorem dX7_told_9 : decode cX7_told 9 = .ok (.ireturn, 1) := dX7_told_0_a.2.2.2.2.2.2.2
theorem dX8_init_0_a : (decode cX8_init 0 = .ok (.aload_n 0, 1)) ∧ (decode cX8_init 1 = .ok (.invokespecial 3, 3)) ∧ (decode cX8_init 4 = .ok (.aload_n 0, 1)) ∧ (decode cX8_init 5 = .ok (.bipush 60, 2)) ∧ (decode cX8_init 7 = .ok (.newarray .int, 2)) ∧ (decode cX8_init 9 = .ok (.putfield 9, 3)) ∧ (decode cX8_init 12 = .ok (.aload_n 0, 1)) ∧ (decode cX8_init 13 = .ok (.iconst 1, 1)) ∧ (decode cX8_init 14 = .ok (.putfield 15, 3)) ∧ (decode cX8_init 17 = .ok (.return_, 1)) := by decide +kernel
theorem dX8_init_0 : decode cX8_init 0 = .ok (.aload_n 0, 1) := dX8_init_0_a.1
theorem dX8_init_1 : decode cX8_init 1 = .ok (.invokespecial 3, 3) := dX8_init_0_a.2.1
theorem dX8_init_4 : decode cX8_init 4 = .ok (.aload_n 0, 1) := dX8_init_0_a.2.2.1
theorem dX8_init_5 : decode cX8_init 5 = .ok (.bipush 60, 2) := dX8_init_0_a.2.2.2.1
theorem dX8_init_7 : decode cX8_init 7 = .ok (.newarray .int, 2) := dX8_init_0_a.2.2.2.2.1
theorem dX8_init_9 : decode cX8_init 9 = .ok (.putfield 9, 3) := dX8_init_0_a.2.2.2.2.2.1
theorem dX8_init_12 : decode cX8_init 12 = .ok (.aload_n 0, 1) := dX8_init_0_a.2.2.2.2.2.2.1
theorem dX8_init_13 : decode cX8_init 13 = .ok (.iconst 1, 1) := dX8_init_0_a.2.2.2.2.2.2.2.1
theorem dX8_init_14 : decode cX8_init 14 = .ok (.putfield 15, 3) := dX8_init_0_a.2.2.2.2.2.2.2.2.1
theorem dX8_init_17 : decode cX8_init 17 = .ok (.return_, 1) := dX8_init_0_a.2.2.2.2.2.2.2.2.2
theorem dX8_renew_0_a : (decode cX8_renew 0 = .ok (.aload_n 0, 1)) ∧ (decode cX8_renew 1 = .ok (.iconst 0, 1)) ∧ (decode cX8_renew 2 = .ok (.putfield 15, 3)) ∧ (decode cX8_renew 5 = .ok (.aload_n 0, 1)) ∧ (decode cX8_renew 6 = .ok (.iload_n 1, 1)) ∧ (decode cX8_renew 7 = .ok (.putfield 19, 3)) ∧ (decode cX8_renew 10 = .ok (.aload_n 0, 1)) ∧ (decode cX8_renew 11 = .ok (.iconst 0, 1)) ∧ (decode cX8_renew 12 = .ok (.iload_n 2, 1)) ∧ (decode cX8_renew 13 = .ok (.bipush 60, 2)) ∧ (decode cX8_renew 15 = .ok (.invokestatic 23, 3)) ∧ (decode cX8_renew 18 = .ok (.invokestatic 29, 3)) ∧ (decode cX8_renew 21 = .ok (.putfield 32, 3)) ∧ (decode cX8_renew 24 = .ok (.iconst 0, 1)) ∧ (decode cX8_renew 25 = .ok (.istore_n 3, 1)) ∧ (decode cX8_renew 26 = .ok (.iload_n 3, 1)) := by decide +kernel
theorem dX8_renew_0 : decode cX8_renew 0 = .ok (.aload_n 0, 1) := dX8_renew_0_a.1
theorem dX8_renew_1 : decode cX8_renew 1 = .ok (.iconst 0, 1) := dX8_renew_0_a.2.1
theorem dX8_renew_2 : decode cX8_renew 2 = .ok (.putfield 15, 3) := dX8_renew_0_a.2.2.1
theorem dX8_renew_5 : decode cX8_renew 5 = .ok (.aload_n 0, 1) := dX8_renew_0_a.2.2.2.1
theorem dX8_renew_6 : decode cX8_renew 6 = .ok (.iload_n 1, 1) := dX8_renew_0_a.2.2.2.2.1
theorem dX8_renew_7 : decode cX8_renew 7 = .ok (.putfield 19, 3) := dX8_renew_0_a.2.2.2.2.2.1
theorem dX8_renew_10 : decode cX8_renew 10 = .ok (.aload_n 0, 1) := dX8_renew_0_a.2.2.2.2.2.2.1
theorem dX8_renew_11 : decode cX8_renew 11 = .ok (.iconst 0, 1) := dX8_renew_0_a.2.2.2.2.2.2.2.1
theorem dX8_renew_12 : decode cX8_renew 12 = .ok (.iload_n 2, 1) := dX8_renew_0_a.2.2.2.2.2.2.2.2.1
theorem dX8_renew_13 : decode cX8_renew 13 = .ok (.bipush 60, 2) := dX8_renew_0_a.2.2.2.2.2.2.2.2.2.1
theorem dX8_renew_15 : decode cX8_renew 15 = .ok (.invokestatic 23, 3) := dX8_renew_0_a.2.2.2.2.2.2.2.2.2.2.1
theorem dX8_renew_18 : decode cX8_renew 18 = .ok (.invokestatic 29, 3) := dX8_renew_0_a.2.2.2.2.2.2.2.2.2.2.2.1
theorem dX8_renew_21 : decode cX8_renew 21 = .ok (.putfield 32, 3) := dX8_renew_0_a.2.2.2.2.2.2.2.2.2.2.2.2.1
theorem dX8_renew_24 : decode cX8_renew 24 = .ok (.iconst 0, 1) := dX8_renew_0_a.2.2.2.2.2.2.2.2.2.2.2.2.2.1
theorem dX8_renew_25 : decode cX8_renew 25 = .ok (.istore_n 3, 1) := dX8_renew_0_a.2.2.2.2.2.2.2.2.2.2.2.2.2.2.1
theorem dX8_renew_26 : decode cX8_renew 26 = .ok (.iload_n 3, 1) := dX8_renew_0_a.2.2.2.2.2.2.2.2.2.2.2.2.2.2.2
theorem dX8_renew_27_a : (decode cX8_renew 27 = .ok (.bipush 60, 2)) ∧ (decode cX8_renew 29 = .ok (.if_icmp .ge 16, 3)) ∧ (decode cX8_renew 32 = .ok (.aload_n 0, 1)) ∧ (decode cX8_renew 33 = .ok (.getfield 9, 3)) ∧ (decode cX8_renew 36 = .ok (.iload_n 3, 1)) ∧ (decode cX8_renew 37 = .ok (.iconst 0, 1)) ∧ (decode cX8_renew 38 = .ok (.iastore, 1)) ∧ (decode cX8_renew 39 = .ok (.iinc 3 1, 3)) ∧ (decode cX8_renew 42 = .ok (.goto (-16), 3)) ∧ (decode cX8_renew 45 = .ok (.return_, 1)) := by decide +kernel
theorem dX8_renew_27 : decode cX8_renew 27 = .ok (.bipush 60, 2) := dX8_renew_27_a.1
theorem dX8_renew_29 : decode cX8_renew 29 = .ok (.if_icmp .ge 16, 3) := dX8_renew_27_a.2.1
theorem dX8_renew_32 : decode cX8_renew 32 = .ok (.aload_n 0, 1) := dX8_renew_27_a.2.2.1
theorem dX8_renew_33 : decode cX8_renew 33 = .ok (.getfield 9, 3) := dX8_renew_27_a.2.2.2.1
theorem dX8_renew_36 : decode cX8_renew 36 = .ok (.iload_n 3, 1) := dX8_renew_27_a.2.2.2.2.1
theorem dX8_renew_37 : decode cX8_renew 37 = .ok (.iconst 0, 1) := dX8_renew_27_a.2.2.2.2.2.1
theorem dX8_renew_38 : decode cX8_renew 38 = .ok (.iastore, 1) := dX8_renew_27_a.2.2.2.2.2.2.1
theorem dX8_renew_39 : decode cX8_renew 39 = .ok (.iinc 3 1, 3) := dX8_renew_27_a.2.2.2.2.2.2.2.1
theorem dX8_renew_42 : decode cX8_renew 42 = .ok (.goto (-16), 3) := dX8_renew_27_a.2.2.2.2.2.2.2.2.1
theorem dX8_renew_45 : decode cX8_renew 45 = .ok (.return_, 1) := dX8_renew_27_a.2.2.2.2.2.2.2.2.2
theorem dX8_hasItems_0_a : (decode cX8_hasItems 0 = .ok (.iload_n 1, 1)) ∧ (decode cX8_hasItems 1 = .ok (.ifCond .lt 29, 3)) ∧ (decode cX8_hasItems 4 = .ok (.iload_n 2, 1)) ∧ (decode cX8_hasItems 5 = .ok (.ifCond .lt 25, 3)) ∧ (decode cX8_hasItems 8 = .ok (.iload_n 2, 1)) ∧ (decode cX8_hasItems 9 = .ok (.aload_n 0, 1)) ∧ (decode cX8_hasItems 10 = .ok (.getfield 32, 3)) ∧ (decode cX8_hasItems 13 = .ok (.if_icmp .gt 17, 3)) ∧ (decode cX8_hasItems 16 = .ok (.iload_n 1, 1)) ∧ (decode cX8_hasItems 17 = .ok (.aload_n 0, 1)) ∧ (decode cX8_hasItems 18 = .ok (.getfield 32, 3)) ∧ (decode cX8_hasItems 21 = .ok (.iload_n 2, 1)) ∧ (decode cX8_hasItems 22 = .ok (.isub, 1)) ∧ (decode cX8_hasItems 23 = .ok (.if_icmp .gt 7, 3)) ∧ (decode cX8_hasItems 26 = .ok (.iconst 1, 1)) ∧ (decode cX8_hasItems 27 = .ok (.goto 4, 3)) := by decide +kernel
theorem dX8_hasItems_0 : decode cX8_hasItems 0 = .ok (.iload_n 1, 1) := dX8_hasItems_0_a.1
theorem dX8_hasItems_1 : decode cX8_hasItems 1 = .ok (.ifCond .lt 29, 3) := dX8_hasItems_0_a.2.1
theorem dX8_hasItems_4 : decode cX8_hasItems 4 = .ok (.iload_n 2, 1) := dX8_hasItems_0_a.2.2.1
theorem dX8_hasItems_5 : decode cX8_hasItems 5 = .ok (.ifCond .lt 25, 3) := dX8_hasItems_0_a.2.2.2.1
theorem dX8_hasItems_8 : decode cX8_hasItems 8 = .ok (.iload_n 2, 1) := dX8_hasItems_0_a.2.2.2.2.1
theorem dX8_hasItems_9 : decode cX8_hasItems 9 = .ok (.aload_n 0, 1) := dX8_hasItems_0_a.2.2.2.2.2.1
theorem dX8_hasItems_10 : decode cX8_hasItems 10 = .ok (.getfield 32, 3) := dX8_hasItems_0_a.2.2.2.2.2.2.1
theorem dX8_hasItems_13 : decode cX8_hasItems 13 = .ok (.if_icmp .gt 17, 3) := dX8_hasItems_0_a.2.2.2.2.2.2.2.1
theorem dX8_hasItems_16 : decode cX8_hasItems 16 = .ok (.iload_n 1, 1) := dX8_hasItems_0_a.2.2.2.2.2.2.2.2.1
theorem dX8_hasItems_17 : decode cX8_hasItems 17 = .ok (.aload_n 0, 1) := dX8_hasItems_0_a.2.2.2.2.2.2.2.2.2.1
theorem dX8_hasItems_18 : decode cX8_hasItems 18 = .ok (.getfield 32, 3) := dX8_hasItems_0_a.2.2.2.2.2.2.2.2.2.2.1
theorem dX8_hasItems_21 : decode cX8_hasItems 21 = .ok (.iload_n 2, 1) := dX8_hasItems_0_a.2.2.2.2.2.2.2.2.2.2.2.1
theorem dX8_hasItems_22 : decode cX8_hasItems 22 = .ok (.isub, 1) := dX8_hasItems_0_a.2.2.2.2.2.2.2.2.2.2.2.2.1
theorem dX8_hasItems_23 : decode cX8_hasItems 23 = .ok (.if_icmp .gt 7, 3) := dX8_hasItems_0_a.2.2.2.2.2.2.2.2.2.2.2.2.2.1
theorem dX8_hasItems_26 : decode cX8_hasItems 26 = .ok (.iconst 1, 1) := dX8_hasItems_0_a.2.2.2.2.2.2.2.2.2.2.2.2.2.2.1
theorem dX8_hasItems_27 : decode cX8_hasItems 27 = .ok (.goto 4, 3) := dX8_hasItems_0_a.2.2.2.2.2.2.2.2.2.2.2.2.2.2.2
theorem dX8_hasItems_30_a : (decode cX8_hasItems 30 = .ok (.iconst 0, 1)) ∧ (decode cX8_hasItems 31 = .ok (.ireturn, 1)) := by decide +kernel
theorem dX8_hasItems_30 : decode cX8_hasItems 30 = .ok (.iconst 0, 1) := dX8_hasItems_30_a.1
theorem dX8_hasItems_31 : decode cX8_hasItems 31 = .ok (.ireturn, 1) := dX8_hasItems_30_a.2
theorem dX8_item_0_a : (decode cX8_item 0 = .ok (.iload_n 1, 1)) ∧ (decode cX8_item 1 = .ok (.ifCond .lt 20, 3)) ∧ (decode cX8_item 4 = .ok (.iload_n 1, 1)) ∧ (decode cX8_item 5 = .ok (.aload_n 0, 1)) ∧ (decode cX8_item 6 = .ok (.getfield 32, 3)) ∧ (decode cX8_item 9 = .ok (.if_icmp .ge 12, 3)) ∧ (decode cX8_item 12 = .ok (.aload_n 0, 1)) ∧ (decode cX8_item 13 = .ok (.getfield 9, 3)) ∧ (decode cX8_item 16 = .ok (.iload_n 1, 1)) ∧ (decode cX8_item 17 = .ok (.iaload, 1)) ∧ (decode cX8_item 18 = .ok (.goto 4, 3)) ∧ (decode cX8_item 21 = .ok (.iconst 0, 1)) ∧ (decode cX8_item 22 = .ok (.ireturn, 1)) := by decide +kernel
theorem dX8_item_0 : decode cX8_item 0 = .ok (.iload_n 1, 1) := dX8_item_0_a.1
theorem dX8_item_1 : decode cX8_item 1 = .ok (.ifCond .lt 20, 3) := dX8_item_0_a.2.1
theorem dX8_item_4 : decode cX8_item 4 = .ok (.iload_n 1, 1) := dX8_item_0_a.2.2.1
theorem dX8_item_5 : decode cX8_item 5 = .ok (.aload_n 0, 1) := dX8_item_0_a.2.2.2.1
theorem dX8_item_6 : decode cX8_item 6 = .ok (.getfield 32, 3) := dX8_item_0_a.2.2.2.2.1
theorem dX8_item_9 : decode cX8_item 9 = .ok (.if_icmp .ge 12, 3) := dX8_item_0_a.2.2.2.2.2.1
theorem dX8_item_12 : decode cX8_item 12 = .ok (.aload_n 0, 1) := dX8_item_0_a.2.2.2.2.2.2.1
theorem dX8_item_13 : decode cX8_item 13 = .ok (.getfield 9, 3) := dX8_item_0_a.2.2.2.2.2.2.2.1
theorem dX8_item_16 : decode cX8_item 16 = .ok (.iload_n 1, 1) := dX8_item_0_a.2.2.2.2.2.2.2.2.1
theorem dX8_item_17 : decode cX8_item 17 = .ok (.iaload, 1) := dX8_item_0_a.2.2.2.2.2.2.2.2.2.1
theorem dX8_item_18 : decode cX8_item 18 = .ok (.goto 4, 3) := dX8_item_0_a.2.2.2.2.2.2.2.2.2.2.1
theorem dX8_item_21 : decode cX8_item 21 = .ok (.iconst 0, 1) := dX8_item_0_a.2.2.2.2.2.2.2.2.2.2.2.1
theorem dX8_item_22 : decode cX8_item 22 = .ok (.ireturn, 1) := dX8_item_0_a.2.2.2.2.2.2.2.2.2.2.2.2
theorem dX8_put_0_a : (decode cX8_put 0 = .ok (.iload_n 1, 1)) ∧ (decode cX8_put 1 = .ok (.ifCond .lt 43, 3)) ∧ (decode cX8_put 4 = .ok (.iload_n 1, 1)) ∧ (decode cX8_put 5 = .ok (.aload_n 0, 1)) ∧ (decode cX8_put 6 = .ok (.getfield 32, 3)) ∧ (decode cX8_put 9 = .ok (.if_icmp .ge 35, 3)) ∧ (decode cX8_put 12 = .ok (.aload_n 0, 1)) ∧ (decode cX8_put 13 = .ok (.getfield 9, 3)) ∧ (decode cX8_put 16 = .ok (.iload_n 1, 1)) ∧ (decode cX8_put 17 = .ok (.aload_n 0, 1)) ∧ (decode cX8_put 18 = .ok (.getfield 19, 3)) ∧ (decode cX8_put 21 = .ok (.ifCond .ne 8, 3)) ∧ (decode cX8_put 24 = .ok (.iload_n 2, 1)) ∧ (decode cX8_put 25 = .ok (.i2b, 1)) ∧ (decode cX8_put 26 = .ok (.goto 17, 3)) ∧ (decode cX8_put 29 = .ok (.aload_n 0, 1)) := by decide +kernel
theorem dX8_put_0 : decode cX8_put 0 = .ok (.iload_n 1, 1) := dX8_put_0_a.1
theorem dX8_put_1 : decode cX8_put 1 = .ok (.ifCond .lt 43, 3) := dX8_put_0_a.2.1
theorem dX8_put_4 : decode cX8_put 4 = .ok (.iload_n 1, 1) := dX8_put_0_a.2.2.1
theorem dX8_put_5 : decode cX8_put 5 = .ok (.aload_n 0, 1) := dX8_put_0_a.2.2.2.1
theorem dX8_put_6 : decode cX8_put 6 = .ok (.getfield 32, 3) := dX8_put_0_a.2.2.2.2.1
theorem dX8_put_9 : decode cX8_put 9 = .ok (.if_icmp .ge 35, 3) := dX8_put_0_a.2.2.2.2.2.1
theorem dX8_put_12 : decode cX8_put 12 = .ok (.aload_n 0, 1) := dX8_put_0_a.2.2.2.2.2.2.1
theorem dX8_put_13 : decode cX8_put 13 = .ok (.getfield 9, 3) := dX8_put_0_a.2.2.2.2.2.2.2.1
theorem dX8_put_16 : decode cX8_put 16 = .ok (.iload_n 1, 1) := dX8_put_0_a.2.2.2.2.2.2.2.2.1
theorem dX8_put_17 : decode cX8_put 17 = .ok (.aload_n 0, 1) := dX8_put_0_a.2.2.2.2.2.2.2.2.2.1
theorem dX8_put_18 : decode cX8_put 18 = .ok (.getfield 19, 3) := dX8_put_0_a.2.2.2.2.2.2.2.2.2.2.1
theorem dX8_put_21 : decode cX8_put 21 = .ok (.ifCond .ne 8, 3) := dX8_put_0_a.2.2.2.2.2.2.2.2.2.2.2.1
theorem dX8_put_24 : decode cX8_put 24 = .ok (.iload_n 2, 1) := dX8_put_0_a.2.2.2.2.2.2.2.2.2.2.2.2.1
theorem dX8_put_25 : decode cX8_put 25 = .ok (.i2b, 1) := dX8_put_0_a.2.2.2.2.2.2.2.2.2.2.2.2.2.1
theorem dX8_put_26 : decode cX8_put 26 = .ok (.goto 17, 3) := dX8_put_0_a.2.2.2.2.2.2.2.2.2.2.2.2.2.2.1
theorem dX8_put_29 : decode cX8_put 29 = .ok (.aload_n 0, 1) := dX8_put_0_a.2.2.2.2.2.2.2.2.2.2.2.2.2.2.2
theorem dX8_put_30_a : (decode cX8_put 30 = .ok (.getfield 19, 3)) ∧ (decode cX8_put 33 = .ok (.iconst 1, 1)) ∧ (decode cX8_put 34 = .ok (.if_icmp .ne 8, 3)) ∧ (decode cX8_put 37 = .ok (.iload_n 2, 1)) ∧ (decode cX8_put 38 = .ok (.i2s, 1)) ∧ (decode cX8_put 39 = .ok (.goto 4, 3)) ∧ (decode cX8_put 42 = .ok (.iload_n 2, 1)) ∧ (decode cX8_put 43 = .ok (.iastore, 1)) ∧ (decode cX8_put 44 = .ok (.return_, 1)) := by decide +kernel
theorem dX8_put_30 : decode cX8_put 30 = .ok (.getfield 19, 3) := dX8_put_30_a.1
theorem dX8_put_33 : decode cX8_put 33 = .ok (.iconst 1, 1) := dX8_put_30_a.2.1
theorem dX8_put_34 : decode cX8_put 34 = .ok (.if_icmp .ne 8, 3) := dX8_put_30_a.2.2.1
theorem dX8_put_37 : decode cX8_put 37 = .ok (.iload_n 2, 1) := dX8_put_30_a.2.2.2.1
theorem dX8_put_38 : decode cX8_put 38 = .ok (.i2s, 1) := dX8_put_30_a.2.2.2.2.1
theorem dX8_put_39 : decode cX8_put 39 = .ok (.goto 4, 3) := dX8_put_30_a.2.2.2.2.2.1
theorem dX8_put_42 : decode cX8_put 42 = .ok (.iload_n 2, 1) := dX8_put_30_a.2.2.2.2.2.2.1
theorem dX8_put_43 : decode cX8_put 43 = .ok (.iastore, 1) := dX8_put_30_a.2.2.2.2.2.2.2.1
theorem dX8_put_44 : decode cX8_put 44 = .ok (.return_, 1) := dX8_put_30_a.2.2.2.2.2.2.2.2
theorem dX9_init_0_a : (decode cX9_init 0 = .ok (.aload_n 0, 1)) ∧ (decode cX9_init 1 = .ok (.invokespecial 3, 3)) ∧ (decode cX9_init 4 = .ok (.aload_n 0, 1)) ∧ (decode cX9_init 5 = .ok (.iconst (-1), 1)) ∧ (decode cX9_init 6 = .ok (.putfield 9, 3)) ∧ (decode cX9_init 9 = .ok (.aload_n 0, 1)) ∧ (decode cX9_init 10 = .ok (.iconst 0, 1)) ∧ (decode cX9_init 11 = .ok (.iload_n 1, 1)) ∧ (decode cX9_init 12 = .ok (.invokestatic 15, 3)) ∧ (decode cX9_init 15 = .ok (.newarray .int, 2)) ∧ (decode cX9_init 17 = .ok (.putfield 21, 3)) ∧ (decode cX9_init 20 = .ok (.return_, 1)) := by decide +kernel
theorem dX9_init_0 : decode cX9_init 0 = .ok (.aload_n 0, 1) := dX9_init_0_a.1
theorem dX9_init_1 : decode cX9_init 1 = .ok (.invokespecial 3, 3) := dX9_init_0_a.2.1
theorem dX9_init_4 : decode cX9_init 4 = .ok (.aload_n 0, 1) := dX9_init_0_a.2.2.1
theorem dX9_init_5 : decode cX9_init 5 = .ok (.iconst (-1), 1) := dX9_init_0_a.2.2.2.1
theorem dX9_init_6 : decode cX9_init 6 = .ok (.putfield 9, 3) := dX9_init_0_a.2.2.2.2.1
theorem dX9_init_9 : decode cX9_init 9 = .ok (.aload_n 0, 1) := dX9_init_0_a.2.2.2.2.2.1
theorem dX9_init_10 : decode cX9_init 10 = .ok (.iconst 0, 1) := dX9_init_0_a.2.2.2.2.2.2.1
theorem dX9_init_11 : decode cX9_init 11 = .ok (.iload_n 1, 1) := dX9_init_0_a.2.2.2.2.2.2.2.1
theorem dX9_init_12 : decode cX9_init 12 = .ok (.invokestatic 15, 3) := dX9_init_0_a.2.2.2.2.2.2.2.2.1
theorem dX9_init_15 : decode cX9_init 15 = .ok (.newarray .int, 2) := dX9_init_0_a.2.2.2.2.2.2.2.2.2.1
theorem dX9_init_17 : decode cX9_init 17 = .ok (.putfield 21, 3) := dX9_init_0_a.2.2.2.2.2.2.2.2.2.2.1
theorem dX9_init_20 : decode cX9_init 20 = .ok (.return_, 1) := dX9_init_0_a.2.2.2.2.2.2.2.2.2.2.2
theorem dX9_isFull_0_a : (decode cX9_isFull 0 = .ok (.aload_n 0, 1)) ∧ (decode cX9_isFull 1 = .ok (.getfield 25, 3)) ∧ (decode cX9_isFull 4 = .ok (.aload_n 0, 1)) ∧ (decode cX9_isFull 5 = .ok (.getfield 21, 3)) ∧ (decode cX9_isFull 8 = .ok (.arraylength, 1)) ∧ (decode cX9_isFull 9 = .ok (.if_icmp .lt 7, 3)) ∧ (decode cX9_isFull 12 = .ok (.iconst 1, 1)) ∧ (decode cX9_isFull 13 = .ok (.goto 4, 3)) ∧ (decode cX9_isFull 16 = .ok (.iconst 0, 1)) ∧ (decode cX9_isFull 17 = .ok (.ireturn, 1)) := by decide +kernel
theorem dX9_isFull_0 : decode cX9_isFull 0 = .ok (.aload_n 0, 1) := dX9_isFull_0_a.1
theorem dX9_isFull_1 : decode cX9_isFull 1 = .ok (.getfield 25, 3) := dX9_isFull_0_a.2.1
theorem dX9_isFull_4 : decode cX9_isFull 4 = .ok (.aload_n 0, 1) := dX9_isFull_0_a.2.2.1
theorem dX9_isFull_5 : decode cX9_isFull 5 = .ok (.getfield 21, 3) := dX9_isFull_0_a.2.2.2.1
theorem dX9_isFull_8 : decode cX9_isFull 8 = .ok (.arraylength, 1) := dX9_isFull_0_a.2.2.2.2.1
theorem dX9_isFull_9 : decode cX9_isFull 9 = .ok (.if_icmp .lt 7, 3) := dX9_isFull_0_a.2.2.2.2.2.1
theorem dX9_isFull_12 : decode cX9_isFull 12 = .ok (.iconst 1, 1) := dX9_isFull_0_a.2.2.2.2.2.2.1
theorem dX9_isFull_13 : decode cX9_isFull 13 = .ok (.goto 4, 3) := dX9_isFull_0_a.2.2.2.2.2.2.2.1
theorem dX9_isFull_16 : decode cX9_isFull 16 = .ok (.iconst 0, 1) := dX9_isFull_0_a.2.2.2.2.2.2.2.2.1
theorem dX9_isFull_17 : decode cX9_isFull 17 = .ok (.ireturn, 1) := dX9_isFull_0_a.2.2.2.2.2.2.2.2.2
theorem dX9_append_0_a : (decode cX9_append 0 = .ok (.aload_n 0, 1)) ∧ (decode cX9_append 1 = .ok (.getfield 25, 3)) ∧ (decode cX9_append 4 = .ok (.ifCond .lt 47, 3)) ∧ (decode cX9_append 7 = .ok (.aload_n 0, 1)) ∧ (decode cX9_append 8 = .ok (.getfield 25, 3)) ∧ (decode cX9_append 11 = .ok (.aload_n 0, 1)) ∧ (decode cX9_append 12 = .ok (.getfield 21, 3)) ∧ (decode cX9_append 15 = .ok (.arraylength, 1)) ∧ (decode cX9_append 16 = .ok (.if_icmp .ge 35, 3)) ∧ (decode cX9_append 19 = .ok (.aload_n 0, 1)) ∧ (decode cX9_append 20 = .ok (.getfield 21, 3)) ∧ (decode cX9_append 23 = .ok (.aload_n 0, 1)) ∧ (decode cX9_append 24 = .ok (.getfield 25, 3)) ∧ (decode cX9_append 27 = .ok (.aload_n 0, 1)) ∧ (decode cX9_append 28 = .ok (.aload_n 0, 1)) ∧ (decode cX9_append 29 = .ok (.getfield 25, 3)) := by decide +kernel
theorem dX9_append_0 : decode cX9_append 0 = .ok (.aload_n 0, 1) := dX9_append_0_a.1
theorem dX9_append_1 : decode cX9_append 1 = .ok (.getfield 25, 3) := dX9_append_0_a.2.1
theorem dX9_append_4 : decode cX9_append 4 = .ok (.ifCond .lt 47, 3) := dX9_append_0_a.2.2.1
theorem dX9_append_7 : decode cX9_append 7 = .ok (.aload_n 0, 1) := dX9_append_0_a.2.2.2.1
theorem dX9_append_8 : decode cX9_append 8 = .ok (.getfield 25, 3) := dX9_append_0_a.2.2.2.2.1
theorem dX9_append_11 : decode cX9_append 11 = .ok (.aload_n 0, 1) := dX9_append_0_a.2.2.2.2.2.1
theorem dX9_append_12 : decode cX9_append 12 = .ok (.getfield 21, 3) := dX9_append_0_a.2.2.2.2.2.2.1
theorem dX9_append_15 : decode cX9_append 15 = .ok (.arraylength, 1) := dX9_append_0_a.2.2.2.2.2.2.2.1
theorem dX9_append_16 : decode cX9_append 16 = .ok (.if_icmp .ge 35, 3) := dX9_append_0_a.2.2.2.2.2.2.2.2.1
theorem dX9_append_19 : decode cX9_append 19 = .ok (.aload_n 0, 1) := dX9_append_0_a.2.2.2.2.2.2.2.2.2.1
theorem dX9_append_20 : decode cX9_append 20 = .ok (.getfield 21, 3) := dX9_append_0_a.2.2.2.2.2.2.2.2.2.2.1
theorem dX9_append_23 : decode cX9_append 23 = .ok (.aload_n 0, 1) := dX9_append_0_a.2.2.2.2.2.2.2.2.2.2.2.1
theorem dX9_append_24 : decode cX9_append 24 = .ok (.getfield 25, 3) := dX9_append_0_a.2.2.2.2.2.2.2.2.2.2.2.2.1
theorem dX9_append_27 : decode cX9_append 27 = .ok (.aload_n 0, 1) := dX9_append_0_a.2.2.2.2.2.2.2.2.2.2.2.2.2.1
theorem dX9_append_28 : decode cX9_append 28 = .ok (.aload_n 0, 1) := dX9_append_0_a.2.2.2.2.2.2.2.2.2.2.2.2.2.2.1
theorem dX9_append_29 : decode cX9_append 29 = .ok (.getfield 25, 3) := dX9_append_0_a.2.2.2.2.2.2.2.2.2.2.2.2.2.2.2
theorem dX9_append_32_a : (decode cX9_append 32 = .ok (.iload_n 1, 1)) ∧ (decode cX9_append 33 = .ok (.invokevirtual 28, 3)) ∧ (decode cX9_append 36 = .ok (.iastore, 1)) ∧ (decode cX9_append 37 = .ok (.aload_n 0, 1)) ∧ (decode cX9_append 38 = .ok (.dup, 1)) ∧ (decode cX9_append 39 = .ok (.getfield 25, 3)) ∧ (decode cX9_append 42 = .ok (.iconst 1, 1)) ∧ (decode cX9_append 43 = .ok (.iadd, 1)) ∧ (decode cX9_append 44 = .ok (.putfield 25, 3)) ∧ (decode cX9_append 47 = .ok (.aload_n 0, 1)) ∧ (decode cX9_append 48 = .ok (.invokevirtual 31, 3)) ∧ (decode cX9_append 51 = .ok (.return_, 1)) := by decide +kernel
theorem dX9_append_32 : decode cX9_append 32 = .ok (.iload_n 1, 1) := dX9_append_32_a.1
theorem dX9_append_33 : decode cX9_append 33 = .ok (.invokevirtual 28, 3) := dX9_append_32_a.2.1
theorem dX9_append_36 : decode cX9_append 36 = .ok (.iastore, 1) := dX9_append_32_a.2.2.1
theorem dX9_append_37 : decode cX9_append 37 = .ok (.aload_n 0, 1) := dX9_append_32_a.2.2.2.1
theorem dX9_append_38 : decode cX9_append 38 = .ok (.dup, 1) := dX9_append_32_a.2.2.2.2.1
theorem dX9_append_39 : decode cX9_append 39 = .ok (.getfield 25, 3) := dX9_append_32_a.2.2.2.2.2.1
theorem dX9_append_42 : decode cX9_append 42 = .ok (.iconst 1, 1) := dX9_append_32_a.2.2.2.2.2.2.1
theorem dX9_append_43 : decode cX9_append 43 = .ok (.iadd, 1) := dX9_append_32_a.2.2.2.2.2.2.2.1
theorem dX9_append_44 : decode cX9_append 44 = .ok (.putfield 25, 3) := dX9_append_32_a.2.2.2.2.2.2.2.2.1
theorem dX9_append_47 : decode cX9_append 47 = .ok (.aload_n 0, 1) := dX9_append_32_a.2.2.2.2.2.2.2.2.2.1
theorem dX9_append_48 : decode cX9_append 48 = .ok (.invokevirtual 31, 3) := dX9_append_32_a.2.2.2.2.2.2.2.2.2.2.1
theorem dX9_append_51 : decode cX9_append 51 = .ok (.return_, 1) := dX9_append_32_a.2.2.2.2.2.2.2.2.2.2.2
theorem dX9_shorten_0_a : (decode cX9_shorten 0 = .ok (.aload_n 0, 1)) ∧ (decode cX9_shorten 1 = .ok (.iconst 0, 1)) ∧ (decode cX9_shorten 2 = .ok (.iload_n 1, 1)) ∧ (decode cX9_shorten 3 = .ok (.aload_n 0, 1)) ∧ (decode cX9_shorten 4 = .ok (.getfield 25, 3)) ∧ (decode cX9_shorten 7 = .ok (.invokestatic 34, 3)) ∧ (decode cX9_shorten 10 = .ok (.invokestatic 15, 3)) ∧ (decode cX9_shorten 13 = .ok (.putfield 25, 3)) ∧ (decode cX9_shorten 16 = .ok (.aload_n 0, 1)) ∧ (decode cX9_shorten 17 = .ok (.invokevirtual 31, 3)) ∧ (decode cX9_shorten 20 = .ok (.return_, 1)) := by decide +kernel
theorem dX9_shorten_0 : decode cX9_shorten 0 = .ok (.aload_n 0, 1) := dX9_shorten_0_a.1
theorem dX9_shorten_1 : decode cX9_shorten 1 = .ok (.iconst 0, 1) := dX9_shorten_0_a.2.1
theorem dX9_shorten_2 : decode cX9_shorten 2 = .ok (.iload_n 1, 1) := dX9_shorten_0_a.2.2.1
theorem dX9_shorten_3 : decode cX9_shorten 3 = .ok (.aload_n 0, 1) := dX9_shorten_0_a.2.2.2.1
theorem dX9_shorten_4 : decode cX9_shorten 4 = .ok (.getfield 25, 3) := dX9_shorten_0_a.2.2.2.2.1
theorem dX9_shorten_7 : decode cX9_shorten 7 = .ok (.invokestatic 34, 3) := dX9_shorten_0_a.2.2.2.2.2.1
theorem dX9_shorten_10 : decode cX9_shorten 10 = .ok (.invokestatic 15, 3) := dX9_shorten_0_a.2.2.2.2.2.2.1
theorem dX9_shorten_13 : decode cX9_shorten 13 = .ok (.putfield 25, 3) := dX9_shorten_0_a.2.2.2.2.2.2.2.1
theorem dX9_shorten_16 : decode cX9_shorten 16 = .ok (.aload_n 0, 1) := dX9_shorten_0_a.2.2.2.2.2.2.2.2.1
theorem dX9_shorten_17 : decode cX9_shorten 17 = .ok (.invokevirtual 31, 3) := dX9_shorten_0_a.2.2.2.2.2.2.2.2.2.1
theorem dX9_shorten_20 : decode cX9_shorten 20 = .ok (.return_, 1) := dX9_shorten_0_a.2.2.2.2.2.2.2.2.2.2
theorem dX9_valueAt_0_a : (decode cX9_valueAt 0 = .ok (.iload_n 1, 1)) ∧ (decode cX9_valueAt 1 = .ok (.ifCond .lt 21, 3)) ∧ (decode cX9_valueAt 4 = .ok (.iload_n 1, 1)) ∧ (decode cX9_valueAt 5 = .ok (.aload_n 0, 1)) ∧ (decode cX9_valueAt 6 = .ok (.getfield 21, 3)) ∧ (decode cX9_valueAt 9 = .ok (.arraylength, 1)) ∧ (decode cX9_valueAt 10 = .ok (.if_icmp .ge 12, 3)) ∧ (decode cX9_valueAt 13 = .ok (.aload_n 0, 1)) ∧ (decode cX9_valueAt 14 = .ok (.getfield 21, 3)) ∧ (decode cX9_valueAt 17 = .ok (.iload_n 1, 1)) ∧ (decode cX9_valueAt 18 = .ok (.iaload, 1)) ∧ (decode cX9_valueAt 19 = .ok (.goto 4, 3)) ∧ (decode cX9_valueAt 22 = .ok (.iconst (-1), 1)) ∧ (decode cX9_valueAt 23 = .ok (.ireturn, 1)) := by decide +kernel
theorem dX9_valueAt_0 : decode cX9_valueAt 0 = .ok (.iload_n 1, 1) := dX9_valueAt_0_a.1
theorem dX9_valueAt_1 : decode cX9_valueAt 1 = .ok (.ifCond .lt 21, 3) := dX9_valueAt_0_a.2.1
theorem dX9_valueAt_4 : decode cX9_valueAt 4 = .ok (.iload_n 1, 1) := dX9_valueAt_0_a.2.2.1
theorem dX9_valueAt_5 : decode cX9_valueAt 5 = .ok (.aload_n 0, 1) := dX9_valueAt_0_a.2.2.2.1
theorem dX9_valueAt_6 : decode cX9_valueAt 6 = .ok (.getfield 21, 3) := dX9_valueAt_0_a.2.2.2.2.1
theorem dX9_valueAt_9 : decode cX9_valueAt 9 = .ok (.arraylength, 1) := dX9_valueAt_0_a.2.2.2.2.2.1
theorem dX9_valueAt_10 : decode cX9_valueAt 10 = .ok (.if_icmp .ge 12, 3) := dX9_valueAt_0_a.2.2.2.2.2.2.1
theorem dX9_valueAt_13 : decode cX9_valueAt 13 = .ok (.aload_n 0, 1) := dX9_valueAt_0_a.2.2.2.2.2.2.2.1
theorem dX9_valueAt_14 : decode cX9_valueAt 14 = .ok (.getfield 21, 3) := dX9_valueAt_0_a.2.2.2.2.2.2.2.2.1
theorem dX9_valueAt_17 : decode cX9_valueAt 17 = .ok (.iload_n 1, 1) := dX9_valueAt_0_a.2.2.2.2.2.2.2.2.2.1
theorem dX9_valueAt_18 : decode cX9_valueAt 18 = .ok (.iaload, 1) := dX9_valueAt_0_a.2.2.2.2.2.2.2.2.2.2.1
theorem dX9_valueAt_19 : decode cX9_valueAt 19 = .ok (.goto 4, 3) := dX9_valueAt_0_a.2.2.2.2.2.2.2.2.2.2.2.1
theorem dX9_valueAt_22 : decode cX9_valueAt 22 = .ok (.iconst (-1), 1) := dX9_valueAt_0_a.2.2.2.2.2.2.2.2.2.2.2.2.1
theorem dX9_valueAt_23 : decode cX9_valueAt 23 = .ok (.ireturn, 1) := dX9_valueAt_0_a.2.2.2.2.2.2.2.2.2.2.2.2.2
theorem dX9_has_0_a : (decode cX9_has 0 = .ok (.iload_n 1, 1)) ∧ (decode cX9_has 1 = .ok (.ifCond .lt 15, 3)) ∧ (decode cX9_has 4 = .ok (.iload_n 1, 1)) ∧ (decode cX9_has 5 = .ok (.aload_n 0, 1)) ∧ (decode cX9_has 6 = .ok (.getfield 37, 3)) ∧ (decode cX9_has 9 = .ok (.if_icmp .ge 7, 3)) ∧ (decode cX9_has 12 = .ok (.iconst 1, 1)) ∧ (decode cX9_has 13 = .ok (.goto 4, 3)) ∧ (decode cX9_has 16 = .ok (.iconst 0, 1)) ∧ (decode cX9_has 17 = .ok (.ireturn, 1)) := by decide +kernel
theorem dX9_has_0 : decode cX9_has 0 = .ok (.iload_n 1, 1) := dX9_has_0_a.1
theorem dX9_has_1 : decode cX9_has 1 = .ok (.ifCond .lt 15, 3) := dX9_has_0_a.2.1
theorem dX9_has_4 : decode cX9_has 4 = .ok (.iload_n 1, 1) := dX9_has_0_a.2.2.1
theorem dX9_has_5 : decode cX9_has 5 = .ok (.aload_n 0, 1) := dX9_has_0_a.2.2.2.1
theorem dX9_has_6 : decode cX9_has 6 = .ok (.getfield 37, 3) := dX9_has_0_a.2.2.2.2.1
theorem dX9_has_9 : decode cX9_has 9 = .ok (.if_icmp .ge 7, 3) := dX9_has_0_a.2.2.2.2.2.1
theorem dX9_has_12 : decode cX9_has 12 = .ok (.iconst 1, 1) := dX9_has_0_a.2.2.2.2.2.2.1
theorem dX9_has_13 : decode cX9_has 13 = .ok (.goto 4, 3) := dX9_has_0_a.2.2.2.2.2.2.2.1
theorem dX9_has_16 : decode cX9_has 16 = .ok (.iconst 0, 1) := dX9_has_0_a.2.2.2.2.2.2.2.2.1
theorem dX9_has_17 : decode cX9_has 17 = .ok (.ireturn, 1) := dX9_has_0_a.2.2.2.2.2.2.2.2.2
theorem dX9_readAgain_0_a : (decode cX9_readAgain 0 = .ok (.aload_n 0, 1)) ∧ (decode cX9_readAgain 1 = .ok (.iconst (-1), 1)) ∧ (decode cX9_readAgain 2 = .ok (.putfield 9, 3)) ∧ (decode cX9_readAgain 5 = .ok (.iconst 0, 1)) ∧ (decode cX9_readAgain 6 = .ok (.istore_n 1, 1)) ∧ (decode cX9_readAgain 7 = .ok (.iload_n 1, 1)) ∧ (decode cX9_readAgain 8 = .ok (.aload_n 0, 1)) ∧ (decode cX9_readAgain 9 = .ok (.getfield 25, 3)) ∧ (decode cX9_readAgain 12 = .ok (.if_icmp .ge 31, 3)) ∧ (decode cX9_readAgain 15 = .ok (.aload_n 0, 1)) ∧ (decode cX9_readAgain 16 = .ok (.getfield 9, 3)) ∧ (decode cX9_readAgain 19 = .ok (.iconst (-1), 1)) ∧ (decode cX9_readAgain 20 = .ok (.if_icmp .ne 23, 3)) ∧ (decode cX9_readAgain 23 = .ok (.aload_n 0, 1)) ∧ (decode cX9_readAgain 24 = .ok (.iload_n 1, 1)) ∧ (decode cX9_readAgain 25 = .ok (.invokevirtual 40, 3)) := by decide +kernel
theorem dX9_readAgain_0 : decode cX9_readAgain 0 = .ok (.aload_n 0, 1) := dX9_readAgain_0_a.1
theorem dX9_readAgain_1 : decode cX9_readAgain 1 = .ok (.iconst (-1), 1) := dX9_readAgain_0_a.2.1
theorem dX9_readAgain_2 : decode cX9_readAgain 2 = .ok (.putfield 9, 3) := dX9_readAgain_0_a.2.2.1
theorem dX9_readAgain_5 : decode cX9_readAgain 5 = .ok (.iconst 0, 1) := dX9_readAgain_0_a.2.2.2.1
theorem dX9_readAgain_6 : decode cX9_readAgain 6 = .ok (.istore_n 1, 1) := dX9_readAgain_0_a.2.2.2.2.1
theorem dX9_readAgain_7 : decode cX9_readAgain 7 = .ok (.iload_n 1, 1) := dX9_readAgain_0_a.2.2.2.2.2.1
theorem dX9_readAgain_8 : decode cX9_readAgain 8 = .ok (.aload_n 0, 1) := dX9_readAgain_0_a.2.2.2.2.2.2.1
theorem dX9_readAgain_9 : decode cX9_readAgain 9 = .ok (.getfield 25, 3) := dX9_readAgain_0_a.2.2.2.2.2.2.2.1
theorem dX9_readAgain_12 : decode cX9_readAgain 12 = .ok (.if_icmp .ge 31, 3) := dX9_readAgain_0_a.2.2.2.2.2.2.2.2.1
theorem dX9_readAgain_15 : decode cX9_readAgain 15 = .ok (.aload_n 0, 1) := dX9_readAgain_0_a.2.2.2.2.2.2.2.2.2.1
theorem dX9_readAgain_16 : decode cX9_readAgain 16 = .ok (.getfield 9, 3) := dX9_readAgain_0_a.2.2.2.2.2.2.2.2.2.2.1
theorem dX9_readAgain_19 : decode cX9_readAgain 19 = .ok (.iconst (-1), 1) := dX9_readAgain_0_a.2.2.2.2.2.2.2.2.2.2.2.1
theorem dX9_readAgain_20 : decode cX9_readAgain 20 = .ok (.if_icmp .ne 23, 3) := dX9_readAgain_0_a.2.2.2.2.2.2.2.2.2.2.2.2.1
theorem dX9_readAgain_23 : decode cX9_readAgain 23 = .ok (.aload_n 0, 1) := dX9_readAgain_0_a.2.2.2.2.2.2.2.2.2.2.2.2.2.1
theorem dX9_readAgain_24 : decode cX9_readAgain 24 = .ok (.iload_n 1, 1) := dX9_readAgain_0_a.2.2.2.2.2.2.2.2.2.2.2.2.2.2.1
theorem dX9_readAgain_25 : decode cX9_readAgain 25 = .ok (.invokevirtual 40, 3) := dX9_readAgain_0_a.2.2.2.2.2.2.2.2.2.2.2.2.2.2.2
theorem dX9_readAgain_28_a : (decode cX9_readAgain 28 = .ok (.iconst (-1), 1)) ∧ (decode cX9_readAgain 29 = .ok (.if_icmp .ne 8, 3)) ∧ (decode cX9_readAgain 32 = .ok (.aload_n 0, 1)) ∧ (decode cX9_readAgain 33 = .ok (.iload_n 1, 1)) ∧ (decode cX9_readAgain 34 = .ok (.putfield 9, 3)) ∧ (decode cX9_readAgain 37 = .ok (.iinc 1 1, 3)) ∧ (decode cX9_readAgain 40 = .ok (.goto (-33), 3)) ∧ (decode cX9_readAgain 43 = .ok (.aload_n 0, 1)) ∧ (decode cX9_readAgain 44 = .ok (.aload_n 0, 1)) ∧ (decode cX9_readAgain 45 = .ok (.getfield 25, 3)) ∧ (decode cX9_readAgain 48 = .ok (.invokevirtual 44, 3)) ∧ (decode cX9_readAgain 51 = .ok (.istore_n 1, 1)) ∧ (decode cX9_readAgain 52 = .ok (.aload_n 0, 1)) ∧ (decode cX9_readAgain 53 = .ok (.getfield 9, 3)) ∧ (decode cX9_readAgain 56 = .ok (.iconst (-1), 1)) ∧ (decode cX9_readAgain 57 = .ok (.if_icmp .ne 16, 3)) := by decide +kernel
theorem dX9_readAgain_28 : decode cX9_readAgain 28 = .ok (.iconst (-1), 1) := dX9_readAgain_28_a.1
theorem dX9_readAgain_29 : decode cX9_readAgain 29 = .ok (.if_icmp .ne 8, 3) := dX9_readAgain_28_a.2.1
theorem dX9_readAgain_32 : decode cX9_readAgain 32 = .ok (.aload_n 0, 1) := dX9_readAgain_28_a.2.2.1
theorem dX9_readAgain_33 : decode cX9_readAgain 33 = .ok (.iload_n 1, 1) := dX9_readAgain_28_a.2.2.2.1
theorem dX9_readAgain_34 : decode cX9_readAgain 34 = .ok (.putfield 9, 3) := dX9_readAgain_28_a.2.2.2.2.1
theorem dX9_readAgain_37 : decode cX9_readAgain 37 = .ok (.iinc 1 1, 3) := dX9_readAgain_28_a.2.2.2.2.2.1
theorem dX9_readAgain_40 : decode cX9_readAgain 40 = .ok (.goto (-33), 3) := dX9_readAgain_28_a.2.2.2.2.2.2.1
theorem dX9_readAgain_43 : decode cX9_readAgain 43 = .ok (.aload_n 0, 1) := dX9_readAgain_28_a.2.2.2.2.2.2.2.1
theorem dX9_readAgain_44 : decode cX9_readAgain 44 = .ok (.aload_n 0, 1) := dX9_readAgain_28_a.2.2.2.2.2.2.2.2.1
theorem dX9_readAgain_45 : decode cX9_readAgain 45 = .ok (.getfield 25, 3) := dX9_readAgain_28_a.2.2.2.2.2.2.2.2.2.1
theorem dX9_readAgain_48 : decode cX9_readAgain 48 = .ok (.invokevirtual 44, 3) := dX9_readAgain_28_a.2.2.2.2.2.2.2.2.2.2.1
theorem dX9_readAgain_51 : decode cX9_readAgain 51 = .ok (.istore_n 1, 1) := dX9_readAgain_28_a.2.2.2.2.2.2.2.2.2.2.2.1
theorem dX9_readAgain_52 : decode cX9_readAgain 52 = .ok (.aload_n 0, 1) := dX9_readAgain_28_a.2.2.2.2.2.2.2.2.2.2.2.2.1
theorem dX9_readAgain_53 : decode cX9_readAgain 53 = .ok (.getfield 9, 3) := dX9_readAgain_28_a.2.2.2.2.2.2.2.2.2.2.2.2.2.1
theorem dX9_readAgain_56 : decode cX9_readAgain 56 = .ok (.iconst (-1), 1) := dX9_readAgain_28_a.2.2.2.2.2.2.2.2.2.2.2.2.2.2.1
theorem dX9_readAgain_57 : decode cX9_readAgain 57 = .ok (.if_icmp .ne 16, 3) := dX9_readAgain_28_a.2.2.2.2.2.2.2.2.2.2.2.2.2.2.2
theorem dX9_readAgain_60_a : (decode cX9_readAgain 60 = .ok (.iload_n 1, 1)) ∧ (decode cX9_readAgain 61 = .ok (.iconst (-1), 1)) ∧ (decode cX9_readAgain 62 = .ok (.if_icmp .ne 11, 3)) ∧ (decode cX9_readAgain 65 = .ok (.aload_n 0, 1)) ∧ (decode cX9_readAgain 66 = .ok (.aload_n 0, 1)) ∧ (decode cX9_readAgain 67 = .ok (.getfield 25, 3)) ∧ (decode cX9_readAgain 70 = .ok (.putfield 9, 3)) ∧ (decode cX9_readAgain 73 = .ok (.aload_n 0, 1)) ∧ (decode cX9_readAgain 74 = .ok (.aload_n 0, 1)) ∧ (decode cX9_readAgain 75 = .ok (.getfield 9, 3)) ∧ (decode cX9_readAgain 78 = .ok (.iconst (-1), 1)) ∧ (decode cX9_readAgain 79 = .ok (.if_icmp .ne 7, 3)) ∧ (decode cX9_readAgain 82 = .ok (.iload_n 1, 1)) ∧ (decode cX9_readAgain 83 = .ok (.goto 4, 3)) ∧ (decode cX9_readAgain 86 = .ok (.iconst 0, 1)) ∧ (decode cX9_readAgain 87 = .ok (.putfield 37, 3)) := by decide +kernel
theorem dX9_readAgain_60 : decode cX9_readAgain 60 = .ok (.iload_n 1, 1) := dX9_readAgain_60_a.1
theorem dX9_readAgain_61 : decode cX9_readAgain 61 = .ok (.iconst (-1), 1) := dX9_readAgain_60_a.2.1
theorem dX9_readAgain_62 : decode cX9_readAgain 62 = .ok (.if_icmp .ne 11, 3) := dX9_readAgain_60_a.2.2.1
theorem dX9_readAgain_65 : decode cX9_readAgain 65 = .ok (.aload_n 0, 1) := dX9_readAgain_60_a.2.2.2.1
theorem dX9_readAgain_66 : decode cX9_readAgain 66 = .ok (.aload_n 0, 1) := dX9_readAgain_60_a.2.2.2.2.1
theorem dX9_readAgain_67 : decode cX9_readAgain 67 = .ok (.getfield 25, 3) := dX9_readAgain_60_a.2.2.2.2.2.1
theorem dX9_readAgain_70 : decode cX9_readAgain 70 = .ok (.putfield 9, 3) := dX9_readAgain_60_a.2.2.2.2.2.2.1
theorem dX9_readAgain_73 : decode cX9_readAgain 73 = .ok (.aload_n 0, 1) := dX9_readAgain_60_a.2.2.2.2.2.2.2.1
theorem dX9_readAgain_74 : decode cX9_readAgain 74 = .ok (.aload_n 0, 1) := dX9_readAgain_60_a.2.2.2.2.2.2.2.2.1
theorem dX9_readAgain_75 : decode cX9_readAgain 75 = .ok (.getfield 9, 3) := dX9_readAgain_60_a.2.2.2.2.2.2.2.2.2.1
theorem dX9_readAgain_78 : decode cX9_readAgain 78 = .ok (.iconst (-1), 1) := dX9_readAgain_60_a.2.2.2.2.2.2.2.2.2.2.1
theorem dX9_readAgain_79 : decode cX9_readAgain 79 = .ok (.if_icmp .ne 7, 3) := dX9_readAgain_60_a.2.2.2.2.2.2.2.2.2.2.2.1
theorem dX9_readAgain_82 : decode cX9_readAgain 82 = .ok (.iload_n 1, 1) := dX9_readAgain_60_a.2.2.2.2.2.2.2.2.2.2.2.2.1
theorem dX9_readAgain_83 : decode cX9_readAgain 83 = .ok (.goto 4, 3) := dX9_readAgain_60_a.2.2.2.2.2.2.2.2.2.2.2.2.2.1
theorem dX9_readAgain_86 : decode cX9_readAgain 86 = .ok (.iconst 0, 1) := dX9_readAgain_60_a.2.2.2.2.2.2.2.2.2.2.2.2.2.2.1
theorem dX9_readAgain_87 : decode cX9_readAgain 87 = .ok (.putfield 37, 3) := dX9_readAgain_60_a.2.2.2.2.2.2.2.2.2.2.2.2.2.2.2
theorem dX9_readAgain_90 : decode cX9_readAgain 90 = .ok (.return_, 1) := by decide +kernel
theorem dX10_init_0_a : (decode cX10_init 0 = .ok (.aload_n 0, 1)) ∧ (decode cX10_init 1 = .ok (.invokespecial 3, 3)) ∧ (decode cX10_init 4 = .ok (.aload_n 0, 1)) ∧ (decode cX10_init 5 = .ok (.new 9, 3)) ∧ (decode cX10_init 8 = .ok (.dup, 1)) ∧ (decode cX10_init 9 = .ok (.invokespecial 11, 3)) ∧ (decode cX10_init 12 = .ok (.putfield 12, 3)) ∧ (decode cX10_init 15 = .ok (.aload_n 0, 1)) ∧ (decode cX10_init 16 = .ok (.new 9, 3)) ∧ (decode cX10_init 19 = .ok (.dup, 1)) ∧ (decode cX10_init 20 = .ok (.invokespecial 11, 3)) ∧ (decode cX10_init 23 = .ok (.putfield 18, 3)) ∧ (decode cX10_init 26 = .ok (.aload_n 0, 1)) ∧ (decode cX10_init 27 = .ok (.aload_n 0, 1)) ∧ (decode cX10_init 28 = .ok (.getfield 12, 3)) ∧ (decode cX10_init 31 = .ok (.putfield 21, 3)) := by decide +kernel
theorem dX10_init_0 : decode cX10_init 0 = .ok (.aload_n 0, 1) := dX10_init_0_a.1
theorem dX10_init_1 : decode cX10_init 1 = .ok (.invokespecial 3, 3) := dX10_init_0_a.2.1
theorem dX10_init_4 : decode cX10_init 4 = .ok (.aload_n 0, 1) := dX10_init_0_a.2.2.1
theorem dX10_init_5 : decode cX10_init 5 = .ok (.new 9, 3) := dX10_init_0_a.2.2.2.1
theorem dX10_init_8 : decode cX10_init 8 = .ok (.dup, 1) := dX10_init_0_a.2.2.2.2.1
theorem dX10_init_9 : decode cX10_init 9 = .ok (.invokespecial 11, 3) := dX10_init_0_a.2.2.2.2.2.1
theorem dX10_init_12 : decode cX10_init 12 = .ok (.putfield 12, 3) := dX10_init_0_a.2.2.2.2.2.2.1
theorem dX10_init_15 : decode cX10_init 15 = .ok (.aload_n 0, 1) := dX10_init_0_a.2.2.2.2.2.2.2.1
theorem dX10_init_16 : decode cX10_init 16 = .ok (.new 9, 3) := dX10_init_0_a.2.2.2.2.2.2.2.2.1
theorem dX10_init_19 : decode cX10_init 19 = .ok (.dup, 1) := dX10_init_0_a.2.2.2.2.2.2.2.2.2.1
theorem dX10_init_20 : decode cX10_init 20 = .ok (.invokespecial 11, 3) := dX10_init_0_a.2.2.2.2.2.2.2.2.2.2.1
theorem dX10_init_23 : decode cX10_init 23 = .ok (.putfield 18, 3) := dX10_init_0_a.2.2.2.2.2.2.2.2.2.2.2.1
theorem dX10_init_26 : decode cX10_init 26 = .ok (.aload_n 0, 1) := dX10_init_0_a.2.2.2.2.2.2.2.2.2.2.2.2.1
theorem dX10_init_27 : decode cX10_init 27 = .ok (.aload_n 0, 1) := dX10_init_0_a.2.2.2.2.2.2.2.2.2.2.2.2.2.1
theorem dX10_init_28 : decode cX10_init 28 = .ok (.getfield 12, 3) := dX10_init_0_a.2.2.2.2.2.2.2.2.2.2.2.2.2.2.1
theorem dX10_init_31 : decode cX10_init 31 = .ok (.putfield 21, 3) := dX10_init_0_a.2.2.2.2.2.2.2.2.2.2.2.2.2.2.2
theorem dX10_init_34_a : (decode cX10_init 34 = .ok (.aload_n 0, 1)) ∧ (decode cX10_init 35 = .ok (.aload_n 0, 1)) ∧ (decode cX10_init 36 = .ok (.getfield 18, 3)) ∧ (decode cX10_init 39 = .ok (.putfield 24, 3)) ∧ (decode cX10_init 42 = .ok (.aload_n 0, 1)) ∧ (decode cX10_init 43 = .ok (.aload_n 1, 1)) ∧ (decode cX10_init 44 = .ok (.putfield 27, 3)) ∧ (decode cX10_init 47 = .ok (.aload_n 0, 1)) ∧ (decode cX10_init 48 = .ok (.aload_n 2, 1)) ∧ (decode cX10_init 49 = .ok (.putfield 31, 3)) ∧ (decode cX10_init 52 = .ok (.aload_n 0, 1)) ∧ (decode cX10_init 53 = .ok (.aload_n 3, 1)) ∧ (decode cX10_init 54 = .ok (.putfield 35, 3)) ∧ (decode cX10_init 57 = .ok (.return_, 1)) := by decide +kernel
theorem dX10_init_34 : decode cX10_init 34 = .ok (.aload_n 0, 1) := dX10_init_34_a.1
theorem dX10_init_35 : decode cX10_init 35 = .ok (.aload_n 0, 1) := dX10_init_34_a.2.1
theorem dX10_init_36 : decode cX10_init 36 = .ok (.getfield 18, 3) := dX10_init_34_a.2.2.1
theorem dX10_init_39 : decode cX10_init 39 = .ok (.putfield 24, 3) := dX10_init_34_a.2.2.2.1
theorem dX10_init_42 : decode cX10_init 42 = .ok (.aload_n 0, 1) := dX10_init_34_a.2.2.2.2.1
theorem dX10_init_43 : decode cX10_init 43 = .ok (.aload_n 1, 1) := dX10_init_34_a.2.2.2.2.2.1
theorem dX10_init_44 : decode cX10_init 44 = .ok (.putfield 27, 3) := dX10_init_34_a.2.2.2.2.2.2.1
theorem dX10_init_47 : decode cX10_init 47 = .ok (.aload_n 0, 1) := dX10_init_34_a.2.2.2.2.2.2.2.1
theorem dX10_init_48 : decode cX10_init 48 = .ok (.aload_n 2, 1) := dX10_init_34_a.2.2.2.2.2.2.2.2.1
theorem dX10_init_49 : decode cX10_init 49 = .ok (.putfield 31, 3) := dX10_init_34_a.2.2.2.2.2.2.2.2.2.1
theorem dX10_init_52 : decode cX10_init 52 = .ok (.aload_n 0, 1) := dX10_init_34_a.2.2.2.2.2.2.2.2.2.2.1
theorem dX10_init_53 : decode cX10_init 53 = .ok (.aload_n 3, 1) := dX10_init_34_a.2.2.2.2.2.2.2.2.2.2.2.1
theorem dX10_init_54 : decode cX10_init 54 = .ok (.putfield 35, 3) := dX10_init_34_a.2.2.2.2.2.2.2.2.2.2.2.2.1
theorem dX10_init_57 : decode cX10_init 57 = .ok (.return_, 1) := dX10_init_34_a.2.2.2.2.2.2.2.2.2.2.2.2.2
theorem dX10_board_0_a : (decode cX10_board 0 = .ok (.aload_n 0, 1)) ∧ (decode cX10_board 1 = .ok (.aload_n 0, 1)) ∧ (decode cX10_board 2 = .ok (.getfield 31, 3)) ∧ (decode cX10_board 5 = .ok (.iload_n 1, 1)) ∧ (decode cX10_board 6 = .ok (.invokevirtual 39, 3)) ∧ (decode cX10_board 9 = .ok (.ifCond .eq 29, 3)) ∧ (decode cX10_board 12 = .ok (.aload_n 0, 1)) ∧ (decode cX10_board 13 = .ok (.getfield 35, 3)) ∧ (decode cX10_board 16 = .ok (.iload_n 2, 1)) ∧ (decode cX10_board 17 = .ok (.invokevirtual 45, 3)) ∧ (decode cX10_board 20 = .ok (.ifCond .eq 18, 3)) ∧ (decode cX10_board 23 = .ok (.aload_n 0, 1)) ∧ (decode cX10_board 24 = .ok (.getfield 35, 3)) ∧ (decode cX10_board 27 = .ok (.iload_n 3, 1)) ∧ (decode cX10_board 28 = .ok (.invokevirtual 45, 3)) ∧ (decode cX10_board 31 = .ok (.ifCond .eq 7, 3)) := by decide +kernel
theorem dX10_board_0 : decode cX10_board 0 = .ok (.aload_n 0, 1) := dX10_board_0_a.1
theorem dX10_board_1 : decode cX10_board 1 = .ok (.aload_n 0, 1) := dX10_board_0_a.2.1
theorem dX10_board_2 : decode cX10_board 2 = .ok (.getfield 31, 3) := dX10_board_0_a.2.2.1
theorem dX10_board_5 : decode cX10_board 5 = .ok (.iload_n 1, 1) := dX10_board_0_a.2.2.2.1
theorem dX10_board_6 : decode cX10_board 6 = .ok (.invokevirtual 39, 3) := dX10_board_0_a.2.2.2.2.1
theorem dX10_board_9 : decode cX10_board 9 = .ok (.ifCond .eq 29, 3) := dX10_board_0_a.2.2.2.2.2.1
theorem dX10_board_12 : decode cX10_board 12 = .ok (.aload_n 0, 1) := dX10_board_0_a.2.2.2.2.2.2.1
theorem dX10_board_13 : decode cX10_board 13 = .ok (.getfield 35, 3) := dX10_board_0_a.2.2.2.2.2.2.2.1
theorem dX10_board_16 : decode cX10_board 16 = .ok (.iload_n 2, 1) := dX10_board_0_a.2.2.2.2.2.2.2.2.1
theorem dX10_board_17 : decode cX10_board 17 = .ok (.invokevirtual 45, 3) := dX10_board_0_a.2.2.2.2.2.2.2.2.2.1
theorem dX10_board_20 : decode cX10_board 20 = .ok (.ifCond .eq 18, 3) := dX10_board_0_a.2.2.2.2.2.2.2.2.2.2.1
theorem dX10_board_23 : decode cX10_board 23 = .ok (.aload_n 0, 1) := dX10_board_0_a.2.2.2.2.2.2.2.2.2.2.2.1
theorem dX10_board_24 : decode cX10_board 24 = .ok (.getfield 35, 3) := dX10_board_0_a.2.2.2.2.2.2.2.2.2.2.2.2.1
theorem dX10_board_27 : decode cX10_board 27 = .ok (.iload_n 3, 1) := dX10_board_0_a.2.2.2.2.2.2.2.2.2.2.2.2.2.1
theorem dX10_board_28 : decode cX10_board 28 = .ok (.invokevirtual 45, 3) := dX10_board_0_a.2.2.2.2.2.2.2.2.2.2.2.2.2.2.1
theorem dX10_board_31 : decode cX10_board 31 = .ok (.ifCond .eq 7, 3) := dX10_board_0_a.2.2.2.2.2.2.2.2.2.2.2.2.2.2.2
theorem dX10_board_34_a : (decode cX10_board 34 = .ok (.iconst 1, 1)) ∧ (decode cX10_board 35 = .ok (.goto 4, 3)) ∧ (decode cX10_board 38 = .ok (.iconst 0, 1)) ∧ (decode cX10_board 39 = .ok (.putfield 48, 3)) ∧ (decode cX10_board 42 = .ok (.aload_n 0, 1)) ∧ (decode cX10_board 43 = .ok (.iconst 0, 1)) ∧ (decode cX10_board 44 = .ok (.putfield 52, 3)) ∧ (decode cX10_board 47 = .ok (.aload_n 0, 1)) ∧ (decode cX10_board 48 = .ok (.getfield 48, 3)) ∧ (decode cX10_board 51 = .ok (.ifCond .eq 139, 3)) ∧ (decode cX10_board 54 = .ok (.aload_n 0, 1)) ∧ (decode cX10_board 55 = .ok (.aload_n 0, 1)) ∧ (decode cX10_board 56 = .ok (.getfield 31, 3)) ∧ (decode cX10_board 59 = .ok (.iload_n 1, 1)) ∧ (decode cX10_board 60 = .ok (.iconst 0, 1)) ∧ (decode cX10_board 61 = .ok (.invokevirtual 56, 3)) := by decide +kernel
theorem dX10_board_34 : decode cX10_board 34 = .ok (.iconst 1, 1) := dX10_board_34_a.1
theorem dX10_board_35 : decode cX10_board 35 = .ok (.goto 4, 3) := dX10_board_34_a.2.1
theorem dX10_board_38 : decode cX10_board 38 = .ok (.iconst 0, 1) := dX10_board_34_a.2.2.1
theorem dX10_board_39 : decode cX10_board 39 = .ok (.putfield 48, 3) := dX10_board_34_a.2.2.2.1
theorem dX10_board_42 : decode cX10_board 42 = .ok (.aload_n 0, 1) := dX10_board_34_a.2.2.2.2.1
theorem dX10_board_43 : decode cX10_board 43 = .ok (.iconst 0, 1) := dX10_board_34_a.2.2.2.2.2.1
theorem dX10_board_44 : decode cX10_board 44 = .ok (.putfield 52, 3) := dX10_board_34_a.2.2.2.2.2.2.1
theorem dX10_board_47 : decode cX10_board 47 = .ok (.aload_n 0, 1) := dX10_board_34_a.2.2.2.2.2.2.2.1
theorem dX10_board_48 : decode cX10_board 48 = .ok (.getfield 48, 3) := dX10_board_34_a.2.2.2.2.2.2.2.2.1
theorem dX10_board_51 : decode cX10_board 51 = .ok (.ifCond .eq 139, 3) := dX10_board_34_a.2.2.2.2.2.2.2.2.2.1
theorem dX10_board_54 : decode cX10_board 54 = .ok (.aload_n 0, 1) := dX10_board_34_a.2.2.2.2.2.2.2.2.2.2.1
theorem dX10_board_55 : decode cX10_board 55 = .ok (.aload_n 0, 1) := dX10_board_34_a.2.2.2.2.2.2.2.2.2.2.2.1
theorem dX10_board_56 : decode cX10_board 56 = .ok (.getfield 31, 3) := dX10_board_34_a.2.2.2.2.2.2.2.2.2.2.2.2.1
theorem dX10_board_59 : decode cX10_board 59 = .ok (.iload_n 1, 1) := dX10_board_34_a.2.2.2.2.2.2.2.2.2.2.2.2.2.1
theorem dX10_board_60 : decode cX10_board 60 = .ok (.iconst 0, 1) := dX10_board_34_a.2.2.2.2.2.2.2.2.2.2.2.2.2.2.1
theorem dX10_board_61 : decode cX10_board 61 = .ok (.invokevirtual 56, 3) := dX10_board_34_a.2.2.2.2.2.2.2.2.2.2.2.2.2.2.2
theorem dX10_board_64_a : (decode cX10_board 64 = .ok (.putfield 60, 3)) ∧ (decode cX10_board 67 = .ok (.aload_n 0, 1)) ∧ (decode cX10_board 68 = .ok (.aload_n 0, 1)) ∧ (decode cX10_board 69 = .ok (.getfield 31, 3)) ∧ (decode cX10_board 72 = .ok (.iload_n 1, 1)) ∧ (decode cX10_board 73 = .ok (.iconst 1, 1)) ∧ (decode cX10_board 74 = .ok (.invokevirtual 56, 3)) ∧ (decode cX10_board 77 = .ok (.putfield 63, 3)) ∧ (decode cX10_board 80 = .ok (.aload_n 0, 1)) ∧ (decode cX10_board 81 = .ok (.iconst 5, 1)) ∧ (decode cX10_board 82 = .ok (.aload_n 0, 1)) ∧ (decode cX10_board 83 = .ok (.getfield 31, 3)) ∧ (decode cX10_board 86 = .ok (.iload_n 1, 1)) ∧ (decode cX10_board 87 = .ok (.iconst 2, 1)) ∧ (decode cX10_board 88 = .ok (.invokevirtual 56, 3)) ∧ (decode cX10_board 91 = .ok (.imul, 1)) := by decide +kernel
theorem dX10_board_64 : decode cX10_board 64 = .ok (.putfield 60, 3) := dX10_board_64_a.1
theorem dX10_board_67 : decode cX10_board 67 = .ok (.aload_n 0, 1) := dX10_board_64_a.2.1
theorem dX10_board_68 : decode cX10_board 68 = .ok (.aload_n 0, 1) := dX10_board_64_a.2.2.1
theorem dX10_board_69 : decode cX10_board 69 = .ok (.getfield 31, 3) := dX10_board_64_a.2.2.2.1
theorem dX10_board_72 : decode cX10_board 72 = .ok (.iload_n 1, 1) := dX10_board_64_a.2.2.2.2.1
theorem dX10_board_73 : decode cX10_board 73 = .ok (.iconst 1, 1) := dX10_board_64_a.2.2.2.2.2.1
theorem dX10_board_74 : decode cX10_board 74 = .ok (.invokevirtual 56, 3) := dX10_board_64_a.2.2.2.2.2.2.1
theorem dX10_board_77 : decode cX10_board 77 = .ok (.putfield 63, 3) := dX10_board_64_a.2.2.2.2.2.2.2.1
theorem dX10_board_80 : decode cX10_board 80 = .ok (.aload_n 0, 1) := dX10_board_64_a.2.2.2.2.2.2.2.2.1
theorem dX10_board_81 : decode cX10_board 81 = .ok (.iconst 5, 1) := dX10_board_64_a.2.2.2.2.2.2.2.2.2.1
theorem dX10_board_82 : decode cX10_board 82 = .ok (.aload_n 0, 1) := dX10_board_64_a.2.2.2.2.2.2.2.2.2.2.1
theorem dX10_board_83 : decode cX10_board 83 = .ok (.getfield 31, 3) := dX10_board_64_a.2.2.2.2.2.2.2.2.2.2.2.1
theorem dX10_board_86 : decode cX10_board 86 = .ok (.iload_n 1, 1) := dX10_board_64_a.2.2.2.2.2.2.2.2.2.2.2.2.1
theorem dX10_board_87 : decode cX10_board 87 = .ok (.iconst 2, 1) := dX10_board_64_a.2.2.2.2.2.2.2.2.2.2.2.2.2.1
theorem dX10_board_88 : decode cX10_board 88 = .ok (.invokevirtual 56, 3) := dX10_board_64_a.2.2.2.2.2.2.2.2.2.2.2.2.2.2.1
theorem dX10_board_91 : decode cX10_board 91 = .ok (.imul, 1) := dX10_board_64_a.2.2.2.2.2.2.2.2.2.2.2.2.2.2.2
theorem dX10_board_92_a : (decode cX10_board 92 = .ok (.putfield 66, 3)) ∧ (decode cX10_board 95 = .ok (.aload_n 0, 1)) ∧ (decode cX10_board 96 = .ok (.aload_n 0, 1)) ∧ (decode cX10_board 97 = .ok (.getfield 31, 3)) ∧ (decode cX10_board 100 = .ok (.iload_n 1, 1)) ∧ (decode cX10_board 101 = .ok (.iconst 3, 1)) ∧ (decode cX10_board 102 = .ok (.invokevirtual 56, 3)) ∧ (decode cX10_board 105 = .ok (.putfield 69, 3)) ∧ (decode cX10_board 108 = .ok (.aload_n 0, 1)) ∧ (decode cX10_board 109 = .ok (.getfield 12, 3)) ∧ (decode cX10_board 112 = .ok (.aload_n 0, 1)) ∧ (decode cX10_board 113 = .ok (.getfield 35, 3)) ∧ (decode cX10_board 116 = .ok (.iload_n 2, 1)) ∧ (decode cX10_board 117 = .ok (.iconst 0, 1)) ∧ (decode cX10_board 118 = .ok (.invokevirtual 72, 3)) ∧ (decode cX10_board 121 = .ok (.putfield 73, 3)) := by decide +kernel
theorem dX10_board_92 : decode cX10_board 92 = .ok (.putfield 66, 3) := dX10_board_92_a.1
theorem dX10_board_95 : decode cX10_board 95 = .ok (.aload_n 0, 1) := dX10_board_92_a.2.1
theorem dX10_board_96 : decode cX10_board 96 = .ok (.aload_n 0, 1) := dX10_board_92_a.2.2.1
theorem dX10_board_97 : decode cX10_board 97 = .ok (.getfield 31, 3) := dX10_board_92_a.2.2.2.1
theorem dX10_board_100 : decode cX10_board 100 = .ok (.iload_n 1, 1) := dX10_board_92_a.2.2.2.2.1
theorem dX10_board_101 : decode cX10_board 101 = .ok (.iconst 3, 1) := dX10_board_92_a.2.2.2.2.2.1
theorem dX10_board_102 : decode cX10_board 102 = .ok (.invokevirtual 56, 3) := dX10_board_92_a.2.2.2.2.2.2.1
theorem dX10_board_105 : decode cX10_board 105 = .ok (.putfield 69, 3) := dX10_board_92_a.2.2.2.2.2.2.2.1
theorem dX10_board_108 : decode cX10_board 108 = .ok (.aload_n 0, 1) := dX10_board_92_a.2.2.2.2.2.2.2.2.1
theorem dX10_board_109 : decode cX10_board 109 = .ok (.getfield 12, 3) := dX10_board_92_a.2.2.2.2.2.2.2.2.2.1
theorem dX10_board_112 : decode cX10_board 112 = .ok (.aload_n 0, 1) := dX10_board_92_a.2.2.2.2.2.2.2.2.2.2.1
theorem dX10_board_113 : decode cX10_board 113 = .ok (.getfield 35, 3) := dX10_board_92_a.2.2.2.2.2.2.2.2.2.2.2.1
theorem dX10_board_116 : decode cX10_board 116 = .ok (.iload_n 2, 1) := dX10_board_92_a.2.2.2.2.2.2.2.2.2.2.2.2.1
theorem dX10_board_117 : decode cX10_board 117 = .ok (.iconst 0, 1) := dX10_board_92_a.2.2.2.2.2.2.2.2.2.2.2.2.2.1
theorem dX10_board_118 : decode cX10_board 118 = .ok (.invokevirtual 72, 3) := dX10_board_92_a.2.2.2.2.2.2.2.2.2.2.2.2.2.2.1
theorem dX10_board_121 : decode cX10_board 121 = .ok (.putfield 73, 3) := dX10_board_92_a.2.2.2.2.2.2.2.2.2.2.2.2.2.2.2
theorem dX10_board_124_a : (decode cX10_board 124 = .ok (.aload_n 0, 1)) ∧ (decode cX10_board 125 = .ok (.getfield 12, 3)) ∧ (decode cX10_board 128 = .ok (.aload_n 0, 1)) ∧ (decode cX10_board 129 = .ok (.getfield 35, 3)) ∧ (decode cX10_board 132 = .ok (.iload_n 2, 1)) ∧ (decode cX10_board 133 = .ok (.iconst 1, 1)) ∧ (decode cX10_board 134 = .ok (.invokevirtual 72, 3)) ∧ (decode cX10_board 137 = .ok (.putfield 75, 3)) ∧ (decode cX10_board 140 = .ok (.aload_n 0, 1)) ∧ (decode cX10_board 141 = .ok (.getfield 18, 3)) ∧ (decode cX10_board 144 = .ok (.aload_n 0, 1)) ∧ (decode cX10_board 145 = .ok (.getfield 35, 3)) ∧ (decode cX10_board 148 = .ok (.iload_n 3, 1)) ∧ (decode cX10_board 149 = .ok (.iconst 0, 1)) ∧ (decode cX10_board 150 = .ok (.invokevirtual 72, 3)) ∧ (decode cX10_board 153 = .ok (.putfield 73, 3)) := by decide +kernel
theorem dX10_board_124 : decode cX10_board 124 = .ok (.aload_n 0, 1) := dX10_board_124_a.1
theorem dX10_board_125 : decode cX10_board 125 = .ok (.getfield 12, 3) := dX10_board_124_a.2.1
theorem dX10_board_128 : decode cX10_board 128 = .ok (.aload_n 0, 1) := dX10_board_124_a.2.2.1
theorem dX10_board_129 : decode cX10_board 129 = .ok (.getfield 35, 3) := dX10_board_124_a.2.2.2.1
theorem dX10_board_132 : decode cX10_board 132 = .ok (.iload_n 2, 1) := dX10_board_124_a.2.2.2.2.1
theorem dX10_board_133 : decode cX10_board 133 = .ok (.iconst 1, 1) := dX10_board_124_a.2.2.2.2.2.1
theorem dX10_board_134 : decode cX10_board 134 = .ok (.invokevirtual 72, 3) := dX10_board_124_a.2.2.2.2.2.2.1
theorem dX10_board_137 : decode cX10_board 137 = .ok (.putfield 75, 3) := dX10_board_124_a.2.2.2.2.2.2.2.1
theorem dX10_board_140 : decode cX10_board 140 = .ok (.aload_n 0, 1) := dX10_board_124_a.2.2.2.2.2.2.2.2.1
theorem dX10_board_141 : decode cX10_board 141 = .ok (.getfield 18, 3) := dX10_board_124_a.2.2.2.2.2.2.2.2.2.1
theorem dX10_board_144 : decode cX10_board 144 = .ok (.aload_n 0, 1) := dX10_board_124_a.2.2.2.2.2.2.2.2.2.2.1
theorem dX10_board_145 : decode cX10_board 145 = .ok (.getfield 35, 3) := dX10_board_124_a.2.2.2.2.2.2.2.2.2.2.2.1
theorem dX10_board_148 : decode cX10_board 148 = .ok (.iload_n 3, 1) := dX10_board_124_a.2.2.2.2.2.2.2.2.2.2.2.2.1
theorem dX10_board_149 : decode cX10_board 149 = .ok (.iconst 0, 1) := dX10_board_124_a.2.2.2.2.2.2.2.2.2.2.2.2.2.1
theorem dX10_board_150 : decode cX10_board 150 = .ok (.invokevirtual 72, 3) := dX10_board_124_a.2.2.2.2.2.2.2.2.2.2.2.2.2.2.1
theorem dX10_board_153 : decode cX10_board 153 = .ok (.putfield 73, 3) := dX10_board_124_a.2.2.2.2.2.2.2.2.2.2.2.2.2.2.2
theorem dX10_board_156_a : (decode cX10_board 156 = .ok (.aload_n 0, 1)) ∧ (decode cX10_board 157 = .ok (.getfield 18, 3)) ∧ (decode cX10_board 160 = .ok (.aload_n 0, 1)) ∧ (decode cX10_board 161 = .ok (.getfield 35, 3)) ∧ (decode cX10_board 164 = .ok (.iload_n 3, 1)) ∧ (decode cX10_board 165 = .ok (.iconst 1, 1)) ∧ (decode cX10_board 166 = .ok (.invokevirtual 72, 3)) ∧ (decode cX10_board 169 = .ok (.putfield 75, 3)) ∧ (decode cX10_board 172 = .ok (.aload_n 0, 1)) ∧ (decode cX10_board 173 = .ok (.aload_n 0, 1)) ∧ (decode cX10_board 174 = .ok (.aload_n 0, 1)) ∧ (decode cX10_board 175 = .ok (.getfield 27, 3)) ∧ (decode cX10_board 178 = .ok (.getfield 78, 3)) ∧ (decode cX10_board 181 = .ok (.iconst 1, 1)) ∧ (decode cX10_board 182 = .ok (.isub, 1)) ∧ (decode cX10_board 183 = .ok (.iconst 1, 1)) := by decide +kernel
theorem dX10_board_156 : decode cX10_board 156 = .ok (.aload_n 0, 1) := dX10_board_156_a.1
theorem dX10_board_157 : decode cX10_board 157 = .ok (.getfield 18, 3) := dX10_board_156_a.2.1
theorem dX10_board_160 : decode cX10_board 160 = .ok (.aload_n 0, 1) := dX10_board_156_a.2.2.1
theorem dX10_board_161 : decode cX10_board 161 = .ok (.getfield 35, 3) := dX10_board_156_a.2.2.2.1
theorem dX10_board_164 : decode cX10_board 164 = .ok (.iload_n 3, 1) := dX10_board_156_a.2.2.2.2.1
theorem dX10_board_165 : decode cX10_board 165 = .ok (.iconst 1, 1) := dX10_board_156_a.2.2.2.2.2.1
theorem dX10_board_166 : decode cX10_board 166 = .ok (.invokevirtual 72, 3) := dX10_board_156_a.2.2.2.2.2.2.1
theorem dX10_board_169 : decode cX10_board 169 = .ok (.putfield 75, 3) := dX10_board_156_a.2.2.2.2.2.2.2.1
theorem dX10_board_172 : decode cX10_board 172 = .ok (.aload_n 0, 1) := dX10_board_156_a.2.2.2.2.2.2.2.2.1
theorem dX10_board_173 : decode cX10_board 173 = .ok (.aload_n 0, 1) := dX10_board_156_a.2.2.2.2.2.2.2.2.2.1
theorem dX10_board_174 : decode cX10_board 174 = .ok (.aload_n 0, 1) := dX10_board_156_a.2.2.2.2.2.2.2.2.2.2.1
theorem dX10_board_175 : decode cX10_board 175 = .ok (.getfield 27, 3) := dX10_board_156_a.2.2.2.2.2.2.2.2.2.2.2.1
theorem dX10_board_178 : decode cX10_board 178 = .ok (.getfield 78, 3) := dX10_board_156_a.2.2.2.2.2.2.2.2.2.2.2.2.1
theorem dX10_board_181 : decode cX10_board 181 = .ok (.iconst 1, 1) := dX10_board_156_a.2.2.2.2.2.2.2.2.2.2.2.2.2.1
theorem dX10_board_182 : decode cX10_board 182 = .ok (.isub, 1) := dX10_board_156_a.2.2.2.2.2.2.2.2.2.2.2.2.2.2.1
theorem dX10_board_183 : decode cX10_board 183 = .ok (.iconst 1, 1) := dX10_board_156_a.2.2.2.2.2.2.2.2.2.2.2.2.2.2.2
theorem dX10_board_184_a : (decode cX10_board 184 = .ok (.invokevirtual 83, 3)) ∧ (decode cX10_board 187 = .ok (.putfield 52, 3)) ∧ (decode cX10_board 190 = .ok (.return_, 1)) := by decide +kernel
theorem dX10_board_184 : decode cX10_board 184 = .ok (.invokevirtual 83, 3) := dX10_board_184_a.1
theorem dX10_board_187 : decode cX10_board 187 = .ok (.putfield 52, 3) := dX10_board_184_a.2.1
theorem dX10_board_190 : decode cX10_board 190 = .ok (.return_, 1) := dX10_board_184_a.2.2
theorem dX10_flyGeese_0_a : (decode cX10_flyGeese 0 = .ok (.aload_n 0, 1)) ∧ (decode cX10_flyGeese 1 = .ok (.aload_n 0, 1)) ∧ (decode cX10_flyGeese 2 = .ok (.getfield 12, 3)) ∧ (decode cX10_flyGeese 5 = .ok (.putfield 21, 3)) ∧ (decode cX10_flyGeese 8 = .ok (.aload_n 0, 1)) ∧ (decode cX10_flyGeese 9 = .ok (.aload_n 0, 1)) ∧ (decode cX10_flyGeese 10 = .ok (.getfield 18, 3)) ∧ (decode cX10_flyGeese 13 = .ok (.putfield 24, 3)) ∧ (decode cX10_flyGeese 16 = .ok (.aload_n 0, 1)) ∧ (decode cX10_flyGeese 17 = .ok (.getfield 21, 3)) ∧ (decode cX10_flyGeese 20 = .ok (.invokevirtual 87, 3)) ∧ (decode cX10_flyGeese 23 = .ok (.aload_n 0, 1)) ∧ (decode cX10_flyGeese 24 = .ok (.getfield 24, 3)) ∧ (decode cX10_flyGeese 27 = .ok (.invokevirtual 87, 3)) ∧ (decode cX10_flyGeese 30 = .ok (.iconst 0, 1)) ∧ (decode cX10_flyGeese 31 = .ok (.istore_n 3, 1)) := by decide +kernel
theorem dX10_flyGeese_0 : decode cX10_flyGeese 0 = .ok (.aload_n 0, 1) := dX10_flyGeese_0_a.1
theorem dX10_flyGeese_1 : decode cX10_flyGeese 1 = .ok (.aload_n 0, 1) := dX10_flyGeese_0_a.2.1
theorem dX10_flyGeese_2 : decode cX10_flyGeese 2 = .ok (.getfield 12, 3) := dX10_flyGeese_0_a.2.2.1
theorem dX10_flyGeese_5 : decode cX10_flyGeese 5 = .ok (.putfield 21, 3) := dX10_flyGeese_0_a.2.2.2.1
theorem dX10_flyGeese_8 : decode cX10_flyGeese 8 = .ok (.aload_n 0, 1) := dX10_flyGeese_0_a.2.2.2.2.1
theorem dX10_flyGeese_9 : decode cX10_flyGeese 9 = .ok (.aload_n 0, 1) := dX10_flyGeese_0_a.2.2.2.2.2.1
theorem dX10_flyGeese_10 : decode cX10_flyGeese 10 = .ok (.getfield 18, 3) := dX10_flyGeese_0_a.2.2.2.2.2.2.1
theorem dX10_flyGeese_13 : decode cX10_flyGeese 13 = .ok (.putfield 24, 3) := dX10_flyGeese_0_a.2.2.2.2.2.2.2.1
theorem dX10_flyGeese_16 : decode cX10_flyGeese 16 = .ok (.aload_n 0, 1) := dX10_flyGeese_0_a.2.2.2.2.2.2.2.2.1
theorem dX10_flyGeese_17 : decode cX10_flyGeese 17 = .ok (.getfield 21, 3) := dX10_flyGeese_0_a.2.2.2.2.2.2.2.2.2.1
theorem dX10_flyGeese_20 : decode cX10_flyGeese 20 = .ok (.invokevirtual 87, 3) := dX10_flyGeese_0_a.2.2.2.2.2.2.2.2.2.2.1
theorem dX10_flyGeese_23 : decode cX10_flyGeese 23 = .ok (.aload_n 0, 1) := dX10_flyGeese_0_a.2.2.2.2.2.2.2.2.2.2.2.1
theorem dX10_flyGeese_24 : decode cX10_flyGeese 24 = .ok (.getfield 24, 3) := dX10_flyGeese_0_a.2.2.2.2.2.2.2.2.2.2.2.2.1
theorem dX10_flyGeese_27 : decode cX10_flyGeese 27 = .ok (.invokevirtual 87, 3) := dX10_flyGeese_0_a.2.2.2.2.2.2.2.2.2.2.2.2.2.1
theorem dX10_flyGeese_30 : decode cX10_flyGeese 30 = .ok (.iconst 0, 1) := dX10_flyGeese_0_a.2.2.2.2.2.2.2.2.2.2.2.2.2.2.1
theorem dX10_flyGeese_31 : decode cX10_flyGeese 31 = .ok (.istore_n 3, 1) := dX10_flyGeese_0_a.2.2.2.2.2.2.2.2.2.2.2.2.2.2.2
theorem dX10_flyGeese_32_a : (decode cX10_flyGeese 32 = .ok (.iload_n 3, 1)) ∧ (decode cX10_flyGeese 33 = .ok (.iload_n 1, 1)) ∧ (decode cX10_flyGeese 34 = .ok (.if_icmp .gt 126, 3)) ∧ (decode cX10_flyGeese 37 = .ok (.aload_n 0, 1)) ∧ (decode cX10_flyGeese 38 = .ok (.getfield 27, 3)) ∧ (decode cX10_flyGeese 41 = .ok (.iload_n 3, 1)) ∧ (decode cX10_flyGeese 42 = .ok (.invokevirtual 90, 3)) ∧ (decode cX10_flyGeese 45 = .ok (.istore 4, 2)) ∧ (decode cX10_flyGeese 47 = .ok (.iload 4, 2)) ∧ (decode cX10_flyGeese 49 = .ok (.bipush 8, 2)) ∧ (decode cX10_flyGeese 51 = .ok (.if_icmp .ne 23, 3)) ∧ (decode cX10_flyGeese 54 = .ok (.aload_n 0, 1)) ∧ (decode cX10_flyGeese 55 = .ok (.getfield 21, 3)) ∧ (decode cX10_flyGeese 58 = .ok (.astore 5, 2)) ∧ (decode cX10_flyGeese 60 = .ok (.aload_n 0, 1)) ∧ (decode cX10_flyGeese 61 = .ok (.aload_n 0, 1)) := by decide +kernel
theorem dX10_flyGeese_32 : decode cX10_flyGeese 32 = .ok (.iload_n 3, 1) := dX10_flyGeese_32_a.1
theorem dX10_flyGeese_33 : decode cX10_flyGeese 33 = .ok (.iload_n 1, 1) := dX10_flyGeese_32_a.2.1
theorem dX10_flyGeese_34 : decode cX10_flyGeese 34 = .ok (.if_icmp .gt 126, 3) := dX10_flyGeese_32_a.2.2.1
theorem dX10_flyGeese_37 : decode cX10_flyGeese 37 = .ok (.aload_n 0, 1) := dX10_flyGeese_32_a.2.2.2.1
theorem dX10_flyGeese_38 : decode cX10_flyGeese 38 = .ok (.getfield 27, 3) := dX10_flyGeese_32_a.2.2.2.2.1
theorem dX10_flyGeese_41 : decode cX10_flyGeese 41 = .ok (.iload_n 3, 1) := dX10_flyGeese_32_a.2.2.2.2.2.1
theorem dX10_flyGeese_42 : decode cX10_flyGeese 42 = .ok (.invokevirtual 90, 3) := dX10_flyGeese_32_a.2.2.2.2.2.2.1
theorem dX10_flyGeese_45 : decode cX10_flyGeese 45 = .ok (.istore 4, 2) := dX10_flyGeese_32_a.2.2.2.2.2.2.2.1
theorem dX10_flyGeese_47 : decode cX10_flyGeese 47 = .ok (.iload 4, 2) := dX10_flyGeese_32_a.2.2.2.2.2.2.2.2.1
theorem dX10_flyGeese_49 : decode cX10_flyGeese 49 = .ok (.bipush 8, 2) := dX10_flyGeese_32_a.2.2.2.2.2.2.2.2.2.1
theorem dX10_flyGeese_51 : decode cX10_flyGeese 51 = .ok (.if_icmp .ne 23, 3) := dX10_flyGeese_32_a.2.2.2.2.2.2.2.2.2.2.1
theorem dX10_flyGeese_54 : decode cX10_flyGeese 54 = .ok (.aload_n 0, 1) := dX10_flyGeese_32_a.2.2.2.2.2.2.2.2.2.2.2.1
theorem dX10_flyGeese_55 : decode cX10_flyGeese 55 = .ok (.getfield 21, 3) := dX10_flyGeese_32_a.2.2.2.2.2.2.2.2.2.2.2.2.1
theorem dX10_flyGeese_58 : decode cX10_flyGeese 58 = .ok (.astore 5, 2) := dX10_flyGeese_32_a.2.2.2.2.2.2.2.2.2.2.2.2.2.1
theorem dX10_flyGeese_60 : decode cX10_flyGeese 60 = .ok (.aload_n 0, 1) := dX10_flyGeese_32_a.2.2.2.2.2.2.2.2.2.2.2.2.2.2.1
theorem dX10_flyGeese_61 : decode cX10_flyGeese 61 = .ok (.aload_n 0, 1) := dX10_flyGeese_32_a.2.2.2.2.2.2.2.2.2.2.2.2.2.2.2
theorem dX10_flyGeese_62_a : (decode cX10_flyGeese 62 = .ok (.getfield 24, 3)) ∧ (decode cX10_flyGeese 65 = .ok (.putfield 21, 3)) ∧ (decode cX10_flyGeese 68 = .ok (.aload_n 0, 1)) ∧ (decode cX10_flyGeese 69 = .ok (.aload 5, 2)) ∧ (decode cX10_flyGeese 71 = .ok (.putfield 24, 3)) ∧ (decode cX10_flyGeese 74 = .ok (.aload_n 0, 1)) ∧ (decode cX10_flyGeese 75 = .ok (.getfield 21, 3)) ∧ (decode cX10_flyGeese 78 = .ok (.invokevirtual 94, 3)) ∧ (decode cX10_flyGeese 81 = .ok (.aload_n 0, 1)) ∧ (decode cX10_flyGeese 82 = .ok (.getfield 24, 3)) ∧ (decode cX10_flyGeese 85 = .ok (.invokevirtual 94, 3)) ∧ (decode cX10_flyGeese 88 = .ok (.aload_n 0, 1)) ∧ (decode cX10_flyGeese 89 = .ok (.getfield 21, 3)) ∧ (decode cX10_flyGeese 92 = .ok (.getfield 97, 3)) ∧ (decode cX10_flyGeese 95 = .ok (.aload_n 0, 1)) ∧ (decode cX10_flyGeese 96 = .ok (.getfield 69, 3)) := by decide +kernel
theorem dX10_flyGeese_62 : decode cX10_flyGeese 62 = .ok (.getfield 24, 3) := dX10_flyGeese_62_a.1
theorem dX10_flyGeese_65 : decode cX10_flyGeese 65 = .ok (.putfield 21, 3) := dX10_flyGeese_62_a.2.1
theorem dX10_flyGeese_68 : decode cX10_flyGeese 68 = .ok (.aload_n 0, 1) := dX10_flyGeese_62_a.2.2.1
theorem dX10_flyGeese_69 : decode cX10_flyGeese 69 = .ok (.aload 5, 2) := dX10_flyGeese_62_a.2.2.2.1
theorem dX10_flyGeese_71 : decode cX10_flyGeese 71 = .ok (.putfield 24, 3) := dX10_flyGeese_62_a.2.2.2.2.1
theorem dX10_flyGeese_74 : decode cX10_flyGeese 74 = .ok (.aload_n 0, 1) := dX10_flyGeese_62_a.2.2.2.2.2.1
theorem dX10_flyGeese_75 : decode cX10_flyGeese 75 = .ok (.getfield 21, 3) := dX10_flyGeese_62_a.2.2.2.2.2.2.1
theorem dX10_flyGeese_78 : decode cX10_flyGeese 78 = .ok (.invokevirtual 94, 3) := dX10_flyGeese_62_a.2.2.2.2.2.2.2.1
theorem dX10_flyGeese_81 : decode cX10_flyGeese 81 = .ok (.aload_n 0, 1) := dX10_flyGeese_62_a.2.2.2.2.2.2.2.2.1
theorem dX10_flyGeese_82 : decode cX10_flyGeese 82 = .ok (.getfield 24, 3) := dX10_flyGeese_62_a.2.2.2.2.2.2.2.2.2.1
theorem dX10_flyGeese_85 : decode cX10_flyGeese 85 = .ok (.invokevirtual 94, 3) := dX10_flyGeese_62_a.2.2.2.2.2.2.2.2.2.2.1
theorem dX10_flyGeese_88 : decode cX10_flyGeese 88 = .ok (.aload_n 0, 1) := dX10_flyGeese_62_a.2.2.2.2.2.2.2.2.2.2.2.1
theorem dX10_flyGeese_89 : decode cX10_flyGeese 89 = .ok (.getfield 21, 3) := dX10_flyGeese_62_a.2.2.2.2.2.2.2.2.2.2.2.2.1
theorem dX10_flyGeese_92 : decode cX10_flyGeese 92 = .ok (.getfield 97, 3) := dX10_flyGeese_62_a.2.2.2.2.2.2.2.2.2.2.2.2.2.1
theorem dX10_flyGeese_95 : decode cX10_flyGeese 95 = .ok (.aload_n 0, 1) := dX10_flyGeese_62_a.2.2.2.2.2.2.2.2.2.2.2.2.2.2.1
theorem dX10_flyGeese_96 : decode cX10_flyGeese 96 = .ok (.getfield 69, 3) := dX10_flyGeese_62_a.2.2.2.2.2.2.2.2.2.2.2.2.2.2.2
theorem dX10_flyGeese_99_a : (decode cX10_flyGeese 99 = .ok (.iconst 1, 1)) ∧ (decode cX10_flyGeese 100 = .ok (.iadd, 1)) ∧ (decode cX10_flyGeese 101 = .ok (.iconst 2, 1)) ∧ (decode cX10_flyGeese 102 = .ok (.idiv, 1)) ∧ (decode cX10_flyGeese 103 = .ok (.if_icmp .lt 19, 3)) ∧ (decode cX10_flyGeese 106 = .ok (.aload_n 0, 1)) ∧ (decode cX10_flyGeese 107 = .ok (.getfield 24, 3)) ∧ (decode cX10_flyGeese 110 = .ok (.getfield 97, 3)) ∧ (decode cX10_flyGeese 113 = .ok (.aload_n 0, 1)) ∧ (decode cX10_flyGeese 114 = .ok (.getfield 69, 3)) ∧ (decode cX10_flyGeese 117 = .ok (.iconst 2, 1)) ∧ (decode cX10_flyGeese 118 = .ok (.idiv, 1)) ∧ (decode cX10_flyGeese 119 = .ok (.if_icmp .ge 5, 3)) ∧ (decode cX10_flyGeese 122 = .ok (.iload_n 3, 1)) ∧ (decode cX10_flyGeese 123 = .ok (.ireturn, 1)) ∧ (decode cX10_flyGeese 124 = .ok (.iload 4, 2)) := by decide +kernel
theorem dX10_flyGeese_99 : decode cX10_flyGeese 99 = .ok (.iconst 1, 1) := dX10_flyGeese_99_a.1
theorem dX10_flyGeese_100 : decode cX10_flyGeese 100 = .ok (.iadd, 1) := dX10_flyGeese_99_a.2.1
theorem dX10_flyGeese_101 : decode cX10_flyGeese 101 = .ok (.iconst 2, 1) := dX10_flyGeese_99_a.2.2.1
theorem dX10_flyGeese_102 : decode cX10_flyGeese 102 = .ok (.idiv, 1) := dX10_flyGeese_99_a.2.2.2.1
theorem dX10_flyGeese_103 : decode cX10_flyGeese 103 = .ok (.if_icmp .lt 19, 3) := dX10_flyGeese_99_a.2.2.2.2.1
theorem dX10_flyGeese_106 : decode cX10_flyGeese 106 = .ok (.aload_n 0, 1) := dX10_flyGeese_99_a.2.2.2.2.2.1
