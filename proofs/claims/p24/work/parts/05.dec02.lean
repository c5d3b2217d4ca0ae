theorem dX11_get_24 : decode cX11_get 24 = .ok (.invokevirtual 237, 3) := dX11_get_0_a.2.2.2.2.2.2.2.2.2.2.2.2.2.1
theorem dX11_get_27 : decode cX11_get 27 = .ok (.ifCond .eq 6, 3) := dX11_get_0_a.2.2.2.2.2.2.2.2.2.2.2.2.2.2.1
theorem dX11_get_30 : decode cX11_get 30 = .ok (.ldc 244, 2) := dX11_get_0_a.2.2.2.2.2.2.2.2.2.2.2.2.2.2.2
theorem dX11_get_32_a : (decode cX11_get 32 = .ok (.ireturn, 1)) ∧ (decode cX11_get 33 = .ok (.aload 4, 2)) ∧ (decode cX11_get 35 = .ok (.iload_n 3, 1)) ∧ (decode cX11_get 36 = .ok (.invokevirtual 143, 3)) ∧ (decode cX11_get 39 = .ok (.ireturn, 1)) := by decide +kernel
theorem dX11_get_32 : decode cX11_get 32 = .ok (.ireturn, 1) := dX11_get_32_a.1
theorem dX11_get_33 : decode cX11_get 33 = .ok (.aload 4, 2) := dX11_get_32_a.2.1
theorem dX11_get_35 : decode cX11_get 35 = .ok (.iload_n 3, 1) := dX11_get_32_a.2.2.1
theorem dX11_get_36 : decode cX11_get 36 = .ok (.invokevirtual 143, 3) := dX11_get_32_a.2.2.2.1
theorem dX11_get_39 : decode cX11_get 39 = .ok (.ireturn, 1) := dX11_get_32_a.2.2.2.2
theorem dX11_copy_0_a : (decode cX11_copy 0 = .ok (.aload_n 0, 1)) ∧ (decode cX11_copy 1 = .ok (.iload_n 1, 1)) ∧ (decode cX11_copy 2 = .ok (.invokevirtual 129, 3)) ∧ (decode cX11_copy 5 = .ok (.astore 6, 2)) ∧ (decode cX11_copy 7 = .ok (.aload_n 0, 1)) ∧ (decode cX11_copy 8 = .ok (.iload_n 3, 1)) ∧ (decode cX11_copy 9 = .ok (.invokevirtual 129, 3)) ∧ (decode cX11_copy 12 = .ok (.astore 7, 2)) ∧ (decode cX11_copy 14 = .ok (.aload 6, 2)) ∧ (decode cX11_copy 16 = .ok (.ifnull 8, 3)) ∧ (decode cX11_copy 19 = .ok (.aload 7, 2)) ∧ (decode cX11_copy 21 = .ok (.ifnonnull 6, 3)) ∧ (decode cX11_copy 24 = .ok (.bipush (-2), 2)) ∧ (decode cX11_copy 26 = .ok (.ireturn, 1)) ∧ (decode cX11_copy 27 = .ok (.aload 6, 2)) ∧ (decode cX11_copy 29 = .ok (.getfield 133, 3)) := by decide +kernel
theorem dX11_copy_0 : decode cX11_copy 0 = .ok (.aload_n 0, 1) := dX11_copy_0_a.1
theorem dX11_copy_1 : decode cX11_copy 1 = .ok (.iload_n 1, 1) := dX11_copy_0_a.2.1
theorem dX11_copy_2 : decode cX11_copy 2 = .ok (.invokevirtual 129, 3) := dX11_copy_0_a.2.2.1
theorem dX11_copy_5 : decode cX11_copy 5 = .ok (.astore 6, 2) := dX11_copy_0_a.2.2.2.1
theorem dX11_copy_7 : decode cX11_copy 7 = .ok (.aload_n 0, 1) := dX11_copy_0_a.2.2.2.2.1
theorem dX11_copy_8 : decode cX11_copy 8 = .ok (.iload_n 3, 1) := dX11_copy_0_a.2.2.2.2.2.1
theorem dX11_copy_9 : decode cX11_copy 9 = .ok (.invokevirtual 129, 3) := dX11_copy_0_a.2.2.2.2.2.2.1
theorem dX11_copy_12 : decode cX11_copy 12 = .ok (.astore 7, 2) := dX11_copy_0_a.2.2.2.2.2.2.2.1
theorem dX11_copy_14 : decode cX11_copy 14 = .ok (.aload 6, 2) := dX11_copy_0_a.2.2.2.2.2.2.2.2.1
theorem dX11_copy_16 : decode cX11_copy 16 = .ok (.ifnull 8, 3) := dX11_copy_0_a.2.2.2.2.2.2.2.2.2.1
theorem dX11_copy_19 : decode cX11_copy 19 = .ok (.aload 7, 2) := dX11_copy_0_a.2.2.2.2.2.2.2.2.2.2.1
theorem dX11_copy_21 : decode cX11_copy 21 = .ok (.ifnonnull 6, 3) := dX11_copy_0_a.2.2.2.2.2.2.2.2.2.2.2.1
theorem dX11_copy_24 : decode cX11_copy 24 = .ok (.bipush (-2), 2) := dX11_copy_0_a.2.2.2.2.2.2.2.2.2.2.2.2.1
theorem dX11_copy_26 : decode cX11_copy 26 = .ok (.ireturn, 1) := dX11_copy_0_a.2.2.2.2.2.2.2.2.2.2.2.2.2.1
theorem dX11_copy_27 : decode cX11_copy 27 = .ok (.aload 6, 2) := dX11_copy_0_a.2.2.2.2.2.2.2.2.2.2.2.2.2.2.1
theorem dX11_copy_29 : decode cX11_copy 29 = .ok (.getfield 133, 3) := dX11_copy_0_a.2.2.2.2.2.2.2.2.2.2.2.2.2.2.2
theorem dX11_copy_32_a : (decode cX11_copy 32 = .ok (.ifCond .ne 11, 3)) ∧ (decode cX11_copy 35 = .ok (.aload 7, 2)) ∧ (decode cX11_copy 37 = .ok (.getfield 133, 3)) ∧ (decode cX11_copy 40 = .ok (.ifCond .eq 9, 3)) ∧ (decode cX11_copy 43 = .ok (.aload_n 0, 1)) ∧ (decode cX11_copy 44 = .ok (.iconst 1, 1)) ∧ (decode cX11_copy 45 = .ok (.invokevirtual 137, 3)) ∧ (decode cX11_copy 48 = .ok (.ireturn, 1)) ∧ (decode cX11_copy 49 = .ok (.aload 6, 2)) ∧ (decode cX11_copy 51 = .ok (.getfield 245, 3)) ∧ (decode cX11_copy 54 = .ok (.aload 7, 2)) ∧ (decode cX11_copy 56 = .ok (.getfield 245, 3)) ∧ (decode cX11_copy 59 = .ok (.if_icmp .eq 9, 3)) ∧ (decode cX11_copy 62 = .ok (.aload_n 0, 1)) ∧ (decode cX11_copy 63 = .ok (.iconst 4, 1)) ∧ (decode cX11_copy 64 = .ok (.invokevirtual 137, 3)) := by decide +kernel
theorem dX11_copy_32 : decode cX11_copy 32 = .ok (.ifCond .ne 11, 3) := dX11_copy_32_a.1
theorem dX11_copy_35 : decode cX11_copy 35 = .ok (.aload 7, 2) := dX11_copy_32_a.2.1
theorem dX11_copy_37 : decode cX11_copy 37 = .ok (.getfield 133, 3) := dX11_copy_32_a.2.2.1
theorem dX11_copy_40 : decode cX11_copy 40 = .ok (.ifCond .eq 9, 3) := dX11_copy_32_a.2.2.2.1
theorem dX11_copy_43 : decode cX11_copy 43 = .ok (.aload_n 0, 1) := dX11_copy_32_a.2.2.2.2.1
theorem dX11_copy_44 : decode cX11_copy 44 = .ok (.iconst 1, 1) := dX11_copy_32_a.2.2.2.2.2.1
theorem dX11_copy_45 : decode cX11_copy 45 = .ok (.invokevirtual 137, 3) := dX11_copy_32_a.2.2.2.2.2.2.1
theorem dX11_copy_48 : decode cX11_copy 48 = .ok (.ireturn, 1) := dX11_copy_32_a.2.2.2.2.2.2.2.1
theorem dX11_copy_49 : decode cX11_copy 49 = .ok (.aload 6, 2) := dX11_copy_32_a.2.2.2.2.2.2.2.2.1
theorem dX11_copy_51 : decode cX11_copy 51 = .ok (.getfield 245, 3) := dX11_copy_32_a.2.2.2.2.2.2.2.2.2.1
theorem dX11_copy_54 : decode cX11_copy 54 = .ok (.aload 7, 2) := dX11_copy_32_a.2.2.2.2.2.2.2.2.2.2.1
theorem dX11_copy_56 : decode cX11_copy 56 = .ok (.getfield 245, 3) := dX11_copy_32_a.2.2.2.2.2.2.2.2.2.2.2.1
theorem dX11_copy_59 : decode cX11_copy 59 = .ok (.if_icmp .eq 9, 3) := dX11_copy_32_a.2.2.2.2.2.2.2.2.2.2.2.2.1
theorem dX11_copy_62 : decode cX11_copy 62 = .ok (.aload_n 0, 1) := dX11_copy_32_a.2.2.2.2.2.2.2.2.2.2.2.2.2.1
theorem dX11_copy_63 : decode cX11_copy 63 = .ok (.iconst 4, 1) := dX11_copy_32_a.2.2.2.2.2.2.2.2.2.2.2.2.2.2.1
theorem dX11_copy_64 : decode cX11_copy 64 = .ok (.invokevirtual 137, 3) := dX11_copy_32_a.2.2.2.2.2.2.2.2.2.2.2.2.2.2.2
theorem dX11_copy_67_a : (decode cX11_copy 67 = .ok (.ireturn, 1)) ∧ (decode cX11_copy 68 = .ok (.aload 6, 2)) ∧ (decode cX11_copy 70 = .ok (.iload_n 2, 1)) ∧ (decode cX11_copy 71 = .ok (.iload 5, 2)) ∧ (decode cX11_copy 73 = .ok (.invokevirtual 248, 3)) ∧ (decode cX11_copy 76 = .ok (.ifCond .eq 15, 3)) ∧ (decode cX11_copy 79 = .ok (.aload 7, 2)) ∧ (decode cX11_copy 81 = .ok (.iload 4, 2)) ∧ (decode cX11_copy 83 = .ok (.iload 5, 2)) ∧ (decode cX11_copy 85 = .ok (.invokevirtual 248, 3)) ∧ (decode cX11_copy 88 = .ok (.ifCond .ne 9, 3)) ∧ (decode cX11_copy 91 = .ok (.aload_n 0, 1)) ∧ (decode cX11_copy 92 = .ok (.iconst 2, 1)) ∧ (decode cX11_copy 93 = .ok (.invokevirtual 137, 3)) ∧ (decode cX11_copy 96 = .ok (.ireturn, 1)) ∧ (decode cX11_copy 97 = .ok (.aload 6, 2)) := by decide +kernel
theorem dX11_copy_67 : decode cX11_copy 67 = .ok (.ireturn, 1) := dX11_copy_67_a.1
theorem dX11_copy_68 : decode cX11_copy 68 = .ok (.aload 6, 2) := dX11_copy_67_a.2.1
theorem dX11_copy_70 : decode cX11_copy 70 = .ok (.iload_n 2, 1) := dX11_copy_67_a.2.2.1
theorem dX11_copy_71 : decode cX11_copy 71 = .ok (.iload 5, 2) := dX11_copy_67_a.2.2.2.1
theorem dX11_copy_73 : decode cX11_copy 73 = .ok (.invokevirtual 248, 3) := dX11_copy_67_a.2.2.2.2.1
theorem dX11_copy_76 : decode cX11_copy 76 = .ok (.ifCond .eq 15, 3) := dX11_copy_67_a.2.2.2.2.2.1
theorem dX11_copy_79 : decode cX11_copy 79 = .ok (.aload 7, 2) := dX11_copy_67_a.2.2.2.2.2.2.1
theorem dX11_copy_81 : decode cX11_copy 81 = .ok (.iload 4, 2) := dX11_copy_67_a.2.2.2.2.2.2.2.1
theorem dX11_copy_83 : decode cX11_copy 83 = .ok (.iload 5, 2) := dX11_copy_67_a.2.2.2.2.2.2.2.2.1
theorem dX11_copy_85 : decode cX11_copy 85 = .ok (.invokevirtual 248, 3) := dX11_copy_67_a.2.2.2.2.2.2.2.2.2.1
theorem dX11_copy_88 : decode cX11_copy 88 = .ok (.ifCond .ne 9, 3) := dX11_copy_67_a.2.2.2.2.2.2.2.2.2.2.1
theorem dX11_copy_91 : decode cX11_copy 91 = .ok (.aload_n 0, 1) := dX11_copy_67_a.2.2.2.2.2.2.2.2.2.2.2.1
theorem dX11_copy_92 : decode cX11_copy 92 = .ok (.iconst 2, 1) := dX11_copy_67_a.2.2.2.2.2.2.2.2.2.2.2.2.1
theorem dX11_copy_93 : decode cX11_copy 93 = .ok (.invokevirtual 137, 3) := dX11_copy_67_a.2.2.2.2.2.2.2.2.2.2.2.2.2.1
theorem dX11_copy_96 : decode cX11_copy 96 = .ok (.ireturn, 1) := dX11_copy_67_a.2.2.2.2.2.2.2.2.2.2.2.2.2.2.1
theorem dX11_copy_97 : decode cX11_copy 97 = .ok (.aload 6, 2) := dX11_copy_67_a.2.2.2.2.2.2.2.2.2.2.2.2.2.2.2
theorem dX11_copy_99_a : (decode cX11_copy 99 = .ok (.getfield 252, 3)) ∧ (decode cX11_copy 102 = .ok (.iload_n 2, 1)) ∧ (decode cX11_copy 103 = .ok (.aload 7, 2)) ∧ (decode cX11_copy 105 = .ok (.getfield 252, 3)) ∧ (decode cX11_copy 108 = .ok (.iload 4, 2)) ∧ (decode cX11_copy 110 = .ok (.iload 5, 2)) ∧ (decode cX11_copy 112 = .ok (.invokestatic 255, 3)) ∧ (decode cX11_copy 115 = .ok (.iconst 1, 1)) ∧ (decode cX11_copy 116 = .ok (.ireturn, 1)) := by decide +kernel
theorem dX11_copy_99 : decode cX11_copy 99 = .ok (.getfield 252, 3) := dX11_copy_99_a.1
theorem dX11_copy_102 : decode cX11_copy 102 = .ok (.iload_n 2, 1) := dX11_copy_99_a.2.1
theorem dX11_copy_103 : decode cX11_copy 103 = .ok (.aload 7, 2) := dX11_copy_99_a.2.2.1
theorem dX11_copy_105 : decode cX11_copy 105 = .ok (.getfield 252, 3) := dX11_copy_99_a.2.2.2.1
theorem dX11_copy_108 : decode cX11_copy 108 = .ok (.iload 4, 2) := dX11_copy_99_a.2.2.2.2.1
theorem dX11_copy_110 : decode cX11_copy 110 = .ok (.iload 5, 2) := dX11_copy_99_a.2.2.2.2.2.1
theorem dX11_copy_112 : decode cX11_copy 112 = .ok (.invokestatic 255, 3) := dX11_copy_99_a.2.2.2.2.2.2.1
theorem dX11_copy_115 : decode cX11_copy 115 = .ok (.iconst 1, 1) := dX11_copy_99_a.2.2.2.2.2.2.2.1
theorem dX11_copy_116 : decode cX11_copy 116 = .ok (.ireturn, 1) := dX11_copy_99_a.2.2.2.2.2.2.2.2
theorem dX11_write_0_a : (decode cX11_write 0 = .ok (.aload_n 0, 1)) ∧ (decode cX11_write 1 = .ok (.iload_n 3, 1)) ∧ (decode cX11_write 2 = .ok (.invokevirtual 129, 3)) ∧ (decode cX11_write 5 = .ok (.astore 4, 2)) ∧ (decode cX11_write 7 = .ok (.aload_n 0, 1)) ∧ (decode cX11_write 8 = .ok (.getfield 33, 3)) ∧ (decode cX11_write 11 = .ok (.iload_n 1, 1)) ∧ (decode cX11_write 12 = .ok (.invokevirtual 149, 3)) ∧ (decode cX11_write 15 = .ok (.ifCond .eq 17, 3)) ∧ (decode cX11_write 18 = .ok (.iload_n 2, 1)) ∧ (decode cX11_write 19 = .ok (.ifCond .lt 13, 3)) ∧ (decode cX11_write 22 = .ok (.iload_n 2, 1)) ∧ (decode cX11_write 23 = .ok (.iconst 1, 1)) ∧ (decode cX11_write 24 = .ok (.if_icmp .gt 8, 3)) ∧ (decode cX11_write 27 = .ok (.aload 4, 2)) ∧ (decode cX11_write 29 = .ok (.ifnonnull 6, 3)) := by decide +kernel
theorem dX11_write_0 : decode cX11_write 0 = .ok (.aload_n 0, 1) := dX11_write_0_a.1
theorem dX11_write_1 : decode cX11_write 1 = .ok (.iload_n 3, 1) := dX11_write_0_a.2.1
theorem dX11_write_2 : decode cX11_write 2 = .ok (.invokevirtual 129, 3) := dX11_write_0_a.2.2.1
theorem dX11_write_5 : decode cX11_write 5 = .ok (.astore 4, 2) := dX11_write_0_a.2.2.2.1
theorem dX11_write_7 : decode cX11_write 7 = .ok (.aload_n 0, 1) := dX11_write_0_a.2.2.2.2.1
theorem dX11_write_8 : decode cX11_write 8 = .ok (.getfield 33, 3) := dX11_write_0_a.2.2.2.2.2.1
theorem dX11_write_11 : decode cX11_write 11 = .ok (.iload_n 1, 1) := dX11_write_0_a.2.2.2.2.2.2.1
theorem dX11_write_12 : decode cX11_write 12 = .ok (.invokevirtual 149, 3) := dX11_write_0_a.2.2.2.2.2.2.2.1
theorem dX11_write_15 : decode cX11_write 15 = .ok (.ifCond .eq 17, 3) := dX11_write_0_a.2.2.2.2.2.2.2.2.1
theorem dX11_write_18 : decode cX11_write 18 = .ok (.iload_n 2, 1) := dX11_write_0_a.2.2.2.2.2.2.2.2.2.1
theorem dX11_write_19 : decode cX11_write 19 = .ok (.ifCond .lt 13, 3) := dX11_write_0_a.2.2.2.2.2.2.2.2.2.2.1
theorem dX11_write_22 : decode cX11_write 22 = .ok (.iload_n 2, 1) := dX11_write_0_a.2.2.2.2.2.2.2.2.2.2.2.1
theorem dX11_write_23 : decode cX11_write 23 = .ok (.iconst 1, 1) := dX11_write_0_a.2.2.2.2.2.2.2.2.2.2.2.2.1
theorem dX11_write_24 : decode cX11_write 24 = .ok (.if_icmp .gt 8, 3) := dX11_write_0_a.2.2.2.2.2.2.2.2.2.2.2.2.2.1
theorem dX11_write_27 : decode cX11_write 27 = .ok (.aload 4, 2) := dX11_write_0_a.2.2.2.2.2.2.2.2.2.2.2.2.2.2.1
theorem dX11_write_29 : decode cX11_write 29 = .ok (.ifnonnull 6, 3) := dX11_write_0_a.2.2.2.2.2.2.2.2.2.2.2.2.2.2.2
theorem dX11_write_32_a : (decode cX11_write 32 = .ok (.bipush (-2), 2)) ∧ (decode cX11_write 34 = .ok (.ireturn, 1)) ∧ (decode cX11_write 35 = .ok (.aload 4, 2)) ∧ (decode cX11_write 37 = .ok (.getfield 133, 3)) ∧ (decode cX11_write 40 = .ok (.ifCond .eq 9, 3)) ∧ (decode cX11_write 43 = .ok (.aload_n 0, 1)) ∧ (decode cX11_write 44 = .ok (.iconst 1, 1)) ∧ (decode cX11_write 45 = .ok (.invokevirtual 137, 3)) ∧ (decode cX11_write 48 = .ok (.ireturn, 1)) ∧ (decode cX11_write 49 = .ok (.aload_n 0, 1)) ∧ (decode cX11_write 50 = .ok (.iload_n 1, 1)) ∧ (decode cX11_write 51 = .ok (.invokevirtual 150, 3)) ∧ (decode cX11_write 54 = .ok (.aload 4, 2)) ∧ (decode cX11_write 56 = .ok (.getfield 140, 3)) ∧ (decode cX11_write 59 = .ok (.aload_n 0, 1)) ∧ (decode cX11_write 60 = .ok (.getfield 10, 3)) := by decide +kernel
theorem dX11_write_32 : decode cX11_write 32 = .ok (.bipush (-2), 2) := dX11_write_32_a.1
theorem dX11_write_34 : decode cX11_write 34 = .ok (.ireturn, 1) := dX11_write_32_a.2.1
theorem dX11_write_35 : decode cX11_write 35 = .ok (.aload 4, 2) := dX11_write_32_a.2.2.1
theorem dX11_write_37 : decode cX11_write 37 = .ok (.getfield 133, 3) := dX11_write_32_a.2.2.2.1
theorem dX11_write_40 : decode cX11_write 40 = .ok (.ifCond .eq 9, 3) := dX11_write_32_a.2.2.2.2.1
theorem dX11_write_43 : decode cX11_write 43 = .ok (.aload_n 0, 1) := dX11_write_32_a.2.2.2.2.2.1
theorem dX11_write_44 : decode cX11_write 44 = .ok (.iconst 1, 1) := dX11_write_32_a.2.2.2.2.2.2.1
theorem dX11_write_45 : decode cX11_write 45 = .ok (.invokevirtual 137, 3) := dX11_write_32_a.2.2.2.2.2.2.2.1
theorem dX11_write_48 : decode cX11_write 48 = .ok (.ireturn, 1) := dX11_write_32_a.2.2.2.2.2.2.2.2.1
theorem dX11_write_49 : decode cX11_write 49 = .ok (.aload_n 0, 1) := dX11_write_32_a.2.2.2.2.2.2.2.2.2.1
theorem dX11_write_50 : decode cX11_write 50 = .ok (.iload_n 1, 1) := dX11_write_32_a.2.2.2.2.2.2.2.2.2.2.1
theorem dX11_write_51 : decode cX11_write 51 = .ok (.invokevirtual 150, 3) := dX11_write_32_a.2.2.2.2.2.2.2.2.2.2.2.1
theorem dX11_write_54 : decode cX11_write 54 = .ok (.aload 4, 2) := dX11_write_32_a.2.2.2.2.2.2.2.2.2.2.2.2.1
theorem dX11_write_56 : decode cX11_write 56 = .ok (.getfield 140, 3) := dX11_write_32_a.2.2.2.2.2.2.2.2.2.2.2.2.2.1
theorem dX11_write_59 : decode cX11_write 59 = .ok (.aload_n 0, 1) := dX11_write_32_a.2.2.2.2.2.2.2.2.2.2.2.2.2.2.1
theorem dX11_write_60 : decode cX11_write 60 = .ok (.getfield 10, 3) := dX11_write_32_a.2.2.2.2.2.2.2.2.2.2.2.2.2.2.2
theorem dX11_write_63_a : (decode cX11_write 63 = .ok (.getfield 108, 3)) ∧ (decode cX11_write 66 = .ok (.invokestatic 261, 3)) ∧ (decode cX11_write 69 = .ok (.istore 5, 2)) ∧ (decode cX11_write 71 = .ok (.iconst 0, 1)) ∧ (decode cX11_write 72 = .ok (.istore 6, 2)) ∧ (decode cX11_write 74 = .ok (.iload 6, 2)) ∧ (decode cX11_write 76 = .ok (.iload 5, 2)) ∧ (decode cX11_write 78 = .ok (.if_icmp .ge 24, 3)) ∧ (decode cX11_write 81 = .ok (.aload 4, 2)) ∧ (decode cX11_write 83 = .ok (.iload 6, 2)) ∧ (decode cX11_write 85 = .ok (.aload_n 0, 1)) ∧ (decode cX11_write 86 = .ok (.iload_n 1, 1)) ∧ (decode cX11_write 87 = .ok (.iload 6, 2)) ∧ (decode cX11_write 89 = .ok (.iload_n 2, 1)) ∧ (decode cX11_write 90 = .ok (.invokevirtual 166, 3)) ∧ (decode cX11_write 93 = .ok (.invokevirtual 241, 3)) := by decide +kernel
theorem dX11_write_63 : decode cX11_write 63 = .ok (.getfield 108, 3) := dX11_write_63_a.1
theorem dX11_write_66 : decode cX11_write 66 = .ok (.invokestatic 261, 3) := dX11_write_63_a.2.1
theorem dX11_write_69 : decode cX11_write 69 = .ok (.istore 5, 2) := dX11_write_63_a.2.2.1
theorem dX11_write_71 : decode cX11_write 71 = .ok (.iconst 0, 1) := dX11_write_63_a.2.2.2.1
theorem dX11_write_72 : decode cX11_write 72 = .ok (.istore 6, 2) := dX11_write_63_a.2.2.2.2.1
theorem dX11_write_74 : decode cX11_write 74 = .ok (.iload 6, 2) := dX11_write_63_a.2.2.2.2.2.1
theorem dX11_write_76 : decode cX11_write 76 = .ok (.iload 5, 2) := dX11_write_63_a.2.2.2.2.2.2.1
theorem dX11_write_78 : decode cX11_write 78 = .ok (.if_icmp .ge 24, 3) := dX11_write_63_a.2.2.2.2.2.2.2.1
theorem dX11_write_81 : decode cX11_write 81 = .ok (.aload 4, 2) := dX11_write_63_a.2.2.2.2.2.2.2.2.1
theorem dX11_write_83 : decode cX11_write 83 = .ok (.iload 6, 2) := dX11_write_63_a.2.2.2.2.2.2.2.2.2.1
theorem dX11_write_85 : decode cX11_write 85 = .ok (.aload_n 0, 1) := dX11_write_63_a.2.2.2.2.2.2.2.2.2.2.1
theorem dX11_write_86 : decode cX11_write 86 = .ok (.iload_n 1, 1) := dX11_write_63_a.2.2.2.2.2.2.2.2.2.2.2.1
theorem dX11_write_87 : decode cX11_write 87 = .ok (.iload 6, 2) := dX11_write_63_a.2.2.2.2.2.2.2.2.2.2.2.2.1
theorem dX11_write_89 : decode cX11_write 89 = .ok (.iload_n 2, 1) := dX11_write_63_a.2.2.2.2.2.2.2.2.2.2.2.2.2.1
theorem dX11_write_90 : decode cX11_write 90 = .ok (.invokevirtual 166, 3) := dX11_write_63_a.2.2.2.2.2.2.2.2.2.2.2.2.2.2.1
theorem dX11_write_93 : decode cX11_write 93 = .ok (.invokevirtual 241, 3) := dX11_write_63_a.2.2.2.2.2.2.2.2.2.2.2.2.2.2.2
theorem dX11_write_96_a : (decode cX11_write 96 = .ok (.iinc 6 1, 3)) ∧ (decode cX11_write 99 = .ok (.goto (-25), 3)) ∧ (decode cX11_write 102 = .ok (.iload 5, 2)) ∧ (decode cX11_write 104 = .ok (.ireturn, 1)) := by decide +kernel
theorem dX11_write_96 : decode cX11_write 96 = .ok (.iinc 6 1, 3) := dX11_write_96_a.1
theorem dX11_write_99 : decode cX11_write 99 = .ok (.goto (-25), 3) := dX11_write_96_a.2.1
theorem dX11_write_102 : decode cX11_write 102 = .ok (.iload 5, 2) := dX11_write_96_a.2.2.1
theorem dX11_write_104 : decode cX11_write 104 = .ok (.ireturn, 1) := dX11_write_96_a.2.2.2
theorem dX11_count_0_a : (decode cX11_count 0 = .ok (.iload_n 1, 1)) ∧ (decode cX11_count 1 = .ok (.tableswitch 117 0 8 #[51, 59, 67, 75, 83, 91, 99, 107, 112], 51)) ∧ (decode cX11_count 52 = .ok (.aload_n 0, 1)) ∧ (decode cX11_count 53 = .ok (.getfield 10, 3)) ∧ (decode cX11_count 56 = .ok (.getfield 108, 3)) ∧ (decode cX11_count 59 = .ok (.ireturn, 1)) ∧ (decode cX11_count 60 = .ok (.aload_n 0, 1)) ∧ (decode cX11_count 61 = .ok (.getfield 19, 3)) ∧ (decode cX11_count 64 = .ok (.getfield 223, 3)) ∧ (decode cX11_count 67 = .ok (.ireturn, 1)) ∧ (decode cX11_count 68 = .ok (.aload_n 0, 1)) ∧ (decode cX11_count 69 = .ok (.getfield 26, 3)) ∧ (decode cX11_count 72 = .ok (.getfield 185, 3)) ∧ (decode cX11_count 75 = .ok (.ireturn, 1)) ∧ (decode cX11_count 76 = .ok (.aload_n 0, 1)) ∧ (decode cX11_count 77 = .ok (.getfield 10, 3)) := by decide +kernel
theorem dX11_count_0 : decode cX11_count 0 = .ok (.iload_n 1, 1) := dX11_count_0_a.1
theorem dX11_count_1 : decode cX11_count 1 = .ok (.tableswitch 117 0 8 #[51, 59, 67, 75, 83, 91, 99, 107, 112], 51) := dX11_count_0_a.2.1
theorem dX11_count_52 : decode cX11_count 52 = .ok (.aload_n 0, 1) := dX11_count_0_a.2.2.1
theorem dX11_count_53 : decode cX11_count 53 = .ok (.getfield 10, 3) := dX11_count_0_a.2.2.2.1
theorem dX11_count_56 : decode cX11_count 56 = .ok (.getfield 108, 3) := dX11_count_0_a.2.2.2.2.1
theorem dX11_count_59 : decode cX11_count 59 = .ok (.ireturn, 1) := dX11_count_0_a.2.2.2.2.2.1
theorem dX11_count_60 : decode cX11_count 60 = .ok (.aload_n 0, 1) := dX11_count_0_a.2.2.2.2.2.2.1
theorem dX11_count_61 : decode cX11_count 61 = .ok (.getfield 19, 3) := dX11_count_0_a.2.2.2.2.2.2.2.1
theorem dX11_count_64 : decode cX11_count 64 = .ok (.getfield 223, 3) := dX11_count_0_a.2.2.2.2.2.2.2.2.1
theorem dX11_count_67 : decode cX11_count 67 = .ok (.ireturn, 1) := dX11_count_0_a.2.2.2.2.2.2.2.2.2.1
theorem dX11_count_68 : decode cX11_count 68 = .ok (.aload_n 0, 1) := dX11_count_0_a.2.2.2.2.2.2.2.2.2.2.1
theorem dX11_count_69 : decode cX11_count 69 = .ok (.getfield 26, 3) := dX11_count_0_a.2.2.2.2.2.2.2.2.2.2.2.1
theorem dX11_count_72 : decode cX11_count 72 = .ok (.getfield 185, 3) := dX11_count_0_a.2.2.2.2.2.2.2.2.2.2.2.2.1
theorem dX11_count_75 : decode cX11_count 75 = .ok (.ireturn, 1) := dX11_count_0_a.2.2.2.2.2.2.2.2.2.2.2.2.2.1
theorem dX11_count_76 : decode cX11_count 76 = .ok (.aload_n 0, 1) := dX11_count_0_a.2.2.2.2.2.2.2.2.2.2.2.2.2.2.1
theorem dX11_count_77 : decode cX11_count 77 = .ok (.getfield 10, 3) := dX11_count_0_a.2.2.2.2.2.2.2.2.2.2.2.2.2.2.2
theorem dX11_count_80_a : (decode cX11_count 80 = .ok (.getfield 266, 3)) ∧ (decode cX11_count 83 = .ok (.ireturn, 1)) ∧ (decode cX11_count 84 = .ok (.aload_n 0, 1)) ∧ (decode cX11_count 85 = .ok (.getfield 19, 3)) ∧ (decode cX11_count 88 = .ok (.getfield 267, 3)) ∧ (decode cX11_count 91 = .ok (.ireturn, 1)) ∧ (decode cX11_count 92 = .ok (.aload_n 0, 1)) ∧ (decode cX11_count 93 = .ok (.getfield 26, 3)) ∧ (decode cX11_count 96 = .ok (.getfield 268, 3)) ∧ (decode cX11_count 99 = .ok (.ireturn, 1)) ∧ (decode cX11_count 100 = .ok (.aload_n 0, 1)) ∧ (decode cX11_count 101 = .ok (.getfield 33, 3)) ∧ (decode cX11_count 104 = .ok (.getfield 128, 3)) ∧ (decode cX11_count 107 = .ok (.ireturn, 1)) ∧ (decode cX11_count 108 = .ok (.aload_n 0, 1)) ∧ (decode cX11_count 109 = .ok (.getfield 193, 3)) := by decide +kernel
theorem dX11_count_80 : decode cX11_count 80 = .ok (.getfield 266, 3) := dX11_count_80_a.1
theorem dX11_count_83 : decode cX11_count 83 = .ok (.ireturn, 1) := dX11_count_80_a.2.1
theorem dX11_count_84 : decode cX11_count 84 = .ok (.aload_n 0, 1) := dX11_count_80_a.2.2.1
theorem dX11_count_85 : decode cX11_count 85 = .ok (.getfield 19, 3) := dX11_count_80_a.2.2.2.1
theorem dX11_count_88 : decode cX11_count 88 = .ok (.getfield 267, 3) := dX11_count_80_a.2.2.2.2.1
theorem dX11_count_91 : decode cX11_count 91 = .ok (.ireturn, 1) := dX11_count_80_a.2.2.2.2.2.1
theorem dX11_count_92 : decode cX11_count 92 = .ok (.aload_n 0, 1) := dX11_count_80_a.2.2.2.2.2.2.1
theorem dX11_count_93 : decode cX11_count 93 = .ok (.getfield 26, 3) := dX11_count_80_a.2.2.2.2.2.2.2.1
theorem dX11_count_96 : decode cX11_count 96 = .ok (.getfield 268, 3) := dX11_count_80_a.2.2.2.2.2.2.2.2.1
theorem dX11_count_99 : decode cX11_count 99 = .ok (.ireturn, 1) := dX11_count_80_a.2.2.2.2.2.2.2.2.2.1
theorem dX11_count_100 : decode cX11_count 100 = .ok (.aload_n 0, 1) := dX11_count_80_a.2.2.2.2.2.2.2.2.2.2.1
theorem dX11_count_101 : decode cX11_count 101 = .ok (.getfield 33, 3) := dX11_count_80_a.2.2.2.2.2.2.2.2.2.2.2.1
theorem dX11_count_104 : decode cX11_count 104 = .ok (.getfield 128, 3) := dX11_count_80_a.2.2.2.2.2.2.2.2.2.2.2.2.1
theorem dX11_count_107 : decode cX11_count 107 = .ok (.ireturn, 1) := dX11_count_80_a.2.2.2.2.2.2.2.2.2.2.2.2.2.1
theorem dX11_count_108 : decode cX11_count 108 = .ok (.aload_n 0, 1) := dX11_count_80_a.2.2.2.2.2.2.2.2.2.2.2.2.2.2.1
theorem dX11_count_109 : decode cX11_count 109 = .ok (.getfield 193, 3) := dX11_count_80_a.2.2.2.2.2.2.2.2.2.2.2.2.2.2.2
theorem dX11_count_112_a : (decode cX11_count 112 = .ok (.ireturn, 1)) ∧ (decode cX11_count 113 = .ok (.aload_n 0, 1)) ∧ (decode cX11_count 114 = .ok (.getfield 269, 3)) ∧ (decode cX11_count 117 = .ok (.ireturn, 1)) ∧ (decode cX11_count 118 = .ok (.bipush (-2), 2)) ∧ (decode cX11_count 120 = .ok (.ireturn, 1)) := by decide +kernel
theorem dX11_count_112 : decode cX11_count 112 = .ok (.ireturn, 1) := dX11_count_112_a.1
theorem dX11_count_113 : decode cX11_count 113 = .ok (.aload_n 0, 1) := dX11_count_112_a.2.1
theorem dX11_count_114 : decode cX11_count 114 = .ok (.getfield 269, 3) := dX11_count_112_a.2.2.1
theorem dX11_count_117 : decode cX11_count 117 = .ok (.ireturn, 1) := dX11_count_112_a.2.2.2.1
theorem dX11_count_118 : decode cX11_count 118 = .ok (.bipush (-2), 2) := dX11_count_112_a.2.2.2.2.1
theorem dX11_count_120 : decode cX11_count 120 = .ok (.ireturn, 1) := dX11_count_112_a.2.2.2.2.2
theorem dX11_digest_0_a : (decode cX11_digest 0 = .ok (.ldc2_w 272, 3)) ∧ (decode cX11_digest 3 = .ok (.lstore_n 1, 1)) ∧ (decode cX11_digest 4 = .ok (.iconst 0, 1)) ∧ (decode cX11_digest 5 = .ok (.istore_n 3, 1)) ∧ (decode cX11_digest 6 = .ok (.iload_n 3, 1)) ∧ (decode cX11_digest 7 = .ok (.bipush 7, 2)) ∧ (decode cX11_digest 9 = .ok (.if_icmp .gt 22, 3)) ∧ (decode cX11_digest 12 = .ok (.ldc2_w 274, 3)) ∧ (decode cX11_digest 15 = .ok (.lload_n 1, 1)) ∧ (decode cX11_digest 16 = .ok (.lmul, 1)) ∧ (decode cX11_digest 17 = .ok (.aload_n 0, 1)) ∧ (decode cX11_digest 18 = .ok (.iload_n 3, 1)) ∧ (decode cX11_digest 19 = .ok (.invokevirtual 276, 3)) ∧ (decode cX11_digest 22 = .ok (.i2l, 1)) ∧ (decode cX11_digest 23 = .ok (.ladd, 1)) ∧ (decode cX11_digest 24 = .ok (.lstore_n 1, 1)) := by decide +kernel
theorem dX11_digest_0 : decode cX11_digest 0 = .ok (.ldc2_w 272, 3) := dX11_digest_0_a.1
theorem dX11_digest_3 : decode cX11_digest 3 = .ok (.lstore_n 1, 1) := dX11_digest_0_a.2.1
theorem dX11_digest_4 : decode cX11_digest 4 = .ok (.iconst 0, 1) := dX11_digest_0_a.2.2.1
theorem dX11_digest_5 : decode cX11_digest 5 = .ok (.istore_n 3, 1) := dX11_digest_0_a.2.2.2.1
theorem dX11_digest_6 : decode cX11_digest 6 = .ok (.iload_n 3, 1) := dX11_digest_0_a.2.2.2.2.1
theorem dX11_digest_7 : decode cX11_digest 7 = .ok (.bipush 7, 2) := dX11_digest_0_a.2.2.2.2.2.1
theorem dX11_digest_9 : decode cX11_digest 9 = .ok (.if_icmp .gt 22, 3) := dX11_digest_0_a.2.2.2.2.2.2.1
theorem dX11_digest_12 : decode cX11_digest 12 = .ok (.ldc2_w 274, 3) := dX11_digest_0_a.2.2.2.2.2.2.2.1
theorem dX11_digest_15 : decode cX11_digest 15 = .ok (.lload_n 1, 1) := dX11_digest_0_a.2.2.2.2.2.2.2.2.1
theorem dX11_digest_16 : decode cX11_digest 16 = .ok (.lmul, 1) := dX11_digest_0_a.2.2.2.2.2.2.2.2.2.1
theorem dX11_digest_17 : decode cX11_digest 17 = .ok (.aload_n 0, 1) := dX11_digest_0_a.2.2.2.2.2.2.2.2.2.2.1
theorem dX11_digest_18 : decode cX11_digest 18 = .ok (.iload_n 3, 1) := dX11_digest_0_a.2.2.2.2.2.2.2.2.2.2.2.1
theorem dX11_digest_19 : decode cX11_digest 19 = .ok (.invokevirtual 276, 3) := dX11_digest_0_a.2.2.2.2.2.2.2.2.2.2.2.2.1
theorem dX11_digest_22 : decode cX11_digest 22 = .ok (.i2l, 1) := dX11_digest_0_a.2.2.2.2.2.2.2.2.2.2.2.2.2.1
theorem dX11_digest_23 : decode cX11_digest 23 = .ok (.ladd, 1) := dX11_digest_0_a.2.2.2.2.2.2.2.2.2.2.2.2.2.2.1
theorem dX11_digest_24 : decode cX11_digest 24 = .ok (.lstore_n 1, 1) := dX11_digest_0_a.2.2.2.2.2.2.2.2.2.2.2.2.2.2.2
theorem dX11_digest_25_a : (decode cX11_digest 25 = .ok (.iinc 3 1, 3)) ∧ (decode cX11_digest 28 = .ok (.goto (-22), 3)) ∧ (decode cX11_digest 31 = .ok (.iconst 0, 1)) ∧ (decode cX11_digest 32 = .ok (.istore_n 3, 1)) ∧ (decode cX11_digest 33 = .ok (.iload_n 3, 1)) ∧ (decode cX11_digest 34 = .ok (.iconst 3, 1)) ∧ (decode cX11_digest 35 = .ok (.if_icmp .ge 22, 3)) ∧ (decode cX11_digest 38 = .ok (.ldc2_w 274, 3)) ∧ (decode cX11_digest 41 = .ok (.lload_n 1, 1)) ∧ (decode cX11_digest 42 = .ok (.lmul, 1)) ∧ (decode cX11_digest 43 = .ok (.aload_n 0, 1)) ∧ (decode cX11_digest 44 = .ok (.iload_n 3, 1)) ∧ (decode cX11_digest 45 = .ok (.invokevirtual 279, 3)) ∧ (decode cX11_digest 48 = .ok (.i2l, 1)) ∧ (decode cX11_digest 49 = .ok (.ladd, 1)) ∧ (decode cX11_digest 50 = .ok (.lstore_n 1, 1)) := by decide +kernel
theorem dX11_digest_25 : decode cX11_digest 25 = .ok (.iinc 3 1, 3) := dX11_digest_25_a.1
theorem dX11_digest_28 : decode cX11_digest 28 = .ok (.goto (-22), 3) := dX11_digest_25_a.2.1
theorem dX11_digest_31 : decode cX11_digest 31 = .ok (.iconst 0, 1) := dX11_digest_25_a.2.2.1
theorem dX11_digest_32 : decode cX11_digest 32 = .ok (.istore_n 3, 1) := dX11_digest_25_a.2.2.2.1
theorem dX11_digest_33 : decode cX11_digest 33 = .ok (.iload_n 3, 1) := dX11_digest_25_a.2.2.2.2.1
theorem dX11_digest_34 : decode cX11_digest 34 = .ok (.iconst 3, 1) := dX11_digest_25_a.2.2.2.2.2.1
theorem dX11_digest_35 : decode cX11_digest 35 = .ok (.if_icmp .ge 22, 3) := dX11_digest_25_a.2.2.2.2.2.2.1
theorem dX11_digest_38 : decode cX11_digest 38 = .ok (.ldc2_w 274, 3) := dX11_digest_25_a.2.2.2.2.2.2.2.1
theorem dX11_digest_41 : decode cX11_digest 41 = .ok (.lload_n 1, 1) := dX11_digest_25_a.2.2.2.2.2.2.2.2.1
theorem dX11_digest_42 : decode cX11_digest 42 = .ok (.lmul, 1) := dX11_digest_25_a.2.2.2.2.2.2.2.2.2.1
theorem dX11_digest_43 : decode cX11_digest 43 = .ok (.aload_n 0, 1) := dX11_digest_25_a.2.2.2.2.2.2.2.2.2.2.1
theorem dX11_digest_44 : decode cX11_digest 44 = .ok (.iload_n 3, 1) := dX11_digest_25_a.2.2.2.2.2.2.2.2.2.2.2.1
theorem dX11_digest_45 : decode cX11_digest 45 = .ok (.invokevirtual 279, 3) := dX11_digest_25_a.2.2.2.2.2.2.2.2.2.2.2.2.1
theorem dX11_digest_48 : decode cX11_digest 48 = .ok (.i2l, 1) := dX11_digest_25_a.2.2.2.2.2.2.2.2.2.2.2.2.2.1
theorem dX11_digest_49 : decode cX11_digest 49 = .ok (.ladd, 1) := dX11_digest_25_a.2.2.2.2.2.2.2.2.2.2.2.2.2.2.1
theorem dX11_digest_50 : decode cX11_digest 50 = .ok (.lstore_n 1, 1) := dX11_digest_25_a.2.2.2.2.2.2.2.2.2.2.2.2.2.2.2
theorem dX11_digest_51_a : (decode cX11_digest 51 = .ok (.iinc 3 1, 3)) ∧ (decode cX11_digest 54 = .ok (.goto (-21), 3)) ∧ (decode cX11_digest 57 = .ok (.iconst 0, 1)) ∧ (decode cX11_digest 58 = .ok (.istore_n 3, 1)) ∧ (decode cX11_digest 59 = .ok (.iload_n 3, 1)) ∧ (decode cX11_digest 60 = .ok (.aload_n 0, 1)) ∧ (decode cX11_digest 61 = .ok (.getfield 10, 3)) ∧ (decode cX11_digest 64 = .ok (.getfield 108, 3)) ∧ (decode cX11_digest 67 = .ok (.if_icmp .ge 22, 3)) ∧ (decode cX11_digest 70 = .ok (.ldc2_w 274, 3)) ∧ (decode cX11_digest 73 = .ok (.lload_n 1, 1)) ∧ (decode cX11_digest 74 = .ok (.lmul, 1)) ∧ (decode cX11_digest 75 = .ok (.aload_n 0, 1)) ∧ (decode cX11_digest 76 = .ok (.iload_n 3, 1)) ∧ (decode cX11_digest 77 = .ok (.invokevirtual 282, 3)) ∧ (decode cX11_digest 80 = .ok (.i2l, 1)) := by decide +kernel
theorem dX11_digest_51 : decode cX11_digest 51 = .ok (.iinc 3 1, 3) := dX11_digest_51_a.1
theorem dX11_digest_54 : decode cX11_digest 54 = .ok (.goto (-21), 3) := dX11_digest_51_a.2.1
theorem dX11_digest_57 : decode cX11_digest 57 = .ok (.iconst 0, 1) := dX11_digest_51_a.2.2.1
theorem dX11_digest_58 : decode cX11_digest 58 = .ok (.istore_n 3, 1) := dX11_digest_51_a.2.2.2.1
theorem dX11_digest_59 : decode cX11_digest 59 = .ok (.iload_n 3, 1) := dX11_digest_51_a.2.2.2.2.1
theorem dX11_digest_60 : decode cX11_digest 60 = .ok (.aload_n 0, 1) := dX11_digest_51_a.2.2.2.2.2.1
theorem dX11_digest_61 : decode cX11_digest 61 = .ok (.getfield 10, 3) := dX11_digest_51_a.2.2.2.2.2.2.1
theorem dX11_digest_64 : decode cX11_digest 64 = .ok (.getfield 108, 3) := dX11_digest_51_a.2.2.2.2.2.2.2.1
theorem dX11_digest_67 : decode cX11_digest 67 = .ok (.if_icmp .ge 22, 3) := dX11_digest_51_a.2.2.2.2.2.2.2.2.1
theorem dX11_digest_70 : decode cX11_digest 70 = .ok (.ldc2_w 274, 3) := dX11_digest_51_a.2.2.2.2.2.2.2.2.2.1
theorem dX11_digest_73 : decode cX11_digest 73 = .ok (.lload_n 1, 1) := dX11_digest_51_a.2.2.2.2.2.2.2.2.2.2.1
theorem dX11_digest_74 : decode cX11_digest 74 = .ok (.lmul, 1) := dX11_digest_51_a.2.2.2.2.2.2.2.2.2.2.2.1
theorem dX11_digest_75 : decode cX11_digest 75 = .ok (.aload_n 0, 1) := dX11_digest_51_a.2.2.2.2.2.2.2.2.2.2.2.2.1
theorem dX11_digest_76 : decode cX11_digest 76 = .ok (.iload_n 3, 1) := dX11_digest_51_a.2.2.2.2.2.2.2.2.2.2.2.2.2.1
theorem dX11_digest_77 : decode cX11_digest 77 = .ok (.invokevirtual 282, 3) := dX11_digest_51_a.2.2.2.2.2.2.2.2.2.2.2.2.2.2.1
theorem dX11_digest_80 : decode cX11_digest 80 = .ok (.i2l, 1) := dX11_digest_51_a.2.2.2.2.2.2.2.2.2.2.2.2.2.2.2
theorem dX11_digest_81_a : (decode cX11_digest 81 = .ok (.ladd, 1)) ∧ (decode cX11_digest 82 = .ok (.lstore_n 1, 1)) ∧ (decode cX11_digest 83 = .ok (.iinc 3 1, 3)) ∧ (decode cX11_digest 86 = .ok (.goto (-27), 3)) ∧ (decode cX11_digest 89 = .ok (.iconst 0, 1)) ∧ (decode cX11_digest 90 = .ok (.istore_n 3, 1)) ∧ (decode cX11_digest 91 = .ok (.iload_n 3, 1)) ∧ (decode cX11_digest 92 = .ok (.aload_n 0, 1)) ∧ (decode cX11_digest 93 = .ok (.getfield 19, 3)) ∧ (decode cX11_digest 96 = .ok (.getfield 223, 3)) ∧ (decode cX11_digest 99 = .ok (.if_icmp .ge 65, 3)) ∧ (decode cX11_digest 102 = .ok (.iconst 0, 1)) ∧ (decode cX11_digest 103 = .ok (.istore 4, 2)) ∧ (decode cX11_digest 105 = .ok (.iload 4, 2)) ∧ (decode cX11_digest 107 = .ok (.iconst 3, 1)) ∧ (decode cX11_digest 108 = .ok (.if_icmp .gt 24, 3)) := by decide +kernel
theorem dX11_digest_81 : decode cX11_digest 81 = .ok (.ladd, 1) := dX11_digest_81_a.1
theorem dX11_digest_82 : decode cX11_digest 82 = .ok (.lstore_n 1, 1) := dX11_digest_81_a.2.1
theorem dX11_digest_83 : decode cX11_digest 83 = .ok (.iinc 3 1, 3) := dX11_digest_81_a.2.2.1
theorem dX11_digest_86 : decode cX11_digest 86 = .ok (.goto (-27), 3) := dX11_digest_81_a.2.2.2.1
theorem dX11_digest_89 : decode cX11_digest 89 = .ok (.iconst 0, 1) := dX11_digest_81_a.2.2.2.2.1
theorem dX11_digest_90 : decode cX11_digest 90 = .ok (.istore_n 3, 1) := dX11_digest_81_a.2.2.2.2.2.1
theorem dX11_digest_91 : decode cX11_digest 91 = .ok (.iload_n 3, 1) := dX11_digest_81_a.2.2.2.2.2.2.1
theorem dX11_digest_92 : decode cX11_digest 92 = .ok (.aload_n 0, 1) := dX11_digest_81_a.2.2.2.2.2.2.2.1
theorem dX11_digest_93 : decode cX11_digest 93 = .ok (.getfield 19, 3) := dX11_digest_81_a.2.2.2.2.2.2.2.2.1
theorem dX11_digest_96 : decode cX11_digest 96 = .ok (.getfield 223, 3) := dX11_digest_81_a.2.2.2.2.2.2.2.2.2.1
theorem dX11_digest_99 : decode cX11_digest 99 = .ok (.if_icmp .ge 65, 3) := dX11_digest_81_a.2.2.2.2.2.2.2.2.2.2.1
theorem dX11_digest_102 : decode cX11_digest 102 = .ok (.iconst 0, 1) := dX11_digest_81_a.2.2.2.2.2.2.2.2.2.2.2.1
theorem dX11_digest_103 : decode cX11_digest 103 = .ok (.istore 4, 2) := dX11_digest_81_a.2.2.2.2.2.2.2.2.2.2.2.2.1
theorem dX11_digest_105 : decode cX11_digest 105 = .ok (.iload 4, 2) := dX11_digest_81_a.2.2.2.2.2.2.2.2.2.2.2.2.2.1
theorem dX11_digest_107 : decode cX11_digest 107 = .ok (.iconst 3, 1) := dX11_digest_81_a.2.2.2.2.2.2.2.2.2.2.2.2.2.2.1
theorem dX11_digest_108 : decode cX11_digest 108 = .ok (.if_icmp .gt 24, 3) := dX11_digest_81_a.2.2.2.2.2.2.2.2.2.2.2.2.2.2.2
theorem dX11_digest_111_a : (decode cX11_digest 111 = .ok (.ldc2_w 274, 3)) ∧ (decode cX11_digest 114 = .ok (.lload_n 1, 1)) ∧ (decode cX11_digest 115 = .ok (.lmul, 1)) ∧ (decode cX11_digest 116 = .ok (.aload_n 0, 1)) ∧ (decode cX11_digest 117 = .ok (.iload_n 3, 1)) ∧ (decode cX11_digest 118 = .ok (.iload 4, 2)) ∧ (decode cX11_digest 120 = .ok (.invokevirtual 285, 3)) ∧ (decode cX11_digest 123 = .ok (.i2l, 1)) ∧ (decode cX11_digest 124 = .ok (.ladd, 1)) ∧ (decode cX11_digest 125 = .ok (.lstore_n 1, 1)) ∧ (decode cX11_digest 126 = .ok (.iinc 4 1, 3)) ∧ (decode cX11_digest 129 = .ok (.goto (-24), 3)) ∧ (decode cX11_digest 132 = .ok (.ldc2_w 274, 3)) ∧ (decode cX11_digest 135 = .ok (.lload_n 1, 1)) ∧ (decode cX11_digest 136 = .ok (.lmul, 1)) ∧ (decode cX11_digest 137 = .ok (.aload_n 0, 1)) := by decide +kernel
theorem dX11_digest_111 : decode cX11_digest 111 = .ok (.ldc2_w 274, 3) := dX11_digest_111_a.1
theorem dX11_digest_114 : decode cX11_digest 114 = .ok (.lload_n 1, 1) := dX11_digest_111_a.2.1
theorem dX11_digest_115 : decode cX11_digest 115 = .ok (.lmul, 1) := dX11_digest_111_a.2.2.1
theorem dX11_digest_116 : decode cX11_digest 116 = .ok (.aload_n 0, 1) := dX11_digest_111_a.2.2.2.1
theorem dX11_digest_117 : decode cX11_digest 117 = .ok (.iload_n 3, 1) := dX11_digest_111_a.2.2.2.2.1
theorem dX11_digest_118 : decode cX11_digest 118 = .ok (.iload 4, 2) := dX11_digest_111_a.2.2.2.2.2.1
theorem dX11_digest_120 : decode cX11_digest 120 = .ok (.invokevirtual 285, 3) := dX11_digest_111_a.2.2.2.2.2.2.1
theorem dX11_digest_123 : decode cX11_digest 123 = .ok (.i2l, 1) := dX11_digest_111_a.2.2.2.2.2.2.2.1
theorem dX11_digest_124 : decode cX11_digest 124 = .ok (.ladd, 1) := dX11_digest_111_a.2.2.2.2.2.2.2.2.1
theorem dX11_digest_125 : decode cX11_digest 125 = .ok (.lstore_n 1, 1) := dX11_digest_111_a.2.2.2.2.2.2.2.2.2.1
theorem dX11_digest_126 : decode cX11_digest 126 = .ok (.iinc 4 1, 3) := dX11_digest_111_a.2.2.2.2.2.2.2.2.2.2.1
theorem dX11_digest_129 : decode cX11_digest 129 = .ok (.goto (-24), 3) := dX11_digest_111_a.2.2.2.2.2.2.2.2.2.2.2.1
theorem dX11_digest_132 : decode cX11_digest 132 = .ok (.ldc2_w 274, 3) := dX11_digest_111_a.2.2.2.2.2.2.2.2.2.2.2.2.1
theorem dX11_digest_135 : decode cX11_digest 135 = .ok (.lload_n 1, 1) := dX11_digest_111_a.2.2.2.2.2.2.2.2.2.2.2.2.2.1
theorem dX11_digest_136 : decode cX11_digest 136 = .ok (.lmul, 1) := dX11_digest_111_a.2.2.2.2.2.2.2.2.2.2.2.2.2.2.1
theorem dX11_digest_137 : decode cX11_digest 137 = .ok (.aload_n 0, 1) := dX11_digest_111_a.2.2.2.2.2.2.2.2.2.2.2.2.2.2.2
theorem dX11_digest_138_a : (decode cX11_digest 138 = .ok (.iload_n 3, 1)) ∧ (decode cX11_digest 139 = .ok (.invokevirtual 200, 3)) ∧ (decode cX11_digest 142 = .ok (.i2l, 1)) ∧ (decode cX11_digest 143 = .ok (.ladd, 1)) ∧ (decode cX11_digest 144 = .ok (.lstore_n 1, 1)) ∧ (decode cX11_digest 145 = .ok (.ldc2_w 274, 3)) ∧ (decode cX11_digest 148 = .ok (.lload_n 1, 1)) ∧ (decode cX11_digest 149 = .ok (.lmul, 1)) ∧ (decode cX11_digest 150 = .ok (.aload_n 0, 1)) ∧ (decode cX11_digest 151 = .ok (.iload_n 3, 1)) ∧ (decode cX11_digest 152 = .ok (.invokevirtual 288, 3)) ∧ (decode cX11_digest 155 = .ok (.i2l, 1)) ∧ (decode cX11_digest 156 = .ok (.ladd, 1)) ∧ (decode cX11_digest 157 = .ok (.lstore_n 1, 1)) ∧ (decode cX11_digest 158 = .ok (.iinc 3 1, 3)) ∧ (decode cX11_digest 161 = .ok (.goto (-70), 3)) := by decide +kernel
theorem dX11_digest_138 : decode cX11_digest 138 = .ok (.iload_n 3, 1) := dX11_digest_138_a.1
theorem dX11_digest_139 : decode cX11_digest 139 = .ok (.invokevirtual 200, 3) := dX11_digest_138_a.2.1
theorem dX11_digest_142 : decode cX11_digest 142 = .ok (.i2l, 1) := dX11_digest_138_a.2.2.1
theorem dX11_digest_143 : decode cX11_digest 143 = .ok (.ladd, 1) := dX11_digest_138_a.2.2.2.1
theorem dX11_digest_144 : decode cX11_digest 144 = .ok (.lstore_n 1, 1) := dX11_digest_138_a.2.2.2.2.1
theorem dX11_digest_145 : decode cX11_digest 145 = .ok (.ldc2_w 274, 3) := dX11_digest_138_a.2.2.2.2.2.1
theorem dX11_digest_148 : decode cX11_digest 148 = .ok (.lload_n 1, 1) := dX11_digest_138_a.2.2.2.2.2.2.1
theorem dX11_digest_149 : decode cX11_digest 149 = .ok (.lmul, 1) := dX11_digest_138_a.2.2.2.2.2.2.2.1
theorem dX11_digest_150 : decode cX11_digest 150 = .ok (.aload_n 0, 1) := dX11_digest_138_a.2.2.2.2.2.2.2.2.1
theorem dX11_digest_151 : decode cX11_digest 151 = .ok (.iload_n 3, 1) := dX11_digest_138_a.2.2.2.2.2.2.2.2.2.1
theorem dX11_digest_152 : decode cX11_digest 152 = .ok (.invokevirtual 288, 3) := dX11_digest_138_a.2.2.2.2.2.2.2.2.2.2.1
theorem dX11_digest_155 : decode cX11_digest 155 = .ok (.i2l, 1) := dX11_digest_138_a.2.2.2.2.2.2.2.2.2.2.2.1
theorem dX11_digest_156 : decode cX11_digest 156 = .ok (.ladd, 1) := dX11_digest_138_a.2.2.2.2.2.2.2.2.2.2.2.2.1
theorem dX11_digest_157 : decode cX11_digest 157 = .ok (.lstore_n 1, 1) := dX11_digest_138_a.2.2.2.2.2.2.2.2.2.2.2.2.2.1
theorem dX11_digest_158 : decode cX11_digest 158 = .ok (.iinc 3 1, 3) := dX11_digest_138_a.2.2.2.2.2.2.2.2.2.2.2.2.2.2.1
theorem dX11_digest_161 : decode cX11_digest 161 = .ok (.goto (-70), 3) := dX11_digest_138_a.2.2.2.2.2.2.2.2.2.2.2.2.2.2.2
theorem dX11_digest_164_a : (decode cX11_digest 164 = .ok (.iconst 0, 1)) ∧ (decode cX11_digest 165 = .ok (.istore_n 3, 1)) ∧ (decode cX11_digest 166 = .ok (.iload_n 3, 1)) ∧ (decode cX11_digest 167 = .ok (.aload_n 0, 1)) ∧ (decode cX11_digest 168 = .ok (.getfield 26, 3)) ∧ (decode cX11_digest 171 = .ok (.getfield 185, 3)) ∧ (decode cX11_digest 174 = .ok (.if_icmp .ge 37, 3)) ∧ (decode cX11_digest 177 = .ok (.ldc2_w 274, 3)) ∧ (decode cX11_digest 180 = .ok (.lload_n 1, 1)) ∧ (decode cX11_digest 181 = .ok (.lmul, 1)) ∧ (decode cX11_digest 182 = .ok (.aload_n 0, 1)) ∧ (decode cX11_digest 183 = .ok (.iload_n 3, 1)) ∧ (decode cX11_digest 184 = .ok (.iconst 0, 1)) ∧ (decode cX11_digest 185 = .ok (.invokevirtual 291, 3)) ∧ (decode cX11_digest 188 = .ok (.i2l, 1)) ∧ (decode cX11_digest 189 = .ok (.ladd, 1)) := by decide +kernel
theorem dX11_digest_164 : decode cX11_digest 164 = .ok (.iconst 0, 1) := dX11_digest_164_a.1
theorem dX11_digest_165 : decode cX11_digest 165 = .ok (.istore_n 3, 1) := dX11_digest_164_a.2.1
theorem dX11_digest_166 : decode cX11_digest 166 = .ok (.iload_n 3, 1) := dX11_digest_164_a.2.2.1
theorem dX11_digest_167 : decode cX11_digest 167 = .ok (.aload_n 0, 1) := dX11_digest_164_a.2.2.2.1
theorem dX11_digest_168 : decode cX11_digest 168 = .ok (.getfield 26, 3) := dX11_digest_164_a.2.2.2.2.1
theorem dX11_digest_171 : decode cX11_digest 171 = .ok (.getfield 185, 3) := dX11_digest_164_a.2.2.2.2.2.1
theorem dX11_digest_174 : decode cX11_digest 174 = .ok (.if_icmp .ge 37, 3) := dX11_digest_164_a.2.2.2.2.2.2.1
theorem dX11_digest_177 : decode cX11_digest 177 = .ok (.ldc2_w 274, 3) := dX11_digest_164_a.2.2.2.2.2.2.2.1
theorem dX11_digest_180 : decode cX11_digest 180 = .ok (.lload_n 1, 1) := dX11_digest_164_a.2.2.2.2.2.2.2.2.1
theorem dX11_digest_181 : decode cX11_digest 181 = .ok (.lmul, 1) := dX11_digest_164_a.2.2.2.2.2.2.2.2.2.1
theorem dX11_digest_182 : decode cX11_digest 182 = .ok (.aload_n 0, 1) := dX11_digest_164_a.2.2.2.2.2.2.2.2.2.2.1
theorem dX11_digest_183 : decode cX11_digest 183 = .ok (.iload_n 3, 1) := dX11_digest_164_a.2.2.2.2.2.2.2.2.2.2.2.1
theorem dX11_digest_184 : decode cX11_digest 184 = .ok (.iconst 0, 1) := dX11_digest_164_a.2.2.2.2.2.2.2.2.2.2.2.2.1
theorem dX11_digest_185 : decode cX11_digest 185 = .ok (.invokevirtual 291, 3) := dX11_digest_164_a.2.2.2.2.2.2.2.2.2.2.2.2.2.1
theorem dX11_digest_188 : decode cX11_digest 188 = .ok (.i2l, 1) := dX11_digest_164_a.2.2.2.2.2.2.2.2.2.2.2.2.2.2.1
theorem dX11_digest_189 : decode cX11_digest 189 = .ok (.ladd, 1) := dX11_digest_164_a.2.2.2.2.2.2.2.2.2.2.2.2.2.2.2
theorem dX11_digest_190_a : (decode cX11_digest 190 = .ok (.lstore_n 1, 1)) ∧ (decode cX11_digest 191 = .ok (.ldc2_w 274, 3)) ∧ (decode cX11_digest 194 = .ok (.lload_n 1, 1)) ∧ (decode cX11_digest 195 = .ok (.lmul, 1)) ∧ (decode cX11_digest 196 = .ok (.aload_n 0, 1)) ∧ (decode cX11_digest 197 = .ok (.iload_n 3, 1)) ∧ (decode cX11_digest 198 = .ok (.iconst 1, 1)) ∧ (decode cX11_digest 199 = .ok (.invokevirtual 291, 3)) ∧ (decode cX11_digest 202 = .ok (.i2l, 1)) ∧ (decode cX11_digest 203 = .ok (.ladd, 1)) ∧ (decode cX11_digest 204 = .ok (.lstore_n 1, 1)) ∧ (decode cX11_digest 205 = .ok (.iinc 3 1, 3)) ∧ (decode cX11_digest 208 = .ok (.goto (-42), 3)) ∧ (decode cX11_digest 211 = .ok (.iconst 0, 1)) ∧ (decode cX11_digest 212 = .ok (.istore_n 3, 1)) ∧ (decode cX11_digest 213 = .ok (.iload_n 3, 1)) := by decide +kernel
theorem dX11_digest_190 : decode cX11_digest 190 = .ok (.lstore_n 1, 1) := dX11_digest_190_a.1
theorem dX11_digest_191 : decode cX11_digest 191 = .ok (.ldc2_w 274, 3) := dX11_digest_190_a.2.1
theorem dX11_digest_194 : decode cX11_digest 194 = .ok (.lload_n 1, 1) := dX11_digest_190_a.2.2.1
theorem dX11_digest_195 : decode cX11_digest 195 = .ok (.lmul, 1) := dX11_digest_190_a.2.2.2.1
theorem dX11_digest_196 : decode cX11_digest 196 = .ok (.aload_n 0, 1) := dX11_digest_190_a.2.2.2.2.1
theorem dX11_digest_197 : decode cX11_digest 197 = .ok (.iload_n 3, 1) := dX11_digest_190_a.2.2.2.2.2.1
theorem dX11_digest_198 : decode cX11_digest 198 = .ok (.iconst 1, 1) := dX11_digest_190_a.2.2.2.2.2.2.1
theorem dX11_digest_199 : decode cX11_digest 199 = .ok (.invokevirtual 291, 3) := dX11_digest_190_a.2.2.2.2.2.2.2.1
theorem dX11_digest_202 : decode cX11_digest 202 = .ok (.i2l, 1) := dX11_digest_190_a.2.2.2.2.2.2.2.2.1
theorem dX11_digest_203 : decode cX11_digest 203 = .ok (.ladd, 1) := dX11_digest_190_a.2.2.2.2.2.2.2.2.2.1
theorem dX11_digest_204 : decode cX11_digest 204 = .ok (.lstore_n 1, 1) := dX11_digest_190_a.2.2.2.2.2.2.2.2.2.2.1
theorem dX11_digest_205 : decode cX11_digest 205 = .ok (.iinc 3 1, 3) := dX11_digest_190_a.2.2.2.2.2.2.2.2.2.2.2.1
theorem dX11_digest_208 : decode cX11_digest 208 = .ok (.goto (-42), 3) := dX11_digest_190_a.2.2.2.2.2.2.2.2.2.2.2.2.1
theorem dX11_digest_211 : decode cX11_digest 211 = .ok (.iconst 0, 1) := dX11_digest_190_a.2.2.2.2.2.2.2.2.2.2.2.2.2.1
theorem dX11_digest_212 : decode cX11_digest 212 = .ok (.istore_n 3, 1) := dX11_digest_190_a.2.2.2.2.2.2.2.2.2.2.2.2.2.2.1
theorem dX11_digest_213 : decode cX11_digest 213 = .ok (.iload_n 3, 1) := dX11_digest_190_a.2.2.2.2.2.2.2.2.2.2.2.2.2.2.2
theorem dX11_digest_214_a : (decode cX11_digest 214 = .ok (.aload_n 0, 1)) ∧ (decode cX11_digest 215 = .ok (.getfield 33, 3)) ∧ (decode cX11_digest 218 = .ok (.getfield 128, 3)) ∧ (decode cX11_digest 221 = .ok (.if_icmp .ge 16, 3)) ∧ (decode cX11_digest 224 = .ok (.aload_n 0, 1)) ∧ (decode cX11_digest 225 = .ok (.lload_n 1, 1)) ∧ (decode cX11_digest 226 = .ok (.iload_n 3, 1)) ∧ (decode cX11_digest 227 = .ok (.invokevirtual 294, 3)) ∧ (decode cX11_digest 230 = .ok (.lstore_n 1, 1)) ∧ (decode cX11_digest 231 = .ok (.iinc 3 1, 3)) ∧ (decode cX11_digest 234 = .ok (.goto (-21), 3)) ∧ (decode cX11_digest 237 = .ok (.ldc2_w 274, 3)) ∧ (decode cX11_digest 240 = .ok (.lload_n 1, 1)) ∧ (decode cX11_digest 241 = .ok (.lmul, 1)) ∧ (decode cX11_digest 242 = .ok (.aload_n 0, 1)) ∧ (decode cX11_digest 243 = .ok (.invokevirtual 298, 3)) := by decide +kernel
theorem dX11_digest_214 : decode cX11_digest 214 = .ok (.aload_n 0, 1) := dX11_digest_214_a.1
theorem dX11_digest_215 : decode cX11_digest 215 = .ok (.getfield 33, 3) := dX11_digest_214_a.2.1
theorem dX11_digest_218 : decode cX11_digest 218 = .ok (.getfield 128, 3) := dX11_digest_214_a.2.2.1
theorem dX11_digest_221 : decode cX11_digest 221 = .ok (.if_icmp .ge 16, 3) := dX11_digest_214_a.2.2.2.1
theorem dX11_digest_224 : decode cX11_digest 224 = .ok (.aload_n 0, 1) := dX11_digest_214_a.2.2.2.2.1
theorem dX11_digest_225 : decode cX11_digest 225 = .ok (.lload_n 1, 1) := dX11_digest_214_a.2.2.2.2.2.1
theorem dX11_digest_226 : decode cX11_digest 226 = .ok (.iload_n 3, 1) := dX11_digest_214_a.2.2.2.2.2.2.1
theorem dX11_digest_227 : decode cX11_digest 227 = .ok (.invokevirtual 294, 3) := dX11_digest_214_a.2.2.2.2.2.2.2.1
theorem dX11_digest_230 : decode cX11_digest 230 = .ok (.lstore_n 1, 1) := dX11_digest_214_a.2.2.2.2.2.2.2.2.1
theorem dX11_digest_231 : decode cX11_digest 231 = .ok (.iinc 3 1, 3) := dX11_digest_214_a.2.2.2.2.2.2.2.2.2.1
theorem dX11_digest_234 : decode cX11_digest 234 = .ok (.goto (-21), 3) := dX11_digest_214_a.2.2.2.2.2.2.2.2.2.2.1
theorem dX11_digest_237 : decode cX11_digest 237 = .ok (.ldc2_w 274, 3) := dX11_digest_214_a.2.2.2.2.2.2.2.2.2.2.2.1
theorem dX11_digest_240 : decode cX11_digest 240 = .ok (.lload_n 1, 1) := dX11_digest_214_a.2.2.2.2.2.2.2.2.2.2.2.2.1
theorem dX11_digest_241 : decode cX11_digest 241 = .ok (.lmul, 1) := dX11_digest_214_a.2.2.2.2.2.2.2.2.2.2.2.2.2.1
theorem dX11_digest_242 : decode cX11_digest 242 = .ok (.aload_n 0, 1) := dX11_digest_214_a.2.2.2.2.2.2.2.2.2.2.2.2.2.2.1
theorem dX11_digest_243 : decode cX11_digest 243 = .ok (.invokevirtual 298, 3) := dX11_digest_214_a.2.2.2.2.2.2.2.2.2.2.2.2.2.2.2
theorem dX11_digest_246_a : (decode cX11_digest 246 = .ok (.i2l, 1)) ∧ (decode cX11_digest 247 = .ok (.ladd, 1)) ∧ (decode cX11_digest 248 = .ok (.lstore_n 1, 1)) ∧ (decode cX11_digest 249 = .ok (.ldc2_w 274, 3)) ∧ (decode cX11_digest 252 = .ok (.lload_n 1, 1)) ∧ (decode cX11_digest 253 = .ok (.lmul, 1)) ∧ (decode cX11_digest 254 = .ok (.aload_n 0, 1)) ∧ (decode cX11_digest 255 = .ok (.bipush 7, 2)) ∧ (decode cX11_digest 257 = .ok (.bipush 30, 2)) ∧ (decode cX11_digest 259 = .ok (.iconst 0, 1)) ∧ (decode cX11_digest 260 = .ok (.invokevirtual 301, 3)) ∧ (decode cX11_digest 263 = .ok (.i2l, 1)) ∧ (decode cX11_digest 264 = .ok (.ladd, 1)) ∧ (decode cX11_digest 265 = .ok (.lstore_n 1, 1)) ∧ (decode cX11_digest 266 = .ok (.ldc2_w 274, 3)) ∧ (decode cX11_digest 269 = .ok (.lload_n 1, 1)) := by decide +kernel
theorem dX11_digest_246 : decode cX11_digest 246 = .ok (.i2l, 1) := dX11_digest_246_a.1
theorem dX11_digest_247 : decode cX11_digest 247 = .ok (.ladd, 1) := dX11_digest_246_a.2.1
theorem dX11_digest_248 : decode cX11_digest 248 = .ok (.lstore_n 1, 1) := dX11_digest_246_a.2.2.1
theorem dX11_digest_249 : decode cX11_digest 249 = .ok (.ldc2_w 274, 3) := dX11_digest_246_a.2.2.2.1
theorem dX11_digest_252 : decode cX11_digest 252 = .ok (.lload_n 1, 1) := dX11_digest_246_a.2.2.2.2.1
theorem dX11_digest_253 : decode cX11_digest 253 = .ok (.lmul, 1) := dX11_digest_246_a.2.2.2.2.2.1
theorem dX11_digest_254 : decode cX11_digest 254 = .ok (.aload_n 0, 1) := dX11_digest_246_a.2.2.2.2.2.2.1
theorem dX11_digest_255 : decode cX11_digest 255 = .ok (.bipush 7, 2) := dX11_digest_246_a.2.2.2.2.2.2.2.1
theorem dX11_digest_257 : decode cX11_digest 257 = .ok (.bipush 30, 2) := dX11_digest_246_a.2.2.2.2.2.2.2.2.1
theorem dX11_digest_259 : decode cX11_digest 259 = .ok (.iconst 0, 1) := dX11_digest_246_a.2.2.2.2.2.2.2.2.2.1
theorem dX11_digest_260 : decode cX11_digest 260 = .ok (.invokevirtual 301, 3) := dX11_digest_246_a.2.2.2.2.2.2.2.2.2.2.1
theorem dX11_digest_263 : decode cX11_digest 263 = .ok (.i2l, 1) := dX11_digest_246_a.2.2.2.2.2.2.2.2.2.2.2.1
theorem dX11_digest_264 : decode cX11_digest 264 = .ok (.ladd, 1) := dX11_digest_246_a.2.2.2.2.2.2.2.2.2.2.2.2.1
theorem dX11_digest_265 : decode cX11_digest 265 = .ok (.lstore_n 1, 1) := dX11_digest_246_a.2.2.2.2.2.2.2.2.2.2.2.2.2.1
theorem dX11_digest_266 : decode cX11_digest 266 = .ok (.ldc2_w 274, 3) := dX11_digest_246_a.2.2.2.2.2.2.2.2.2.2.2.2.2.2.1
theorem dX11_digest_269 : decode cX11_digest 269 = .ok (.lload_n 1, 1) := dX11_digest_246_a.2.2.2.2.2.2.2.2.2.2.2.2.2.2.2
theorem dX11_digest_270_a : (decode cX11_digest 270 = .ok (.lmul, 1)) ∧ (decode cX11_digest 271 = .ok (.aload_n 0, 1)) ∧ (decode cX11_digest 272 = .ok (.bipush 7, 2)) ∧ (decode cX11_digest 274 = .ok (.bipush 30, 2)) ∧ (decode cX11_digest 276 = .ok (.iconst 1, 1)) ∧ (decode cX11_digest 277 = .ok (.invokevirtual 301, 3)) ∧ (decode cX11_digest 280 = .ok (.i2l, 1)) ∧ (decode cX11_digest 281 = .ok (.ladd, 1)) ∧ (decode cX11_digest 282 = .ok (.lreturn, 1)) := by decide +kernel
theorem dX11_digest_270 : decode cX11_digest 270 = .ok (.lmul, 1) := dX11_digest_270_a.1
theorem dX11_digest_271 : decode cX11_digest 271 = .ok (.aload_n 0, 1) := dX11_digest_270_a.2.1
theorem dX11_digest_272 : decode cX11_digest 272 = .ok (.bipush 7, 2) := dX11_digest_270_a.2.2.1
theorem dX11_digest_274 : decode cX11_digest 274 = .ok (.bipush 30, 2) := dX11_digest_270_a.2.2.2.1
theorem dX11_digest_276 : decode cX11_digest 276 = .ok (.iconst 1, 1) := dX11_digest_270_a.2.2.2.2.1
theorem dX11_digest_277 : decode cX11_digest 277 = .ok (.invokevirtual 301, 3) := dX11_digest_270_a.2.2.2.2.2.1
theorem dX11_digest_280 : decode cX11_digest 280 = .ok (.i2l, 1) := dX11_digest_270_a.2.2.2.2.2.2.1
theorem dX11_digest_281 : decode cX11_digest 281 = .ok (.ladd, 1) := dX11_digest_270_a.2.2.2.2.2.2.2.1
theorem dX11_digest_282 : decode cX11_digest 282 = .ok (.lreturn, 1) := dX11_digest_270_a.2.2.2.2.2.2.2.2
theorem dX11_mixFlight_0_a : (decode cX11_mixFlight 0 = .ok (.lload_n 1, 1)) ∧ (decode cX11_mixFlight 1 = .ok (.lstore 4, 2)) ∧ (decode cX11_mixFlight 3 = .ok (.iconst 0, 1)) ∧ (decode cX11_mixFlight 4 = .ok (.istore 6, 2)) ∧ (decode cX11_mixFlight 6 = .ok (.iload 6, 2)) ∧ (decode cX11_mixFlight 8 = .ok (.iconst 2, 1)) ∧ (decode cX11_mixFlight 9 = .ok (.if_icmp .gt 26, 3)) ∧ (decode cX11_mixFlight 12 = .ok (.ldc2_w 274, 3)) ∧ (decode cX11_mixFlight 15 = .ok (.lload 4, 2)) ∧ (decode cX11_mixFlight 17 = .ok (.lmul, 1)) ∧ (decode cX11_mixFlight 18 = .ok (.aload_n 0, 1)) ∧ (decode cX11_mixFlight 19 = .ok (.iload_n 3, 1)) ∧ (decode cX11_mixFlight 20 = .ok (.iload 6, 2)) ∧ (decode cX11_mixFlight 22 = .ok (.invokevirtual 304, 3)) ∧ (decode cX11_mixFlight 25 = .ok (.i2l, 1)) ∧ (decode cX11_mixFlight 26 = .ok (.ladd, 1)) := by decide +kernel
theorem dX11_mixFlight_0 : decode cX11_mixFlight 0 = .ok (.lload_n 1, 1) := dX11_mixFlight_0_a.1
theorem dX11_mixFlight_1 : decode cX11_mixFlight 1 = .ok (.lstore 4, 2) := dX11_mixFlight_0_a.2.1
theorem dX11_mixFlight_3 : decode cX11_mixFlight 3 = .ok (.iconst 0, 1) := dX11_mixFlight_0_a.2.2.1
theorem dX11_mixFlight_4 : decode cX11_mixFlight 4 = .ok (.istore 6, 2) := dX11_mixFlight_0_a.2.2.2.1
theorem dX11_mixFlight_6 : decode cX11_mixFlight 6 = .ok (.iload 6, 2) := dX11_mixFlight_0_a.2.2.2.2.1
theorem dX11_mixFlight_8 : decode cX11_mixFlight 8 = .ok (.iconst 2, 1) := dX11_mixFlight_0_a.2.2.2.2.2.1
theorem dX11_mixFlight_9 : decode cX11_mixFlight 9 = .ok (.if_icmp .gt 26, 3) := dX11_mixFlight_0_a.2.2.2.2.2.2.1
theorem dX11_mixFlight_12 : decode cX11_mixFlight 12 = .ok (.ldc2_w 274, 3) := dX11_mixFlight_0_a.2.2.2.2.2.2.2.1
theorem dX11_mixFlight_15 : decode cX11_mixFlight 15 = .ok (.lload 4, 2) := dX11_mixFlight_0_a.2.2.2.2.2.2.2.2.1
theorem dX11_mixFlight_17 : decode cX11_mixFlight 17 = .ok (.lmul, 1) := dX11_mixFlight_0_a.2.2.2.2.2.2.2.2.2.1
theorem dX11_mixFlight_18 : decode cX11_mixFlight 18 = .ok (.aload_n 0, 1) := dX11_mixFlight_0_a.2.2.2.2.2.2.2.2.2.2.1
theorem dX11_mixFlight_19 : decode cX11_mixFlight 19 = .ok (.iload_n 3, 1) := dX11_mixFlight_0_a.2.2.2.2.2.2.2.2.2.2.2.1
theorem dX11_mixFlight_20 : decode cX11_mixFlight 20 = .ok (.iload 6, 2) := dX11_mixFlight_0_a.2.2.2.2.2.2.2.2.2.2.2.2.1
theorem dX11_mixFlight_22 : decode cX11_mixFlight 22 = .ok (.invokevirtual 304, 3) := dX11_mixFlight_0_a.2.2.2.2.2.2.2.2.2.2.2.2.2.1
theorem dX11_mixFlight_25 : decode cX11_mixFlight 25 = .ok (.i2l, 1) := dX11_mixFlight_0_a.2.2.2.2.2.2.2.2.2.2.2.2.2.2.1
theorem dX11_mixFlight_26 : decode cX11_mixFlight 26 = .ok (.ladd, 1) := dX11_mixFlight_0_a.2.2.2.2.2.2.2.2.2.2.2.2.2.2.2
theorem dX11_mixFlight_27_a : (decode cX11_mixFlight 27 = .ok (.lstore 4, 2)) ∧ (decode cX11_mixFlight 29 = .ok (.iinc 6 1, 3)) ∧ (decode cX11_mixFlight 32 = .ok (.goto (-26), 3)) ∧ (decode cX11_mixFlight 35 = .ok (.iconst 0, 1)) ∧ (decode cX11_mixFlight 36 = .ok (.istore 6, 2)) ∧ (decode cX11_mixFlight 38 = .ok (.iload 6, 2)) ∧ (decode cX11_mixFlight 40 = .ok (.iconst 3, 1)) ∧ (decode cX11_mixFlight 41 = .ok (.if_icmp .gt 27, 3)) ∧ (decode cX11_mixFlight 44 = .ok (.ldc2_w 274, 3)) ∧ (decode cX11_mixFlight 47 = .ok (.lload 4, 2)) ∧ (decode cX11_mixFlight 49 = .ok (.lmul, 1)) ∧ (decode cX11_mixFlight 50 = .ok (.aload_n 0, 1)) ∧ (decode cX11_mixFlight 51 = .ok (.iload_n 3, 1)) ∧ (decode cX11_mixFlight 52 = .ok (.iconst 3, 1)) ∧ (decode cX11_mixFlight 53 = .ok (.iload 6, 2)) ∧ (decode cX11_mixFlight 55 = .ok (.invokevirtual 307, 3)) := by decide +kernel
theorem dX11_mixFlight_27 : decode cX11_mixFlight 27 = .ok (.lstore 4, 2) := dX11_mixFlight_27_a.1
theorem dX11_mixFlight_29 : decode cX11_mixFlight 29 = .ok (.iinc 6 1, 3) := dX11_mixFlight_27_a.2.1
theorem dX11_mixFlight_32 : decode cX11_mixFlight 32 = .ok (.goto (-26), 3) := dX11_mixFlight_27_a.2.2.1
theorem dX11_mixFlight_35 : decode cX11_mixFlight 35 = .ok (.iconst 0, 1) := dX11_mixFlight_27_a.2.2.2.1
theorem dX11_mixFlight_36 : decode cX11_mixFlight 36 = .ok (.istore 6, 2) := dX11_mixFlight_27_a.2.2.2.2.1
theorem dX11_mixFlight_38 : decode cX11_mixFlight 38 = .ok (.iload 6, 2) := dX11_mixFlight_27_a.2.2.2.2.2.1
theorem dX11_mixFlight_40 : decode cX11_mixFlight 40 = .ok (.iconst 3, 1) := dX11_mixFlight_27_a.2.2.2.2.2.2.1
theorem dX11_mixFlight_41 : decode cX11_mixFlight 41 = .ok (.if_icmp .gt 27, 3) := dX11_mixFlight_27_a.2.2.2.2.2.2.2.1
theorem dX11_mixFlight_44 : decode cX11_mixFlight 44 = .ok (.ldc2_w 274, 3) := dX11_mixFlight_27_a.2.2.2.2.2.2.2.2.1
theorem dX11_mixFlight_47 : decode cX11_mixFlight 47 = .ok (.lload 4, 2) := dX11_mixFlight_27_a.2.2.2.2.2.2.2.2.2.1
theorem dX11_mixFlight_49 : decode cX11_mixFlight 49 = .ok (.lmul, 1) := dX11_mixFlight_27_a.2.2.2.2.2.2.2.2.2.2.1
theorem dX11_mixFlight_50 : decode cX11_mixFlight 50 = .ok (.aload_n 0, 1) := dX11_mixFlight_27_a.2.2.2.2.2.2.2.2.2.2.2.1
theorem dX11_mixFlight_51 : decode cX11_mixFlight 51 = .ok (.iload_n 3, 1) := dX11_mixFlight_27_a.2.2.2.2.2.2.2.2.2.2.2.2.1
theorem dX11_mixFlight_52 : decode cX11_mixFlight 52 = .ok (.iconst 3, 1) := dX11_mixFlight_27_a.2.2.2.2.2.2.2.2.2.2.2.2.2.1
theorem dX11_mixFlight_53 : decode cX11_mixFlight 53 = .ok (.iload 6, 2) := dX11_mixFlight_27_a.2.2.2.2.2.2.2.2.2.2.2.2.2.2.1
theorem dX11_mixFlight_55 : decode cX11_mixFlight 55 = .ok (.invokevirtual 307, 3) := dX11_mixFlight_27_a.2.2.2.2.2.2.2.2.2.2.2.2.2.2.2
theorem dX11_mixFlight_58_a : (decode cX11_mixFlight 58 = .ok (.i2l, 1)) ∧ (decode cX11_mixFlight 59 = .ok (.ladd, 1)) ∧ (decode cX11_mixFlight 60 = .ok (.lstore 4, 2)) ∧ (decode cX11_mixFlight 62 = .ok (.iinc 6 1, 3)) ∧ (decode cX11_mixFlight 65 = .ok (.goto (-27), 3)) ∧ (decode cX11_mixFlight 68 = .ok (.ldc2_w 274, 3)) ∧ (decode cX11_mixFlight 71 = .ok (.lload 4, 2)) ∧ (decode cX11_mixFlight 73 = .ok (.lmul, 1)) ∧ (decode cX11_mixFlight 74 = .ok (.aload_n 0, 1)) ∧ (decode cX11_mixFlight 75 = .ok (.iload_n 3, 1)) ∧ (decode cX11_mixFlight 76 = .ok (.iconst (-1), 1)) ∧ (decode cX11_mixFlight 77 = .ok (.invokevirtual 310, 3)) ∧ (decode cX11_mixFlight 80 = .ok (.i2l, 1)) ∧ (decode cX11_mixFlight 81 = .ok (.ladd, 1)) ∧ (decode cX11_mixFlight 82 = .ok (.lstore 4, 2)) ∧ (decode cX11_mixFlight 84 = .ok (.iconst 0, 1)) := by decide +kernel
theorem dX11_mixFlight_58 : decode cX11_mixFlight 58 = .ok (.i2l, 1) := dX11_mixFlight_58_a.1
theorem dX11_mixFlight_59 : decode cX11_mixFlight 59 = .ok (.ladd, 1) := dX11_mixFlight_58_a.2.1
theorem dX11_mixFlight_60 : decode cX11_mixFlight 60 = .ok (.lstore 4, 2) := dX11_mixFlight_58_a.2.2.1
theorem dX11_mixFlight_62 : decode cX11_mixFlight 62 = .ok (.iinc 6 1, 3) := dX11_mixFlight_58_a.2.2.2.1
theorem dX11_mixFlight_65 : decode cX11_mixFlight 65 = .ok (.goto (-27), 3) := dX11_mixFlight_58_a.2.2.2.2.1
theorem dX11_mixFlight_68 : decode cX11_mixFlight 68 = .ok (.ldc2_w 274, 3) := dX11_mixFlight_58_a.2.2.2.2.2.1
theorem dX11_mixFlight_71 : decode cX11_mixFlight 71 = .ok (.lload 4, 2) := dX11_mixFlight_58_a.2.2.2.2.2.2.1
theorem dX11_mixFlight_73 : decode cX11_mixFlight 73 = .ok (.lmul, 1) := dX11_mixFlight_58_a.2.2.2.2.2.2.2.1
theorem dX11_mixFlight_74 : decode cX11_mixFlight 74 = .ok (.aload_n 0, 1) := dX11_mixFlight_58_a.2.2.2.2.2.2.2.2.1
theorem dX11_mixFlight_75 : decode cX11_mixFlight 75 = .ok (.iload_n 3, 1) := dX11_mixFlight_58_a.2.2.2.2.2.2.2.2.2.1
theorem dX11_mixFlight_76 : decode cX11_mixFlight 76 = .ok (.iconst (-1), 1) := dX11_mixFlight_58_a.2.2.2.2.2.2.2.2.2.2.1
theorem dX11_mixFlight_77 : decode cX11_mixFlight 77 = .ok (.invokevirtual 310, 3) := dX11_mixFlight_58_a.2.2.2.2.2.2.2.2.2.2.2.1
theorem dX11_mixFlight_80 : decode cX11_mixFlight 80 = .ok (.i2l, 1) := dX11_mixFlight_58_a.2.2.2.2.2.2.2.2.2.2.2.2.1
theorem dX11_mixFlight_81 : decode cX11_mixFlight 81 = .ok (.ladd, 1) := dX11_mixFlight_58_a.2.2.2.2.2.2.2.2.2.2.2.2.2.1
theorem dX11_mixFlight_82 : decode cX11_mixFlight 82 = .ok (.lstore 4, 2) := dX11_mixFlight_58_a.2.2.2.2.2.2.2.2.2.2.2.2.2.2.1
theorem dX11_mixFlight_84 : decode cX11_mixFlight 84 = .ok (.iconst 0, 1) := dX11_mixFlight_58_a.2.2.2.2.2.2.2.2.2.2.2.2.2.2.2
theorem dX11_mixFlight_85_a : (decode cX11_mixFlight 85 = .ok (.istore 6, 2)) ∧ (decode cX11_mixFlight 87 = .ok (.iload 6, 2)) ∧ (decode cX11_mixFlight 89 = .ok (.iconst 2, 1)) ∧ (decode cX11_mixFlight 90 = .ok (.if_icmp .gt 28, 3)) ∧ (decode cX11_mixFlight 93 = .ok (.ldc2_w 274, 3)) ∧ (decode cX11_mixFlight 96 = .ok (.lload 4, 2)) ∧ (decode cX11_mixFlight 98 = .ok (.lmul, 1)) ∧ (decode cX11_mixFlight 99 = .ok (.aload_n 0, 1)) ∧ (decode cX11_mixFlight 100 = .ok (.getfield 49, 3)) ∧ (decode cX11_mixFlight 103 = .ok (.iload 6, 2)) ∧ (decode cX11_mixFlight 105 = .ok (.invokevirtual 177, 3)) ∧ (decode cX11_mixFlight 108 = .ok (.i2l, 1)) ∧ (decode cX11_mixFlight 109 = .ok (.ladd, 1)) ∧ (decode cX11_mixFlight 110 = .ok (.lstore 4, 2)) ∧ (decode cX11_mixFlight 112 = .ok (.iinc 6 1, 3)) ∧ (decode cX11_mixFlight 115 = .ok (.goto (-28), 3)) := by decide +kernel
theorem dX11_mixFlight_85 : decode cX11_mixFlight 85 = .ok (.istore 6, 2) := dX11_mixFlight_85_a.1
theorem dX11_mixFlight_87 : decode cX11_mixFlight 87 = .ok (.iload 6, 2) := dX11_mixFlight_85_a.2.1
theorem dX11_mixFlight_89 : decode cX11_mixFlight 89 = .ok (.iconst 2, 1) := dX11_mixFlight_85_a.2.2.1
theorem dX11_mixFlight_90 : decode cX11_mixFlight 90 = .ok (.if_icmp .gt 28, 3) := dX11_mixFlight_85_a.2.2.2.1
theorem dX11_mixFlight_93 : decode cX11_mixFlight 93 = .ok (.ldc2_w 274, 3) := dX11_mixFlight_85_a.2.2.2.2.1
theorem dX11_mixFlight_96 : decode cX11_mixFlight 96 = .ok (.lload 4, 2) := dX11_mixFlight_85_a.2.2.2.2.2.1
theorem dX11_mixFlight_98 : decode cX11_mixFlight 98 = .ok (.lmul, 1) := dX11_mixFlight_85_a.2.2.2.2.2.2.1
theorem dX11_mixFlight_99 : decode cX11_mixFlight 99 = .ok (.aload_n 0, 1) := dX11_mixFlight_85_a.2.2.2.2.2.2.2.1
theorem dX11_mixFlight_100 : decode cX11_mixFlight 100 = .ok (.getfield 49, 3) := dX11_mixFlight_85_a.2.2.2.2.2.2.2.2.1
theorem dX11_mixFlight_103 : decode cX11_mixFlight 103 = .ok (.iload 6, 2) := dX11_mixFlight_85_a.2.2.2.2.2.2.2.2.2.1
theorem dX11_mixFlight_105 : decode cX11_mixFlight 105 = .ok (.invokevirtual 177, 3) := dX11_mixFlight_85_a.2.2.2.2.2.2.2.2.2.2.1
theorem dX11_mixFlight_108 : decode cX11_mixFlight 108 = .ok (.i2l, 1) := dX11_mixFlight_85_a.2.2.2.2.2.2.2.2.2.2.2.1
theorem dX11_mixFlight_109 : decode cX11_mixFlight 109 = .ok (.ladd, 1) := dX11_mixFlight_85_a.2.2.2.2.2.2.2.2.2.2.2.2.1
theorem dX11_mixFlight_110 : decode cX11_mixFlight 110 = .ok (.lstore 4, 2) := dX11_mixFlight_85_a.2.2.2.2.2.2.2.2.2.2.2.2.2.1
theorem dX11_mixFlight_112 : decode cX11_mixFlight 112 = .ok (.iinc 6 1, 3) := dX11_mixFlight_85_a.2.2.2.2.2.2.2.2.2.2.2.2.2.2.1
theorem dX11_mixFlight_115 : decode cX11_mixFlight 115 = .ok (.goto (-28), 3) := dX11_mixFlight_85_a.2.2.2.2.2.2.2.2.2.2.2.2.2.2.2
theorem dX11_mixFlight_118_a : (decode cX11_mixFlight 118 = .ok (.iconst 0, 1)) ∧ (decode cX11_mixFlight 119 = .ok (.istore 6, 2)) ∧ (decode cX11_mixFlight 121 = .ok (.iload 6, 2)) ∧ (decode cX11_mixFlight 123 = .ok (.iconst 1, 1)) ∧ (decode cX11_mixFlight 124 = .ok (.if_icmp .gt 26, 3)) ∧ (decode cX11_mixFlight 127 = .ok (.ldc2_w 274, 3)) ∧ (decode cX11_mixFlight 130 = .ok (.lload 4, 2)) ∧ (decode cX11_mixFlight 132 = .ok (.lmul, 1)) ∧ (decode cX11_mixFlight 133 = .ok (.aload_n 0, 1)) ∧ (decode cX11_mixFlight 134 = .ok (.iload_n 3, 1)) ∧ (decode cX11_mixFlight 135 = .ok (.iload 6, 2)) ∧ (decode cX11_mixFlight 137 = .ok (.invokevirtual 313, 3)) ∧ (decode cX11_mixFlight 140 = .ok (.i2l, 1)) ∧ (decode cX11_mixFlight 141 = .ok (.ladd, 1)) ∧ (decode cX11_mixFlight 142 = .ok (.lstore 4, 2)) ∧ (decode cX11_mixFlight 144 = .ok (.iinc 6 1, 3)) := by decide +kernel
theorem dX11_mixFlight_118 : decode cX11_mixFlight 118 = .ok (.iconst 0, 1) := dX11_mixFlight_118_a.1
theorem dX11_mixFlight_119 : decode cX11_mixFlight 119 = .ok (.istore 6, 2) := dX11_mixFlight_118_a.2.1
theorem dX11_mixFlight_121 : decode cX11_mixFlight 121 = .ok (.iload 6, 2) := dX11_mixFlight_118_a.2.2.1
theorem dX11_mixFlight_123 : decode cX11_mixFlight 123 = .ok (.iconst 1, 1) := dX11_mixFlight_118_a.2.2.2.1
theorem dX11_mixFlight_124 : decode cX11_mixFlight 124 = .ok (.if_icmp .gt 26, 3) := dX11_mixFlight_118_a.2.2.2.2.1
theorem dX11_mixFlight_127 : decode cX11_mixFlight 127 = .ok (.ldc2_w 274, 3) := dX11_mixFlight_118_a.2.2.2.2.2.1
theorem dX11_mixFlight_130 : decode cX11_mixFlight 130 = .ok (.lload 4, 2) := dX11_mixFlight_118_a.2.2.2.2.2.2.1
theorem dX11_mixFlight_132 : decode cX11_mixFlight 132 = .ok (.lmul, 1) := dX11_mixFlight_118_a.2.2.2.2.2.2.2.1
theorem dX11_mixFlight_133 : decode cX11_mixFlight 133 = .ok (.aload_n 0, 1) := dX11_mixFlight_118_a.2.2.2.2.2.2.2.2.1
theorem dX11_mixFlight_134 : decode cX11_mixFlight 134 = .ok (.iload_n 3, 1) := dX11_mixFlight_118_a.2.2.2.2.2.2.2.2.2.1
theorem dX11_mixFlight_135 : decode cX11_mixFlight 135 = .ok (.iload 6, 2) := dX11_mixFlight_118_a.2.2.2.2.2.2.2.2.2.2.1
theorem dX11_mixFlight_137 : decode cX11_mixFlight 137 = .ok (.invokevirtual 313, 3) := dX11_mixFlight_118_a.2.2.2.2.2.2.2.2.2.2.2.1
theorem dX11_mixFlight_140 : decode cX11_mixFlight 140 = .ok (.i2l, 1) := dX11_mixFlight_118_a.2.2.2.2.2.2.2.2.2.2.2.2.1
theorem dX11_mixFlight_141 : decode cX11_mixFlight 141 = .ok (.ladd, 1) := dX11_mixFlight_118_a.2.2.2.2.2.2.2.2.2.2.2.2.2.1
theorem dX11_mixFlight_142 : decode cX11_mixFlight 142 = .ok (.lstore 4, 2) := dX11_mixFlight_118_a.2.2.2.2.2.2.2.2.2.2.2.2.2.2.1
theorem dX11_mixFlight_144 : decode cX11_mixFlight 144 = .ok (.iinc 6 1, 3) := dX11_mixFlight_118_a.2.2.2.2.2.2.2.2.2.2.2.2.2.2.2
theorem dX11_mixFlight_147_a : (decode cX11_mixFlight 147 = .ok (.goto (-26), 3)) ∧ (decode cX11_mixFlight 150 = .ok (.iconst 0, 1)) ∧ (decode cX11_mixFlight 151 = .ok (.istore 6, 2)) ∧ (decode cX11_mixFlight 153 = .ok (.iload 6, 2)) ∧ (decode cX11_mixFlight 155 = .ok (.iconst 1, 1)) ∧ (decode cX11_mixFlight 156 = .ok (.if_icmp .gt 26, 3)) ∧ (decode cX11_mixFlight 159 = .ok (.ldc2_w 274, 3)) ∧ (decode cX11_mixFlight 162 = .ok (.lload 4, 2)) ∧ (decode cX11_mixFlight 164 = .ok (.lmul, 1)) ∧ (decode cX11_mixFlight 165 = .ok (.aload_n 0, 1)) ∧ (decode cX11_mixFlight 166 = .ok (.iload_n 3, 1)) ∧ (decode cX11_mixFlight 167 = .ok (.iload 6, 2)) ∧ (decode cX11_mixFlight 169 = .ok (.invokevirtual 316, 3)) ∧ (decode cX11_mixFlight 172 = .ok (.i2l, 1)) ∧ (decode cX11_mixFlight 173 = .ok (.ladd, 1)) ∧ (decode cX11_mixFlight 174 = .ok (.lstore 4, 2)) := by decide +kernel
theorem dX11_mixFlight_147 : decode cX11_mixFlight 147 = .ok (.goto (-26), 3) := dX11_mixFlight_147_a.1
theorem dX11_mixFlight_150 : decode cX11_mixFlight 150 = .ok (.iconst 0, 1) := dX11_mixFlight_147_a.2.1
theorem dX11_mixFlight_151 : decode cX11_mixFlight 151 = .ok (.istore 6, 2) := dX11_mixFlight_147_a.2.2.1
theorem dX11_mixFlight_153 : decode cX11_mixFlight 153 = .ok (.iload 6, 2) := dX11_mixFlight_147_a.2.2.2.1
theorem dX11_mixFlight_155 : decode cX11_mixFlight 155 = .ok (.iconst 1, 1) := dX11_mixFlight_147_a.2.2.2.2.1
theorem dX11_mixFlight_156 : decode cX11_mixFlight 156 = .ok (.if_icmp .gt 26, 3) := dX11_mixFlight_147_a.2.2.2.2.2.1
theorem dX11_mixFlight_159 : decode cX11_mixFlight 159 = .ok (.ldc2_w 274, 3) := dX11_mixFlight_147_a.2.2.2.2.2.2.1
theorem dX11_mixFlight_162 : decode cX11_mixFlight 162 = .ok (.lload 4, 2) := dX11_mixFlight_147_a.2.2.2.2.2.2.2.1
theorem dX11_mixFlight_164 : decode cX11_mixFlight 164 = .ok (.lmul, 1) := dX11_mixFlight_147_a.2.2.2.2.2.2.2.2.1
theorem dX11_mixFlight_165 : decode cX11_mixFlight 165 = .ok (.aload_n 0, 1) := dX11_mixFlight_147_a.2.2.2.2.2.2.2.2.2.1
theorem dX11_mixFlight_166 : decode cX11_mixFlight 166 = .ok (.iload_n 3, 1) := dX11_mixFlight_147_a.2.2.2.2.2.2.2.2.2.2.1
theorem dX11_mixFlight_167 : decode cX11_mixFlight 167 = .ok (.iload 6, 2) := dX11_mixFlight_147_a.2.2.2.2.2.2.2.2.2.2.2.1
theorem dX11_mixFlight_169 : decode cX11_mixFlight 169 = .ok (.invokevirtual 316, 3) := dX11_mixFlight_147_a.2.2.2.2.2.2.2.2.2.2.2.2.1
theorem dX11_mixFlight_172 : decode cX11_mixFlight 172 = .ok (.i2l, 1) := dX11_mixFlight_147_a.2.2.2.2.2.2.2.2.2.2.2.2.2.1
theorem dX11_mixFlight_173 : decode cX11_mixFlight 173 = .ok (.ladd, 1) := dX11_mixFlight_147_a.2.2.2.2.2.2.2.2.2.2.2.2.2.2.1
theorem dX11_mixFlight_174 : decode cX11_mixFlight 174 = .ok (.lstore 4, 2) := dX11_mixFlight_147_a.2.2.2.2.2.2.2.2.2.2.2.2.2.2.2
theorem dX11_mixFlight_176_a : (decode cX11_mixFlight 176 = .ok (.iinc 6 1, 3)) ∧ (decode cX11_mixFlight 179 = .ok (.goto (-26), 3)) ∧ (decode cX11_mixFlight 182 = .ok (.ldc2_w 274, 3)) ∧ (decode cX11_mixFlight 185 = .ok (.lload 4, 2)) ∧ (decode cX11_mixFlight 187 = .ok (.lmul, 1)) ∧ (decode cX11_mixFlight 188 = .ok (.aload_n 0, 1)) ∧ (decode cX11_mixFlight 189 = .ok (.iload_n 3, 1)) ∧ (decode cX11_mixFlight 190 = .ok (.invokevirtual 319, 3)) ∧ (decode cX11_mixFlight 193 = .ok (.i2l, 1)) ∧ (decode cX11_mixFlight 194 = .ok (.ladd, 1)) ∧ (decode cX11_mixFlight 195 = .ok (.lstore 4, 2)) ∧ (decode cX11_mixFlight 197 = .ok (.iconst 0, 1)) ∧ (decode cX11_mixFlight 198 = .ok (.istore 6, 2)) ∧ (decode cX11_mixFlight 200 = .ok (.iload 6, 2)) ∧ (decode cX11_mixFlight 202 = .ok (.iconst 1, 1)) ∧ (decode cX11_mixFlight 203 = .ok (.if_icmp .gt 26, 3)) := by decide +kernel
theorem dX11_mixFlight_176 : decode cX11_mixFlight 176 = .ok (.iinc 6 1, 3) := dX11_mixFlight_176_a.1
theorem dX11_mixFlight_179 : decode cX11_mixFlight 179 = .ok (.goto (-26), 3) := dX11_mixFlight_176_a.2.1
theorem dX11_mixFlight_182 : decode cX11_mixFlight 182 = .ok (.ldc2_w 274, 3) := dX11_mixFlight_176_a.2.2.1
theorem dX11_mixFlight_185 : decode cX11_mixFlight 185 = .ok (.lload 4, 2) := dX11_mixFlight_176_a.2.2.2.1
theorem dX11_mixFlight_187 : decode cX11_mixFlight 187 = .ok (.lmul, 1) := dX11_mixFlight_176_a.2.2.2.2.1
theorem dX11_mixFlight_188 : decode cX11_mixFlight 188 = .ok (.aload_n 0, 1) := dX11_mixFlight_176_a.2.2.2.2.2.1
theorem dX11_mixFlight_189 : decode cX11_mixFlight 189 = .ok (.iload_n 3, 1) := dX11_mixFlight_176_a.2.2.2.2.2.2.1
theorem dX11_mixFlight_190 : decode cX11_mixFlight 190 = .ok (.invokevirtual 319, 3) := dX11_mixFlight_176_a.2.2.2.2.2.2.2.1
theorem dX11_mixFlight_193 : decode cX11_mixFlight 193 = .ok (.i2l, 1) := dX11_mixFlight_176_a.2.2.2.2.2.2.2.2.1
theorem dX11_mixFlight_194 : decode cX11_mixFlight 194 = .ok (.ladd, 1) := dX11_mixFlight_176_a.2.2.2.2.2.2.2.2.2.1
theorem dX11_mixFlight_195 : decode cX11_mixFlight 195 = .ok (.lstore 4, 2) := dX11_mixFlight_176_a.2.2.2.2.2.2.2.2.2.2.1
theorem dX11_mixFlight_197 : decode cX11_mixFlight 197 = .ok (.iconst 0, 1) := dX11_mixFlight_176_a.2.2.2.2.2.2.2.2.2.2.2.1
theorem dX11_mixFlight_198 : decode cX11_mixFlight 198 = .ok (.istore 6, 2) := dX11_mixFlight_176_a.2.2.2.2.2.2.2.2.2.2.2.2.1
theorem dX11_mixFlight_200 : decode cX11_mixFlight 200 = .ok (.iload 6, 2) := dX11_mixFlight_176_a.2.2.2.2.2.2.2.2.2.2.2.2.2.1
theorem dX11_mixFlight_202 : decode cX11_mixFlight 202 = .ok (.iconst 1, 1) := dX11_mixFlight_176_a.2.2.2.2.2.2.2.2.2.2.2.2.2.2.1
theorem dX11_mixFlight_203 : decode cX11_mixFlight 203 = .ok (.if_icmp .gt 26, 3) := dX11_mixFlight_176_a.2.2.2.2.2.2.2.2.2.2.2.2.2.2.2
theorem dX11_mixFlight_206_a : (decode cX11_mixFlight 206 = .ok (.ldc2_w 274, 3)) ∧ (decode cX11_mixFlight 209 = .ok (.lload 4, 2)) ∧ (decode cX11_mixFlight 211 = .ok (.lmul, 1)) ∧ (decode cX11_mixFlight 212 = .ok (.aload_n 0, 1)) ∧ (decode cX11_mixFlight 213 = .ok (.iconst 5, 1)) ∧ (decode cX11_mixFlight 214 = .ok (.iload_n 3, 1)) ∧ (decode cX11_mixFlight 215 = .ok (.iload 6, 2)) ∧ (decode cX11_mixFlight 217 = .ok (.invokevirtual 322, 3)) ∧ (decode cX11_mixFlight 220 = .ok (.ladd, 1)) ∧ (decode cX11_mixFlight 221 = .ok (.lstore 4, 2)) ∧ (decode cX11_mixFlight 223 = .ok (.iinc 6 1, 3)) ∧ (decode cX11_mixFlight 226 = .ok (.goto (-26), 3)) ∧ (decode cX11_mixFlight 229 = .ok (.lload 4, 2)) ∧ (decode cX11_mixFlight 231 = .ok (.lreturn, 1)) := by decide +kernel
theorem dX11_mixFlight_206 : decode cX11_mixFlight 206 = .ok (.ldc2_w 274, 3) := dX11_mixFlight_206_a.1
theorem dX11_mixFlight_209 : decode cX11_mixFlight 209 = .ok (.lload 4, 2) := dX11_mixFlight_206_a.2.1
theorem dX11_mixFlight_211 : decode cX11_mixFlight 211 = .ok (.lmul, 1) := dX11_mixFlight_206_a.2.2.1
theorem dX11_mixFlight_212 : decode cX11_mixFlight 212 = .ok (.aload_n 0, 1) := dX11_mixFlight_206_a.2.2.2.1
theorem dX11_mixFlight_213 : decode cX11_mixFlight 213 = .ok (.iconst 5, 1) := dX11_mixFlight_206_a.2.2.2.2.1
theorem dX11_mixFlight_214 : decode cX11_mixFlight 214 = .ok (.iload_n 3, 1) := dX11_mixFlight_206_a.2.2.2.2.2.1
theorem dX11_mixFlight_215 : decode cX11_mixFlight 215 = .ok (.iload 6, 2) := dX11_mixFlight_206_a.2.2.2.2.2.2.1
theorem dX11_mixFlight_217 : decode cX11_mixFlight 217 = .ok (.invokevirtual 322, 3) := dX11_mixFlight_206_a.2.2.2.2.2.2.2.1
theorem dX11_mixFlight_220 : decode cX11_mixFlight 220 = .ok (.ladd, 1) := dX11_mixFlight_206_a.2.2.2.2.2.2.2.2.1
theorem dX11_mixFlight_221 : decode cX11_mixFlight 221 = .ok (.lstore 4, 2) := dX11_mixFlight_206_a.2.2.2.2.2.2.2.2.2.1
theorem dX11_mixFlight_223 : decode cX11_mixFlight 223 = .ok (.iinc 6 1, 3) := dX11_mixFlight_206_a.2.2.2.2.2.2.2.2.2.2.1
theorem dX11_mixFlight_226 : decode cX11_mixFlight 226 = .ok (.goto (-26), 3) := dX11_mixFlight_206_a.2.2.2.2.2.2.2.2.2.2.2.1
theorem dX11_mixFlight_229 : decode cX11_mixFlight 229 = .ok (.lload 4, 2) := dX11_mixFlight_206_a.2.2.2.2.2.2.2.2.2.2.2.2.1
theorem dX11_mixFlight_231 : decode cX11_mixFlight 231 = .ok (.lreturn, 1) := dX11_mixFlight_206_a.2.2.2.2.2.2.2.2.2.2.2.2.2
theorem dX11_textOf_0_a : (decode cX11_textOf 0 = .ok (.iload_n 1, 1)) ∧ (decode cX11_textOf 1 = .ok (.tableswitch 42 0 2 #[27, 32, 37], 27)) ∧ (decode cX11_textOf 28 = .ok (.aload_n 0, 1)) ∧ (decode cX11_textOf 29 = .ok (.getfield 10, 3)) ∧ (decode cX11_textOf 32 = .ok (.areturn, 1)) ∧ (decode cX11_textOf 33 = .ok (.aload_n 0, 1)) ∧ (decode cX11_textOf 34 = .ok (.getfield 19, 3)) ∧ (decode cX11_textOf 37 = .ok (.areturn, 1)) ∧ (decode cX11_textOf 38 = .ok (.aload_n 0, 1)) ∧ (decode cX11_textOf 39 = .ok (.getfield 26, 3)) ∧ (decode cX11_textOf 42 = .ok (.areturn, 1)) ∧ (decode cX11_textOf 43 = .ok (.aconst_null, 1)) ∧ (decode cX11_textOf 44 = .ok (.areturn, 1)) := by decide +kernel
theorem dX11_textOf_0 : decode cX11_textOf 0 = .ok (.iload_n 1, 1) := dX11_textOf_0_a.1
theorem dX11_textOf_1 : decode cX11_textOf 1 = .ok (.tableswitch 42 0 2 #[27, 32, 37], 27) := dX11_textOf_0_a.2.1
theorem dX11_textOf_28 : decode cX11_textOf 28 = .ok (.aload_n 0, 1) := dX11_textOf_0_a.2.2.1
theorem dX11_textOf_29 : decode cX11_textOf 29 = .ok (.getfield 10, 3) := dX11_textOf_0_a.2.2.2.1
theorem dX11_textOf_32 : decode cX11_textOf 32 = .ok (.areturn, 1) := dX11_textOf_0_a.2.2.2.2.1
theorem dX11_textOf_33 : decode cX11_textOf 33 = .ok (.aload_n 0, 1) := dX11_textOf_0_a.2.2.2.2.2.1
theorem dX11_textOf_34 : decode cX11_textOf 34 = .ok (.getfield 19, 3) := dX11_textOf_0_a.2.2.2.2.2.2.1
theorem dX11_textOf_37 : decode cX11_textOf 37 = .ok (.areturn, 1) := dX11_textOf_0_a.2.2.2.2.2.2.2.1
theorem dX11_textOf_38 : decode cX11_textOf 38 = .ok (.aload_n 0, 1) := dX11_textOf_0_a.2.2.2.2.2.2.2.2.1
theorem dX11_textOf_39 : decode cX11_textOf 39 = .ok (.getfield 26, 3) := dX11_textOf_0_a.2.2.2.2.2.2.2.2.2.1
theorem dX11_textOf_42 : decode cX11_textOf 42 = .ok (.areturn, 1) := dX11_textOf_0_a.2.2.2.2.2.2.2.2.2.2.1
theorem dX11_textOf_43 : decode cX11_textOf 43 = .ok (.aconst_null, 1) := dX11_textOf_0_a.2.2.2.2.2.2.2.2.2.2.2.1
theorem dX11_textOf_44 : decode cX11_textOf 44 = .ok (.areturn, 1) := dX11_textOf_0_a.2.2.2.2.2.2.2.2.2.2.2.2
theorem dX11_sheetOf_0_a : (decode cX11_sheetOf 0 = .ok (.iload_n 1, 1)) ∧ (decode cX11_sheetOf 1 = .ok (.ifCond .lt 21, 3)) ∧ (decode cX11_sheetOf 4 = .ok (.iload_n 1, 1)) ∧ (decode cX11_sheetOf 5 = .ok (.aload_n 0, 1)) ∧ (decode cX11_sheetOf 6 = .ok (.getfield 79, 3)) ∧ (decode cX11_sheetOf 9 = .ok (.arraylength, 1)) ∧ (decode cX11_sheetOf 10 = .ok (.if_icmp .ge 12, 3)) ∧ (decode cX11_sheetOf 13 = .ok (.aload_n 0, 1)) ∧ (decode cX11_sheetOf 14 = .ok (.getfield 79, 3)) ∧ (decode cX11_sheetOf 17 = .ok (.iload_n 1, 1)) ∧ (decode cX11_sheetOf 18 = .ok (.aaload, 1)) ∧ (decode cX11_sheetOf 19 = .ok (.goto 4, 3)) ∧ (decode cX11_sheetOf 22 = .ok (.aconst_null, 1)) ∧ (decode cX11_sheetOf 23 = .ok (.areturn, 1)) := by decide +kernel
theorem dX11_sheetOf_0 : decode cX11_sheetOf 0 = .ok (.iload_n 1, 1) := dX11_sheetOf_0_a.1
theorem dX11_sheetOf_1 : decode cX11_sheetOf 1 = .ok (.ifCond .lt 21, 3) := dX11_sheetOf_0_a.2.1
theorem dX11_sheetOf_4 : decode cX11_sheetOf 4 = .ok (.iload_n 1, 1) := dX11_sheetOf_0_a.2.2.1
theorem dX11_sheetOf_5 : decode cX11_sheetOf 5 = .ok (.aload_n 0, 1) := dX11_sheetOf_0_a.2.2.2.1
theorem dX11_sheetOf_6 : decode cX11_sheetOf 6 = .ok (.getfield 79, 3) := dX11_sheetOf_0_a.2.2.2.2.1
theorem dX11_sheetOf_9 : decode cX11_sheetOf 9 = .ok (.arraylength, 1) := dX11_sheetOf_0_a.2.2.2.2.2.1
theorem dX11_sheetOf_10 : decode cX11_sheetOf 10 = .ok (.if_icmp .ge 12, 3) := dX11_sheetOf_0_a.2.2.2.2.2.2.1
theorem dX11_sheetOf_13 : decode cX11_sheetOf 13 = .ok (.aload_n 0, 1) := dX11_sheetOf_0_a.2.2.2.2.2.2.2.1
theorem dX11_sheetOf_14 : decode cX11_sheetOf 14 = .ok (.getfield 79, 3) := dX11_sheetOf_0_a.2.2.2.2.2.2.2.2.1
theorem dX11_sheetOf_17 : decode cX11_sheetOf 17 = .ok (.iload_n 1, 1) := dX11_sheetOf_0_a.2.2.2.2.2.2.2.2.2.1
theorem dX11_sheetOf_18 : decode cX11_sheetOf 18 = .ok (.aaload, 1) := dX11_sheetOf_0_a.2.2.2.2.2.2.2.2.2.2.1
theorem dX11_sheetOf_19 : decode cX11_sheetOf 19 = .ok (.goto 4, 3) := dX11_sheetOf_0_a.2.2.2.2.2.2.2.2.2.2.2.1
theorem dX11_sheetOf_22 : decode cX11_sheetOf 22 = .ok (.aconst_null, 1) := dX11_sheetOf_0_a.2.2.2.2.2.2.2.2.2.2.2.2.1
theorem dX11_sheetOf_23 : decode cX11_sheetOf 23 = .ok (.areturn, 1) := dX11_sheetOf_0_a.2.2.2.2.2.2.2.2.2.2.2.2.2
theorem dX11_isForm_0_a : (decode cX11_isForm 0 = .ok (.iload_n 0, 1)) ∧ (decode cX11_isForm 1 = .ok (.ifCond .lt 12, 3)) ∧ (decode cX11_isForm 4 = .ok (.iload_n 0, 1)) ∧ (decode cX11_isForm 5 = .ok (.iconst 2, 1)) ∧ (decode cX11_isForm 6 = .ok (.if_icmp .gt 7, 3)) ∧ (decode cX11_isForm 9 = .ok (.iconst 1, 1)) ∧ (decode cX11_isForm 10 = .ok (.goto 4, 3)) ∧ (decode cX11_isForm 13 = .ok (.iconst 0, 1)) ∧ (decode cX11_isForm 14 = .ok (.ireturn, 1)) := by decide +kernel
theorem dX11_isForm_0 : decode cX11_isForm 0 = .ok (.iload_n 0, 1) := dX11_isForm_0_a.1
theorem dX11_isForm_1 : decode cX11_isForm 1 = .ok (.ifCond .lt 12, 3) := dX11_isForm_0_a.2.1
theorem dX11_isForm_4 : decode cX11_isForm 4 = .ok (.iload_n 0, 1) := dX11_isForm_0_a.2.2.1
theorem dX11_isForm_5 : decode cX11_isForm 5 = .ok (.iconst 2, 1) := dX11_isForm_0_a.2.2.2.1
theorem dX11_isForm_6 : decode cX11_isForm 6 = .ok (.if_icmp .gt 7, 3) := dX11_isForm_0_a.2.2.2.2.1
theorem dX11_isForm_9 : decode cX11_isForm 9 = .ok (.iconst 1, 1) := dX11_isForm_0_a.2.2.2.2.2.1
theorem dX11_isForm_10 : decode cX11_isForm 10 = .ok (.goto 4, 3) := dX11_isForm_0_a.2.2.2.2.2.2.1
theorem dX11_isForm_13 : decode cX11_isForm 13 = .ok (.iconst 0, 1) := dX11_isForm_0_a.2.2.2.2.2.2.2.1
theorem dX11_isForm_14 : decode cX11_isForm 14 = .ok (.ireturn, 1) := dX11_isForm_0_a.2.2.2.2.2.2.2.2
theorem dX11_found_0_a : (decode cX11_found 0 = .ok (.aload_n 0, 1)) ∧ (decode cX11_found 1 = .ok (.iload_n 1, 1)) ∧ (decode cX11_found 2 = .ok (.putfield 269, 3)) ∧ (decode cX11_found 5 = .ok (.bipush (-10), 2)) ∧ (decode cX11_found 7 = .ok (.iload_n 1, 1)) ∧ (decode cX11_found 8 = .ok (.isub, 1)) ∧ (decode cX11_found 9 = .ok (.ireturn, 1)) := by decide +kernel
theorem dX11_found_0 : decode cX11_found 0 = .ok (.aload_n 0, 1) := dX11_found_0_a.1
theorem dX11_found_1 : decode cX11_found 1 = .ok (.iload_n 1, 1) := dX11_found_0_a.2.1
theorem dX11_found_2 : decode cX11_found 2 = .ok (.putfield 269, 3) := dX11_found_0_a.2.2.1
theorem dX11_found_5 : decode cX11_found 5 = .ok (.bipush (-10), 2) := dX11_found_0_a.2.2.2.1
theorem dX11_found_7 : decode cX11_found 7 = .ok (.iload_n 1, 1) := dX11_found_0_a.2.2.2.2.1
theorem dX11_found_8 : decode cX11_found 8 = .ok (.isub, 1) := dX11_found_0_a.2.2.2.2.2.1
theorem dX11_found_9 : decode cX11_found 9 = .ok (.ireturn, 1) := dX11_found_0_a.2.2.2.2.2.2
theorem dX11_itemRefusal_0_a : (decode cX11_itemRefusal 0 = .ok (.aload_n 1, 1)) ∧ (decode cX11_itemRefusal 1 = .ok (.getfield 133, 3)) ∧ (decode cX11_itemRefusal 4 = .ok (.ifCond .eq 9, 3)) ∧ (decode cX11_itemRefusal 7 = .ok (.aload_n 0, 1)) ∧ (decode cX11_itemRefusal 8 = .ok (.iconst 1, 1)) ∧ (decode cX11_itemRefusal 9 = .ok (.invokevirtual 137, 3)) ∧ (decode cX11_itemRefusal 12 = .ok (.ireturn, 1)) ∧ (decode cX11_itemRefusal 13 = .ok (.aload_n 1, 1)) ∧ (decode cX11_itemRefusal 14 = .ok (.getfield 245, 3)) ∧ (decode cX11_itemRefusal 17 = .ok (.iload_n 2, 1)) ∧ (decode cX11_itemRefusal 18 = .ok (.if_icmp .eq 9, 3)) ∧ (decode cX11_itemRefusal 21 = .ok (.aload_n 0, 1)) ∧ (decode cX11_itemRefusal 22 = .ok (.iconst 3, 1)) ∧ (decode cX11_itemRefusal 23 = .ok (.invokevirtual 137, 3)) ∧ (decode cX11_itemRefusal 26 = .ok (.ireturn, 1)) ∧ (decode cX11_itemRefusal 27 = .ok (.aload_n 1, 1)) := by decide +kernel
theorem dX11_itemRefusal_0 : decode cX11_itemRefusal 0 = .ok (.aload_n 1, 1) := dX11_itemRefusal_0_a.1
theorem dX11_itemRefusal_1 : decode cX11_itemRefusal 1 = .ok (.getfield 133, 3) := dX11_itemRefusal_0_a.2.1
theorem dX11_itemRefusal_4 : decode cX11_itemRefusal 4 = .ok (.ifCond .eq 9, 3) := dX11_itemRefusal_0_a.2.2.1
theorem dX11_itemRefusal_7 : decode cX11_itemRefusal 7 = .ok (.aload_n 0, 1) := dX11_itemRefusal_0_a.2.2.2.1
theorem dX11_itemRefusal_8 : decode cX11_itemRefusal 8 = .ok (.iconst 1, 1) := dX11_itemRefusal_0_a.2.2.2.2.1
theorem dX11_itemRefusal_9 : decode cX11_itemRefusal 9 = .ok (.invokevirtual 137, 3) := dX11_itemRefusal_0_a.2.2.2.2.2.1
theorem dX11_itemRefusal_12 : decode cX11_itemRefusal 12 = .ok (.ireturn, 1) := dX11_itemRefusal_0_a.2.2.2.2.2.2.1
theorem dX11_itemRefusal_13 : decode cX11_itemRefusal 13 = .ok (.aload_n 1, 1) := dX11_itemRefusal_0_a.2.2.2.2.2.2.2.1
theorem dX11_itemRefusal_14 : decode cX11_itemRefusal 14 = .ok (.getfield 245, 3) := dX11_itemRefusal_0_a.2.2.2.2.2.2.2.2.1
theorem dX11_itemRefusal_17 : decode cX11_itemRefusal 17 = .ok (.iload_n 2, 1) := dX11_itemRefusal_0_a.2.2.2.2.2.2.2.2.2.1
theorem dX11_itemRefusal_18 : decode cX11_itemRefusal 18 = .ok (.if_icmp .eq 9, 3) := dX11_itemRefusal_0_a.2.2.2.2.2.2.2.2.2.2.1
theorem dX11_itemRefusal_21 : decode cX11_itemRefusal 21 = .ok (.aload_n 0, 1) := dX11_itemRefusal_0_a.2.2.2.2.2.2.2.2.2.2.2.1
theorem dX11_itemRefusal_22 : decode cX11_itemRefusal 22 = .ok (.iconst 3, 1) := dX11_itemRefusal_0_a.2.2.2.2.2.2.2.2.2.2.2.2.1
theorem dX11_itemRefusal_23 : decode cX11_itemRefusal 23 = .ok (.invokevirtual 137, 3) := dX11_itemRefusal_0_a.2.2.2.2.2.2.2.2.2.2.2.2.2.1
theorem dX11_itemRefusal_26 : decode cX11_itemRefusal 26 = .ok (.ireturn, 1) := dX11_itemRefusal_0_a.2.2.2.2.2.2.2.2.2.2.2.2.2.2.1
theorem dX11_itemRefusal_27 : decode cX11_itemRefusal 27 = .ok (.aload_n 1, 1) := dX11_itemRefusal_0_a.2.2.2.2.2.2.2.2.2.2.2.2.2.2.2
theorem dX11_itemRefusal_28_a : (decode cX11_itemRefusal 28 = .ok (.iload_n 3, 1)) ∧ (decode cX11_itemRefusal 29 = .ok (.iconst 1, 1)) ∧ (decode cX11_itemRefusal 30 = .ok (.invokevirtual 248, 3)) ∧ (decode cX11_itemRefusal 33 = .ok (.ifCond .eq 7, 3)) ∧ (decode cX11_itemRefusal 36 = .ok (.iconst 0, 1)) ∧ (decode cX11_itemRefusal 37 = .ok (.goto 8, 3)) ∧ (decode cX11_itemRefusal 40 = .ok (.aload_n 0, 1)) ∧ (decode cX11_itemRefusal 41 = .ok (.iconst 2, 1)) ∧ (decode cX11_itemRefusal 42 = .ok (.invokevirtual 137, 3)) ∧ (decode cX11_itemRefusal 45 = .ok (.ireturn, 1)) := by decide +kernel
theorem dX11_itemRefusal_28 : decode cX11_itemRefusal 28 = .ok (.iload_n 3, 1) := dX11_itemRefusal_28_a.1
theorem dX11_itemRefusal_29 : decode cX11_itemRefusal 29 = .ok (.iconst 1, 1) := dX11_itemRefusal_28_a.2.1
theorem dX11_itemRefusal_30 : decode cX11_itemRefusal 30 = .ok (.invokevirtual 248, 3) := dX11_itemRefusal_28_a.2.2.1
theorem dX11_itemRefusal_33 : decode cX11_itemRefusal 33 = .ok (.ifCond .eq 7, 3) := dX11_itemRefusal_28_a.2.2.2.1
theorem dX11_itemRefusal_36 : decode cX11_itemRefusal 36 = .ok (.iconst 0, 1) := dX11_itemRefusal_28_a.2.2.2.2.1
theorem dX11_itemRefusal_37 : decode cX11_itemRefusal 37 = .ok (.goto 8, 3) := dX11_itemRefusal_28_a.2.2.2.2.2.1
theorem dX11_itemRefusal_40 : decode cX11_itemRefusal 40 = .ok (.aload_n 0, 1) := dX11_itemRefusal_28_a.2.2.2.2.2.2.1
theorem dX11_itemRefusal_41 : decode cX11_itemRefusal 41 = .ok (.iconst 2, 1) := dX11_itemRefusal_28_a.2.2.2.2.2.2.2.1
theorem dX11_itemRefusal_42 : decode cX11_itemRefusal 42 = .ok (.invokevirtual 137, 3) := dX11_itemRefusal_28_a.2.2.2.2.2.2.2.2.1
theorem dX11_itemRefusal_45 : decode cX11_itemRefusal 45 = .ok (.ireturn, 1) := dX11_itemRefusal_28_a.2.2.2.2.2.2.2.2.2
theorem dX11_prepare_0_a : (decode cX11_prepare 0 = .ok (.aload_n 0, 1)) ∧ (decode cX11_prepare 1 = .ok (.getfield 42, 3)) ∧ (decode cX11_prepare 4 = .ok (.aload_n 0, 1)) ∧ (decode cX11_prepare 5 = .ok (.getfield 146, 3)) ∧ (decode cX11_prepare 8 = .ok (.putfield 184, 3)) ∧ (decode cX11_prepare 11 = .ok (.aload_n 0, 1)) ∧ (decode cX11_prepare 12 = .ok (.getfield 42, 3)) ∧ (decode cX11_prepare 15 = .ok (.aload_n 0, 1)) ∧ (decode cX11_prepare 16 = .ok (.getfield 33, 3)) ∧ (decode cX11_prepare 19 = .ok (.iload_n 1, 1)) ∧ (decode cX11_prepare 20 = .ok (.invokevirtual 186, 3)) ∧ (decode cX11_prepare 23 = .ok (.aload_n 0, 1)) ∧ (decode cX11_prepare 24 = .ok (.getfield 33, 3)) ∧ (decode cX11_prepare 27 = .ok (.iload_n 1, 1)) ∧ (decode cX11_prepare 28 = .ok (.invokevirtual 326, 3)) ∧ (decode cX11_prepare 31 = .ok (.aload_n 0, 1)) := by decide +kernel
theorem dX11_prepare_0 : decode cX11_prepare 0 = .ok (.aload_n 0, 1) := dX11_prepare_0_a.1
theorem dX11_prepare_1 : decode cX11_prepare 1 = .ok (.getfield 42, 3) := dX11_prepare_0_a.2.1
theorem dX11_prepare_4 : decode cX11_prepare 4 = .ok (.aload_n 0, 1) := dX11_prepare_0_a.2.2.1
theorem dX11_prepare_5 : decode cX11_prepare 5 = .ok (.getfield 146, 3) := dX11_prepare_0_a.2.2.2.1
theorem dX11_prepare_8 : decode cX11_prepare 8 = .ok (.putfield 184, 3) := dX11_prepare_0_a.2.2.2.2.1
theorem dX11_prepare_11 : decode cX11_prepare 11 = .ok (.aload_n 0, 1) := dX11_prepare_0_a.2.2.2.2.2.1
theorem dX11_prepare_12 : decode cX11_prepare 12 = .ok (.getfield 42, 3) := dX11_prepare_0_a.2.2.2.2.2.2.1
theorem dX11_prepare_15 : decode cX11_prepare 15 = .ok (.aload_n 0, 1) := dX11_prepare_0_a.2.2.2.2.2.2.2.1
theorem dX11_prepare_16 : decode cX11_prepare 16 = .ok (.getfield 33, 3) := dX11_prepare_0_a.2.2.2.2.2.2.2.2.1
theorem dX11_prepare_19 : decode cX11_prepare 19 = .ok (.iload_n 1, 1) := dX11_prepare_0_a.2.2.2.2.2.2.2.2.2.1
theorem dX11_prepare_20 : decode cX11_prepare 20 = .ok (.invokevirtual 186, 3) := dX11_prepare_0_a.2.2.2.2.2.2.2.2.2.2.1
theorem dX11_prepare_23 : decode cX11_prepare 23 = .ok (.aload_n 0, 1) := dX11_prepare_0_a.2.2.2.2.2.2.2.2.2.2.2.1
theorem dX11_prepare_24 : decode cX11_prepare 24 = .ok (.getfield 33, 3) := dX11_prepare_0_a.2.2.2.2.2.2.2.2.2.2.2.2.1
theorem dX11_prepare_27 : decode cX11_prepare 27 = .ok (.iload_n 1, 1) := dX11_prepare_0_a.2.2.2.2.2.2.2.2.2.2.2.2.2.1
theorem dX11_prepare_28 : decode cX11_prepare 28 = .ok (.invokevirtual 326, 3) := dX11_prepare_0_a.2.2.2.2.2.2.2.2.2.2.2.2.2.2.1
theorem dX11_prepare_31 : decode cX11_prepare 31 = .ok (.aload_n 0, 1) := dX11_prepare_0_a.2.2.2.2.2.2.2.2.2.2.2.2.2.2.2
theorem dX11_prepare_32_a : (decode cX11_prepare 32 = .ok (.getfield 33, 3)) ∧ (decode cX11_prepare 35 = .ok (.iload_n 1, 1)) ∧ (decode cX11_prepare 36 = .ok (.invokevirtual 329, 3)) ∧ (decode cX11_prepare 39 = .ok (.invokevirtual 189, 3)) ∧ (decode cX11_prepare 42 = .ok (.return_, 1)) := by decide +kernel
theorem dX11_prepare_32 : decode cX11_prepare 32 = .ok (.getfield 33, 3) := dX11_prepare_32_a.1
theorem dX11_prepare_35 : decode cX11_prepare 35 = .ok (.iload_n 1, 1) := dX11_prepare_32_a.2.1
theorem dX11_prepare_36 : decode cX11_prepare 36 = .ok (.invokevirtual 329, 3) := dX11_prepare_32_a.2.2.1
theorem dX11_prepare_39 : decode cX11_prepare 39 = .ok (.invokevirtual 189, 3) := dX11_prepare_32_a.2.2.2.1
theorem dX11_prepare_42 : decode cX11_prepare 42 = .ok (.return_, 1) := dX11_prepare_32_a.2.2.2.2
theorem dX11_moodBehind_0_a : (decode cX11_moodBehind 0 = .ok (.aload_n 0, 1)) ∧ (decode cX11_moodBehind 1 = .ok (.getfield 42, 3)) ∧ (decode cX11_moodBehind 4 = .ok (.invokevirtual 332, 3)) ∧ (decode cX11_moodBehind 7 = .ok (.aload_n 0, 1)) ∧ (decode cX11_moodBehind 8 = .ok (.getfield 42, 3)) ∧ (decode cX11_moodBehind 11 = .ok (.iconst 0, 1)) ∧ (decode cX11_moodBehind 12 = .ok (.iload_n 2, 1)) ∧ (decode cX11_moodBehind 13 = .ok (.iconst 1, 1)) ∧ (decode cX11_moodBehind 14 = .ok (.iadd, 1)) ∧ (decode cX11_moodBehind 15 = .ok (.aload_n 0, 1)) ∧ (decode cX11_moodBehind 16 = .ok (.getfield 33, 3)) ∧ (decode cX11_moodBehind 19 = .ok (.iload_n 1, 1)) ∧ (decode cX11_moodBehind 20 = .ok (.invokevirtual 153, 3)) ∧ (decode cX11_moodBehind 23 = .ok (.invokevirtual 335, 3)) ∧ (decode cX11_moodBehind 26 = .ok (.istore 4, 2)) ∧ (decode cX11_moodBehind 28 = .ok (.aload_n 0, 1)) := by decide +kernel
theorem dX11_moodBehind_0 : decode cX11_moodBehind 0 = .ok (.aload_n 0, 1) := dX11_moodBehind_0_a.1
theorem dX11_moodBehind_1 : decode cX11_moodBehind 1 = .ok (.getfield 42, 3) := dX11_moodBehind_0_a.2.1
theorem dX11_moodBehind_4 : decode cX11_moodBehind 4 = .ok (.invokevirtual 332, 3) := dX11_moodBehind_0_a.2.2.1
theorem dX11_moodBehind_7 : decode cX11_moodBehind 7 = .ok (.aload_n 0, 1) := dX11_moodBehind_0_a.2.2.2.1
theorem dX11_moodBehind_8 : decode cX11_moodBehind 8 = .ok (.getfield 42, 3) := dX11_moodBehind_0_a.2.2.2.2.1
theorem dX11_moodBehind_11 : decode cX11_moodBehind 11 = .ok (.iconst 0, 1) := dX11_moodBehind_0_a.2.2.2.2.2.1
theorem dX11_moodBehind_12 : decode cX11_moodBehind 12 = .ok (.iload_n 2, 1) := dX11_moodBehind_0_a.2.2.2.2.2.2.1
theorem dX11_moodBehind_13 : decode cX11_moodBehind 13 = .ok (.iconst 1, 1) := dX11_moodBehind_0_a.2.2.2.2.2.2.2.1
theorem dX11_moodBehind_14 : decode cX11_moodBehind 14 = .ok (.iadd, 1) := dX11_moodBehind_0_a.2.2.2.2.2.2.2.2.1
theorem dX11_moodBehind_15 : decode cX11_moodBehind 15 = .ok (.aload_n 0, 1) := dX11_moodBehind_0_a.2.2.2.2.2.2.2.2.2.1
theorem dX11_moodBehind_16 : decode cX11_moodBehind 16 = .ok (.getfield 33, 3) := dX11_moodBehind_0_a.2.2.2.2.2.2.2.2.2.2.1
theorem dX11_moodBehind_19 : decode cX11_moodBehind 19 = .ok (.iload_n 1, 1) := dX11_moodBehind_0_a.2.2.2.2.2.2.2.2.2.2.2.1
theorem dX11_moodBehind_20 : decode cX11_moodBehind 20 = .ok (.invokevirtual 153, 3) := dX11_moodBehind_0_a.2.2.2.2.2.2.2.2.2.2.2.2.1
theorem dX11_moodBehind_23 : decode cX11_moodBehind 23 = .ok (.invokevirtual 335, 3) := dX11_moodBehind_0_a.2.2.2.2.2.2.2.2.2.2.2.2.2.1
theorem dX11_moodBehind_26 : decode cX11_moodBehind 26 = .ok (.istore 4, 2) := dX11_moodBehind_0_a.2.2.2.2.2.2.2.2.2.2.2.2.2.2.1
theorem dX11_moodBehind_28 : decode cX11_moodBehind 28 = .ok (.aload_n 0, 1) := dX11_moodBehind_0_a.2.2.2.2.2.2.2.2.2.2.2.2.2.2.2
theorem dX11_moodBehind_29_a : (decode cX11_moodBehind 29 = .ok (.getfield 42, 3)) ∧ (decode cX11_moodBehind 32 = .ok (.getfield 338, 3)) ∧ (decode cX11_moodBehind 35 = .ok (.ifCond .eq 9, 3)) ∧ (decode cX11_moodBehind 38 = .ok (.iload 4, 2)) ∧ (decode cX11_moodBehind 40 = .ok (.iload_n 2, 1)) ∧ (decode cX11_moodBehind 41 = .ok (.if_icmp .ge 5, 3)) ∧ (decode cX11_moodBehind 44 = .ok (.iconst (-1), 1)) ∧ (decode cX11_moodBehind 45 = .ok (.ireturn, 1)) ∧ (decode cX11_moodBehind 46 = .ok (.iload_n 3, 1)) ∧ (decode cX11_moodBehind 47 = .ok (.ifCond .ne 13, 3)) ∧ (decode cX11_moodBehind 50 = .ok (.aload_n 0, 1)) ∧ (decode cX11_moodBehind 51 = .ok (.getfield 42, 3)) ∧ (decode cX11_moodBehind 54 = .ok (.getfield 341, 3)) ∧ (decode cX11_moodBehind 57 = .ok (.goto 10, 3)) ∧ (decode cX11_moodBehind 60 = .ok (.aload_n 0, 1)) ∧ (decode cX11_moodBehind 61 = .ok (.getfield 42, 3)) := by decide +kernel
theorem dX11_moodBehind_29 : decode cX11_moodBehind 29 = .ok (.getfield 42, 3) := dX11_moodBehind_29_a.1
theorem dX11_moodBehind_32 : decode cX11_moodBehind 32 = .ok (.getfield 338, 3) := dX11_moodBehind_29_a.2.1
theorem dX11_moodBehind_35 : decode cX11_moodBehind 35 = .ok (.ifCond .eq 9, 3) := dX11_moodBehind_29_a.2.2.1
theorem dX11_moodBehind_38 : decode cX11_moodBehind 38 = .ok (.iload 4, 2) := dX11_moodBehind_29_a.2.2.2.1
theorem dX11_moodBehind_40 : decode cX11_moodBehind 40 = .ok (.iload_n 2, 1) := dX11_moodBehind_29_a.2.2.2.2.1
theorem dX11_moodBehind_41 : decode cX11_moodBehind 41 = .ok (.if_icmp .ge 5, 3) := dX11_moodBehind_29_a.2.2.2.2.2.1
theorem dX11_moodBehind_44 : decode cX11_moodBehind 44 = .ok (.iconst (-1), 1) := dX11_moodBehind_29_a.2.2.2.2.2.2.1
theorem dX11_moodBehind_45 : decode cX11_moodBehind 45 = .ok (.ireturn, 1) := dX11_moodBehind_29_a.2.2.2.2.2.2.2.1
theorem dX11_moodBehind_46 : decode cX11_moodBehind 46 = .ok (.iload_n 3, 1) := dX11_moodBehind_29_a.2.2.2.2.2.2.2.2.1
theorem dX11_moodBehind_47 : decode cX11_moodBehind 47 = .ok (.ifCond .ne 13, 3) := dX11_moodBehind_29_a.2.2.2.2.2.2.2.2.2.1
theorem dX11_moodBehind_50 : decode cX11_moodBehind 50 = .ok (.aload_n 0, 1) := dX11_moodBehind_29_a.2.2.2.2.2.2.2.2.2.2.1
theorem dX11_moodBehind_51 : decode cX11_moodBehind 51 = .ok (.getfield 42, 3) := dX11_moodBehind_29_a.2.2.2.2.2.2.2.2.2.2.2.1
theorem dX11_moodBehind_54 : decode cX11_moodBehind 54 = .ok (.getfield 341, 3) := dX11_moodBehind_29_a.2.2.2.2.2.2.2.2.2.2.2.2.1
theorem dX11_moodBehind_57 : decode cX11_moodBehind 57 = .ok (.goto 10, 3) := dX11_moodBehind_29_a.2.2.2.2.2.2.2.2.2.2.2.2.2.1
theorem dX11_moodBehind_60 : decode cX11_moodBehind 60 = .ok (.aload_n 0, 1) := dX11_moodBehind_29_a.2.2.2.2.2.2.2.2.2.2.2.2.2.2.1
theorem dX11_moodBehind_61 : decode cX11_moodBehind 61 = .ok (.getfield 42, 3) := dX11_moodBehind_29_a.2.2.2.2.2.2.2.2.2.2.2.2.2.2.2
theorem dX11_moodBehind_64_a : (decode cX11_moodBehind 64 = .ok (.getfield 344, 3)) ∧ (decode cX11_moodBehind 67 = .ok (.ireturn, 1)) := by decide +kernel
theorem dX11_moodBehind_64 : decode cX11_moodBehind 64 = .ok (.getfield 344, 3) := dX11_moodBehind_64_a.1
theorem dX11_moodBehind_67 : decode cX11_moodBehind 67 = .ok (.ireturn, 1) := dX11_moodBehind_64_a.2
theorem dX11_strengthBehind_0_a : (decode cX11_strengthBehind 0 = .ok (.aload_n 0, 1)) ∧ (decode cX11_strengthBehind 1 = .ok (.getfield 42, 3)) ∧ (decode cX11_strengthBehind 4 = .ok (.aload_n 0, 1)) ∧ (decode cX11_strengthBehind 5 = .ok (.getfield 33, 3)) ∧ (decode cX11_strengthBehind 8 = .ok (.iload_n 1, 1)) ∧ (decode cX11_strengthBehind 9 = .ok (.invokevirtual 153, 3)) ∧ (decode cX11_strengthBehind 12 = .ok (.invokevirtual 156, 3)) ∧ (decode cX11_strengthBehind 15 = .ok (.istore 4, 2)) ∧ (decode cX11_strengthBehind 17 = .ok (.aload_n 0, 1)) ∧ (decode cX11_strengthBehind 18 = .ok (.getfield 42, 3)) ∧ (decode cX11_strengthBehind 21 = .ok (.getfield 338, 3)) ∧ (decode cX11_strengthBehind 24 = .ok (.ifCond .eq 9, 3)) ∧ (decode cX11_strengthBehind 27 = .ok (.iload 4, 2)) ∧ (decode cX11_strengthBehind 29 = .ok (.iload_n 2, 1)) ∧ (decode cX11_strengthBehind 30 = .ok (.if_icmp .ge 5, 3)) ∧ (decode cX11_strengthBehind 33 = .ok (.iconst (-1), 1)) := by decide +kernel
theorem dX11_strengthBehind_0 : decode cX11_strengthBehind 0 = .ok (.aload_n 0, 1) := dX11_strengthBehind_0_a.1
theorem dX11_strengthBehind_1 : decode cX11_strengthBehind 1 = .ok (.getfield 42, 3) := dX11_strengthBehind_0_a.2.1
theorem dX11_strengthBehind_4 : decode cX11_strengthBehind 4 = .ok (.aload_n 0, 1) := dX11_strengthBehind_0_a.2.2.1
theorem dX11_strengthBehind_5 : decode cX11_strengthBehind 5 = .ok (.getfield 33, 3) := dX11_strengthBehind_0_a.2.2.2.1
theorem dX11_strengthBehind_8 : decode cX11_strengthBehind 8 = .ok (.iload_n 1, 1) := dX11_strengthBehind_0_a.2.2.2.2.1
theorem dX11_strengthBehind_9 : decode cX11_strengthBehind 9 = .ok (.invokevirtual 153, 3) := dX11_strengthBehind_0_a.2.2.2.2.2.1
theorem dX11_strengthBehind_12 : decode cX11_strengthBehind 12 = .ok (.invokevirtual 156, 3) := dX11_strengthBehind_0_a.2.2.2.2.2.2.1
theorem dX11_strengthBehind_15 : decode cX11_strengthBehind 15 = .ok (.istore 4, 2) := dX11_strengthBehind_0_a.2.2.2.2.2.2.2.1
theorem dX11_strengthBehind_17 : decode cX11_strengthBehind 17 = .ok (.aload_n 0, 1) := dX11_strengthBehind_0_a.2.2.2.2.2.2.2.2.1
theorem dX11_strengthBehind_18 : decode cX11_strengthBehind 18 = .ok (.getfield 42, 3) := dX11_strengthBehind_0_a.2.2.2.2.2.2.2.2.2.1
theorem dX11_strengthBehind_21 : decode cX11_strengthBehind 21 = .ok (.getfield 338, 3) := dX11_strengthBehind_0_a.2.2.2.2.2.2.2.2.2.2.1
theorem dX11_strengthBehind_24 : decode cX11_strengthBehind 24 = .ok (.ifCond .eq 9, 3) := dX11_strengthBehind_0_a.2.2.2.2.2.2.2.2.2.2.2.1
theorem dX11_strengthBehind_27 : decode cX11_strengthBehind 27 = .ok (.iload 4, 2) := dX11_strengthBehind_0_a.2.2.2.2.2.2.2.2.2.2.2.2.1
theorem dX11_strengthBehind_29 : decode cX11_strengthBehind 29 = .ok (.iload_n 2, 1) := dX11_strengthBehind_0_a.2.2.2.2.2.2.2.2.2.2.2.2.2.1
theorem dX11_strengthBehind_30 : decode cX11_strengthBehind 30 = .ok (.if_icmp .ge 5, 3) := dX11_strengthBehind_0_a.2.2.2.2.2.2.2.2.2.2.2.2.2.2.1
theorem dX11_strengthBehind_33 : decode cX11_strengthBehind 33 = .ok (.iconst (-1), 1) := dX11_strengthBehind_0_a.2.2.2.2.2.2.2.2.2.2.2.2.2.2.2
theorem dX11_strengthBehind_34_a : (decode cX11_strengthBehind 34 = .ok (.ireturn, 1)) ∧ (decode cX11_strengthBehind 35 = .ok (.aload_n 0, 1)) ∧ (decode cX11_strengthBehind 36 = .ok (.getfield 42, 3)) ∧ (decode cX11_strengthBehind 39 = .ok (.iload_n 2, 1)) ∧ (decode cX11_strengthBehind 40 = .ok (.iload 4, 2)) ∧ (decode cX11_strengthBehind 42 = .ok (.iload_n 2, 1)) ∧ (decode cX11_strengthBehind 43 = .ok (.if_icmp .le 7, 3)) ∧ (decode cX11_strengthBehind 46 = .ok (.iconst 1, 1)) ∧ (decode cX11_strengthBehind 47 = .ok (.goto 4, 3)) ∧ (decode cX11_strengthBehind 50 = .ok (.iconst 0, 1)) ∧ (decode cX11_strengthBehind 51 = .ok (.invokevirtual 347, 3)) ∧ (decode cX11_strengthBehind 54 = .ok (.pop, 1)) ∧ (decode cX11_strengthBehind 55 = .ok (.iload_n 3, 1)) ∧ (decode cX11_strengthBehind 56 = .ok (.iconst 2, 1)) ∧ (decode cX11_strengthBehind 57 = .ok (.if_icmp .ne 16, 3)) ∧ (decode cX11_strengthBehind 60 = .ok (.aload_n 0, 1)) := by decide +kernel
theorem dX11_strengthBehind_34 : decode cX11_strengthBehind 34 = .ok (.ireturn, 1) := dX11_strengthBehind_34_a.1
theorem dX11_strengthBehind_35 : decode cX11_strengthBehind 35 = .ok (.aload_n 0, 1) := dX11_strengthBehind_34_a.2.1
theorem dX11_strengthBehind_36 : decode cX11_strengthBehind 36 = .ok (.getfield 42, 3) := dX11_strengthBehind_34_a.2.2.1
theorem dX11_strengthBehind_39 : decode cX11_strengthBehind 39 = .ok (.iload_n 2, 1) := dX11_strengthBehind_34_a.2.2.2.1
theorem dX11_strengthBehind_40 : decode cX11_strengthBehind 40 = .ok (.iload 4, 2) := dX11_strengthBehind_34_a.2.2.2.2.1
theorem dX11_strengthBehind_42 : decode cX11_strengthBehind 42 = .ok (.iload_n 2, 1) := dX11_strengthBehind_34_a.2.2.2.2.2.1
theorem dX11_strengthBehind_43 : decode cX11_strengthBehind 43 = .ok (.if_icmp .le 7, 3) := dX11_strengthBehind_34_a.2.2.2.2.2.2.1
theorem dX11_strengthBehind_46 : decode cX11_strengthBehind 46 = .ok (.iconst 1, 1) := dX11_strengthBehind_34_a.2.2.2.2.2.2.2.1
theorem dX11_strengthBehind_47 : decode cX11_strengthBehind 47 = .ok (.goto 4, 3) := dX11_strengthBehind_34_a.2.2.2.2.2.2.2.2.1
theorem dX11_strengthBehind_50 : decode cX11_strengthBehind 50 = .ok (.iconst 0, 1) := dX11_strengthBehind_34_a.2.2.2.2.2.2.2.2.2.1
theorem dX11_strengthBehind_51 : decode cX11_strengthBehind 51 = .ok (.invokevirtual 347, 3) := dX11_strengthBehind_34_a.2.2.2.2.2.2.2.2.2.2.1
theorem dX11_strengthBehind_54 : decode cX11_strengthBehind 54 = .ok (.pop, 1) := dX11_strengthBehind_34_a.2.2.2.2.2.2.2.2.2.2.2.1
theorem dX11_strengthBehind_55 : decode cX11_strengthBehind 55 = .ok (.iload_n 3, 1) := dX11_strengthBehind_34_a.2.2.2.2.2.2.2.2.2.2.2.2.1
theorem dX11_strengthBehind_56 : decode cX11_strengthBehind 56 = .ok (.iconst 2, 1) := dX11_strengthBehind_34_a.2.2.2.2.2.2.2.2.2.2.2.2.2.1
theorem dX11_strengthBehind_57 : decode cX11_strengthBehind 57 = .ok (.if_icmp .ne 16, 3) := dX11_strengthBehind_34_a.2.2.2.2.2.2.2.2.2.2.2.2.2.2.1
theorem dX11_strengthBehind_60 : decode cX11_strengthBehind 60 = .ok (.aload_n 0, 1) := dX11_strengthBehind_34_a.2.2.2.2.2.2.2.2.2.2.2.2.2.2.2
theorem dX11_strengthBehind_61_a : (decode cX11_strengthBehind 61 = .ok (.getfield 42, 3)) ∧ (decode cX11_strengthBehind 64 = .ok (.getfield 351, 3)) ∧ (decode cX11_strengthBehind 67 = .ok (.getfield 355, 3)) ∧ (decode cX11_strengthBehind 70 = .ok (.goto 13, 3)) ∧ (decode cX11_strengthBehind 73 = .ok (.aload_n 0, 1)) ∧ (decode cX11_strengthBehind 74 = .ok (.getfield 42, 3)) ∧ (decode cX11_strengthBehind 77 = .ok (.getfield 360, 3)) ∧ (decode cX11_strengthBehind 80 = .ok (.getfield 355, 3)) ∧ (decode cX11_strengthBehind 83 = .ok (.ireturn, 1)) := by decide +kernel
theorem dX11_strengthBehind_61 : decode cX11_strengthBehind 61 = .ok (.getfield 42, 3) := dX11_strengthBehind_61_a.1
theorem dX11_strengthBehind_64 : decode cX11_strengthBehind 64 = .ok (.getfield 351, 3) := dX11_strengthBehind_61_a.2.1
theorem dX11_strengthBehind_67 : decode cX11_strengthBehind 67 = .ok (.getfield 355, 3) := dX11_strengthBehind_61_a.2.2.1
theorem dX11_strengthBehind_70 : decode cX11_strengthBehind 70 = .ok (.goto 13, 3) := dX11_strengthBehind_61_a.2.2.2.1
theorem dX11_strengthBehind_73 : decode cX11_strengthBehind 73 = .ok (.aload_n 0, 1) := dX11_strengthBehind_61_a.2.2.2.2.1
theorem dX11_strengthBehind_74 : decode cX11_strengthBehind 74 = .ok (.getfield 42, 3) := dX11_strengthBehind_61_a.2.2.2.2.2.1
theorem dX11_strengthBehind_77 : decode cX11_strengthBehind 77 = .ok (.getfield 360, 3) := dX11_strengthBehind_61_a.2.2.2.2.2.2.1
theorem dX11_strengthBehind_80 : decode cX11_strengthBehind 80 = .ok (.getfield 355, 3) := dX11_strengthBehind_61_a.2.2.2.2.2.2.2.1
theorem dX11_strengthBehind_83 : decode cX11_strengthBehind 83 = .ok (.ireturn, 1) := dX11_strengthBehind_61_a.2.2.2.2.2.2.2.2
theorem dX11_agreesWithSeen_0_a : (decode cX11_agreesWithSeen 0 = .ok (.aload_n 0, 1)) ∧ (decode cX11_agreesWithSeen 1 = .ok (.getfield 42, 3)) ∧ (decode cX11_agreesWithSeen 4 = .ok (.aload_n 0, 1)) ∧ (decode cX11_agreesWithSeen 5 = .ok (.getfield 146, 3)) ∧ (decode cX11_agreesWithSeen 8 = .ok (.putfield 184, 3)) ∧ (decode cX11_agreesWithSeen 11 = .ok (.iconst 0, 1)) ∧ (decode cX11_agreesWithSeen 12 = .ok (.istore 5, 2)) ∧ (decode cX11_agreesWithSeen 14 = .ok (.iload 5, 2)) ∧ (decode cX11_agreesWithSeen 16 = .ok (.aload_n 0, 1)) ∧ (decode cX11_agreesWithSeen 17 = .ok (.getfield 193, 3)) ∧ (decode cX11_agreesWithSeen 20 = .ok (.if_icmp .ge 134, 3)) ∧ (decode cX11_agreesWithSeen 23 = .ok (.iload 5, 2)) ∧ (decode cX11_agreesWithSeen 25 = .ok (.bipush 8, 2)) ∧ (decode cX11_agreesWithSeen 27 = .ok (.if_icmp .ge 127, 3)) ∧ (decode cX11_agreesWithSeen 30 = .ok (.aload_n 0, 1)) ∧ (decode cX11_agreesWithSeen 31 = .ok (.getfield 67, 3)) := by decide +kernel
theorem dX11_agreesWithSeen_0 : decode cX11_agreesWithSeen 0 = .ok (.aload_n 0, 1) := dX11_agreesWithSeen_0_a.1
theorem dX11_agreesWithSeen_1 : decode cX11_agreesWithSeen 1 = .ok (.getfield 42, 3) := dX11_agreesWithSeen_0_a.2.1
theorem dX11_agreesWithSeen_4 : decode cX11_agreesWithSeen 4 = .ok (.aload_n 0, 1) := dX11_agreesWithSeen_0_a.2.2.1
theorem dX11_agreesWithSeen_5 : decode cX11_agreesWithSeen 5 = .ok (.getfield 146, 3) := dX11_agreesWithSeen_0_a.2.2.2.1
theorem dX11_agreesWithSeen_8 : decode cX11_agreesWithSeen 8 = .ok (.putfield 184, 3) := dX11_agreesWithSeen_0_a.2.2.2.2.1
theorem dX11_agreesWithSeen_11 : decode cX11_agreesWithSeen 11 = .ok (.iconst 0, 1) := dX11_agreesWithSeen_0_a.2.2.2.2.2.1
theorem dX11_agreesWithSeen_12 : decode cX11_agreesWithSeen 12 = .ok (.istore 5, 2) := dX11_agreesWithSeen_0_a.2.2.2.2.2.2.1
theorem dX11_agreesWithSeen_14 : decode cX11_agreesWithSeen 14 = .ok (.iload 5, 2) := dX11_agreesWithSeen_0_a.2.2.2.2.2.2.2.1
theorem dX11_agreesWithSeen_16 : decode cX11_agreesWithSeen 16 = .ok (.aload_n 0, 1) := dX11_agreesWithSeen_0_a.2.2.2.2.2.2.2.2.1
theorem dX11_agreesWithSeen_17 : decode cX11_agreesWithSeen 17 = .ok (.getfield 193, 3) := dX11_agreesWithSeen_0_a.2.2.2.2.2.2.2.2.2.1
theorem dX11_agreesWithSeen_20 : decode cX11_agreesWithSeen 20 = .ok (.if_icmp .ge 134, 3) := dX11_agreesWithSeen_0_a.2.2.2.2.2.2.2.2.2.2.1
theorem dX11_agreesWithSeen_23 : decode cX11_agreesWithSeen 23 = .ok (.iload 5, 2) := dX11_agreesWithSeen_0_a.2.2.2.2.2.2.2.2.2.2.2.1
theorem dX11_agreesWithSeen_25 : decode cX11_agreesWithSeen 25 = .ok (.bipush 8, 2) := dX11_agreesWithSeen_0_a.2.2.2.2.2.2.2.2.2.2.2.2.1
theorem dX11_agreesWithSeen_27 : decode cX11_agreesWithSeen 27 = .ok (.if_icmp .ge 127, 3) := dX11_agreesWithSeen_0_a.2.2.2.2.2.2.2.2.2.2.2.2.2.1
theorem dX11_agreesWithSeen_30 : decode cX11_agreesWithSeen 30 = .ok (.aload_n 0, 1) := dX11_agreesWithSeen_0_a.2.2.2.2.2.2.2.2.2.2.2.2.2.2.1
theorem dX11_agreesWithSeen_31 : decode cX11_agreesWithSeen 31 = .ok (.getfield 67, 3) := dX11_agreesWithSeen_0_a.2.2.2.2.2.2.2.2.2.2.2.2.2.2.2
theorem dX11_agreesWithSeen_34_a : (decode cX11_agreesWithSeen 34 = .ok (.iload 5, 2)) ∧ (decode cX11_agreesWithSeen 36 = .ok (.iaload, 1)) ∧ (decode cX11_agreesWithSeen 37 = .ok (.istore 6, 2)) ∧ (decode cX11_agreesWithSeen 39 = .ok (.aload_n 0, 1)) ∧ (decode cX11_agreesWithSeen 40 = .ok (.getfield 33, 3)) ∧ (decode cX11_agreesWithSeen 43 = .ok (.iload 6, 2)) ∧ (decode cX11_agreesWithSeen 45 = .ok (.invokevirtual 149, 3)) ∧ (decode cX11_agreesWithSeen 48 = .ok (.ifCond .ne 5, 3)) ∧ (decode cX11_agreesWithSeen 51 = .ok (.iconst 0, 1)) ∧ (decode cX11_agreesWithSeen 52 = .ok (.ireturn, 1)) ∧ (decode cX11_agreesWithSeen 53 = .ok (.aload_n 0, 1)) ∧ (decode cX11_agreesWithSeen 54 = .ok (.getfield 33, 3)) ∧ (decode cX11_agreesWithSeen 57 = .ok (.iload 6, 2)) ∧ (decode cX11_agreesWithSeen 59 = .ok (.invokevirtual 186, 3)) ∧ (decode cX11_agreesWithSeen 62 = .ok (.istore 7, 2)) ∧ (decode cX11_agreesWithSeen 64 = .ok (.aload_n 0, 1)) := by decide +kernel
theorem dX11_agreesWithSeen_34 : decode cX11_agreesWithSeen 34 = .ok (.iload 5, 2) := dX11_agreesWithSeen_34_a.1
theorem dX11_agreesWithSeen_36 : decode cX11_agreesWithSeen 36 = .ok (.iaload, 1) := dX11_agreesWithSeen_34_a.2.1
theorem dX11_agreesWithSeen_37 : decode cX11_agreesWithSeen 37 = .ok (.istore 6, 2) := dX11_agreesWithSeen_34_a.2.2.1
theorem dX11_agreesWithSeen_39 : decode cX11_agreesWithSeen 39 = .ok (.aload_n 0, 1) := dX11_agreesWithSeen_34_a.2.2.2.1
theorem dX11_agreesWithSeen_40 : decode cX11_agreesWithSeen 40 = .ok (.getfield 33, 3) := dX11_agreesWithSeen_34_a.2.2.2.2.1
theorem dX11_agreesWithSeen_43 : decode cX11_agreesWithSeen 43 = .ok (.iload 6, 2) := dX11_agreesWithSeen_34_a.2.2.2.2.2.1
theorem dX11_agreesWithSeen_45 : decode cX11_agreesWithSeen 45 = .ok (.invokevirtual 149, 3) := dX11_agreesWithSeen_34_a.2.2.2.2.2.2.1
theorem dX11_agreesWithSeen_48 : decode cX11_agreesWithSeen 48 = .ok (.ifCond .ne 5, 3) := dX11_agreesWithSeen_34_a.2.2.2.2.2.2.2.1
theorem dX11_agreesWithSeen_51 : decode cX11_agreesWithSeen 51 = .ok (.iconst 0, 1) := dX11_agreesWithSeen_34_a.2.2.2.2.2.2.2.2.1
theorem dX11_agreesWithSeen_52 : decode cX11_agreesWithSeen 52 = .ok (.ireturn, 1) := dX11_agreesWithSeen_34_a.2.2.2.2.2.2.2.2.2.1
theorem dX11_agreesWithSeen_53 : decode cX11_agreesWithSeen 53 = .ok (.aload_n 0, 1) := dX11_agreesWithSeen_34_a.2.2.2.2.2.2.2.2.2.2.1
theorem dX11_agreesWithSeen_54 : decode cX11_agreesWithSeen 54 = .ok (.getfield 33, 3) := dX11_agreesWithSeen_34_a.2.2.2.2.2.2.2.2.2.2.2.1
theorem dX11_agreesWithSeen_57 : decode cX11_agreesWithSeen 57 = .ok (.iload 6, 2) := dX11_agreesWithSeen_34_a.2.2.2.2.2.2.2.2.2.2.2.2.1
theorem dX11_agreesWithSeen_59 : decode cX11_agreesWithSeen 59 = .ok (.invokevirtual 186, 3) := dX11_agreesWithSeen_34_a.2.2.2.2.2.2.2.2.2.2.2.2.2.1
theorem dX11_agreesWithSeen_62 : decode cX11_agreesWithSeen 62 = .ok (.istore 7, 2) := dX11_agreesWithSeen_34_a.2.2.2.2.2.2.2.2.2.2.2.2.2.2.1
theorem dX11_agreesWithSeen_64 : decode cX11_agreesWithSeen 64 = .ok (.aload_n 0, 1) := dX11_agreesWithSeen_34_a.2.2.2.2.2.2.2.2.2.2.2.2.2.2.2
theorem dX11_agreesWithSeen_65_a : (decode cX11_agreesWithSeen 65 = .ok (.getfield 42, 3)) ∧ (decode cX11_agreesWithSeen 68 = .ok (.iload 7, 2)) ∧ (decode cX11_agreesWithSeen 70 = .ok (.aload_n 0, 1)) ∧ (decode cX11_agreesWithSeen 71 = .ok (.getfield 33, 3)) ∧ (decode cX11_agreesWithSeen 74 = .ok (.iload 6, 2)) ∧ (decode cX11_agreesWithSeen 76 = .ok (.invokevirtual 326, 3)) ∧ (decode cX11_agreesWithSeen 79 = .ok (.aload_n 0, 1)) ∧ (decode cX11_agreesWithSeen 80 = .ok (.getfield 33, 3)) ∧ (decode cX11_agreesWithSeen 83 = .ok (.iload 6, 2)) ∧ (decode cX11_agreesWithSeen 85 = .ok (.invokevirtual 329, 3)) ∧ (decode cX11_agreesWithSeen 88 = .ok (.invokevirtual 189, 3)) ∧ (decode cX11_agreesWithSeen 91 = .ok (.iload 7, 2)) ∧ (decode cX11_agreesWithSeen 93 = .ok (.iload_n 1, 1)) ∧ (decode cX11_agreesWithSeen 94 = .ok (.if_icmp .ne 11, 3)) ∧ (decode cX11_agreesWithSeen 97 = .ok (.aload_n 0, 1)) ∧ (decode cX11_agreesWithSeen 98 = .ok (.getfield 42, 3)) := by decide +kernel
theorem dX11_agreesWithSeen_65 : decode cX11_agreesWithSeen 65 = .ok (.getfield 42, 3) := dX11_agreesWithSeen_65_a.1
theorem dX11_agreesWithSeen_68 : decode cX11_agreesWithSeen 68 = .ok (.iload 7, 2) := dX11_agreesWithSeen_65_a.2.1
theorem dX11_agreesWithSeen_70 : decode cX11_agreesWithSeen 70 = .ok (.aload_n 0, 1) := dX11_agreesWithSeen_65_a.2.2.1
theorem dX11_agreesWithSeen_71 : decode cX11_agreesWithSeen 71 = .ok (.getfield 33, 3) := dX11_agreesWithSeen_65_a.2.2.2.1
theorem dX11_agreesWithSeen_74 : decode cX11_agreesWithSeen 74 = .ok (.iload 6, 2) := dX11_agreesWithSeen_65_a.2.2.2.2.1
theorem dX11_agreesWithSeen_76 : decode cX11_agreesWithSeen 76 = .ok (.invokevirtual 326, 3) := dX11_agreesWithSeen_65_a.2.2.2.2.2.1
theorem dX11_agreesWithSeen_79 : decode cX11_agreesWithSeen 79 = .ok (.aload_n 0, 1) := dX11_agreesWithSeen_65_a.2.2.2.2.2.2.1
theorem dX11_agreesWithSeen_80 : decode cX11_agreesWithSeen 80 = .ok (.getfield 33, 3) := dX11_agreesWithSeen_65_a.2.2.2.2.2.2.2.1
theorem dX11_agreesWithSeen_83 : decode cX11_agreesWithSeen 83 = .ok (.iload 6, 2) := dX11_agreesWithSeen_65_a.2.2.2.2.2.2.2.2.1
theorem dX11_agreesWithSeen_85 : decode cX11_agreesWithSeen 85 = .ok (.invokevirtual 329, 3) := dX11_agreesWithSeen_65_a.2.2.2.2.2.2.2.2.2.1
theorem dX11_agreesWithSeen_88 : decode cX11_agreesWithSeen 88 = .ok (.invokevirtual 189, 3) := dX11_agreesWithSeen_65_a.2.2.2.2.2.2.2.2.2.2.1
theorem dX11_agreesWithSeen_91 : decode cX11_agreesWithSeen 91 = .ok (.iload 7, 2) := dX11_agreesWithSeen_65_a.2.2.2.2.2.2.2.2.2.2.2.1
theorem dX11_agreesWithSeen_93 : decode cX11_agreesWithSeen 93 = .ok (.iload_n 1, 1) := dX11_agreesWithSeen_65_a.2.2.2.2.2.2.2.2.2.2.2.2.1
theorem dX11_agreesWithSeen_94 : decode cX11_agreesWithSeen 94 = .ok (.if_icmp .ne 11, 3) := dX11_agreesWithSeen_65_a.2.2.2.2.2.2.2.2.2.2.2.2.2.1
theorem dX11_agreesWithSeen_97 : decode cX11_agreesWithSeen 97 = .ok (.aload_n 0, 1) := dX11_agreesWithSeen_65_a.2.2.2.2.2.2.2.2.2.2.2.2.2.2.1
theorem dX11_agreesWithSeen_98 : decode cX11_agreesWithSeen 98 = .ok (.getfield 42, 3) := dX11_agreesWithSeen_65_a.2.2.2.2.2.2.2.2.2.2.2.2.2.2.2
theorem dX11_agreesWithSeen_101_a : (decode cX11_agreesWithSeen 101 = .ok (.iload_n 2, 1)) ∧ (decode cX11_agreesWithSeen 102 = .ok (.putfield 363, 3)) ∧ (decode cX11_agreesWithSeen 105 = .ok (.aload_n 0, 1)) ∧ (decode cX11_agreesWithSeen 106 = .ok (.getfield 42, 3)) ∧ (decode cX11_agreesWithSeen 109 = .ok (.iload 6, 2)) ∧ (decode cX11_agreesWithSeen 111 = .ok (.iload_n 3, 1)) ∧ (decode cX11_agreesWithSeen 112 = .ok (.if_icmp .ne 8, 3)) ∧ (decode cX11_agreesWithSeen 115 = .ok (.iload 4, 2)) ∧ (decode cX11_agreesWithSeen 117 = .ok (.goto 12, 3)) ∧ (decode cX11_agreesWithSeen 120 = .ok (.aload_n 0, 1)) ∧ (decode cX11_agreesWithSeen 121 = .ok (.getfield 33, 3)) ∧ (decode cX11_agreesWithSeen 124 = .ok (.iload 6, 2)) ∧ (decode cX11_agreesWithSeen 126 = .ok (.invokevirtual 153, 3)) ∧ (decode cX11_agreesWithSeen 129 = .ok (.invokevirtual 156, 3)) ∧ (decode cX11_agreesWithSeen 132 = .ok (.istore 8, 2)) ∧ (decode cX11_agreesWithSeen 134 = .ok (.iload 8, 2)) := by decide +kernel
theorem dX11_agreesWithSeen_101 : decode cX11_agreesWithSeen 101 = .ok (.iload_n 2, 1) := dX11_agreesWithSeen_101_a.1
theorem dX11_agreesWithSeen_102 : decode cX11_agreesWithSeen 102 = .ok (.putfield 363, 3) := dX11_agreesWithSeen_101_a.2.1
theorem dX11_agreesWithSeen_105 : decode cX11_agreesWithSeen 105 = .ok (.aload_n 0, 1) := dX11_agreesWithSeen_101_a.2.2.1
theorem dX11_agreesWithSeen_106 : decode cX11_agreesWithSeen 106 = .ok (.getfield 42, 3) := dX11_agreesWithSeen_101_a.2.2.2.1
theorem dX11_agreesWithSeen_109 : decode cX11_agreesWithSeen 109 = .ok (.iload 6, 2) := dX11_agreesWithSeen_101_a.2.2.2.2.1
theorem dX11_agreesWithSeen_111 : decode cX11_agreesWithSeen 111 = .ok (.iload_n 3, 1) := dX11_agreesWithSeen_101_a.2.2.2.2.2.1
theorem dX11_agreesWithSeen_112 : decode cX11_agreesWithSeen 112 = .ok (.if_icmp .ne 8, 3) := dX11_agreesWithSeen_101_a.2.2.2.2.2.2.1
theorem dX11_agreesWithSeen_115 : decode cX11_agreesWithSeen 115 = .ok (.iload 4, 2) := dX11_agreesWithSeen_101_a.2.2.2.2.2.2.2.1
theorem dX11_agreesWithSeen_117 : decode cX11_agreesWithSeen 117 = .ok (.goto 12, 3) := dX11_agreesWithSeen_101_a.2.2.2.2.2.2.2.2.1
theorem dX11_agreesWithSeen_120 : decode cX11_agreesWithSeen 120 = .ok (.aload_n 0, 1) := dX11_agreesWithSeen_101_a.2.2.2.2.2.2.2.2.2.1
theorem dX11_agreesWithSeen_121 : decode cX11_agreesWithSeen 121 = .ok (.getfield 33, 3) := dX11_agreesWithSeen_101_a.2.2.2.2.2.2.2.2.2.2.1
theorem dX11_agreesWithSeen_124 : decode cX11_agreesWithSeen 124 = .ok (.iload 6, 2) := dX11_agreesWithSeen_101_a.2.2.2.2.2.2.2.2.2.2.2.1
theorem dX11_agreesWithSeen_126 : decode cX11_agreesWithSeen 126 = .ok (.invokevirtual 153, 3) := dX11_agreesWithSeen_101_a.2.2.2.2.2.2.2.2.2.2.2.2.1
theorem dX11_agreesWithSeen_129 : decode cX11_agreesWithSeen 129 = .ok (.invokevirtual 156, 3) := dX11_agreesWithSeen_101_a.2.2.2.2.2.2.2.2.2.2.2.2.2.1
theorem dX11_agreesWithSeen_132 : decode cX11_agreesWithSeen 132 = .ok (.istore 8, 2) := dX11_agreesWithSeen_101_a.2.2.2.2.2.2.2.2.2.2.2.2.2.2.1
theorem dX11_agreesWithSeen_134 : decode cX11_agreesWithSeen 134 = .ok (.iload 8, 2) := dX11_agreesWithSeen_101_a.2.2.2.2.2.2.2.2.2.2.2.2.2.2.2
theorem dX11_agreesWithSeen_136_a : (decode cX11_agreesWithSeen 136 = .ok (.aload_n 0, 1)) ∧ (decode cX11_agreesWithSeen 137 = .ok (.getfield 71, 3)) ∧ (decode cX11_agreesWithSeen 140 = .ok (.iload 5, 2)) ∧ (decode cX11_agreesWithSeen 142 = .ok (.iaload, 1)) ∧ (decode cX11_agreesWithSeen 143 = .ok (.if_icmp .eq 5, 3)) ∧ (decode cX11_agreesWithSeen 146 = .ok (.iconst 0, 1)) ∧ (decode cX11_agreesWithSeen 147 = .ok (.ireturn, 1)) ∧ (decode cX11_agreesWithSeen 148 = .ok (.iinc 5 1, 3)) ∧ (decode cX11_agreesWithSeen 151 = .ok (.goto (-137), 3)) ∧ (decode cX11_agreesWithSeen 154 = .ok (.iconst 1, 1)) ∧ (decode cX11_agreesWithSeen 155 = .ok (.ireturn, 1)) := by decide +kernel
theorem dX11_agreesWithSeen_136 : decode cX11_agreesWithSeen 136 = .ok (.aload_n 0, 1) := dX11_agreesWithSeen_136_a.1
theorem dX11_agreesWithSeen_137 : decode cX11_agreesWithSeen 137 = .ok (.getfield 71, 3) := dX11_agreesWithSeen_136_a.2.1
theorem dX11_agreesWithSeen_140 : decode cX11_agreesWithSeen 140 = .ok (.iload 5, 2) := dX11_agreesWithSeen_136_a.2.2.1
theorem dX11_agreesWithSeen_142 : decode cX11_agreesWithSeen 142 = .ok (.iaload, 1) := dX11_agreesWithSeen_136_a.2.2.2.1
theorem dX11_agreesWithSeen_143 : decode cX11_agreesWithSeen 143 = .ok (.if_icmp .eq 5, 3) := dX11_agreesWithSeen_136_a.2.2.2.2.1
theorem dX11_agreesWithSeen_146 : decode cX11_agreesWithSeen 146 = .ok (.iconst 0, 1) := dX11_agreesWithSeen_136_a.2.2.2.2.2.1
theorem dX11_agreesWithSeen_147 : decode cX11_agreesWithSeen 147 = .ok (.ireturn, 1) := dX11_agreesWithSeen_136_a.2.2.2.2.2.2.1
theorem dX11_agreesWithSeen_148 : decode cX11_agreesWithSeen 148 = .ok (.iinc 5 1, 3) := dX11_agreesWithSeen_136_a.2.2.2.2.2.2.2.1
theorem dX11_agreesWithSeen_151 : decode cX11_agreesWithSeen 151 = .ok (.goto (-137), 3) := dX11_agreesWithSeen_136_a.2.2.2.2.2.2.2.2.1
theorem dX11_agreesWithSeen_154 : decode cX11_agreesWithSeen 154 = .ok (.iconst 1, 1) := dX11_agreesWithSeen_136_a.2.2.2.2.2.2.2.2.2.1
theorem dX11_agreesWithSeen_155 : decode cX11_agreesWithSeen 155 = .ok (.ireturn, 1) := dX11_agreesWithSeen_136_a.2.2.2.2.2.2.2.2.2.2
theorem dX11_mostAlike_0_a : (decode cX11_mostAlike 0 = .ok (.aload_n 0, 1)) ∧ (decode cX11_mostAlike 1 = .ok (.iload_n 1, 1)) ∧ (decode cX11_mostAlike 2 = .ok (.invokevirtual 150, 3)) ∧ (decode cX11_mostAlike 5 = .ok (.iconst 0, 1)) ∧ (decode cX11_mostAlike 6 = .ok (.istore 4, 2)) ∧ (decode cX11_mostAlike 8 = .ok (.iload 4, 2)) ∧ (decode cX11_mostAlike 10 = .ok (.aload_n 0, 1)) ∧ (decode cX11_mostAlike 11 = .ok (.getfield 74, 3)) ∧ (decode cX11_mostAlike 14 = .ok (.arraylength, 1)) ∧ (decode cX11_mostAlike 15 = .ok (.if_icmp .ge 17, 3)) ∧ (decode cX11_mostAlike 18 = .ok (.aload_n 0, 1)) ∧ (decode cX11_mostAlike 19 = .ok (.getfield 74, 3)) ∧ (decode cX11_mostAlike 22 = .ok (.iload 4, 2)) ∧ (decode cX11_mostAlike 24 = .ok (.iconst 0, 1)) ∧ (decode cX11_mostAlike 25 = .ok (.iastore, 1)) ∧ (decode cX11_mostAlike 26 = .ok (.iinc 4 1, 3)) := by decide +kernel
theorem dX11_mostAlike_0 : decode cX11_mostAlike 0 = .ok (.aload_n 0, 1) := dX11_mostAlike_0_a.1
theorem dX11_mostAlike_1 : decode cX11_mostAlike 1 = .ok (.iload_n 1, 1) := dX11_mostAlike_0_a.2.1
theorem dX11_mostAlike_2 : decode cX11_mostAlike 2 = .ok (.invokevirtual 150, 3) := dX11_mostAlike_0_a.2.2.1
theorem dX11_mostAlike_5 : decode cX11_mostAlike 5 = .ok (.iconst 0, 1) := dX11_mostAlike_0_a.2.2.2.1
theorem dX11_mostAlike_6 : decode cX11_mostAlike 6 = .ok (.istore 4, 2) := dX11_mostAlike_0_a.2.2.2.2.1
theorem dX11_mostAlike_8 : decode cX11_mostAlike 8 = .ok (.iload 4, 2) := dX11_mostAlike_0_a.2.2.2.2.2.1
theorem dX11_mostAlike_10 : decode cX11_mostAlike 10 = .ok (.aload_n 0, 1) := dX11_mostAlike_0_a.2.2.2.2.2.2.1
theorem dX11_mostAlike_11 : decode cX11_mostAlike 11 = .ok (.getfield 74, 3) := dX11_mostAlike_0_a.2.2.2.2.2.2.2.1
theorem dX11_mostAlike_14 : decode cX11_mostAlike 14 = .ok (.arraylength, 1) := dX11_mostAlike_0_a.2.2.2.2.2.2.2.2.1
theorem dX11_mostAlike_15 : decode cX11_mostAlike 15 = .ok (.if_icmp .ge 17, 3) := dX11_mostAlike_0_a.2.2.2.2.2.2.2.2.2.1
theorem dX11_mostAlike_18 : decode cX11_mostAlike 18 = .ok (.aload_n 0, 1) := dX11_mostAlike_0_a.2.2.2.2.2.2.2.2.2.2.1
theorem dX11_mostAlike_19 : decode cX11_mostAlike 19 = .ok (.getfield 74, 3) := dX11_mostAlike_0_a.2.2.2.2.2.2.2.2.2.2.2.1
theorem dX11_mostAlike_22 : decode cX11_mostAlike 22 = .ok (.iload 4, 2) := dX11_mostAlike_0_a.2.2.2.2.2.2.2.2.2.2.2.2.1
theorem dX11_mostAlike_24 : decode cX11_mostAlike 24 = .ok (.iconst 0, 1) := dX11_mostAlike_0_a.2.2.2.2.2.2.2.2.2.2.2.2.2.1
theorem dX11_mostAlike_25 : decode cX11_mostAlike 25 = .ok (.iastore, 1) := dX11_mostAlike_0_a.2.2.2.2.2.2.2.2.2.2.2.2.2.2.1
theorem dX11_mostAlike_26 : decode cX11_mostAlike 26 = .ok (.iinc 4 1, 3) := dX11_mostAlike_0_a.2.2.2.2.2.2.2.2.2.2.2.2.2.2.2
theorem dX11_mostAlike_29_a : (decode cX11_mostAlike 29 = .ok (.goto (-21), 3)) ∧ (decode cX11_mostAlike 32 = .ok (.iconst 0, 1)) ∧ (decode cX11_mostAlike 33 = .ok (.istore 4, 2)) ∧ (decode cX11_mostAlike 35 = .ok (.iconst 0, 1)) ∧ (decode cX11_mostAlike 36 = .ok (.istore 5, 2)) ∧ (decode cX11_mostAlike 38 = .ok (.iload 5, 2)) ∧ (decode cX11_mostAlike 40 = .ok (.bipush 6, 2)) ∧ (decode cX11_mostAlike 42 = .ok (.if_icmp .ge 97, 3)) ∧ (decode cX11_mostAlike 45 = .ok (.iload_n 3, 1)) ∧ (decode cX11_mostAlike 46 = .ok (.iload 5, 2)) ∧ (decode cX11_mostAlike 48 = .ok (.ishr, 1)) ∧ (decode cX11_mostAlike 49 = .ok (.iconst 1, 1)) ∧ (decode cX11_mostAlike 50 = .ok (.iand, 1)) ∧ (decode cX11_mostAlike 51 = .ok (.iconst 1, 1)) ∧ (decode cX11_mostAlike 52 = .ok (.if_icmp .ne 81, 3)) ∧ (decode cX11_mostAlike 55 = .ok (.aload_n 0, 1)) := by decide +kernel
theorem dX11_mostAlike_29 : decode cX11_mostAlike 29 = .ok (.goto (-21), 3) := dX11_mostAlike_29_a.1
theorem dX11_mostAlike_32 : decode cX11_mostAlike 32 = .ok (.iconst 0, 1) := dX11_mostAlike_29_a.2.1
theorem dX11_mostAlike_33 : decode cX11_mostAlike 33 = .ok (.istore 4, 2) := dX11_mostAlike_29_a.2.2.1
theorem dX11_mostAlike_35 : decode cX11_mostAlike 35 = .ok (.iconst 0, 1) := dX11_mostAlike_29_a.2.2.2.1
theorem dX11_mostAlike_36 : decode cX11_mostAlike 36 = .ok (.istore 5, 2) := dX11_mostAlike_29_a.2.2.2.2.1
theorem dX11_mostAlike_38 : decode cX11_mostAlike 38 = .ok (.iload 5, 2) := dX11_mostAlike_29_a.2.2.2.2.2.1
theorem dX11_mostAlike_40 : decode cX11_mostAlike 40 = .ok (.bipush 6, 2) := dX11_mostAlike_29_a.2.2.2.2.2.2.1
theorem dX11_mostAlike_42 : decode cX11_mostAlike 42 = .ok (.if_icmp .ge 97, 3) := dX11_mostAlike_29_a.2.2.2.2.2.2.2.1
theorem dX11_mostAlike_45 : decode cX11_mostAlike 45 = .ok (.iload_n 3, 1) := dX11_mostAlike_29_a.2.2.2.2.2.2.2.2.1
theorem dX11_mostAlike_46 : decode cX11_mostAlike 46 = .ok (.iload 5, 2) := dX11_mostAlike_29_a.2.2.2.2.2.2.2.2.2.1
theorem dX11_mostAlike_48 : decode cX11_mostAlike 48 = .ok (.ishr, 1) := dX11_mostAlike_29_a.2.2.2.2.2.2.2.2.2.2.1
theorem dX11_mostAlike_49 : decode cX11_mostAlike 49 = .ok (.iconst 1, 1) := dX11_mostAlike_29_a.2.2.2.2.2.2.2.2.2.2.2.1
theorem dX11_mostAlike_50 : decode cX11_mostAlike 50 = .ok (.iand, 1) := dX11_mostAlike_29_a.2.2.2.2.2.2.2.2.2.2.2.2.1
theorem dX11_mostAlike_51 : decode cX11_mostAlike 51 = .ok (.iconst 1, 1) := dX11_mostAlike_29_a.2.2.2.2.2.2.2.2.2.2.2.2.2.1
theorem dX11_mostAlike_52 : decode cX11_mostAlike 52 = .ok (.if_icmp .ne 81, 3) := dX11_mostAlike_29_a.2.2.2.2.2.2.2.2.2.2.2.2.2.2.1
theorem dX11_mostAlike_55 : decode cX11_mostAlike 55 = .ok (.aload_n 0, 1) := dX11_mostAlike_29_a.2.2.2.2.2.2.2.2.2.2.2.2.2.2.2
theorem dX11_mostAlike_56_a : (decode cX11_mostAlike 56 = .ok (.getfield 33, 3)) ∧ (decode cX11_mostAlike 59 = .ok (.iload_n 1, 1)) ∧ (decode cX11_mostAlike 60 = .ok (.invokevirtual 186, 3)) ∧ (decode cX11_mostAlike 63 = .ok (.iload_n 2, 1)) ∧ (decode cX11_mostAlike 64 = .ok (.if_icmp .ne 12, 3)) ∧ (decode cX11_mostAlike 67 = .ok (.aload_n 0, 1)) ∧ (decode cX11_mostAlike 68 = .ok (.getfield 42, 3)) ∧ (decode cX11_mostAlike 71 = .ok (.iload 5, 2)) ∧ (decode cX11_mostAlike 73 = .ok (.putfield 363, 3)) ∧ (decode cX11_mostAlike 76 = .ok (.aload_n 0, 1)) ∧ (decode cX11_mostAlike 77 = .ok (.getfield 42, 3)) ∧ (decode cX11_mostAlike 80 = .ok (.aload_n 0, 1)) ∧ (decode cX11_mostAlike 81 = .ok (.getfield 33, 3)) ∧ (decode cX11_mostAlike 84 = .ok (.iload_n 1, 1)) ∧ (decode cX11_mostAlike 85 = .ok (.invokevirtual 153, 3)) ∧ (decode cX11_mostAlike 88 = .ok (.invokevirtual 156, 3)) := by decide +kernel
theorem dX11_mostAlike_56 : decode cX11_mostAlike 56 = .ok (.getfield 33, 3) := dX11_mostAlike_56_a.1
theorem dX11_mostAlike_59 : decode cX11_mostAlike 59 = .ok (.iload_n 1, 1) := dX11_mostAlike_56_a.2.1
theorem dX11_mostAlike_60 : decode cX11_mostAlike 60 = .ok (.invokevirtual 186, 3) := dX11_mostAlike_56_a.2.2.1
theorem dX11_mostAlike_63 : decode cX11_mostAlike 63 = .ok (.iload_n 2, 1) := dX11_mostAlike_56_a.2.2.2.1
theorem dX11_mostAlike_64 : decode cX11_mostAlike 64 = .ok (.if_icmp .ne 12, 3) := dX11_mostAlike_56_a.2.2.2.2.1
theorem dX11_mostAlike_67 : decode cX11_mostAlike 67 = .ok (.aload_n 0, 1) := dX11_mostAlike_56_a.2.2.2.2.2.1
theorem dX11_mostAlike_68 : decode cX11_mostAlike 68 = .ok (.getfield 42, 3) := dX11_mostAlike_56_a.2.2.2.2.2.2.1
theorem dX11_mostAlike_71 : decode cX11_mostAlike 71 = .ok (.iload 5, 2) := dX11_mostAlike_56_a.2.2.2.2.2.2.2.1
theorem dX11_mostAlike_73 : decode cX11_mostAlike 73 = .ok (.putfield 363, 3) := dX11_mostAlike_56_a.2.2.2.2.2.2.2.2.1
theorem dX11_mostAlike_76 : decode cX11_mostAlike 76 = .ok (.aload_n 0, 1) := dX11_mostAlike_56_a.2.2.2.2.2.2.2.2.2.1
theorem dX11_mostAlike_77 : decode cX11_mostAlike 77 = .ok (.getfield 42, 3) := dX11_mostAlike_56_a.2.2.2.2.2.2.2.2.2.2.1
theorem dX11_mostAlike_80 : decode cX11_mostAlike 80 = .ok (.aload_n 0, 1) := dX11_mostAlike_56_a.2.2.2.2.2.2.2.2.2.2.2.1
theorem dX11_mostAlike_81 : decode cX11_mostAlike 81 = .ok (.getfield 33, 3) := dX11_mostAlike_56_a.2.2.2.2.2.2.2.2.2.2.2.2.1
theorem dX11_mostAlike_84 : decode cX11_mostAlike 84 = .ok (.iload_n 1, 1) := dX11_mostAlike_56_a.2.2.2.2.2.2.2.2.2.2.2.2.2.1
theorem dX11_mostAlike_85 : decode cX11_mostAlike 85 = .ok (.invokevirtual 153, 3) := dX11_mostAlike_56_a.2.2.2.2.2.2.2.2.2.2.2.2.2.2.1
theorem dX11_mostAlike_88 : decode cX11_mostAlike 88 = .ok (.invokevirtual 156, 3) := dX11_mostAlike_56_a.2.2.2.2.2.2.2.2.2.2.2.2.2.2.2
theorem dX11_mostAlike_91_a : (decode cX11_mostAlike 91 = .ok (.istore 6, 2)) ∧ (decode cX11_mostAlike 93 = .ok (.iload 6, 2)) ∧ (decode cX11_mostAlike 95 = .ok (.ifCond .lt 38, 3)) ∧ (decode cX11_mostAlike 98 = .ok (.iload 6, 2)) ∧ (decode cX11_mostAlike 100 = .ok (.aload_n 0, 1)) ∧ (decode cX11_mostAlike 101 = .ok (.getfield 74, 3)) ∧ (decode cX11_mostAlike 104 = .ok (.arraylength, 1)) ∧ (decode cX11_mostAlike 105 = .ok (.if_icmp .ge 28, 3)) ∧ (decode cX11_mostAlike 108 = .ok (.aload_n 0, 1)) ∧ (decode cX11_mostAlike 109 = .ok (.getfield 74, 3)) ∧ (decode cX11_mostAlike 112 = .ok (.iload 6, 2)) ∧ (decode cX11_mostAlike 114 = .ok (.dup2, 1)) ∧ (decode cX11_mostAlike 115 = .ok (.iaload, 1)) ∧ (decode cX11_mostAlike 116 = .ok (.iconst 1, 1)) ∧ (decode cX11_mostAlike 117 = .ok (.iadd, 1)) ∧ (decode cX11_mostAlike 118 = .ok (.iastore, 1)) := by decide +kernel
theorem dX11_mostAlike_91 : decode cX11_mostAlike 91 = .ok (.istore 6, 2) := dX11_mostAlike_91_a.1
theorem dX11_mostAlike_93 : decode cX11_mostAlike 93 = .ok (.iload 6, 2) := dX11_mostAlike_91_a.2.1
theorem dX11_mostAlike_95 : decode cX11_mostAlike 95 = .ok (.ifCond .lt 38, 3) := dX11_mostAlike_91_a.2.2.1
theorem dX11_mostAlike_98 : decode cX11_mostAlike 98 = .ok (.iload 6, 2) := dX11_mostAlike_91_a.2.2.2.1
theorem dX11_mostAlike_100 : decode cX11_mostAlike 100 = .ok (.aload_n 0, 1) := dX11_mostAlike_91_a.2.2.2.2.1
theorem dX11_mostAlike_101 : decode cX11_mostAlike 101 = .ok (.getfield 74, 3) := dX11_mostAlike_91_a.2.2.2.2.2.1
theorem dX11_mostAlike_104 : decode cX11_mostAlike 104 = .ok (.arraylength, 1) := dX11_mostAlike_91_a.2.2.2.2.2.2.1
theorem dX11_mostAlike_105 : decode cX11_mostAlike 105 = .ok (.if_icmp .ge 28, 3) := dX11_mostAlike_91_a.2.2.2.2.2.2.2.1
theorem dX11_mostAlike_108 : decode cX11_mostAlike 108 = .ok (.aload_n 0, 1) := dX11_mostAlike_91_a.2.2.2.2.2.2.2.2.1
theorem dX11_mostAlike_109 : decode cX11_mostAlike 109 = .ok (.getfield 74, 3) := dX11_mostAlike_91_a.2.2.2.2.2.2.2.2.2.1
theorem dX11_mostAlike_112 : decode cX11_mostAlike 112 = .ok (.iload 6, 2) := dX11_mostAlike_91_a.2.2.2.2.2.2.2.2.2.2.1
theorem dX11_mostAlike_114 : decode cX11_mostAlike 114 = .ok (.dup2, 1) := dX11_mostAlike_91_a.2.2.2.2.2.2.2.2.2.2.2.1
theorem dX11_mostAlike_115 : decode cX11_mostAlike 115 = .ok (.iaload, 1) := dX11_mostAlike_91_a.2.2.2.2.2.2.2.2.2.2.2.2.1
theorem dX11_mostAlike_116 : decode cX11_mostAlike 116 = .ok (.iconst 1, 1) := dX11_mostAlike_91_a.2.2.2.2.2.2.2.2.2.2.2.2.2.1
theorem dX11_mostAlike_117 : decode cX11_mostAlike 117 = .ok (.iadd, 1) := dX11_mostAlike_91_a.2.2.2.2.2.2.2.2.2.2.2.2.2.2.1
theorem dX11_mostAlike_118 : decode cX11_mostAlike 118 = .ok (.iastore, 1) := dX11_mostAlike_91_a.2.2.2.2.2.2.2.2.2.2.2.2.2.2.2
theorem dX11_mostAlike_119_a : (decode cX11_mostAlike 119 = .ok (.iload 4, 2)) ∧ (decode cX11_mostAlike 121 = .ok (.aload_n 0, 1)) ∧ (decode cX11_mostAlike 122 = .ok (.getfield 74, 3)) ∧ (decode cX11_mostAlike 125 = .ok (.iload 6, 2)) ∧ (decode cX11_mostAlike 127 = .ok (.iaload, 1)) ∧ (decode cX11_mostAlike 128 = .ok (.invokestatic 366, 3)) ∧ (decode cX11_mostAlike 131 = .ok (.istore 4, 2)) ∧ (decode cX11_mostAlike 133 = .ok (.iinc 5 1, 3)) ∧ (decode cX11_mostAlike 136 = .ok (.goto (-98), 3)) ∧ (decode cX11_mostAlike 139 = .ok (.iload 4, 2)) ∧ (decode cX11_mostAlike 141 = .ok (.ireturn, 1)) := by decide +kernel
theorem dX11_mostAlike_119 : decode cX11_mostAlike 119 = .ok (.iload 4, 2) := dX11_mostAlike_119_a.1
theorem dX11_mostAlike_121 : decode cX11_mostAlike 121 = .ok (.aload_n 0, 1) := dX11_mostAlike_119_a.2.1
theorem dX11_mostAlike_122 : decode cX11_mostAlike 122 = .ok (.getfield 74, 3) := dX11_mostAlike_119_a.2.2.1
theorem dX11_mostAlike_125 : decode cX11_mostAlike 125 = .ok (.iload 6, 2) := dX11_mostAlike_119_a.2.2.2.1
theorem dX11_mostAlike_127 : decode cX11_mostAlike 127 = .ok (.iaload, 1) := dX11_mostAlike_119_a.2.2.2.2.1
theorem dX11_mostAlike_128 : decode cX11_mostAlike 128 = .ok (.invokestatic 366, 3) := dX11_mostAlike_119_a.2.2.2.2.2.1
theorem dX11_mostAlike_131 : decode cX11_mostAlike 131 = .ok (.istore 4, 2) := dX11_mostAlike_119_a.2.2.2.2.2.2.1
theorem dX11_mostAlike_133 : decode cX11_mostAlike 133 = .ok (.iinc 5 1, 3) := dX11_mostAlike_119_a.2.2.2.2.2.2.2.1
theorem dX11_mostAlike_136 : decode cX11_mostAlike 136 = .ok (.goto (-98), 3) := dX11_mostAlike_119_a.2.2.2.2.2.2.2.2.1
theorem dX11_mostAlike_139 : decode cX11_mostAlike 139 = .ok (.iload 4, 2) := dX11_mostAlike_119_a.2.2.2.2.2.2.2.2.2.1
theorem dX11_mostAlike_141 : decode cX11_mostAlike 141 = .ok (.ireturn, 1) := dX11_mostAlike_119_a.2.2.2.2.2.2.2.2.2.2
theorem dX12_init_0_a : (decode cX12_init 0 = .ok (.aload_n 0, 1)) ∧ (decode cX12_init 1 = .ok (.invokespecial 1, 3)) ∧ (decode cX12_init 4 = .ok (.aload_n 0, 1)) ∧ (decode cX12_init 5 = .ok (.iconst 4, 1)) ∧ (decode cX12_init 6 = .ok (.newarray .int, 2)) ∧ (decode cX12_init 8 = .ok (.putfield 7, 3)) ∧ (decode cX12_init 11 = .ok (.aload_n 0, 1)) ∧ (decode cX12_init 12 = .ok (.iconst 4, 1)) ∧ (decode cX12_init 13 = .ok (.newarray .int, 2)) ∧ (decode cX12_init 15 = .ok (.putfield 13, 3)) ∧ (decode cX12_init 18 = .ok (.aload_n 0, 1)) ∧ (decode cX12_init 19 = .ok (.sipush 240, 3)) ∧ (decode cX12_init 22 = .ok (.newarray .int, 2)) ∧ (decode cX12_init 24 = .ok (.putfield 16, 3)) ∧ (decode cX12_init 27 = .ok (.aload_n 0, 1)) ∧ (decode cX12_init 28 = .ok (.bipush 60, 2)) := by decide +kernel
theorem dX12_init_0 : decode cX12_init 0 = .ok (.aload_n 0, 1) := dX12_init_0_a.1
theorem dX12_init_1 : decode cX12_init 1 = .ok (.invokespecial 1, 3) := dX12_init_0_a.2.1
theorem dX12_init_4 : decode cX12_init 4 = .ok (.aload_n 0, 1) := dX12_init_0_a.2.2.1
theorem dX12_init_5 : decode cX12_init 5 = .ok (.iconst 4, 1) := dX12_init_0_a.2.2.2.1
theorem dX12_init_6 : decode cX12_init 6 = .ok (.newarray .int, 2) := dX12_init_0_a.2.2.2.2.1
theorem dX12_init_8 : decode cX12_init 8 = .ok (.putfield 7, 3) := dX12_init_0_a.2.2.2.2.2.1
theorem dX12_init_11 : decode cX12_init 11 = .ok (.aload_n 0, 1) := dX12_init_0_a.2.2.2.2.2.2.1
theorem dX12_init_12 : decode cX12_init 12 = .ok (.iconst 4, 1) := dX12_init_0_a.2.2.2.2.2.2.2.1
theorem dX12_init_13 : decode cX12_init 13 = .ok (.newarray .int, 2) := dX12_init_0_a.2.2.2.2.2.2.2.2.1
theorem dX12_init_15 : decode cX12_init 15 = .ok (.putfield 13, 3) := dX12_init_0_a.2.2.2.2.2.2.2.2.2.1
theorem dX12_init_18 : decode cX12_init 18 = .ok (.aload_n 0, 1) := dX12_init_0_a.2.2.2.2.2.2.2.2.2.2.1
theorem dX12_init_19 : decode cX12_init 19 = .ok (.sipush 240, 3) := dX12_init_0_a.2.2.2.2.2.2.2.2.2.2.2.1
theorem dX12_init_22 : decode cX12_init 22 = .ok (.newarray .int, 2) := dX12_init_0_a.2.2.2.2.2.2.2.2.2.2.2.2.1
theorem dX12_init_24 : decode cX12_init 24 = .ok (.putfield 16, 3) := dX12_init_0_a.2.2.2.2.2.2.2.2.2.2.2.2.2.1
theorem dX12_init_27 : decode cX12_init 27 = .ok (.aload_n 0, 1) := dX12_init_0_a.2.2.2.2.2.2.2.2.2.2.2.2.2.2.1
theorem dX12_init_28 : decode cX12_init 28 = .ok (.bipush 60, 2) := dX12_init_0_a.2.2.2.2.2.2.2.2.2.2.2.2.2.2.2
theorem dX12_init_30_a : (decode cX12_init 30 = .ok (.newarray .int, 2)) ∧ (decode cX12_init 32 = .ok (.putfield 19, 3)) ∧ (decode cX12_init 35 = .ok (.aload_n 0, 1)) ∧ (decode cX12_init 36 = .ok (.bipush 120, 2)) ∧ (decode cX12_init 38 = .ok (.newarray .int, 2)) ∧ (decode cX12_init 40 = .ok (.putfield 22, 3)) ∧ (decode cX12_init 43 = .ok (.aload_n 0, 1)) ∧ (decode cX12_init 44 = .ok (.iconst 3, 1)) ∧ (decode cX12_init 45 = .ok (.newarray .int, 2)) ∧ (decode cX12_init 47 = .ok (.putfield 25, 3)) ∧ (decode cX12_init 50 = .ok (.aload_n 0, 1)) ∧ (decode cX12_init 51 = .ok (.bipush 24, 2)) ∧ (decode cX12_init 53 = .ok (.newarray .int, 2)) ∧ (decode cX12_init 55 = .ok (.putfield 28, 3)) ∧ (decode cX12_init 58 = .ok (.aload_n 0, 1)) ∧ (decode cX12_init 59 = .ok (.bipush 32, 2)) := by decide +kernel
theorem dX12_init_30 : decode cX12_init 30 = .ok (.newarray .int, 2) := dX12_init_30_a.1
theorem dX12_init_32 : decode cX12_init 32 = .ok (.putfield 19, 3) := dX12_init_30_a.2.1
theorem dX12_init_35 : decode cX12_init 35 = .ok (.aload_n 0, 1) := dX12_init_30_a.2.2.1
theorem dX12_init_36 : decode cX12_init 36 = .ok (.bipush 120, 2) := dX12_init_30_a.2.2.2.1
theorem dX12_init_38 : decode cX12_init 38 = .ok (.newarray .int, 2) := dX12_init_30_a.2.2.2.2.1
theorem dX12_init_40 : decode cX12_init 40 = .ok (.putfield 22, 3) := dX12_init_30_a.2.2.2.2.2.1
theorem dX12_init_43 : decode cX12_init 43 = .ok (.aload_n 0, 1) := dX12_init_30_a.2.2.2.2.2.2.1
theorem dX12_init_44 : decode cX12_init 44 = .ok (.iconst 3, 1) := dX12_init_30_a.2.2.2.2.2.2.2.1
theorem dX12_init_45 : decode cX12_init 45 = .ok (.newarray .int, 2) := dX12_init_30_a.2.2.2.2.2.2.2.2.1
theorem dX12_init_47 : decode cX12_init 47 = .ok (.putfield 25, 3) := dX12_init_30_a.2.2.2.2.2.2.2.2.2.1
theorem dX12_init_50 : decode cX12_init 50 = .ok (.aload_n 0, 1) := dX12_init_30_a.2.2.2.2.2.2.2.2.2.2.1
theorem dX12_init_51 : decode cX12_init 51 = .ok (.bipush 24, 2) := dX12_init_30_a.2.2.2.2.2.2.2.2.2.2.2.1
theorem dX12_init_53 : decode cX12_init 53 = .ok (.newarray .int, 2) := dX12_init_30_a.2.2.2.2.2.2.2.2.2.2.2.2.1
theorem dX12_init_55 : decode cX12_init 55 = .ok (.putfield 28, 3) := dX12_init_30_a.2.2.2.2.2.2.2.2.2.2.2.2.2.1
theorem dX12_init_58 : decode cX12_init 58 = .ok (.aload_n 0, 1) := dX12_init_30_a.2.2.2.2.2.2.2.2.2.2.2.2.2.2.1
theorem dX12_init_59 : decode cX12_init 59 = .ok (.bipush 32, 2) := dX12_init_30_a.2.2.2.2.2.2.2.2.2.2.2.2.2.2.2
theorem dX12_init_61_a : (decode cX12_init 61 = .ok (.newarray .int, 2)) ∧ (decode cX12_init 63 = .ok (.putfield 31, 3)) ∧ (decode cX12_init 66 = .ok (.aload_n 0, 1)) ∧ (decode cX12_init 67 = .ok (.bipush 16, 2)) ∧ (decode cX12_init 69 = .ok (.newarray .int, 2)) ∧ (decode cX12_init 71 = .ok (.putfield 34, 3)) ∧ (decode cX12_init 74 = .ok (.aload_n 0, 1)) ∧ (decode cX12_init 75 = .ok (.bipush 32, 2)) ∧ (decode cX12_init 77 = .ok (.newarray .int, 2)) ∧ (decode cX12_init 79 = .ok (.putfield 37, 3)) ∧ (decode cX12_init 82 = .ok (.aload_n 0, 1)) ∧ (decode cX12_init 83 = .ok (.bipush 96, 2)) ∧ (decode cX12_init 85 = .ok (.newarray .int, 2)) ∧ (decode cX12_init 87 = .ok (.putfield 40, 3)) ∧ (decode cX12_init 90 = .ok (.aload_n 0, 1)) ∧ (decode cX12_init 91 = .ok (.iconst 2, 1)) := by decide +kernel
theorem dX12_init_61 : decode cX12_init 61 = .ok (.newarray .int, 2) := dX12_init_61_a.1
theorem dX12_init_63 : decode cX12_init 63 = .ok (.putfield 31, 3) := dX12_init_61_a.2.1
theorem dX12_init_66 : decode cX12_init 66 = .ok (.aload_n 0, 1) := dX12_init_61_a.2.2.1
theorem dX12_init_67 : decode cX12_init 67 = .ok (.bipush 16, 2) := dX12_init_61_a.2.2.2.1
theorem dX12_init_69 : decode cX12_init 69 = .ok (.newarray .int, 2) := dX12_init_61_a.2.2.2.2.1
theorem dX12_init_71 : decode cX12_init 71 = .ok (.putfield 34, 3) := dX12_init_61_a.2.2.2.2.2.1
theorem dX12_init_74 : decode cX12_init 74 = .ok (.aload_n 0, 1) := dX12_init_61_a.2.2.2.2.2.2.1
theorem dX12_init_75 : decode cX12_init 75 = .ok (.bipush 32, 2) := dX12_init_61_a.2.2.2.2.2.2.2.1
theorem dX12_init_77 : decode cX12_init 77 = .ok (.newarray .int, 2) := dX12_init_61_a.2.2.2.2.2.2.2.2.1
theorem dX12_init_79 : decode cX12_init 79 = .ok (.putfield 37, 3) := dX12_init_61_a.2.2.2.2.2.2.2.2.2.1
theorem dX12_init_82 : decode cX12_init 82 = .ok (.aload_n 0, 1) := dX12_init_61_a.2.2.2.2.2.2.2.2.2.2.1
theorem dX12_init_83 : decode cX12_init 83 = .ok (.bipush 96, 2) := dX12_init_61_a.2.2.2.2.2.2.2.2.2.2.2.1
theorem dX12_init_85 : decode cX12_init 85 = .ok (.newarray .int, 2) := dX12_init_61_a.2.2.2.2.2.2.2.2.2.2.2.2.1
theorem dX12_init_87 : decode cX12_init 87 = .ok (.putfield 40, 3) := dX12_init_61_a.2.2.2.2.2.2.2.2.2.2.2.2.2.1
theorem dX12_init_90 : decode cX12_init 90 = .ok (.aload_n 0, 1) := dX12_init_61_a.2.2.2.2.2.2.2.2.2.2.2.2.2.2.1
theorem dX12_init_91 : decode cX12_init 91 = .ok (.iconst 2, 1) := dX12_init_61_a.2.2.2.2.2.2.2.2.2.2.2.2.2.2.2
theorem dX12_init_92_a : (decode cX12_init 92 = .ok (.newarray .int, 2)) ∧ (decode cX12_init 94 = .ok (.putfield 43, 3)) ∧ (decode cX12_init 97 = .ok (.aload_n 0, 1)) ∧ (decode cX12_init 98 = .ok (.iconst 2, 1)) ∧ (decode cX12_init 99 = .ok (.newarray .int, 2)) ∧ (decode cX12_init 101 = .ok (.putfield 46, 3)) ∧ (decode cX12_init 104 = .ok (.aload_n 0, 1)) ∧ (decode cX12_init 105 = .ok (.iconst 2, 1)) ∧ (decode cX12_init 106 = .ok (.newarray .int, 2)) ∧ (decode cX12_init 108 = .ok (.putfield 49, 3)) ∧ (decode cX12_init 111 = .ok (.aload_n 0, 1)) ∧ (decode cX12_init 112 = .ok (.bipush 16, 2)) ∧ (decode cX12_init 114 = .ok (.newarray .int, 2)) ∧ (decode cX12_init 116 = .ok (.putfield 52, 3)) ∧ (decode cX12_init 119 = .ok (.aload_n 0, 1)) ∧ (decode cX12_init 120 = .ok (.bipush 25, 2)) := by decide +kernel
theorem dX12_init_92 : decode cX12_init 92 = .ok (.newarray .int, 2) := dX12_init_92_a.1
theorem dX12_init_94 : decode cX12_init 94 = .ok (.putfield 43, 3) := dX12_init_92_a.2.1
theorem dX12_init_97 : decode cX12_init 97 = .ok (.aload_n 0, 1) := dX12_init_92_a.2.2.1
theorem dX12_init_98 : decode cX12_init 98 = .ok (.iconst 2, 1) := dX12_init_92_a.2.2.2.1
theorem dX12_init_99 : decode cX12_init 99 = .ok (.newarray .int, 2) := dX12_init_92_a.2.2.2.2.1
theorem dX12_init_101 : decode cX12_init 101 = .ok (.putfield 46, 3) := dX12_init_92_a.2.2.2.2.2.1
theorem dX12_init_104 : decode cX12_init 104 = .ok (.aload_n 0, 1) := dX12_init_92_a.2.2.2.2.2.2.1
theorem dX12_init_105 : decode cX12_init 105 = .ok (.iconst 2, 1) := dX12_init_92_a.2.2.2.2.2.2.2.1
theorem dX12_init_106 : decode cX12_init 106 = .ok (.newarray .int, 2) := dX12_init_92_a.2.2.2.2.2.2.2.2.1
theorem dX12_init_108 : decode cX12_init 108 = .ok (.putfield 49, 3) := dX12_init_92_a.2.2.2.2.2.2.2.2.2.1
theorem dX12_init_111 : decode cX12_init 111 = .ok (.aload_n 0, 1) := dX12_init_92_a.2.2.2.2.2.2.2.2.2.2.1
theorem dX12_init_112 : decode cX12_init 112 = .ok (.bipush 16, 2) := dX12_init_92_a.2.2.2.2.2.2.2.2.2.2.2.1
theorem dX12_init_114 : decode cX12_init 114 = .ok (.newarray .int, 2) := dX12_init_92_a.2.2.2.2.2.2.2.2.2.2.2.2.1
theorem dX12_init_116 : decode cX12_init 116 = .ok (.putfield 52, 3) := dX12_init_92_a.2.2.2.2.2.2.2.2.2.2.2.2.2.1
theorem dX12_init_119 : decode cX12_init 119 = .ok (.aload_n 0, 1) := dX12_init_92_a.2.2.2.2.2.2.2.2.2.2.2.2.2.2.1
theorem dX12_init_120 : decode cX12_init 120 = .ok (.bipush 25, 2) := dX12_init_92_a.2.2.2.2.2.2.2.2.2.2.2.2.2.2.2
theorem dX12_init_122_a : (decode cX12_init 122 = .ok (.newarray .int, 2)) ∧ (decode cX12_init 124 = .ok (.putfield 55, 3)) ∧ (decode cX12_init 127 = .ok (.iconst 0, 1)) ∧ (decode cX12_init 128 = .ok (.istore_n 1, 1)) ∧ (decode cX12_init 129 = .ok (.iload_n 1, 1)) ∧ (decode cX12_init 130 = .ok (.iconst 4, 1)) ∧ (decode cX12_init 131 = .ok (.if_icmp .ge 16, 3)) ∧ (decode cX12_init 134 = .ok (.aload_n 0, 1)) ∧ (decode cX12_init 135 = .ok (.getfield 7, 3)) ∧ (decode cX12_init 138 = .ok (.iload_n 1, 1)) ∧ (decode cX12_init 139 = .ok (.iconst (-1), 1)) ∧ (decode cX12_init 140 = .ok (.iastore, 1)) ∧ (decode cX12_init 141 = .ok (.iinc 1 1, 3)) ∧ (decode cX12_init 144 = .ok (.goto (-15), 3)) ∧ (decode cX12_init 147 = .ok (.aload_n 0, 1)) ∧ (decode cX12_init 148 = .ok (.ldc 58, 2)) := by decide +kernel
theorem dX12_init_122 : decode cX12_init 122 = .ok (.newarray .int, 2) := dX12_init_122_a.1
theorem dX12_init_124 : decode cX12_init 124 = .ok (.putfield 55, 3) := dX12_init_122_a.2.1
theorem dX12_init_127 : decode cX12_init 127 = .ok (.iconst 0, 1) := dX12_init_122_a.2.2.1
theorem dX12_init_128 : decode cX12_init 128 = .ok (.istore_n 1, 1) := dX12_init_122_a.2.2.2.1
theorem dX12_init_129 : decode cX12_init 129 = .ok (.iload_n 1, 1) := dX12_init_122_a.2.2.2.2.1
theorem dX12_init_130 : decode cX12_init 130 = .ok (.iconst 4, 1) := dX12_init_122_a.2.2.2.2.2.1
theorem dX12_init_131 : decode cX12_init 131 = .ok (.if_icmp .ge 16, 3) := dX12_init_122_a.2.2.2.2.2.2.1
theorem dX12_init_134 : decode cX12_init 134 = .ok (.aload_n 0, 1) := dX12_init_122_a.2.2.2.2.2.2.2.1
theorem dX12_init_135 : decode cX12_init 135 = .ok (.getfield 7, 3) := dX12_init_122_a.2.2.2.2.2.2.2.2.1
theorem dX12_init_138 : decode cX12_init 138 = .ok (.iload_n 1, 1) := dX12_init_122_a.2.2.2.2.2.2.2.2.2.1
theorem dX12_init_139 : decode cX12_init 139 = .ok (.iconst (-1), 1) := dX12_init_122_a.2.2.2.2.2.2.2.2.2.2.1
theorem dX12_init_140 : decode cX12_init 140 = .ok (.iastore, 1) := dX12_init_122_a.2.2.2.2.2.2.2.2.2.2.2.1
theorem dX12_init_141 : decode cX12_init 141 = .ok (.iinc 1 1, 3) := dX12_init_122_a.2.2.2.2.2.2.2.2.2.2.2.2.1
theorem dX12_init_144 : decode cX12_init 144 = .ok (.goto (-15), 3) := dX12_init_122_a.2.2.2.2.2.2.2.2.2.2.2.2.2.1
theorem dX12_init_147 : decode cX12_init 147 = .ok (.aload_n 0, 1) := dX12_init_122_a.2.2.2.2.2.2.2.2.2.2.2.2.2.2.1
theorem dX12_init_148 : decode cX12_init 148 = .ok (.ldc 58, 2) := dX12_init_122_a.2.2.2.2.2.2.2.2.2.2.2.2.2.2.2
theorem dX12_init_150_a : (decode cX12_init 150 = .ok (.putfield 59, 3)) ∧ (decode cX12_init 153 = .ok (.return_, 1)) := by decide +kernel
theorem dX12_init_150 : decode cX12_init 150 = .ok (.putfield 59, 3) := dX12_init_150_a.1
theorem dX12_init_153 : decode cX12_init 153 = .ok (.return_, 1) := dX12_init_150_a.2
theorem dX12_in_0_a : (decode cX12_in 0 = .ok (.lload_n 0, 1)) ∧ (decode cX12_in 1 = .ok (.lload_n 2, 1)) ∧ (decode cX12_in 2 = .ok (.lcmp, 1)) ∧ (decode cX12_in 3 = .ok (.ifCond .lt 14, 3)) ∧ (decode cX12_in 6 = .ok (.lload_n 0, 1)) ∧ (decode cX12_in 7 = .ok (.lload 4, 2)) ∧ (decode cX12_in 9 = .ok (.lcmp, 1)) ∧ (decode cX12_in 10 = .ok (.ifCond .gt 7, 3)) ∧ (decode cX12_in 13 = .ok (.iconst 1, 1)) ∧ (decode cX12_in 14 = .ok (.goto 4, 3)) ∧ (decode cX12_in 17 = .ok (.iconst 0, 1)) ∧ (decode cX12_in 18 = .ok (.ireturn, 1)) := by decide +kernel
theorem dX12_in_0 : decode cX12_in 0 = .ok (.lload_n 0, 1) := dX12_in_0_a.1
theorem dX12_in_1 : decode cX12_in 1 = .ok (.lload_n 2, 1) := dX12_in_0_a.2.1
theorem dX12_in_2 : decode cX12_in 2 = .ok (.lcmp, 1) := dX12_in_0_a.2.2.1
theorem dX12_in_3 : decode cX12_in 3 = .ok (.ifCond .lt 14, 3) := dX12_in_0_a.2.2.2.1
theorem dX12_in_6 : decode cX12_in 6 = .ok (.lload_n 0, 1) := dX12_in_0_a.2.2.2.2.1
theorem dX12_in_7 : decode cX12_in 7 = .ok (.lload 4, 2) := dX12_in_0_a.2.2.2.2.2.1
theorem dX12_in_9 : decode cX12_in 9 = .ok (.lcmp, 1) := dX12_in_0_a.2.2.2.2.2.2.1
theorem dX12_in_10 : decode cX12_in 10 = .ok (.ifCond .gt 7, 3) := dX12_in_0_a.2.2.2.2.2.2.2.1
theorem dX12_in_13 : decode cX12_in 13 = .ok (.iconst 1, 1) := dX12_in_0_a.2.2.2.2.2.2.2.2.1
theorem dX12_in_14 : decode cX12_in 14 = .ok (.goto 4, 3) := dX12_in_0_a.2.2.2.2.2.2.2.2.2.1
theorem dX12_in_17 : decode cX12_in 17 = .ok (.iconst 0, 1) := dX12_in_0_a.2.2.2.2.2.2.2.2.2.2.1
theorem dX12_in_18 : decode cX12_in 18 = .ok (.ireturn, 1) := dX12_in_0_a.2.2.2.2.2.2.2.2.2.2.2
theorem dX12_no_0_a : (decode cX12_no 0 = .ok (.ldc2_w 63, 3)) ∧ (decode cX12_no 3 = .ok (.iload_n 0, 1)) ∧ (decode cX12_no 4 = .ok (.i2l, 1)) ∧ (decode cX12_no 5 = .ok (.lsub, 1)) ∧ (decode cX12_no 6 = .ok (.lreturn, 1)) := by decide +kernel
theorem dX12_no_0 : decode cX12_no 0 = .ok (.ldc2_w 63, 3) := dX12_no_0_a.1
theorem dX12_no_3 : decode cX12_no 3 = .ok (.iload_n 0, 1) := dX12_no_0_a.2.1
theorem dX12_no_4 : decode cX12_no 4 = .ok (.i2l, 1) := dX12_no_0_a.2.2.1
theorem dX12_no_5 : decode cX12_no 5 = .ok (.lsub, 1) := dX12_no_0_a.2.2.2.1
theorem dX12_no_6 : decode cX12_no 6 = .ok (.lreturn, 1) := dX12_no_0_a.2.2.2.2
theorem dX12_isTwo_0_a : (decode cX12_isTwo 0 = .ok (.iload_n 0, 1)) ∧ (decode cX12_isTwo 1 = .ok (.i2l, 1)) ∧ (decode cX12_isTwo 2 = .ok (.lconst 0, 1)) ∧ (decode cX12_isTwo 3 = .ok (.lconst 1, 1)) ∧ (decode cX12_isTwo 4 = .ok (.invokestatic 65, 3)) ∧ (decode cX12_isTwo 7 = .ok (.ireturn, 1)) := by decide +kernel
theorem dX12_isTwo_0 : decode cX12_isTwo 0 = .ok (.iload_n 0, 1) := dX12_isTwo_0_a.1
theorem dX12_isTwo_1 : decode cX12_isTwo 1 = .ok (.i2l, 1) := dX12_isTwo_0_a.2.1
theorem dX12_isTwo_2 : decode cX12_isTwo 2 = .ok (.lconst 0, 1) := dX12_isTwo_0_a.2.2.1
theorem dX12_isTwo_3 : decode cX12_isTwo 3 = .ok (.lconst 1, 1) := dX12_isTwo_0_a.2.2.2.1
theorem dX12_isTwo_4 : decode cX12_isTwo 4 = .ok (.invokestatic 65, 3) := dX12_isTwo_0_a.2.2.2.2.1
theorem dX12_isTwo_7 : decode cX12_isTwo 7 = .ok (.ireturn, 1) := dX12_isTwo_0_a.2.2.2.2.2
theorem dX12_isIn_0_a : (decode cX12_isIn 0 = .ok (.iload_n 0, 1)) ∧ (decode cX12_isIn 1 = .ok (.iload_n 1, 1)) ∧ (decode cX12_isIn 2 = .ok (.ishr, 1)) ∧ (decode cX12_isIn 3 = .ok (.iconst 1, 1)) ∧ (decode cX12_isIn 4 = .ok (.iand, 1)) ∧ (decode cX12_isIn 5 = .ok (.iconst 1, 1)) ∧ (decode cX12_isIn 6 = .ok (.if_icmp .ne 7, 3)) ∧ (decode cX12_isIn 9 = .ok (.iconst 1, 1)) ∧ (decode cX12_isIn 10 = .ok (.goto 4, 3)) ∧ (decode cX12_isIn 13 = .ok (.iconst 0, 1)) ∧ (decode cX12_isIn 14 = .ok (.ireturn, 1)) := by decide +kernel
theorem dX12_isIn_0 : decode cX12_isIn 0 = .ok (.iload_n 0, 1) := dX12_isIn_0_a.1
theorem dX12_isIn_1 : decode cX12_isIn 1 = .ok (.iload_n 1, 1) := dX12_isIn_0_a.2.1
theorem dX12_isIn_2 : decode cX12_isIn 2 = .ok (.ishr, 1) := dX12_isIn_0_a.2.2.1
theorem dX12_isIn_3 : decode cX12_isIn 3 = .ok (.iconst 1, 1) := dX12_isIn_0_a.2.2.2.1
theorem dX12_isIn_4 : decode cX12_isIn 4 = .ok (.iand, 1) := dX12_isIn_0_a.2.2.2.2.1
theorem dX12_isIn_5 : decode cX12_isIn 5 = .ok (.iconst 1, 1) := dX12_isIn_0_a.2.2.2.2.2.1
theorem dX12_isIn_6 : decode cX12_isIn 6 = .ok (.if_icmp .ne 7, 3) := dX12_isIn_0_a.2.2.2.2.2.2.1
theorem dX12_isIn_9 : decode cX12_isIn 9 = .ok (.iconst 1, 1) := dX12_isIn_0_a.2.2.2.2.2.2.2.1
theorem dX12_isIn_10 : decode cX12_isIn 10 = .ok (.goto 4, 3) := dX12_isIn_0_a.2.2.2.2.2.2.2.2.1
theorem dX12_isIn_13 : decode cX12_isIn 13 = .ok (.iconst 0, 1) := dX12_isIn_0_a.2.2.2.2.2.2.2.2.2.1
theorem dX12_isIn_14 : decode cX12_isIn 14 = .ok (.ireturn, 1) := dX12_isIn_0_a.2.2.2.2.2.2.2.2.2.2
theorem dX12_ones_0_a : (decode cX12_ones 0 = .ok (.iconst 0, 1)) ∧ (decode cX12_ones 1 = .ok (.istore_n 1, 1)) ∧ (decode cX12_ones 2 = .ok (.iload_n 0, 1)) ∧ (decode cX12_ones 3 = .ok (.istore_n 2, 1)) ∧ (decode cX12_ones 4 = .ok (.iload_n 2, 1)) ∧ (decode cX12_ones 5 = .ok (.ifCond .eq 15, 3)) ∧ (decode cX12_ones 8 = .ok (.iinc 1 1, 3)) ∧ (decode cX12_ones 11 = .ok (.iload_n 2, 1)) ∧ (decode cX12_ones 12 = .ok (.iload_n 2, 1)) ∧ (decode cX12_ones 13 = .ok (.iconst 1, 1)) ∧ (decode cX12_ones 14 = .ok (.isub, 1)) ∧ (decode cX12_ones 15 = .ok (.iand, 1)) ∧ (decode cX12_ones 16 = .ok (.istore_n 2, 1)) ∧ (decode cX12_ones 17 = .ok (.goto (-13), 3)) ∧ (decode cX12_ones 20 = .ok (.iload_n 1, 1)) ∧ (decode cX12_ones 21 = .ok (.ireturn, 1)) := by decide +kernel
theorem dX12_ones_0 : decode cX12_ones 0 = .ok (.iconst 0, 1) := dX12_ones_0_a.1
theorem dX12_ones_1 : decode cX12_ones 1 = .ok (.istore_n 1, 1) := dX12_ones_0_a.2.1
theorem dX12_ones_2 : decode cX12_ones 2 = .ok (.iload_n 0, 1) := dX12_ones_0_a.2.2.1
theorem dX12_ones_3 : decode cX12_ones 3 = .ok (.istore_n 2, 1) := dX12_ones_0_a.2.2.2.1
theorem dX12_ones_4 : decode cX12_ones 4 = .ok (.iload_n 2, 1) := dX12_ones_0_a.2.2.2.2.1
theorem dX12_ones_5 : decode cX12_ones 5 = .ok (.ifCond .eq 15, 3) := dX12_ones_0_a.2.2.2.2.2.1
theorem dX12_ones_8 : decode cX12_ones 8 = .ok (.iinc 1 1, 3) := dX12_ones_0_a.2.2.2.2.2.2.1
theorem dX12_ones_11 : decode cX12_ones 11 = .ok (.iload_n 2, 1) := dX12_ones_0_a.2.2.2.2.2.2.2.1
theorem dX12_ones_12 : decode cX12_ones 12 = .ok (.iload_n 2, 1) := dX12_ones_0_a.2.2.2.2.2.2.2.2.1
theorem dX12_ones_13 : decode cX12_ones 13 = .ok (.iconst 1, 1) := dX12_ones_0_a.2.2.2.2.2.2.2.2.2.1
theorem dX12_ones_14 : decode cX12_ones 14 = .ok (.isub, 1) := dX12_ones_0_a.2.2.2.2.2.2.2.2.2.2.1
theorem dX12_ones_15 : decode cX12_ones 15 = .ok (.iand, 1) := dX12_ones_0_a.2.2.2.2.2.2.2.2.2.2.2.1
theorem dX12_ones_16 : decode cX12_ones 16 = .ok (.istore_n 2, 1) := dX12_ones_0_a.2.2.2.2.2.2.2.2.2.2.2.2.1
theorem dX12_ones_17 : decode cX12_ones 17 = .ok (.goto (-13), 3) := dX12_ones_0_a.2.2.2.2.2.2.2.2.2.2.2.2.2.1
theorem dX12_ones_20 : decode cX12_ones 20 = .ok (.iload_n 1, 1) := dX12_ones_0_a.2.2.2.2.2.2.2.2.2.2.2.2.2.2.1
theorem dX12_ones_21 : decode cX12_ones 21 = .ok (.ireturn, 1) := dX12_ones_0_a.2.2.2.2.2.2.2.2.2.2.2.2.2.2.2
theorem dX12_lesser_0_a : (decode cX12_lesser 0 = .ok (.iload_n 0, 1)) ∧ (decode cX12_lesser 1 = .ok (.iload_n 1, 1)) ∧ (decode cX12_lesser 2 = .ok (.if_icmp .ge 7, 3)) ∧ (decode cX12_lesser 5 = .ok (.iload_n 0, 1)) ∧ (decode cX12_lesser 6 = .ok (.goto 4, 3)) ∧ (decode cX12_lesser 9 = .ok (.iload_n 1, 1)) ∧ (decode cX12_lesser 10 = .ok (.ireturn, 1)) := by decide +kernel
theorem dX12_lesser_0 : decode cX12_lesser 0 = .ok (.iload_n 0, 1) := dX12_lesser_0_a.1
theorem dX12_lesser_1 : decode cX12_lesser 1 = .ok (.iload_n 1, 1) := dX12_lesser_0_a.2.1
theorem dX12_lesser_2 : decode cX12_lesser 2 = .ok (.if_icmp .ge 7, 3) := dX12_lesser_0_a.2.2.1
theorem dX12_lesser_5 : decode cX12_lesser 5 = .ok (.iload_n 0, 1) := dX12_lesser_0_a.2.2.2.1
theorem dX12_lesser_6 : decode cX12_lesser 6 = .ok (.goto 4, 3) := dX12_lesser_0_a.2.2.2.2.1
theorem dX12_lesser_9 : decode cX12_lesser 9 = .ok (.iload_n 1, 1) := dX12_lesser_0_a.2.2.2.2.2.1
theorem dX12_lesser_10 : decode cX12_lesser 10 = .ok (.ireturn, 1) := dX12_lesser_0_a.2.2.2.2.2.2
theorem dX12_part_0_a : (decode cX12_part 0 = .ok (.lload_n 0, 1)) ∧ (decode cX12_part 1 = .ok (.lstore 5, 2)) ∧ (decode cX12_part 3 = .ok (.lload_n 2, 1)) ∧ (decode cX12_part 4 = .ok (.lstore 7, 2)) ∧ (decode cX12_part 6 = .ok (.lload 7, 2)) ∧ (decode cX12_part 8 = .ok (.lconst 0, 1)) ∧ (decode cX12_part 9 = .ok (.lcmp, 1)) ∧ (decode cX12_part 10 = .ok (.ifCond .eq 21, 3)) ∧ (decode cX12_part 13 = .ok (.lload 5, 2)) ∧ (decode cX12_part 15 = .ok (.lload 7, 2)) ∧ (decode cX12_part 17 = .ok (.lrem, 1)) ∧ (decode cX12_part 18 = .ok (.lstore 9, 2)) ∧ (decode cX12_part 20 = .ok (.lload 7, 2)) ∧ (decode cX12_part 22 = .ok (.lstore 5, 2)) ∧ (decode cX12_part 24 = .ok (.lload 9, 2)) ∧ (decode cX12_part 26 = .ok (.lstore 7, 2)) := by decide +kernel
theorem dX12_part_0 : decode cX12_part 0 = .ok (.lload_n 0, 1) := dX12_part_0_a.1
theorem dX12_part_1 : decode cX12_part 1 = .ok (.lstore 5, 2) := dX12_part_0_a.2.1
theorem dX12_part_3 : decode cX12_part 3 = .ok (.lload_n 2, 1) := dX12_part_0_a.2.2.1
theorem dX12_part_4 : decode cX12_part 4 = .ok (.lstore 7, 2) := dX12_part_0_a.2.2.2.1
theorem dX12_part_6 : decode cX12_part 6 = .ok (.lload 7, 2) := dX12_part_0_a.2.2.2.2.1
theorem dX12_part_8 : decode cX12_part 8 = .ok (.lconst 0, 1) := dX12_part_0_a.2.2.2.2.2.1
theorem dX12_part_9 : decode cX12_part 9 = .ok (.lcmp, 1) := dX12_part_0_a.2.2.2.2.2.2.1
theorem dX12_part_10 : decode cX12_part 10 = .ok (.ifCond .eq 21, 3) := dX12_part_0_a.2.2.2.2.2.2.2.1
theorem dX12_part_13 : decode cX12_part 13 = .ok (.lload 5, 2) := dX12_part_0_a.2.2.2.2.2.2.2.2.1
theorem dX12_part_15 : decode cX12_part 15 = .ok (.lload 7, 2) := dX12_part_0_a.2.2.2.2.2.2.2.2.2.1
theorem dX12_part_17 : decode cX12_part 17 = .ok (.lrem, 1) := dX12_part_0_a.2.2.2.2.2.2.2.2.2.2.1
theorem dX12_part_18 : decode cX12_part 18 = .ok (.lstore 9, 2) := dX12_part_0_a.2.2.2.2.2.2.2.2.2.2.2.1
theorem dX12_part_20 : decode cX12_part 20 = .ok (.lload 7, 2) := dX12_part_0_a.2.2.2.2.2.2.2.2.2.2.2.2.1
theorem dX12_part_22 : decode cX12_part 22 = .ok (.lstore 5, 2) := dX12_part_0_a.2.2.2.2.2.2.2.2.2.2.2.2.2.1
theorem dX12_part_24 : decode cX12_part 24 = .ok (.lload 9, 2) := dX12_part_0_a.2.2.2.2.2.2.2.2.2.2.2.2.2.2.1
theorem dX12_part_26 : decode cX12_part 26 = .ok (.lstore 7, 2) := dX12_part_0_a.2.2.2.2.2.2.2.2.2.2.2.2.2.2.2
theorem dX12_part_28_a : (decode cX12_part 28 = .ok (.goto (-22), 3)) ∧ (decode cX12_part 31 = .ok (.iload 4, 2)) ∧ (decode cX12_part 33 = .ok (.ifCond .ne 7, 3)) ∧ (decode cX12_part 36 = .ok (.lload_n 0, 1)) ∧ (decode cX12_part 37 = .ok (.goto 4, 3)) ∧ (decode cX12_part 40 = .ok (.lload_n 2, 1)) ∧ (decode cX12_part 41 = .ok (.lload 5, 2)) ∧ (decode cX12_part 43 = .ok (.ldiv, 1)) ∧ (decode cX12_part 44 = .ok (.lreturn, 1)) := by decide +kernel
theorem dX12_part_28 : decode cX12_part 28 = .ok (.goto (-22), 3) := dX12_part_28_a.1
theorem dX12_part_31 : decode cX12_part 31 = .ok (.iload 4, 2) := dX12_part_28_a.2.1
theorem dX12_part_33 : decode cX12_part 33 = .ok (.ifCond .ne 7, 3) := dX12_part_28_a.2.2.1
theorem dX12_part_36 : decode cX12_part 36 = .ok (.lload_n 0, 1) := dX12_part_28_a.2.2.2.1
theorem dX12_part_37 : decode cX12_part 37 = .ok (.goto 4, 3) := dX12_part_28_a.2.2.2.2.1
theorem dX12_part_40 : decode cX12_part 40 = .ok (.lload_n 2, 1) := dX12_part_28_a.2.2.2.2.2.1
theorem dX12_part_41 : decode cX12_part 41 = .ok (.lload 5, 2) := dX12_part_28_a.2.2.2.2.2.2.1
theorem dX12_part_43 : decode cX12_part 43 = .ok (.ldiv, 1) := dX12_part_28_a.2.2.2.2.2.2.2.1
theorem dX12_part_44 : decode cX12_part 44 = .ok (.lreturn, 1) := dX12_part_28_a.2.2.2.2.2.2.2.2
theorem dX12_finds_0_a : (decode cX12_finds 0 = .ok (.aload_n 0, 1)) ∧ (decode cX12_finds 1 = .ok (.iload_n 1, 1)) ∧ (decode cX12_finds 2 = .ok (.putfield 69, 3)) ∧ (decode cX12_finds 5 = .ok (.bipush (-10), 2)) ∧ (decode cX12_finds 7 = .ok (.iload_n 1, 1)) ∧ (decode cX12_finds 8 = .ok (.isub, 1)) ∧ (decode cX12_finds 9 = .ok (.ireturn, 1)) := by decide +kernel
theorem dX12_finds_0 : decode cX12_finds 0 = .ok (.aload_n 0, 1) := dX12_finds_0_a.1
theorem dX12_finds_1 : decode cX12_finds 1 = .ok (.iload_n 1, 1) := dX12_finds_0_a.2.1
theorem dX12_finds_2 : decode cX12_finds 2 = .ok (.putfield 69, 3) := dX12_finds_0_a.2.2.1
theorem dX12_finds_5 : decode cX12_finds 5 = .ok (.bipush (-10), 2) := dX12_finds_0_a.2.2.2.1
theorem dX12_finds_7 : decode cX12_finds 7 = .ok (.iload_n 1, 1) := dX12_finds_0_a.2.2.2.2.1
theorem dX12_finds_8 : decode cX12_finds 8 = .ok (.isub, 1) := dX12_finds_0_a.2.2.2.2.2.1
theorem dX12_finds_9 : decode cX12_finds 9 = .ok (.ireturn, 1) := dX12_finds_0_a.2.2.2.2.2.2
theorem dX12_isSheet_0_a : (decode cX12_isSheet 0 = .ok (.iload_n 0, 1)) ∧ (decode cX12_isSheet 1 = .ok (.i2l, 1)) ∧ (decode cX12_isSheet 2 = .ok (.lconst 0, 1)) ∧ (decode cX12_isSheet 3 = .ok (.ldc2_w 72, 3)) ∧ (decode cX12_isSheet 6 = .ok (.invokestatic 65, 3)) ∧ (decode cX12_isSheet 9 = .ok (.ireturn, 1)) := by decide +kernel
theorem dX12_isSheet_0 : decode cX12_isSheet 0 = .ok (.iload_n 0, 1) := dX12_isSheet_0_a.1
theorem dX12_isSheet_1 : decode cX12_isSheet 1 = .ok (.i2l, 1) := dX12_isSheet_0_a.2.1
theorem dX12_isSheet_2 : decode cX12_isSheet 2 = .ok (.lconst 0, 1) := dX12_isSheet_0_a.2.2.1
theorem dX12_isSheet_3 : decode cX12_isSheet 3 = .ok (.ldc2_w 72, 3) := dX12_isSheet_0_a.2.2.2.1
theorem dX12_isSheet_6 : decode cX12_isSheet 6 = .ok (.invokestatic 65, 3) := dX12_isSheet_0_a.2.2.2.2.1
theorem dX12_isSheet_9 : decode cX12_isSheet 9 = .ok (.ireturn, 1) := dX12_isSheet_0_a.2.2.2.2.2
theorem dX12_sheet_0_a : (decode cX12_sheet 0 = .ok (.iload_n 1, 1)) ∧ (decode cX12_sheet 1 = .ok (.invokestatic 74, 3)) ∧ (decode cX12_sheet 4 = .ok (.ifCond .eq 21, 3)) ∧ (decode cX12_sheet 7 = .ok (.iload_n 2, 1)) ∧ (decode cX12_sheet 8 = .ok (.i2l, 1)) ∧ (decode cX12_sheet 9 = .ok (.lconst 0, 1)) ∧ (decode cX12_sheet 10 = .ok (.ldc2_w 78, 3)) ∧ (decode cX12_sheet 13 = .ok (.invokestatic 65, 3)) ∧ (decode cX12_sheet 16 = .ok (.ifCond .eq 9, 3)) ∧ (decode cX12_sheet 19 = .ok (.iload_n 3, 1)) ∧ (decode cX12_sheet 20 = .ok (.bipush 60, 2)) ∧ (decode cX12_sheet 22 = .ok (.if_icmp .le 6, 3)) ∧ (decode cX12_sheet 25 = .ok (.bipush (-2), 2)) ∧ (decode cX12_sheet 27 = .ok (.ireturn, 1)) ∧ (decode cX12_sheet 28 = .ok (.iload_n 3, 1)) ∧ (decode cX12_sheet 29 = .ok (.ifCond .ge 9, 3)) := by decide +kernel
theorem dX12_sheet_0 : decode cX12_sheet 0 = .ok (.iload_n 1, 1) := dX12_sheet_0_a.1
theorem dX12_sheet_1 : decode cX12_sheet 1 = .ok (.invokestatic 74, 3) := dX12_sheet_0_a.2.1
theorem dX12_sheet_4 : decode cX12_sheet 4 = .ok (.ifCond .eq 21, 3) := dX12_sheet_0_a.2.2.1
theorem dX12_sheet_7 : decode cX12_sheet 7 = .ok (.iload_n 2, 1) := dX12_sheet_0_a.2.2.2.1
theorem dX12_sheet_8 : decode cX12_sheet 8 = .ok (.i2l, 1) := dX12_sheet_0_a.2.2.2.2.1
theorem dX12_sheet_9 : decode cX12_sheet 9 = .ok (.lconst 0, 1) := dX12_sheet_0_a.2.2.2.2.2.1
theorem dX12_sheet_10 : decode cX12_sheet 10 = .ok (.ldc2_w 78, 3) := dX12_sheet_0_a.2.2.2.2.2.2.1
theorem dX12_sheet_13 : decode cX12_sheet 13 = .ok (.invokestatic 65, 3) := dX12_sheet_0_a.2.2.2.2.2.2.2.1
theorem dX12_sheet_16 : decode cX12_sheet 16 = .ok (.ifCond .eq 9, 3) := dX12_sheet_0_a.2.2.2.2.2.2.2.2.1
theorem dX12_sheet_19 : decode cX12_sheet 19 = .ok (.iload_n 3, 1) := dX12_sheet_0_a.2.2.2.2.2.2.2.2.2.1
theorem dX12_sheet_20 : decode cX12_sheet 20 = .ok (.bipush 60, 2) := dX12_sheet_0_a.2.2.2.2.2.2.2.2.2.2.1
theorem dX12_sheet_22 : decode cX12_sheet 22 = .ok (.if_icmp .le 6, 3) := dX12_sheet_0_a.2.2.2.2.2.2.2.2.2.2.2.1
theorem dX12_sheet_25 : decode cX12_sheet 25 = .ok (.bipush (-2), 2) := dX12_sheet_0_a.2.2.2.2.2.2.2.2.2.2.2.2.1
theorem dX12_sheet_27 : decode cX12_sheet 27 = .ok (.ireturn, 1) := dX12_sheet_0_a.2.2.2.2.2.2.2.2.2.2.2.2.2.1
theorem dX12_sheet_28 : decode cX12_sheet 28 = .ok (.iload_n 3, 1) := dX12_sheet_0_a.2.2.2.2.2.2.2.2.2.2.2.2.2.2.1
theorem dX12_sheet_29 : decode cX12_sheet 29 = .ok (.ifCond .ge 9, 3) := dX12_sheet_0_a.2.2.2.2.2.2.2.2.2.2.2.2.2.2.2
theorem dX12_sheet_32_a : (decode cX12_sheet 32 = .ok (.aload_n 0, 1)) ∧ (decode cX12_sheet 33 = .ok (.iconst 5, 1)) ∧ (decode cX12_sheet 34 = .ok (.invokevirtual 80, 3)) ∧ (decode cX12_sheet 37 = .ok (.ireturn, 1)) ∧ (decode cX12_sheet 38 = .ok (.aload_n 0, 1)) ∧ (decode cX12_sheet 39 = .ok (.getfield 7, 3)) ∧ (decode cX12_sheet 42 = .ok (.iload_n 1, 1)) ∧ (decode cX12_sheet 43 = .ok (.iload_n 2, 1)) ∧ (decode cX12_sheet 44 = .ok (.iastore, 1)) ∧ (decode cX12_sheet 45 = .ok (.aload_n 0, 1)) ∧ (decode cX12_sheet 46 = .ok (.getfield 13, 3)) ∧ (decode cX12_sheet 49 = .ok (.iload_n 1, 1)) ∧ (decode cX12_sheet 50 = .ok (.iload_n 3, 1)) ∧ (decode cX12_sheet 51 = .ok (.iastore, 1)) ∧ (decode cX12_sheet 52 = .ok (.iconst 0, 1)) ∧ (decode cX12_sheet 53 = .ok (.istore 4, 2)) := by decide +kernel
theorem dX12_sheet_32 : decode cX12_sheet 32 = .ok (.aload_n 0, 1) := dX12_sheet_32_a.1
theorem dX12_sheet_33 : decode cX12_sheet 33 = .ok (.iconst 5, 1) := dX12_sheet_32_a.2.1
theorem dX12_sheet_34 : decode cX12_sheet 34 = .ok (.invokevirtual 80, 3) := dX12_sheet_32_a.2.2.1
theorem dX12_sheet_37 : decode cX12_sheet 37 = .ok (.ireturn, 1) := dX12_sheet_32_a.2.2.2.1
theorem dX12_sheet_38 : decode cX12_sheet 38 = .ok (.aload_n 0, 1) := dX12_sheet_32_a.2.2.2.2.1
theorem dX12_sheet_39 : decode cX12_sheet 39 = .ok (.getfield 7, 3) := dX12_sheet_32_a.2.2.2.2.2.1
theorem dX12_sheet_42 : decode cX12_sheet 42 = .ok (.iload_n 1, 1) := dX12_sheet_32_a.2.2.2.2.2.2.1
theorem dX12_sheet_43 : decode cX12_sheet 43 = .ok (.iload_n 2, 1) := dX12_sheet_32_a.2.2.2.2.2.2.2.1
theorem dX12_sheet_44 : decode cX12_sheet 44 = .ok (.iastore, 1) := dX12_sheet_32_a.2.2.2.2.2.2.2.2.1
theorem dX12_sheet_45 : decode cX12_sheet 45 = .ok (.aload_n 0, 1) := dX12_sheet_32_a.2.2.2.2.2.2.2.2.2.1
theorem dX12_sheet_46 : decode cX12_sheet 46 = .ok (.getfield 13, 3) := dX12_sheet_32_a.2.2.2.2.2.2.2.2.2.2.1
theorem dX12_sheet_49 : decode cX12_sheet 49 = .ok (.iload_n 1, 1) := dX12_sheet_32_a.2.2.2.2.2.2.2.2.2.2.2.1
theorem dX12_sheet_50 : decode cX12_sheet 50 = .ok (.iload_n 3, 1) := dX12_sheet_32_a.2.2.2.2.2.2.2.2.2.2.2.2.1
theorem dX12_sheet_51 : decode cX12_sheet 51 = .ok (.iastore, 1) := dX12_sheet_32_a.2.2.2.2.2.2.2.2.2.2.2.2.2.1
theorem dX12_sheet_52 : decode cX12_sheet 52 = .ok (.iconst 0, 1) := dX12_sheet_32_a.2.2.2.2.2.2.2.2.2.2.2.2.2.2.1
theorem dX12_sheet_53 : decode cX12_sheet 53 = .ok (.istore 4, 2) := dX12_sheet_32_a.2.2.2.2.2.2.2.2.2.2.2.2.2.2.2
theorem dX12_sheet_55_a : (decode cX12_sheet 55 = .ok (.iload 4, 2)) ∧ (decode cX12_sheet 57 = .ok (.iload_n 3, 1)) ∧ (decode cX12_sheet 58 = .ok (.if_icmp .ge 22, 3)) ∧ (decode cX12_sheet 61 = .ok (.aload_n 0, 1)) ∧ (decode cX12_sheet 62 = .ok (.getfield 16, 3)) ∧ (decode cX12_sheet 65 = .ok (.bipush 60, 2)) ∧ (decode cX12_sheet 67 = .ok (.iload_n 1, 1)) ∧ (decode cX12_sheet 68 = .ok (.imul, 1)) ∧ (decode cX12_sheet 69 = .ok (.iload 4, 2)) ∧ (decode cX12_sheet 71 = .ok (.iadd, 1)) ∧ (decode cX12_sheet 72 = .ok (.iconst 0, 1)) ∧ (decode cX12_sheet 73 = .ok (.iastore, 1)) ∧ (decode cX12_sheet 74 = .ok (.iinc 4 1, 3)) ∧ (decode cX12_sheet 77 = .ok (.goto (-22), 3)) ∧ (decode cX12_sheet 80 = .ok (.iload_n 3, 1)) ∧ (decode cX12_sheet 81 = .ok (.ireturn, 1)) := by decide +kernel
theorem dX12_sheet_55 : decode cX12_sheet 55 = .ok (.iload 4, 2) := dX12_sheet_55_a.1
theorem dX12_sheet_57 : decode cX12_sheet 57 = .ok (.iload_n 3, 1) := dX12_sheet_55_a.2.1
theorem dX12_sheet_58 : decode cX12_sheet 58 = .ok (.if_icmp .ge 22, 3) := dX12_sheet_55_a.2.2.1
theorem dX12_sheet_61 : decode cX12_sheet 61 = .ok (.aload_n 0, 1) := dX12_sheet_55_a.2.2.2.1
theorem dX12_sheet_62 : decode cX12_sheet 62 = .ok (.getfield 16, 3) := dX12_sheet_55_a.2.2.2.2.1
theorem dX12_sheet_65 : decode cX12_sheet 65 = .ok (.bipush 60, 2) := dX12_sheet_55_a.2.2.2.2.2.1
theorem dX12_sheet_67 : decode cX12_sheet 67 = .ok (.iload_n 1, 1) := dX12_sheet_55_a.2.2.2.2.2.2.1
theorem dX12_sheet_68 : decode cX12_sheet 68 = .ok (.imul, 1) := dX12_sheet_55_a.2.2.2.2.2.2.2.1
theorem dX12_sheet_69 : decode cX12_sheet 69 = .ok (.iload 4, 2) := dX12_sheet_55_a.2.2.2.2.2.2.2.2.1
theorem dX12_sheet_71 : decode cX12_sheet 71 = .ok (.iadd, 1) := dX12_sheet_55_a.2.2.2.2.2.2.2.2.2.1
theorem dX12_sheet_72 : decode cX12_sheet 72 = .ok (.iconst 0, 1) := dX12_sheet_55_a.2.2.2.2.2.2.2.2.2.2.1
theorem dX12_sheet_73 : decode cX12_sheet 73 = .ok (.iastore, 1) := dX12_sheet_55_a.2.2.2.2.2.2.2.2.2.2.2.1
theorem dX12_sheet_74 : decode cX12_sheet 74 = .ok (.iinc 4 1, 3) := dX12_sheet_55_a.2.2.2.2.2.2.2.2.2.2.2.2.1
theorem dX12_sheet_77 : decode cX12_sheet 77 = .ok (.goto (-22), 3) := dX12_sheet_55_a.2.2.2.2.2.2.2.2.2.2.2.2.2.1
theorem dX12_sheet_80 : decode cX12_sheet 80 = .ok (.iload_n 3, 1) := dX12_sheet_55_a.2.2.2.2.2.2.2.2.2.2.2.2.2.2.1
theorem dX12_sheet_81 : decode cX12_sheet 81 = .ok (.ireturn, 1) := dX12_sheet_55_a.2.2.2.2.2.2.2.2.2.2.2.2.2.2.2
theorem dX12_lose_0_a : (decode cX12_lose 0 = .ok (.iload_n 1, 1)) ∧ (decode cX12_lose 1 = .ok (.invokestatic 74, 3)) ∧ (decode cX12_lose 4 = .ok (.ifCond .ne 6, 3)) ∧ (decode cX12_lose 7 = .ok (.bipush (-2), 2)) ∧ (decode cX12_lose 9 = .ok (.ireturn, 1)) ∧ (decode cX12_lose 10 = .ok (.aload_n 0, 1)) ∧ (decode cX12_lose 11 = .ok (.getfield 7, 3)) ∧ (decode cX12_lose 14 = .ok (.iload_n 1, 1)) ∧ (decode cX12_lose 15 = .ok (.iaload, 1)) ∧ (decode cX12_lose 16 = .ok (.ifCond .ge 9, 3)) ∧ (decode cX12_lose 19 = .ok (.aload_n 0, 1)) ∧ (decode cX12_lose 20 = .ok (.iconst 1, 1)) ∧ (decode cX12_lose 21 = .ok (.invokevirtual 80, 3)) ∧ (decode cX12_lose 24 = .ok (.ireturn, 1)) ∧ (decode cX12_lose 25 = .ok (.aload_n 0, 1)) ∧ (decode cX12_lose 26 = .ok (.getfield 7, 3)) := by decide +kernel
theorem dX12_lose_0 : decode cX12_lose 0 = .ok (.iload_n 1, 1) := dX12_lose_0_a.1
theorem dX12_lose_1 : decode cX12_lose 1 = .ok (.invokestatic 74, 3) := dX12_lose_0_a.2.1
theorem dX12_lose_4 : decode cX12_lose 4 = .ok (.ifCond .ne 6, 3) := dX12_lose_0_a.2.2.1
theorem dX12_lose_7 : decode cX12_lose 7 = .ok (.bipush (-2), 2) := dX12_lose_0_a.2.2.2.1
theorem dX12_lose_9 : decode cX12_lose 9 = .ok (.ireturn, 1) := dX12_lose_0_a.2.2.2.2.1
theorem dX12_lose_10 : decode cX12_lose 10 = .ok (.aload_n 0, 1) := dX12_lose_0_a.2.2.2.2.2.1
theorem dX12_lose_11 : decode cX12_lose 11 = .ok (.getfield 7, 3) := dX12_lose_0_a.2.2.2.2.2.2.1
theorem dX12_lose_14 : decode cX12_lose 14 = .ok (.iload_n 1, 1) := dX12_lose_0_a.2.2.2.2.2.2.2.1
theorem dX12_lose_15 : decode cX12_lose 15 = .ok (.iaload, 1) := dX12_lose_0_a.2.2.2.2.2.2.2.2.1
theorem dX12_lose_16 : decode cX12_lose 16 = .ok (.ifCond .ge 9, 3) := dX12_lose_0_a.2.2.2.2.2.2.2.2.2.1
theorem dX12_lose_19 : decode cX12_lose 19 = .ok (.aload_n 0, 1) := dX12_lose_0_a.2.2.2.2.2.2.2.2.2.2.1
theorem dX12_lose_20 : decode cX12_lose 20 = .ok (.iconst 1, 1) := dX12_lose_0_a.2.2.2.2.2.2.2.2.2.2.2.1
theorem dX12_lose_21 : decode cX12_lose 21 = .ok (.invokevirtual 80, 3) := dX12_lose_0_a.2.2.2.2.2.2.2.2.2.2.2.2.1
theorem dX12_lose_24 : decode cX12_lose 24 = .ok (.ireturn, 1) := dX12_lose_0_a.2.2.2.2.2.2.2.2.2.2.2.2.2.1
theorem dX12_lose_25 : decode cX12_lose 25 = .ok (.aload_n 0, 1) := dX12_lose_0_a.2.2.2.2.2.2.2.2.2.2.2.2.2.2.1
theorem dX12_lose_26 : decode cX12_lose 26 = .ok (.getfield 7, 3) := dX12_lose_0_a.2.2.2.2.2.2.2.2.2.2.2.2.2.2.2
theorem dX12_lose_29_a : (decode cX12_lose 29 = .ok (.iload_n 1, 1)) ∧ (decode cX12_lose 30 = .ok (.iconst (-1), 1)) ∧ (decode cX12_lose 31 = .ok (.iastore, 1)) ∧ (decode cX12_lose 32 = .ok (.aload_n 0, 1)) ∧ (decode cX12_lose 33 = .ok (.getfield 13, 3)) ∧ (decode cX12_lose 36 = .ok (.iload_n 1, 1)) ∧ (decode cX12_lose 37 = .ok (.iaload, 1)) ∧ (decode cX12_lose 38 = .ok (.ireturn, 1)) := by decide +kernel
theorem dX12_lose_29 : decode cX12_lose 29 = .ok (.iload_n 1, 1) := dX12_lose_29_a.1
theorem dX12_lose_30 : decode cX12_lose 30 = .ok (.iconst (-1), 1) := dX12_lose_29_a.2.1
theorem dX12_lose_31 : decode cX12_lose 31 = .ok (.iastore, 1) := dX12_lose_29_a.2.2.1
theorem dX12_lose_32 : decode cX12_lose 32 = .ok (.aload_n 0, 1) := dX12_lose_29_a.2.2.2.1
theorem dX12_lose_33 : decode cX12_lose 33 = .ok (.getfield 13, 3) := dX12_lose_29_a.2.2.2.2.1
theorem dX12_lose_36 : decode cX12_lose 36 = .ok (.iload_n 1, 1) := dX12_lose_29_a.2.2.2.2.2.1
theorem dX12_lose_37 : decode cX12_lose 37 = .ok (.iaload, 1) := dX12_lose_29_a.2.2.2.2.2.2.1
theorem dX12_lose_38 : decode cX12_lose 38 = .ok (.ireturn, 1) := dX12_lose_29_a.2.2.2.2.2.2.2
theorem dX12_lacks_0_a : (decode cX12_lacks 0 = .ok (.aload_n 0, 1)) ∧ (decode cX12_lacks 1 = .ok (.getfield 7, 3)) ∧ (decode cX12_lacks 4 = .ok (.iload_n 1, 1)) ∧ (decode cX12_lacks 5 = .ok (.iaload, 1)) ∧ (decode cX12_lacks 6 = .ok (.ifCond .ge 9, 3)) ∧ (decode cX12_lacks 9 = .ok (.aload_n 0, 1)) ∧ (decode cX12_lacks 10 = .ok (.iconst 1, 1)) ∧ (decode cX12_lacks 11 = .ok (.invokevirtual 80, 3)) ∧ (decode cX12_lacks 14 = .ok (.ireturn, 1)) ∧ (decode cX12_lacks 15 = .ok (.aload_n 0, 1)) ∧ (decode cX12_lacks 16 = .ok (.getfield 7, 3)) ∧ (decode cX12_lacks 19 = .ok (.iload_n 1, 1)) ∧ (decode cX12_lacks 20 = .ok (.iaload, 1)) ∧ (decode cX12_lacks 21 = .ok (.iload_n 2, 1)) ∧ (decode cX12_lacks 22 = .ok (.if_icmp .eq 9, 3)) ∧ (decode cX12_lacks 25 = .ok (.aload_n 0, 1)) := by decide +kernel
theorem dX12_lacks_0 : decode cX12_lacks 0 = .ok (.aload_n 0, 1) := dX12_lacks_0_a.1
theorem dX12_lacks_1 : decode cX12_lacks 1 = .ok (.getfield 7, 3) := dX12_lacks_0_a.2.1
theorem dX12_lacks_4 : decode cX12_lacks 4 = .ok (.iload_n 1, 1) := dX12_lacks_0_a.2.2.1
theorem dX12_lacks_5 : decode cX12_lacks 5 = .ok (.iaload, 1) := dX12_lacks_0_a.2.2.2.1
theorem dX12_lacks_6 : decode cX12_lacks 6 = .ok (.ifCond .ge 9, 3) := dX12_lacks_0_a.2.2.2.2.1
theorem dX12_lacks_9 : decode cX12_lacks 9 = .ok (.aload_n 0, 1) := dX12_lacks_0_a.2.2.2.2.2.1
theorem dX12_lacks_10 : decode cX12_lacks 10 = .ok (.iconst 1, 1) := dX12_lacks_0_a.2.2.2.2.2.2.1
theorem dX12_lacks_11 : decode cX12_lacks 11 = .ok (.invokevirtual 80, 3) := dX12_lacks_0_a.2.2.2.2.2.2.2.1
theorem dX12_lacks_14 : decode cX12_lacks 14 = .ok (.ireturn, 1) := dX12_lacks_0_a.2.2.2.2.2.2.2.2.1
theorem dX12_lacks_15 : decode cX12_lacks 15 = .ok (.aload_n 0, 1) := dX12_lacks_0_a.2.2.2.2.2.2.2.2.2.1
theorem dX12_lacks_16 : decode cX12_lacks 16 = .ok (.getfield 7, 3) := dX12_lacks_0_a.2.2.2.2.2.2.2.2.2.2.1
theorem dX12_lacks_19 : decode cX12_lacks 19 = .ok (.iload_n 1, 1) := dX12_lacks_0_a.2.2.2.2.2.2.2.2.2.2.2.1
theorem dX12_lacks_20 : decode cX12_lacks 20 = .ok (.iaload, 1) := dX12_lacks_0_a.2.2.2.2.2.2.2.2.2.2.2.2.1
theorem dX12_lacks_21 : decode cX12_lacks 21 = .ok (.iload_n 2, 1) := dX12_lacks_0_a.2.2.2.2.2.2.2.2.2.2.2.2.2.1
theorem dX12_lacks_22 : decode cX12_lacks 22 = .ok (.if_icmp .eq 9, 3) := dX12_lacks_0_a.2.2.2.2.2.2.2.2.2.2.2.2.2.2.1
theorem dX12_lacks_25 : decode cX12_lacks 25 = .ok (.aload_n 0, 1) := dX12_lacks_0_a.2.2.2.2.2.2.2.2.2.2.2.2.2.2.2
theorem dX12_lacks_26_a : (decode cX12_lacks 26 = .ok (.iconst 3, 1)) ∧ (decode cX12_lacks 27 = .ok (.invokevirtual 80, 3)) ∧ (decode cX12_lacks 30 = .ok (.ireturn, 1)) ∧ (decode cX12_lacks 31 = .ok (.iload_n 3, 1)) ∧ (decode cX12_lacks 32 = .ok (.i2l, 1)) ∧ (decode cX12_lacks 33 = .ok (.lconst 0, 1)) ∧ (decode cX12_lacks 34 = .ok (.aload_n 0, 1)) ∧ (decode cX12_lacks 35 = .ok (.getfield 13, 3)) ∧ (decode cX12_lacks 38 = .ok (.iload_n 1, 1)) ∧ (decode cX12_lacks 39 = .ok (.iaload, 1)) ∧ (decode cX12_lacks 40 = .ok (.iconst 1, 1)) ∧ (decode cX12_lacks 41 = .ok (.isub, 1)) ∧ (decode cX12_lacks 42 = .ok (.i2l, 1)) ∧ (decode cX12_lacks 43 = .ok (.invokestatic 65, 3)) ∧ (decode cX12_lacks 46 = .ok (.ifCond .eq 7, 3)) ∧ (decode cX12_lacks 49 = .ok (.iconst 0, 1)) := by decide +kernel
theorem dX12_lacks_26 : decode cX12_lacks 26 = .ok (.iconst 3, 1) := dX12_lacks_26_a.1
theorem dX12_lacks_27 : decode cX12_lacks 27 = .ok (.invokevirtual 80, 3) := dX12_lacks_26_a.2.1
theorem dX12_lacks_30 : decode cX12_lacks 30 = .ok (.ireturn, 1) := dX12_lacks_26_a.2.2.1
theorem dX12_lacks_31 : decode cX12_lacks 31 = .ok (.iload_n 3, 1) := dX12_lacks_26_a.2.2.2.1
theorem dX12_lacks_32 : decode cX12_lacks 32 = .ok (.i2l, 1) := dX12_lacks_26_a.2.2.2.2.1
theorem dX12_lacks_33 : decode cX12_lacks 33 = .ok (.lconst 0, 1) := dX12_lacks_26_a.2.2.2.2.2.1
theorem dX12_lacks_34 : decode cX12_lacks 34 = .ok (.aload_n 0, 1) := dX12_lacks_26_a.2.2.2.2.2.2.1
theorem dX12_lacks_35 : decode cX12_lacks 35 = .ok (.getfield 13, 3) := dX12_lacks_26_a.2.2.2.2.2.2.2.1
theorem dX12_lacks_38 : decode cX12_lacks 38 = .ok (.iload_n 1, 1) := dX12_lacks_26_a.2.2.2.2.2.2.2.2.1
theorem dX12_lacks_39 : decode cX12_lacks 39 = .ok (.iaload, 1) := dX12_lacks_26_a.2.2.2.2.2.2.2.2.2.1
theorem dX12_lacks_40 : decode cX12_lacks 40 = .ok (.iconst 1, 1) := dX12_lacks_26_a.2.2.2.2.2.2.2.2.2.2.1
theorem dX12_lacks_41 : decode cX12_lacks 41 = .ok (.isub, 1) := dX12_lacks_26_a.2.2.2.2.2.2.2.2.2.2.2.1
theorem dX12_lacks_42 : decode cX12_lacks 42 = .ok (.i2l, 1) := dX12_lacks_26_a.2.2.2.2.2.2.2.2.2.2.2.2.1
theorem dX12_lacks_43 : decode cX12_lacks 43 = .ok (.invokestatic 65, 3) := dX12_lacks_26_a.2.2.2.2.2.2.2.2.2.2.2.2.2.1
theorem dX12_lacks_46 : decode cX12_lacks 46 = .ok (.ifCond .eq 7, 3) := dX12_lacks_26_a.2.2.2.2.2.2.2.2.2.2.2.2.2.2.1
theorem dX12_lacks_49 : decode cX12_lacks 49 = .ok (.iconst 0, 1) := dX12_lacks_26_a.2.2.2.2.2.2.2.2.2.2.2.2.2.2.2
theorem dX12_lacks_50_a : (decode cX12_lacks 50 = .ok (.goto 8, 3)) ∧ (decode cX12_lacks 53 = .ok (.aload_n 0, 1)) ∧ (decode cX12_lacks 54 = .ok (.iconst 2, 1)) ∧ (decode cX12_lacks 55 = .ok (.invokevirtual 80, 3)) ∧ (decode cX12_lacks 58 = .ok (.ireturn, 1)) := by decide +kernel
theorem dX12_lacks_50 : decode cX12_lacks 50 = .ok (.goto 8, 3) := dX12_lacks_50_a.1
theorem dX12_lacks_53 : decode cX12_lacks 53 = .ok (.aload_n 0, 1) := dX12_lacks_50_a.2.1
theorem dX12_lacks_54 : decode cX12_lacks 54 = .ok (.iconst 2, 1) := dX12_lacks_50_a.2.2.1
theorem dX12_lacks_55 : decode cX12_lacks 55 = .ok (.invokevirtual 80, 3) := dX12_lacks_50_a.2.2.2.1
theorem dX12_lacks_58 : decode cX12_lacks 58 = .ok (.ireturn, 1) := dX12_lacks_50_a.2.2.2.2
theorem dX12_cut_0_a : (decode cX12_cut 0 = .ok (.iload_n 0, 1)) ∧ (decode cX12_cut 1 = .ok (.ifCond .ne 8, 3)) ∧ (decode cX12_cut 4 = .ok (.iload_n 1, 1)) ∧ (decode cX12_cut 5 = .ok (.i2b, 1)) ∧ (decode cX12_cut 6 = .ok (.goto 14, 3)) ∧ (decode cX12_cut 9 = .ok (.iload_n 0, 1)) ∧ (decode cX12_cut 10 = .ok (.iconst 1, 1)) ∧ (decode cX12_cut 11 = .ok (.if_icmp .ne 8, 3)) ∧ (decode cX12_cut 14 = .ok (.iload_n 1, 1)) ∧ (decode cX12_cut 15 = .ok (.i2s, 1)) ∧ (decode cX12_cut 16 = .ok (.goto 4, 3)) ∧ (decode cX12_cut 19 = .ok (.iload_n 1, 1)) ∧ (decode cX12_cut 20 = .ok (.ireturn, 1)) := by decide +kernel
theorem dX12_cut_0 : decode cX12_cut 0 = .ok (.iload_n 0, 1) := dX12_cut_0_a.1
theorem dX12_cut_1 : decode cX12_cut 1 = .ok (.ifCond .ne 8, 3) := dX12_cut_0_a.2.1
theorem dX12_cut_4 : decode cX12_cut 4 = .ok (.iload_n 1, 1) := dX12_cut_0_a.2.2.1
theorem dX12_cut_5 : decode cX12_cut 5 = .ok (.i2b, 1) := dX12_cut_0_a.2.2.2.1
theorem dX12_cut_6 : decode cX12_cut 6 = .ok (.goto 14, 3) := dX12_cut_0_a.2.2.2.2.1
theorem dX12_cut_9 : decode cX12_cut 9 = .ok (.iload_n 0, 1) := dX12_cut_0_a.2.2.2.2.2.1
theorem dX12_cut_10 : decode cX12_cut 10 = .ok (.iconst 1, 1) := dX12_cut_0_a.2.2.2.2.2.2.1
theorem dX12_cut_11 : decode cX12_cut 11 = .ok (.if_icmp .ne 8, 3) := dX12_cut_0_a.2.2.2.2.2.2.2.1
theorem dX12_cut_14 : decode cX12_cut 14 = .ok (.iload_n 1, 1) := dX12_cut_0_a.2.2.2.2.2.2.2.2.1
theorem dX12_cut_15 : decode cX12_cut 15 = .ok (.i2s, 1) := dX12_cut_0_a.2.2.2.2.2.2.2.2.2.1
theorem dX12_cut_16 : decode cX12_cut 16 = .ok (.goto 4, 3) := dX12_cut_0_a.2.2.2.2.2.2.2.2.2.2.1
theorem dX12_cut_19 : decode cX12_cut 19 = .ok (.iload_n 1, 1) := dX12_cut_0_a.2.2.2.2.2.2.2.2.2.2.2.1
theorem dX12_cut_20 : decode cX12_cut 20 = .ok (.ireturn, 1) := dX12_cut_0_a.2.2.2.2.2.2.2.2.2.2.2.2
theorem dX12_lay_0_a : (decode cX12_lay 0 = .ok (.iload_n 1, 1)) ∧ (decode cX12_lay 1 = .ok (.invokestatic 74, 3)) ∧ (decode cX12_lay 4 = .ok (.ifCond .eq 15, 3)) ∧ (decode cX12_lay 7 = .ok (.iload_n 2, 1)) ∧ (decode cX12_lay 8 = .ok (.i2l, 1)) ∧ (decode cX12_lay 9 = .ok (.lconst 0, 1)) ∧ (decode cX12_lay 10 = .ok (.ldc2_w 78, 3)) ∧ (decode cX12_lay 13 = .ok (.invokestatic 65, 3)) ∧ (decode cX12_lay 16 = .ok (.ifCond .ne 6, 3)) ∧ (decode cX12_lay 19 = .ok (.bipush (-2), 2)) ∧ (decode cX12_lay 21 = .ok (.ireturn, 1)) ∧ (decode cX12_lay 22 = .ok (.aload_n 0, 1)) ∧ (decode cX12_lay 23 = .ok (.iload_n 1, 1)) ∧ (decode cX12_lay 24 = .ok (.iload_n 2, 1)) ∧ (decode cX12_lay 25 = .ok (.iload_n 3, 1)) ∧ (decode cX12_lay 26 = .ok (.invokevirtual 84, 3)) := by decide +kernel
theorem dX12_lay_0 : decode cX12_lay 0 = .ok (.iload_n 1, 1) := dX12_lay_0_a.1
theorem dX12_lay_1 : decode cX12_lay 1 = .ok (.invokestatic 74, 3) := dX12_lay_0_a.2.1
theorem dX12_lay_4 : decode cX12_lay 4 = .ok (.ifCond .eq 15, 3) := dX12_lay_0_a.2.2.1
theorem dX12_lay_7 : decode cX12_lay 7 = .ok (.iload_n 2, 1) := dX12_lay_0_a.2.2.2.1
theorem dX12_lay_8 : decode cX12_lay 8 = .ok (.i2l, 1) := dX12_lay_0_a.2.2.2.2.1
theorem dX12_lay_9 : decode cX12_lay 9 = .ok (.lconst 0, 1) := dX12_lay_0_a.2.2.2.2.2.1
theorem dX12_lay_10 : decode cX12_lay 10 = .ok (.ldc2_w 78, 3) := dX12_lay_0_a.2.2.2.2.2.2.1
theorem dX12_lay_13 : decode cX12_lay 13 = .ok (.invokestatic 65, 3) := dX12_lay_0_a.2.2.2.2.2.2.2.1
theorem dX12_lay_16 : decode cX12_lay 16 = .ok (.ifCond .ne 6, 3) := dX12_lay_0_a.2.2.2.2.2.2.2.2.1
theorem dX12_lay_19 : decode cX12_lay 19 = .ok (.bipush (-2), 2) := dX12_lay_0_a.2.2.2.2.2.2.2.2.2.1
theorem dX12_lay_21 : decode cX12_lay 21 = .ok (.ireturn, 1) := dX12_lay_0_a.2.2.2.2.2.2.2.2.2.2.1
theorem dX12_lay_22 : decode cX12_lay 22 = .ok (.aload_n 0, 1) := dX12_lay_0_a.2.2.2.2.2.2.2.2.2.2.2.1
theorem dX12_lay_23 : decode cX12_lay 23 = .ok (.iload_n 1, 1) := dX12_lay_0_a.2.2.2.2.2.2.2.2.2.2.2.2.1
theorem dX12_lay_24 : decode cX12_lay 24 = .ok (.iload_n 2, 1) := dX12_lay_0_a.2.2.2.2.2.2.2.2.2.2.2.2.2.1
theorem dX12_lay_25 : decode cX12_lay 25 = .ok (.iload_n 3, 1) := dX12_lay_0_a.2.2.2.2.2.2.2.2.2.2.2.2.2.2.1
theorem dX12_lay_26 : decode cX12_lay 26 = .ok (.invokevirtual 84, 3) := dX12_lay_0_a.2.2.2.2.2.2.2.2.2.2.2.2.2.2.2
theorem dX12_lay_29_a : (decode cX12_lay 29 = .ok (.istore 5, 2)) ∧ (decode cX12_lay 31 = .ok (.iload 5, 2)) ∧ (decode cX12_lay 33 = .ok (.ifCond .eq 6, 3)) ∧ (decode cX12_lay 36 = .ok (.iload 5, 2)) ∧ (decode cX12_lay 38 = .ok (.ireturn, 1)) ∧ (decode cX12_lay 39 = .ok (.aload_n 0, 1)) ∧ (decode cX12_lay 40 = .ok (.getfield 16, 3)) ∧ (decode cX12_lay 43 = .ok (.bipush 60, 2)) ∧ (decode cX12_lay 45 = .ok (.iload_n 1, 1)) ∧ (decode cX12_lay 46 = .ok (.imul, 1)) ∧ (decode cX12_lay 47 = .ok (.iload_n 3, 1)) ∧ (decode cX12_lay 48 = .ok (.iadd, 1)) ∧ (decode cX12_lay 49 = .ok (.iload_n 2, 1)) ∧ (decode cX12_lay 50 = .ok (.iload 4, 2)) ∧ (decode cX12_lay 52 = .ok (.invokestatic 88, 3)) ∧ (decode cX12_lay 55 = .ok (.iastore, 1)) := by decide +kernel
theorem dX12_lay_29 : decode cX12_lay 29 = .ok (.istore 5, 2) := dX12_lay_29_a.1
theorem dX12_lay_31 : decode cX12_lay 31 = .ok (.iload 5, 2) := dX12_lay_29_a.2.1
theorem dX12_lay_33 : decode cX12_lay 33 = .ok (.ifCond .eq 6, 3) := dX12_lay_29_a.2.2.1
theorem dX12_lay_36 : decode cX12_lay 36 = .ok (.iload 5, 2) := dX12_lay_29_a.2.2.2.1
theorem dX12_lay_38 : decode cX12_lay 38 = .ok (.ireturn, 1) := dX12_lay_29_a.2.2.2.2.1
theorem dX12_lay_39 : decode cX12_lay 39 = .ok (.aload_n 0, 1) := dX12_lay_29_a.2.2.2.2.2.1
theorem dX12_lay_40 : decode cX12_lay 40 = .ok (.getfield 16, 3) := dX12_lay_29_a.2.2.2.2.2.2.1
theorem dX12_lay_43 : decode cX12_lay 43 = .ok (.bipush 60, 2) := dX12_lay_29_a.2.2.2.2.2.2.2.1
theorem dX12_lay_45 : decode cX12_lay 45 = .ok (.iload_n 1, 1) := dX12_lay_29_a.2.2.2.2.2.2.2.2.1
theorem dX12_lay_46 : decode cX12_lay 46 = .ok (.imul, 1) := dX12_lay_29_a.2.2.2.2.2.2.2.2.2.1
theorem dX12_lay_47 : decode cX12_lay 47 = .ok (.iload_n 3, 1) := dX12_lay_29_a.2.2.2.2.2.2.2.2.2.2.1
theorem dX12_lay_48 : decode cX12_lay 48 = .ok (.iadd, 1) := dX12_lay_29_a.2.2.2.2.2.2.2.2.2.2.2.1
theorem dX12_lay_49 : decode cX12_lay 49 = .ok (.iload_n 2, 1) := dX12_lay_29_a.2.2.2.2.2.2.2.2.2.2.2.2.1
theorem dX12_lay_50 : decode cX12_lay 50 = .ok (.iload 4, 2) := dX12_lay_29_a.2.2.2.2.2.2.2.2.2.2.2.2.2.1
theorem dX12_lay_52 : decode cX12_lay 52 = .ok (.invokestatic 88, 3) := dX12_lay_29_a.2.2.2.2.2.2.2.2.2.2.2.2.2.2.1
theorem dX12_lay_55 : decode cX12_lay 55 = .ok (.iastore, 1) := dX12_lay_29_a.2.2.2.2.2.2.2.2.2.2.2.2.2.2.2
theorem dX12_lay_56_a : (decode cX12_lay 56 = .ok (.iconst 1, 1)) ∧ (decode cX12_lay 57 = .ok (.ireturn, 1)) := by decide +kernel
theorem dX12_lay_56 : decode cX12_lay 56 = .ok (.iconst 1, 1) := dX12_lay_56_a.1
theorem dX12_lay_57 : decode cX12_lay 57 = .ok (.ireturn, 1) := dX12_lay_56_a.2
theorem dX12_get_0_a : (decode cX12_get 0 = .ok (.iload_n 1, 1)) ∧ (decode cX12_get 1 = .ok (.invokestatic 74, 3)) ∧ (decode cX12_get 4 = .ok (.ifCond .eq 25, 3)) ∧ (decode cX12_get 7 = .ok (.iload_n 2, 1)) ∧ (decode cX12_get 8 = .ok (.i2l, 1)) ∧ (decode cX12_get 9 = .ok (.lconst 0, 1)) ∧ (decode cX12_get 10 = .ok (.ldc2_w 78, 3)) ∧ (decode cX12_get 13 = .ok (.invokestatic 65, 3)) ∧ (decode cX12_get 16 = .ok (.ifCond .eq 13, 3)) ∧ (decode cX12_get 19 = .ok (.aload_n 0, 1)) ∧ (decode cX12_get 20 = .ok (.iload_n 1, 1)) ∧ (decode cX12_get 21 = .ok (.iload_n 2, 1)) ∧ (decode cX12_get 22 = .ok (.iload_n 3, 1)) ∧ (decode cX12_get 23 = .ok (.invokevirtual 84, 3)) ∧ (decode cX12_get 26 = .ok (.ifCond .eq 6, 3)) ∧ (decode cX12_get 29 = .ok (.ldc 92, 2)) := by decide +kernel
theorem dX12_get_0 : decode cX12_get 0 = .ok (.iload_n 1, 1) := dX12_get_0_a.1
theorem dX12_get_1 : decode cX12_get 1 = .ok (.invokestatic 74, 3) := dX12_get_0_a.2.1
theorem dX12_get_4 : decode cX12_get 4 = .ok (.ifCond .eq 25, 3) := dX12_get_0_a.2.2.1
theorem dX12_get_7 : decode cX12_get 7 = .ok (.iload_n 2, 1) := dX12_get_0_a.2.2.2.1
theorem dX12_get_8 : decode cX12_get 8 = .ok (.i2l, 1) := dX12_get_0_a.2.2.2.2.1
theorem dX12_get_9 : decode cX12_get 9 = .ok (.lconst 0, 1) := dX12_get_0_a.2.2.2.2.2.1
theorem dX12_get_10 : decode cX12_get 10 = .ok (.ldc2_w 78, 3) := dX12_get_0_a.2.2.2.2.2.2.1
theorem dX12_get_13 : decode cX12_get 13 = .ok (.invokestatic 65, 3) := dX12_get_0_a.2.2.2.2.2.2.2.1
theorem dX12_get_16 : decode cX12_get 16 = .ok (.ifCond .eq 13, 3) := dX12_get_0_a.2.2.2.2.2.2.2.2.1
theorem dX12_get_19 : decode cX12_get 19 = .ok (.aload_n 0, 1) := dX12_get_0_a.2.2.2.2.2.2.2.2.2.1
theorem dX12_get_20 : decode cX12_get 20 = .ok (.iload_n 1, 1) := dX12_get_0_a.2.2.2.2.2.2.2.2.2.2.1
theorem dX12_get_21 : decode cX12_get 21 = .ok (.iload_n 2, 1) := dX12_get_0_a.2.2.2.2.2.2.2.2.2.2.2.1
theorem dX12_get_22 : decode cX12_get 22 = .ok (.iload_n 3, 1) := dX12_get_0_a.2.2.2.2.2.2.2.2.2.2.2.2.1
theorem dX12_get_23 : decode cX12_get 23 = .ok (.invokevirtual 84, 3) := dX12_get_0_a.2.2.2.2.2.2.2.2.2.2.2.2.2.1
theorem dX12_get_26 : decode cX12_get 26 = .ok (.ifCond .eq 6, 3) := dX12_get_0_a.2.2.2.2.2.2.2.2.2.2.2.2.2.2.1
theorem dX12_get_29 : decode cX12_get 29 = .ok (.ldc 92, 2) := dX12_get_0_a.2.2.2.2.2.2.2.2.2.2.2.2.2.2.2
theorem dX12_get_31_a : (decode cX12_get 31 = .ok (.ireturn, 1)) ∧ (decode cX12_get 32 = .ok (.aload_n 0, 1)) ∧ (decode cX12_get 33 = .ok (.getfield 16, 3)) ∧ (decode cX12_get 36 = .ok (.bipush 60, 2)) ∧ (decode cX12_get 38 = .ok (.iload_n 1, 1)) ∧ (decode cX12_get 39 = .ok (.imul, 1)) ∧ (decode cX12_get 40 = .ok (.iload_n 3, 1)) ∧ (decode cX12_get 41 = .ok (.iadd, 1)) ∧ (decode cX12_get 42 = .ok (.iaload, 1)) ∧ (decode cX12_get 43 = .ok (.ireturn, 1)) := by decide +kernel
theorem dX12_get_31 : decode cX12_get 31 = .ok (.ireturn, 1) := dX12_get_31_a.1
theorem dX12_get_32 : decode cX12_get 32 = .ok (.aload_n 0, 1) := dX12_get_31_a.2.1
theorem dX12_get_33 : decode cX12_get 33 = .ok (.getfield 16, 3) := dX12_get_31_a.2.2.1
theorem dX12_get_36 : decode cX12_get 36 = .ok (.bipush 60, 2) := dX12_get_31_a.2.2.2.1
theorem dX12_get_38 : decode cX12_get 38 = .ok (.iload_n 1, 1) := dX12_get_31_a.2.2.2.2.1
theorem dX12_get_39 : decode cX12_get 39 = .ok (.imul, 1) := dX12_get_31_a.2.2.2.2.2.1
theorem dX12_get_40 : decode cX12_get 40 = .ok (.iload_n 3, 1) := dX12_get_31_a.2.2.2.2.2.2.1
theorem dX12_get_41 : decode cX12_get 41 = .ok (.iadd, 1) := dX12_get_31_a.2.2.2.2.2.2.2.1
theorem dX12_get_42 : decode cX12_get 42 = .ok (.iaload, 1) := dX12_get_31_a.2.2.2.2.2.2.2.2.1
theorem dX12_get_43 : decode cX12_get 43 = .ok (.ireturn, 1) := dX12_get_31_a.2.2.2.2.2.2.2.2.2
theorem dX12_copy_0_a : (decode cX12_copy 0 = .ok (.iload_n 1, 1)) ∧ (decode cX12_copy 1 = .ok (.invokestatic 74, 3)) ∧ (decode cX12_copy 4 = .ok (.ifCond .eq 10, 3)) ∧ (decode cX12_copy 7 = .ok (.iload_n 3, 1)) ∧ (decode cX12_copy 8 = .ok (.invokestatic 74, 3)) ∧ (decode cX12_copy 11 = .ok (.ifCond .ne 6, 3)) ∧ (decode cX12_copy 14 = .ok (.bipush (-2), 2)) ∧ (decode cX12_copy 16 = .ok (.ireturn, 1)) ∧ (decode cX12_copy 17 = .ok (.aload_n 0, 1)) ∧ (decode cX12_copy 18 = .ok (.getfield 7, 3)) ∧ (decode cX12_copy 21 = .ok (.iload_n 1, 1)) ∧ (decode cX12_copy 22 = .ok (.iaload, 1)) ∧ (decode cX12_copy 23 = .ok (.ifCond .lt 12, 3)) ∧ (decode cX12_copy 26 = .ok (.aload_n 0, 1)) ∧ (decode cX12_copy 27 = .ok (.getfield 7, 3)) ∧ (decode cX12_copy 30 = .ok (.iload_n 3, 1)) := by decide +kernel
theorem dX12_copy_0 : decode cX12_copy 0 = .ok (.iload_n 1, 1) := dX12_copy_0_a.1
theorem dX12_copy_1 : decode cX12_copy 1 = .ok (.invokestatic 74, 3) := dX12_copy_0_a.2.1
theorem dX12_copy_4 : decode cX12_copy 4 = .ok (.ifCond .eq 10, 3) := dX12_copy_0_a.2.2.1
theorem dX12_copy_7 : decode cX12_copy 7 = .ok (.iload_n 3, 1) := dX12_copy_0_a.2.2.2.1
theorem dX12_copy_8 : decode cX12_copy 8 = .ok (.invokestatic 74, 3) := dX12_copy_0_a.2.2.2.2.1
theorem dX12_copy_11 : decode cX12_copy 11 = .ok (.ifCond .ne 6, 3) := dX12_copy_0_a.2.2.2.2.2.1
theorem dX12_copy_14 : decode cX12_copy 14 = .ok (.bipush (-2), 2) := dX12_copy_0_a.2.2.2.2.2.2.1
theorem dX12_copy_16 : decode cX12_copy 16 = .ok (.ireturn, 1) := dX12_copy_0_a.2.2.2.2.2.2.2.1
theorem dX12_copy_17 : decode cX12_copy 17 = .ok (.aload_n 0, 1) := dX12_copy_0_a.2.2.2.2.2.2.2.2.1
theorem dX12_copy_18 : decode cX12_copy 18 = .ok (.getfield 7, 3) := dX12_copy_0_a.2.2.2.2.2.2.2.2.2.1
theorem dX12_copy_21 : decode cX12_copy 21 = .ok (.iload_n 1, 1) := dX12_copy_0_a.2.2.2.2.2.2.2.2.2.2.1
theorem dX12_copy_22 : decode cX12_copy 22 = .ok (.iaload, 1) := dX12_copy_0_a.2.2.2.2.2.2.2.2.2.2.2.1
theorem dX12_copy_23 : decode cX12_copy 23 = .ok (.ifCond .lt 12, 3) := dX12_copy_0_a.2.2.2.2.2.2.2.2.2.2.2.2.1
theorem dX12_copy_26 : decode cX12_copy 26 = .ok (.aload_n 0, 1) := dX12_copy_0_a.2.2.2.2.2.2.2.2.2.2.2.2.2.1
theorem dX12_copy_27 : decode cX12_copy 27 = .ok (.getfield 7, 3) := dX12_copy_0_a.2.2.2.2.2.2.2.2.2.2.2.2.2.2.1
theorem dX12_copy_30 : decode cX12_copy 30 = .ok (.iload_n 3, 1) := dX12_copy_0_a.2.2.2.2.2.2.2.2.2.2.2.2.2.2.2
theorem dX12_copy_31_a : (decode cX12_copy 31 = .ok (.iaload, 1)) ∧ (decode cX12_copy 32 = .ok (.ifCond .ge 9, 3)) ∧ (decode cX12_copy 35 = .ok (.aload_n 0, 1)) ∧ (decode cX12_copy 36 = .ok (.iconst 1, 1)) ∧ (decode cX12_copy 37 = .ok (.invokevirtual 80, 3)) ∧ (decode cX12_copy 40 = .ok (.ireturn, 1)) ∧ (decode cX12_copy 41 = .ok (.aload_n 0, 1)) ∧ (decode cX12_copy 42 = .ok (.getfield 7, 3)) ∧ (decode cX12_copy 45 = .ok (.iload_n 1, 1)) ∧ (decode cX12_copy 46 = .ok (.iaload, 1)) ∧ (decode cX12_copy 47 = .ok (.aload_n 0, 1)) ∧ (decode cX12_copy 48 = .ok (.getfield 7, 3)) ∧ (decode cX12_copy 51 = .ok (.iload_n 3, 1)) ∧ (decode cX12_copy 52 = .ok (.iaload, 1)) ∧ (decode cX12_copy 53 = .ok (.if_icmp .eq 9, 3)) ∧ (decode cX12_copy 56 = .ok (.aload_n 0, 1)) := by decide +kernel
theorem dX12_copy_31 : decode cX12_copy 31 = .ok (.iaload, 1) := dX12_copy_31_a.1
theorem dX12_copy_32 : decode cX12_copy 32 = .ok (.ifCond .ge 9, 3) := dX12_copy_31_a.2.1
theorem dX12_copy_35 : decode cX12_copy 35 = .ok (.aload_n 0, 1) := dX12_copy_31_a.2.2.1
theorem dX12_copy_36 : decode cX12_copy 36 = .ok (.iconst 1, 1) := dX12_copy_31_a.2.2.2.1
theorem dX12_copy_37 : decode cX12_copy 37 = .ok (.invokevirtual 80, 3) := dX12_copy_31_a.2.2.2.2.1
theorem dX12_copy_40 : decode cX12_copy 40 = .ok (.ireturn, 1) := dX12_copy_31_a.2.2.2.2.2.1
theorem dX12_copy_41 : decode cX12_copy 41 = .ok (.aload_n 0, 1) := dX12_copy_31_a.2.2.2.2.2.2.1
theorem dX12_copy_42 : decode cX12_copy 42 = .ok (.getfield 7, 3) := dX12_copy_31_a.2.2.2.2.2.2.2.1
theorem dX12_copy_45 : decode cX12_copy 45 = .ok (.iload_n 1, 1) := dX12_copy_31_a.2.2.2.2.2.2.2.2.1
theorem dX12_copy_46 : decode cX12_copy 46 = .ok (.iaload, 1) := dX12_copy_31_a.2.2.2.2.2.2.2.2.2.1
theorem dX12_copy_47 : decode cX12_copy 47 = .ok (.aload_n 0, 1) := dX12_copy_31_a.2.2.2.2.2.2.2.2.2.2.1
theorem dX12_copy_48 : decode cX12_copy 48 = .ok (.getfield 7, 3) := dX12_copy_31_a.2.2.2.2.2.2.2.2.2.2.2.1
theorem dX12_copy_51 : decode cX12_copy 51 = .ok (.iload_n 3, 1) := dX12_copy_31_a.2.2.2.2.2.2.2.2.2.2.2.2.1
theorem dX12_copy_52 : decode cX12_copy 52 = .ok (.iaload, 1) := dX12_copy_31_a.2.2.2.2.2.2.2.2.2.2.2.2.2.1
theorem dX12_copy_53 : decode cX12_copy 53 = .ok (.if_icmp .eq 9, 3) := dX12_copy_31_a.2.2.2.2.2.2.2.2.2.2.2.2.2.2.1
theorem dX12_copy_56 : decode cX12_copy 56 = .ok (.aload_n 0, 1) := dX12_copy_31_a.2.2.2.2.2.2.2.2.2.2.2.2.2.2.2
theorem dX12_copy_57_a : (decode cX12_copy 57 = .ok (.iconst 4, 1)) ∧ (decode cX12_copy 58 = .ok (.invokevirtual 80, 3)) ∧ (decode cX12_copy 61 = .ok (.ireturn, 1)) ∧ (decode cX12_copy 62 = .ok (.iload_n 2, 1)) ∧ (decode cX12_copy 63 = .ok (.ifCond .lt 48, 3)) ∧ (decode cX12_copy 66 = .ok (.iload 4, 2)) ∧ (decode cX12_copy 68 = .ok (.ifCond .lt 43, 3)) ∧ (decode cX12_copy 71 = .ok (.iload 5, 2)) ∧ (decode cX12_copy 73 = .ok (.ifCond .lt 38, 3)) ∧ (decode cX12_copy 76 = .ok (.iload_n 2, 1)) ∧ (decode cX12_copy 77 = .ok (.i2l, 1)) ∧ (decode cX12_copy 78 = .ok (.iload 5, 2)) ∧ (decode cX12_copy 80 = .ok (.i2l, 1)) ∧ (decode cX12_copy 81 = .ok (.ladd, 1)) ∧ (decode cX12_copy 82 = .ok (.aload_n 0, 1)) ∧ (decode cX12_copy 83 = .ok (.getfield 13, 3)) := by decide +kernel
theorem dX12_copy_57 : decode cX12_copy 57 = .ok (.iconst 4, 1) := dX12_copy_57_a.1
theorem dX12_copy_58 : decode cX12_copy 58 = .ok (.invokevirtual 80, 3) := dX12_copy_57_a.2.1
theorem dX12_copy_61 : decode cX12_copy 61 = .ok (.ireturn, 1) := dX12_copy_57_a.2.2.1
theorem dX12_copy_62 : decode cX12_copy 62 = .ok (.iload_n 2, 1) := dX12_copy_57_a.2.2.2.1
theorem dX12_copy_63 : decode cX12_copy 63 = .ok (.ifCond .lt 48, 3) := dX12_copy_57_a.2.2.2.2.1
theorem dX12_copy_66 : decode cX12_copy 66 = .ok (.iload 4, 2) := dX12_copy_57_a.2.2.2.2.2.1
